/-! WHAT IS MADE: the steps of constructors are sound -/
def okT : FieldType → Bool := fun t => match t with
  | .int => true | .boolean => true | .long => true | .object _ => true | .array _ => true | _ => false
theorem okT_C {ci : Nat} (h : ci < 11) : ∀ j, j < nfC ci → okT (tyC ci j) = true := by
  match ci, h with
  | 0, _ => decide
  | 1, _ => decide
  | 2, _ => decide
  | 3, _ => decide
  | 4, _ => decide
  | 5, _ => decide
  | 6, _ => decide
  | 7, _ => decide
  | 8, _ => decide
  | 9, _ => decide
  | 10, _ => decide
theorem def_T {t : FieldType} (h : okT t = true) : defaultValue t = if fkOf t = 0 then .int 0 else if fkOf t = 1 then .long 0 else .null := by
  cases t <;> first | rfl | simp [okT] at h
theorem rf_fit {t : FieldType} (h : okT t = true) (h2 : fkOf t = 2) (o : Option Nat) : narrow t (va_rf o) = va_rf o ∧ fits t (va_rf o) = true := by
  cases t <;> first | (simp [okT] at h; done) | (simp [fkOf] at h2; done) | (cases o <;> exact ⟨rfl, rfl⟩)
theorem rO_9 (ad : Nat → Nat) : rO ad 9999 = none := rfl
theorem cv_9 (ad : Nat → Nat) : cv ad (.ref 9999) = .null := rfl
theorem wsM_app {ca : Nat → ClassId} {ad : Nat → Nat} {M M' : Mem} {E : va_E} (hn : M'.1.1 = M.1.1 + 1) (he : cEnc ca ad M' M.1.1 = E) (ho : ∀ q, q ≠ M.1.1 → cEnc ca ad M' q = cEnc ca ad M q) : wsM ca ad M ++ [(ad M.1.1, E)] = wsM ca ad M' := by
  refine wsM_ext (by rw [List.length_append, wsM_len, hn]; rfl) fun q hq => ?_
  by_cases e : q = M.1.1
  · subst e
    rw [List.getElem?_append_right (by rw [wsM_len]; omega), wsM_len, Nat.sub_self, he]; rfl
  · rw [List.getElem?_append_left (by rw [wsM_len]; omega), wsM_get (by omega), ho q e]
theorem adr_new {D : va_G} {ca : Nat → ClassId} {ad : Nat → Nat} {M : Mem} {H1 : Heap} {x : Nat} {E : va_E} (had : ∀ k, k < 9000 → ad k = ad 0 + k) (h9 : M.1.1 + 1 ≤ 9000) (hP : va_P D kCl (wsM ca ad M ++ [(x, E)]) H1) (hD : va_D (AA ad) (wsM ca ad M ++ [(x, E)])) (hu : H1.size ≤ ad 0 + M.1.1 + 1) : x = ad M.1.1 := by
  have hg : (wsM ca ad M ++ [(x, E)])[M.1.1]? = some (x, E) := by
    rw [List.getElem?_append_right (by rw [wsM_len]; omega), wsM_len, Nat.sub_self]; rfl
  have hlt : x < H1.size := (hP _ _ hg).lt
  have hge : ad 0 ≤ x := hD.2 _ _ hg
  rw [had M.1.1 (by omega)]
  refine Classical.byContradiction fun q => ?_
  obtain ⟨i, hi, rfl⟩ : ∃ i, i < M.1.1 ∧ x = ad 0 + i := ⟨x - ad 0, by omega, by omega⟩
  have hgi : (wsM ca ad M ++ [(ad 0 + i, E)])[i]? = some (ad i, cEnc ca ad M i) := by
    rw [List.getElem?_append_left (by rw [wsM_len]; exact hi), wsM_get hi]
  have := hD.1 i M.1.1 _ _ hgi hg (had i (by omega))
  omega
section BORN
variable {mt mt' : Mt} {pc : Nat} {y : MethodName} {P : PTT} {idx n mc ms : Nat} {q cap : Nat × Nat}
theorem HC.A {p : Program} {s : State} {m : MethodId} {args : Array Value} {meth : Method} {c : Code} {D : va_G} {ca : Nat → ClassId} {ad : Nat → Nat} {N0 S0 : Nat} (h : HC mt p s m args meth c D ca ad N0 S0) : ∀ x, s.heap.size ≤ x → AA ad x := fun x hx => Nat.le_trans h.ev.2.2.2.2.2.2.2.2 hx
theorem HC.al {p : Program} {s : State} {m : MethodId} {args : Array Value} {meth : Method} {c : Code} {D : va_G} {ca : Nat → ClassId} {ad : Nat → Nat} {N0 S0 : Nat} (h : HC mt p s m args meth c D ca ad N0 S0) (ha : mt.2.2.2.2.2.2.2 = some q) : N0 = q.1 ∧ S0 = q.2 := h.2.2.2.2.2.2.2.2.2.2 q ha
theorem s_new {ci : Nat} (hd : decode mt.1 pc = .ok (.new idx, 3)) (ha : mt.2.2.2.2.2.2.2 = some q) (hcap : cap = (q.1 + mt.2.2.2.2.1.cells, q.2 + mt.2.2.2.2.1.slots)) (hcl : Cond.classLink mt.2.1 idx (RCl ci) ∈ tblG) (hinst : Cond.instantiable (RCl ci) (nfC ci) ∈ tblG) (hini : Cond.initialized (RCl ci) ∈ tblG) : Snd mt pc (x_new ci (pc + 3) cap) := by
  intro R p l e s m args below meth c D ca ad N0 S0 Q hc ro ls st M K hx hk H locs la cells slots hw hS hl h1 h2 h3 h4
  obtain ⟨c1, c2, c3, hci, hK⟩ := hx
  obtain ⟨e1, e2⟩ := hc.al ha
  subst hcap
  simp only at c1 c2
  refine va_new hc.1 hc.2.1 hc.ts (cl_in hci) (tyC ci) (cl_ty hci) hc.own (hc.ts _ hcl) (hc.ts _ hinst) (hc.ts _ hini) hc.K hw.1 (wsM_D hw.2 hc.adr) hS hc.A (cl_at hci) (fs := fsM ad ((M.1.1 + 1, M.1.2.1 + nfC ci, mS M.1.2.2.1 M.1.1 (0, ci), mS M.1.2.2.2 M.1.1 (fun _ => 9999)), mS M.2.1 M.1.1 (fun _ => 0), mS M.2.2 M.1.1 (fun _ => 0)) ci M.1.1) (fun j hj => ?_) (by omega) (by omega) hd (fun x H1 hP1 hD1 hS1 => ?_)
  · rw [vp_V, List.getD_eq_getElem?_getD, fsM_get hj, Option.getD_some, def_T (okT_C hci j hj), fV]
    simp only [mS_s, cv_9]
  · refine W.size fun hu => ?_
    have hxa := adr_new hc.adr c3 hP1 hD1 (by have := hc.sz; omega)
    subst hxa
    have e : wsM ca ad M ++ [(ad M.1.1, .inr (ci, fsM ad ((M.1.1 + 1, M.1.2.1 + nfC ci, mS M.1.2.2.1 M.1.1 (0, ci), mS M.1.2.2.2 M.1.1 (fun _ => 9999)), mS M.2.1 M.1.1 (fun _ => 0), mS M.2.2 M.1.1 (fun _ => 0)) ci M.1.1))] = wsM ca ad ((M.1.1 + 1, M.1.2.1 + nfC ci, mS M.1.2.2.1 M.1.1 (0, ci), mS M.1.2.2.2 M.1.1 (fun _ => 9999)), mS M.2.1 M.1.1 (fun _ => 0), mS M.2.2 M.1.1 (fun _ => 0)) :=
      wsM_app rfl (cEnc_obj mS_s) (fun q hq => cEnc_congr (mS_n hq) (mS_n hq) (mS_n hq) (mS_n hq))
    rw [e] at hP1
    rw [← cv_ref (ad := ad) (show M.1.1 < 9000 by omega)]
    exact hk _ _ _ _ hK H1 locs la (cells + 1) (slots + nfC ci) ⟨hP1, c3⟩ hS1 hl (by show _ = M.1.1 + 1; omega) (by show _ = M.1.2.1 + nfC ci; omega) (by omega) (by omega)
theorem s_na1 (hd : decode mt.1 pc = .ok (.newarray .int, 2)) (ha : mt.2.2.2.2.2.2.2 = some q) (hcap : cap = (q.1 + mt.2.2.2.2.1.cells, q.2 + mt.2.2.2.2.1.slots)) (hw0 : Cond.arrayClass .int ∈ tblG) : Snd mt pc (x_na 1 (pc + 2) cap) := by
  intro R p l e s m args below meth c D ca ad N0 S0 Q hc ro ls st M K hx hk
  unfold x_na at hx; split at hx
  next n st =>
    intro H locs la cells slots hw hS hl h1 h2 h3 h4
    obtain ⟨n0, n1, c1, c2, c3, hK⟩ := hx
    obtain ⟨e1, e2⟩ := hc.al ha
    subst hcap
    simp only at c1 c2
    refine va_newa (atype := .int) (ty := .int) (a0 := (n.toNatClampNeg, .inl (fun _ => 0))) hc.1 hc.2.1 (hc.ts _ hw0) rfl hc.K hw.1 (wsM_D hw.2 hc.adr) hS hc.A (fun cA => rfl) n0 rfl (by show n.toNatClampNeg * 4 ≤ _; omega) (by omega) (by omega) hd (fun x cA H1 hK1 hP1 hD1 hS1 => ?_)
    refine W.size fun hu => ?_
    have hxa := adr_new hc.adr c3 hP1 hD1 (by have := hc.sz; omega)
    subst hxa
    have hcA : cA = ca 1 := by
      have k1 := va_nm_int (hK1.2 3 (cA, .int) rfl).2
      have k2 := va_nm_int (hc.K.2 0 (ca 1, .int) rfl).2
      exact Option.some.inj (k1.symm.trans k2)
    subst hcA
    have e : wsM ca ad M ++ [(ad M.1.1, .inl (ca 1, n.toNatClampNeg, .inl (fun _ => 0)))] = wsM ca ad ((M.1.1 + 1, M.1.2.1 + n.toNatClampNeg, mS M.1.2.2.1 M.1.1 (1, n.toNatClampNeg), mS M.1.2.2.2 M.1.1 (fun _ => 9999)), mS M.2.1 M.1.1 (fun _ => 0), M.2.2) := by
      refine wsM_app rfl ?_ (fun q hq => cEnc_congr (mS_n hq) (mS_n hq) rfl (mS_n hq))
      rw [cEnc_arr (M := ((M.1.1 + 1, M.1.2.1 + n.toNatClampNeg, mS M.1.2.2.1 M.1.1 (1, n.toNatClampNeg), mS M.1.2.2.2 M.1.1 (fun _ => 9999)), mS M.2.1 M.1.1 (fun _ => 0), M.2.2)) (t := 1) (by simp only [mS_s]) (by decide) (by decide)]
      simp only [ln, mS_s]
    rw [e] at hP1
    rw [← cv_ref (ad := ad) (show M.1.1 < 9000 by omega)]
    exact hk _ _ _ _ hK H1 locs la (cells + 1) (slots + n.toNatClampNeg) ⟨hP1, c3⟩ hS1 hl (by show _ = M.1.1 + 1; omega) (by show _ = M.1.2.1 + n.toNatClampNeg; omega) (by omega) (by omega)
  next => exact hx.elim
theorem s_na2 (hd : decode mt.1 pc = .ok (.newarray .boolean, 2)) (ha : mt.2.2.2.2.2.2.2 = some q) (hcap : cap = (q.1 + mt.2.2.2.2.1.cells, q.2 + mt.2.2.2.2.1.slots)) (hw0 : Cond.arrayClass .boolean ∈ tblG) : Snd mt pc (x_na 2 (pc + 2) cap) := by
  intro R p l e s m args below meth c D ca ad N0 S0 Q hc ro ls st M K hx hk
  unfold x_na at hx; split at hx
  next n st =>
    intro H locs la cells slots hw hS hl h1 h2 h3 h4
    obtain ⟨n0, n1, c1, c2, c3, hK⟩ := hx
    obtain ⟨e1, e2⟩ := hc.al ha
    subst hcap
    simp only at c1 c2
    refine va_newa (atype := .boolean) (ty := .boolean) (a0 := (n.toNatClampNeg, .inl (fun _ => 0))) hc.1 hc.2.1 (hc.ts _ hw0) rfl hc.K hw.1 (wsM_D hw.2 hc.adr) hS hc.A (fun cA => rfl) n0 rfl (by show n.toNatClampNeg * 1 ≤ _; omega) (by omega) (by omega) hd (fun x cA H1 hK1 hP1 hD1 hS1 => ?_)
    refine W.size fun hu => ?_
    have hxa := adr_new hc.adr c3 hP1 hD1 (by have := hc.sz; omega)
    subst hxa
    have hcA : cA = ca 2 := by
      have k1 := va_nm_boolean (hK1.2 3 (cA, .boolean) rfl).2
      have k2 := va_nm_boolean (hc.K.2 1 (ca 2, .boolean) rfl).2
      exact Option.some.inj (k1.symm.trans k2)
    subst hcA
    have e : wsM ca ad M ++ [(ad M.1.1, .inl (ca 2, n.toNatClampNeg, .inl (fun _ => 0)))] = wsM ca ad ((M.1.1 + 1, M.1.2.1 + n.toNatClampNeg, mS M.1.2.2.1 M.1.1 (2, n.toNatClampNeg), mS M.1.2.2.2 M.1.1 (fun _ => 9999)), mS M.2.1 M.1.1 (fun _ => 0), M.2.2) := by
      refine wsM_app rfl ?_ (fun q hq => cEnc_congr (mS_n hq) (mS_n hq) rfl (mS_n hq))
      rw [cEnc_arr (M := ((M.1.1 + 1, M.1.2.1 + n.toNatClampNeg, mS M.1.2.2.1 M.1.1 (2, n.toNatClampNeg), mS M.1.2.2.2 M.1.1 (fun _ => 9999)), mS M.2.1 M.1.1 (fun _ => 0), M.2.2)) (t := 2) (by simp only [mS_s]) (by decide) (by decide)]
      simp only [ln, mS_s]
    rw [e] at hP1
    rw [← cv_ref (ad := ad) (show M.1.1 < 9000 by omega)]
    exact hk _ _ _ _ hK H1 locs la (cells + 1) (slots + n.toNatClampNeg) ⟨hP1, c3⟩ hS1 hl (by show _ = M.1.1 + 1; omega) (by show _ = M.1.2.1 + n.toNatClampNeg; omega) (by omega) (by omega)
  next => exact hx.elim
theorem s_na3 (hd : decode mt.1 pc = .ok (.anewarray idx, 3)) (ha : mt.2.2.2.2.2.2.2 = some q) (hcap : cap = (q.1 + mt.2.2.2.2.1.cells, q.2 + mt.2.2.2.2.1.slots)) (hcl : Cond.classLink mt.2.1 idx RX5 ∈ tblG) : Snd mt pc (x_na 3 (pc + 3) cap) := by
  intro R p l e s m args below meth c D ca ad N0 S0 Q hc ro ls st M K hx hk
  unfold x_na at hx; split at hx
  next n st =>
    intro H locs la cells slots hw hS hl h1 h2 h3 h4
    obtain ⟨n0, n1, c1, c2, c3, hK⟩ := hx
    obtain ⟨e1, e2⟩ := hc.al ha
    subst hcap
    simp only at c1 c2
    refine va_newq (C := RX5) hc.1 hc.2.1 hc.own (hc.ts _ hcl) hc.ev.2.2.2.2.2.2.1 hc.K hw.1 (wsM_D hw.2 hc.adr) hS hc.A n0 rfl (by omega) (by omega) (by omega) hd (fun x cA H1 hK1 hP1 hD1 hS1 => ?_)
    refine W.size fun hu => ?_
    have hxa := adr_new hc.adr c3 hP1 hD1 (by have := hc.sz; omega)
    subst hxa
    have hcA : cA = ca 3 := by
      obtain ⟨_, _, -, -, -, k1⟩ := (hK1.2 3 (cA, .object RX5) rfl).2
      obtain ⟨_, _, -, -, -, k2⟩ := (hc.K.2 2 (ca 3, .object RX5) rfl).2
      exact Option.some.inj (k1.symm.trans k2)
    subst hcA
    have e : wsM ca ad M ++ [(ad M.1.1, .inl (ca 3, n.toNatClampNeg, .inr (.inr (.inr (.inr (fun _ => none))))))] = wsM ca ad ((M.1.1 + 1, M.1.2.1 + n.toNatClampNeg, mS M.1.2.2.1 M.1.1 (3, n.toNatClampNeg), mS M.1.2.2.2 M.1.1 (fun _ => 9999)), mS M.2.1 M.1.1 (fun _ => 0), M.2.2) := by
      refine wsM_app rfl ?_ (fun q hq => cEnc_congr (mS_n hq) (mS_n hq) rfl (mS_n hq))
      rw [cEnc_ref (M := ((M.1.1 + 1, M.1.2.1 + n.toNatClampNeg, mS M.1.2.2.1 M.1.1 (3, n.toNatClampNeg), mS M.1.2.2.2 M.1.1 (fun _ => 9999)), mS M.2.1 M.1.1 (fun _ => 0), M.2.2)) (by simp only [mS_s])]
      simp only [ln, mS_s, rO_9]
    rw [e] at hP1
    rw [← cv_ref (ad := ad) (show M.1.1 < 9000 by omega)]
    exact hk _ _ _ _ hK H1 locs la (cells + 1) (slots + n.toNatClampNeg) ⟨hP1, c3⟩ hS1 hl (by show _ = M.1.1 + 1; omega) (by show _ = M.1.2.1 + n.toNatClampNeg; omega) (by omega) (by omega)
  next => exact hx.elim
theorem s_pR {ci j : Nat} (hd : decode mt.1 pc = .ok (.putfield idx, 3)) (hci : ci < 11) (hj : j < nfC ci) (h0 : fkOf (tyC ci j) = 2) (hfin : (TCl ci j).2.2.2 = true) (hdecl : (TCl ci j).1 = mt.2.1) (hini : mt.2.2.2.2.2.1 = true) (hlink : Cond.fieldLink mt.2.1 idx (TCl ci j).1 (TCl ci j).2.1 (TCl ci j).2.2.1 ∈ tblG) : Snd mt pc (x_pR ci j (pc + 3)) := by
  intro R p l e s m args below meth c D ca ad N0 S0 Q hc ro ls st M K hx hk
  unfold x_pR at hx; split at hx
  next x k st =>
    intro H locs la cells slots hw hS hl h1 h2 h3 h4
    rw [List.map_cons, List.map_cons, cv_ref (k := k) (Nat.lt_of_lt_of_le hx.1.1 hw.2)]
    have hft := rf_fit (okT_C hci j hj) h0 (rO ad x)
    refine va_putF hc.1 hc.2.1 hc.ts (cl_in hci) (tyC ci) (cl_ty hci) (cl_nm hci) hc.own hc.K hw.1 (wsM_D hw.2 hc.adr) hS k (wsM_obj hx.1) (cl_at hci) j hj (hc.ts _ hlink) (fun _ h => h) hfin (hc.2.2.2.2.2.2.2.1 hini) hdecl (ty := tyC ci j) (v := cv ad (.ref x)) (cl_ty hci j hj) hft.1 hft.2 (by rw [fsM_len]; exact hj) hd (fun H1 locs1 hP1 hD1 hS1 => ?_)
    have e : (wsM ca ad M).set k (ad k, .inr (ci, (fsM ad M ci k).set j (cv ad (.ref x)))) = wsM ca ad ((M.1.1, M.1.2.1, M.1.2.2.1, mS M.1.2.2.2 k (va_up (M.1.2.2.2 k) j x)), M.2.1, M.2.2) := by
      refine wsM_set rfl ?_ fun q hq => cEnc_congr rfl rfl rfl (mS_n hq)
      rw [cEnc_obj (M := ((M.1.1, M.1.2.1, M.1.2.2.1, mS M.1.2.2.2 k (va_up (M.1.2.2.2 k) j x)), M.2.1, M.2.2)) hx.1.2, fsM_set (j := j) (v := cv ad (.ref x)) (M' := ((M.1.1, M.1.2.1, M.1.2.2.1, mS M.1.2.2.2 k (va_up (M.1.2.2.2 k) j x)), M.2.1, M.2.2))]
      · intro _; simp [fV, h0, mS_s, va_up]
      · intro i hi; exact fV_congr rfl rfl (by simp [mS_s, va_up, hi])
    rw [e] at hP1
    exact hk _ _ _ _ hx.2 H1 locs1 la cells slots ⟨hP1, hw.2⟩ hS1 hl h1 h2 h3 h4
  next => exact hx.elim
def x_o2 (nx : Nat) : X := fun ls st M K _ => match st with
  | [.ref k] => ¬ k = 9999 ∧ K nx ls [] M
  | _ => False
theorem s_o2 (hd : decode mt.1 pc = .ok (.invokespecial idx, 3)) (hlink : Cond.methodLink mt.2.1 idx Lib.objectInit ∈ tblG) (hf : 1 ≤ mt.2.2.2.2.1.frames) (hlo : 12 ≤ mt.2.2.2.2.1.locals) : Snd mt pc (x_o2 (pc + 3)) := by
  intro R p l e s m args below meth c D ca ad N0 S0 Q hc ro ls st M K hx hk
  unfold x_o2 at hx; split at hx
  next k =>
    intro H locs la cells slots hw hS hl h1 h2 h3 h4
    rw [List.map_cons, cv_ref' hx.1]
    obtain ⟨lv, l1, l2⟩ := hl
    exact W.objInit hc.1 hc.2.1 hc.own (hc.ts _ hlink) (hc.ts _ (tg 62 (by decide +kernel) (by decide +kernel))) (hc.ts _ (tg 63 (by decide +kernel) (by decide +kernel))) rfl (by rw [hc.2.2.1]; exact l1.1) rfl hd hf (by show 0 + 12 ≤ _; omega) (hk _ _ _ _ hx.2 H locs la cells slots hw hS ⟨lv, l1, l2⟩ h1 h2 h3 h4)
  next => exact hx.elim
theorem s_aas (hd : decode mt.1 pc = .ok (.aastore, 1)) : Snd mt pc (x_aas (pc + 1)) := by
  intro R p l e s m args below meth c D ca ad N0 S0 Q hc ro ls st M K hx hk
  unfold x_aas at hx; split at hx
  next x i k st =>
    intro H locs la cells slots hw hS hl h1 h2 h3 h4
    obtain ⟨tk, hin, tx, hx9, hK⟩ := hx
    rw [List.map_cons, List.map_cons, List.map_cons, cv_ref (k := k) (Nat.lt_of_lt_of_le tk.1 hw.2), cv_ref' hx9]
    refine va_astq hc.1 hc.2.1 hc.K hw.1 (wsM_D hw.2 hc.adr) hS k 2 x 5 (r := (RX5, TX5, 8)) (wsM_ref tk) rfl (wsM_obj tx) rfl hin hd (fun H1 locs1 hP1 hD1 hS1 => ?_)
    have e : (wsM ca ad M).set k (ad k, .inl (ca 3, ln M.1 k, .inr (.inr (.inr (.inr (va_up (fun j => rO ad (M.1.2.2.2 k j)) i.toNatClampNeg (some (ad x)))))))) = wsM ca ad ((M.1.1, M.1.2.1, M.1.2.2.1, mS M.1.2.2.2 k (va_up (M.1.2.2.2 k) i.toNatClampNeg x)), M.2.1, M.2.2) := by
      refine wsM_set rfl ?_ fun q hq => cEnc_congr rfl rfl rfl (mS_n hq)
      rw [cEnc_ref (M := ((M.1.1, M.1.2.1, M.1.2.2.1, mS M.1.2.2.2 k (va_up (M.1.2.2.2 k) i.toNatClampNeg x)), M.2.1, M.2.2)) tk.2]
      have ef : (fun j => rO ad (mS M.1.2.2.2 k (va_up (M.1.2.2.2 k) i.toNatClampNeg x) k j)) = va_up (fun j => rO ad (M.1.2.2.2 k j)) i.toNatClampNeg (some (ad x)) := by
        funext j
        rw [mS_s]
        unfold va_up
        split
        · unfold rO; rw [if_neg hx9]
        · rfl
      simp only [ef]; rfl
    rw [e] at hP1
    exact hk _ _ _ _ hK H1 locs1 la cells slots ⟨hP1, hw.2⟩ hS1 hl h1 h2 h3 h4
  next => exact hx.elim
theorem s_cI (hok : Ok y mt' P) (hd : decode mt.1 pc = .ok (.invokespecial idx, 3)) (hyn : y.name = "<init>") (ha : mt.2.2.2.2.2.2.2 = some q) (hcap : cap = (q.1 + mt.2.2.2.2.1.cells, q.2 + mt.2.2.2.2.1.slots)) (hlink : Cond.methodLink mt.2.1 idx y ∈ tblG) (him : Cond.instanceMethod y ∈ tblG) (hini : Cond.initialized y.cls ∈ tblG) (hcode : Cond.code y mt'.1 mt'.2.2.1 mt'.2.2.2.1 ∈ tblG) (hrn : mt'.2.2.2.1 = none) (hy : yOk y n) (hR : rmFit mt mt') (hrc : mt'.2.2.2.2.1.cells = mc) (hrs : mt'.2.2.2.2.1.slots = ms) : Snd mt pc (x_cI n P (pc + 3) mc ms cap) := by
  intro R p l e s m args below meth c D ca ad N0 S0 Q hc ro ls st M K hx hk
  unfold x_cI at hx; split at hx
  next k as r hpa =>
    intro H locs la cells slots hw hS hl h1 h2 h3 h4
    obtain ⟨hk9, hsh, c1, c2, hP⟩ := hx
    obtain ⟨e1, e2⟩ := hc.al ha
    subst hcap
    simp only at c1 c2
    obtain ⟨xs, x1, x2, x3⟩ := pa_spec hpa
    refine W.size fun hu => ?_
    have hsz := Wd_size hw hc.adr hS hc.sz h1 hu
    obtain ⟨lv, l1, l2⟩ := hl
    have hM := hok l D ca ad (.ref k :: as) M _ hP
    rw [hrc, hrs] at hM
    have hx4 : xs = as.reverse ++ [.ref k] := by
      have := congrArg List.reverse x3
      simp at this
      exact this.symm
    rw [List.map_cons, cv_ref' hk9] at hM
    have hws : mtWs y mt' = Cond.code y mt'.1 mt'.2.2.1 none :: tblG := by unfold mtWs; rw [hrn]
    have hrun := va_runI (b := ad k) (bytes := mt'.1) (maxL := mt'.2.2.1) (H := H) (locs := locs) (cells := cells) (slots := slots) (g := F0 m pc la (st.map (cv ad))) (As := as.map (cv ad)) (rest := r.map (cv ad)) (below := below) (meth := meth) (e := e) (Ts := tblG) (R := mt.2.2.2.2.1) ⟨hc.1, hc.2.1, hc.2.2.1, hc.own, hc.ts⟩ hM (cwI n hc.ts (goodAll (fun _ h => h) (mtWs_in hcode)) hws hrc hrs (hc.ts _ hini) (hc.ts _ hlink) (hc.ts _ him) hyn hy hR)
      ⟨pre_blind, fun U hU hW => ⟨rfl, by rw [hU]; exact hw, Ev.warm hW (by rw [hU]; exact hS) hc.ev, by rw [hU]; exact hsz⟩⟩ rfl (by rw [List.length_map]; have := congrArg List.length hx4; simp at this; omega) l1.1 (by rw [x2, hx4]; simp [← List.map_reverse, cv_ref' hk9]) (lv_room (by rw [map_cat]; exact Nat.le_trans (short_cat hsh) (by omega))) hd ⟨by omega, by omega⟩
    refine W.callM hrun hS fun v M' H1 locs1 hq hw1 hS1 => ?_
    obtain ⟨rfl, q1, q2, hK⟩ := hq
    exact hk _ _ _ _ hK H1 locs1 la (cells + mc) (slots + ms) hw1 hS1 ⟨lv, l1, l2⟩ (by rw [q1]; omega) (by rw [q2]; omega) (by omega) (by omega)
  next => exact hx.elim
end BORN
theorem Ok.ofI {y : MethodName} {mtf : Nat → Nat → Mt} {P : PTT} {cc : ByteArray} {own : String} {nl : Nat} {rm : Room} (hm : ∀ a b, mtf a b = (cc, own, nl, none, rm, true, none, some (a, b))) (hy : plainName y.cls = true) (hn : own = y.cls) (hi : y.name = "<init>") (h : ∀ av M R, P av M R → (ent av).length ≤ nl ∧ J (mtf M.1.1 M.1.2.1) R 0 (pad nl (ent av)) [] M) : Ok y (mtf 0 0) P := by
  intro l D ca ad av M R hP
  obtain ⟨hlen, hJ⟩ := h av M R hP
  rw [hm] at hJ ⊢
  refine Met.ofW (cc := cc) (maxL := nl) (ret := none) hy rfl ?_
  intro p e s m args below meth c s₁ B hml hv
  obtain ⟨rfl, hw, hev, hsz⟩ := hv
  have hts := atoms_spec (ws := mtWs y (cc, own, nl, none, rm, true, none, some (0, 0))) B.pre
  have hown : s.vm.findClass own = some m.cls := by rw [hn]; exact findClass_of_methodNamed B.named
  have hc : HC (cc, own, nl, none, rm, true, none, some (M.1.1, M.1.2.1)) p s m (av.map (cv ad)).toArray meth c D ca ad M.1.1 M.1.2.1 := ⟨B.exec, B.bytes, hml, hown, fun w hw => hts w (List.mem_cons_of_mem _ hw), B.notSynchronized, B.returns, fun _ => ((name_of_methodNamed B.named B.method).1).trans hi, hev, hsz, fun q hq => by cases hq; exact ⟨rfl, rfl⟩⟩
  rw [lg_entry_eq]
  have hl := lv_entry (av.map (cv ad)) (n := nl) (by rw [ent_len]; exact hlen)
  exact hJ p l e s m _ below meth c D ca ad M.1.1 M.1.2.1 _ hc (RO.meth (mt := (cc, own, nl, none, rm, true, none, some (M.1.1, M.1.2.1))) B.exec B.bytes B.returns B.notSynchronized) s.heap [] _ 0 0 hw va_S.rf ⟨_, hl, fun i v hi => by have := ent_at ad av 0 i v (pad_at hi); rwa [Nat.zero_add] at this⟩ rfl rfl (Nat.zero_le _) (Nat.zero_le _)
