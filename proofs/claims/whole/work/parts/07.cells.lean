/-! the classes, by their number -/
def RCl : Nat → String := fun ci => match ci with
  | 0 => RX0 | 1 => RX1 | 2 => RX0 | 3 => RX3 | 4 => RX4 | 5 => RX5 | 6 => RX6 | 7 => RX7 | 8 => RX8 | 9 => RX9 | _ => RX10
def TCl : Nat → u_T := fun ci => match ci with
  | 0 => TX0 | 1 => TX1 | 2 => TX0 | 3 => TX3 | 4 => TX4 | 5 => TX5 | 6 => TX6 | 7 => TX7 | 8 => TX8 | 9 => TX9 | _ => TX10
theorem cl_at {ci : Nat} (h : ci < 11) : kCl[ci]? = some (RCl ci, TCl ci, nfC ci) := by
  match ci, h with
  | 0, _ => rfl
  | 1, _ => rfl
  | 2, _ => rfl
  | 3, _ => rfl
  | 4, _ => rfl
  | 5, _ => rfl
  | 6, _ => rfl
  | 7, _ => rfl
  | 8, _ => rfl
  | 9, _ => rfl
  | 10, _ => rfl
theorem cl_ty {ci : Nat} (h : ci < 11) : ∀ k, k < nfC ci → parseFieldDescriptor (TCl ci k).2.2.1 = some (tyC ci k) := by
  match ci, h with
  | 0, _ => exact tyX0_ok
  | 1, _ => exact tyX1_ok
  | 2, _ => exact tyX0_ok
  | 3, _ => exact tyX3_ok
  | 4, _ => exact tyX4_ok
  | 5, _ => exact tyX5_ok
  | 6, _ => exact tyX6_ok
  | 7, _ => exact tyX7_ok
  | 8, _ => exact tyX8_ok
  | 9, _ => exact tyX9_ok
  | 10, _ => exact tyX10_ok
theorem cl_nm {ci : Nat} (h : ci < 11) : ∀ a, a < nfC ci → ∀ b, b < nfC ci → a ≠ b → (TCl ci a).2.1 ≠ (TCl ci b).2.1 := by
  match ci, h with
  | 0, _ => exact nmX0
  | 1, _ => exact nmX1
  | 2, _ => exact nmX0
  | 3, _ => exact nmX3
  | 4, _ => exact nmX4
  | 5, _ => exact nmX5
  | 6, _ => exact nmX6
  | 7, _ => exact nmX7
  | 8, _ => exact nmX8
  | 9, _ => exact nmX9
  | 10, _ => exact nmX10
theorem tgs {ws : List Cond} (ps : List Nat) (hp : ws = ps.filterMap (fun i => lw_tbl[i]?)) (hg : ws.all goodWord = true) : ∀ w ∈ ws, w ∈ tblG := by
  intro w hw
  have h1 := List.all_eq_true.mp hg w hw
  rw [hp] at hw
  obtain ⟨i, -, hi⟩ := List.mem_filterMap.mp hw
  exact tg i hi h1
theorem cl_in0 : ∀ w ∈ u_ws RX0 TX0 3, w ∈ tblG := tgs [230, 232, 234] (by decide +kernel) (by decide +kernel)
theorem cl_in1 : ∀ w ∈ u_ws RX1 TX1 5, w ∈ tblG := tgs [183, 185, 187, 189, 191] (by decide +kernel) (by decide +kernel)
theorem cl_in3 : ∀ w ∈ u_ws RX3 TX3 7, w ∈ tblG := tgs [87, 89, 91, 93, 95, 97, 99] (by decide +kernel) (by decide +kernel)
theorem cl_in4 : ∀ w ∈ u_ws RX4 TX4 3, w ∈ tblG := tgs [247, 249, 251] (by decide +kernel) (by decide +kernel)
theorem cl_in5 : ∀ w ∈ u_ws RX5 TX5 8, w ∈ tblG := tgs [151, 153, 155, 157, 159, 161, 163, 165] (by decide +kernel) (by decide +kernel)
theorem cl_in6 : ∀ w ∈ u_ws RX6 TX6 2, w ∈ tblG := tgs [212, 214] (by decide +kernel) (by decide +kernel)
theorem cl_in7 : ∀ w ∈ u_ws RX7 TX7 3, w ∈ tblG := tgs [108, 110, 112] (by decide +kernel) (by decide +kernel)
theorem cl_in8 : ∀ w ∈ u_ws RX8 TX8 1, w ∈ tblG := tgs [201] (by decide +kernel) (by decide +kernel)
theorem cl_in9 : ∀ w ∈ u_ws RX9 TX9 11, w ∈ tblG := tgs [265, 267, 269, 271, 273, 275, 277, 279, 281, 283, 285] (by decide +kernel) (by decide +kernel)
theorem cl_in10 : ∀ w ∈ u_ws RX10 TX10 26, w ∈ tblG := tgs [722, 724, 726, 728, 730, 732, 734, 736, 738, 740, 742, 744, 746, 748, 750, 752, 754, 756, 758, 760, 762, 764, 766, 768, 770, 772] (by decide +kernel) (by decide +kernel)
theorem cl_in {ci : Nat} (h : ci < 11) : ∀ w ∈ u_ws (RCl ci) (TCl ci) (nfC ci), w ∈ tblG := by
  match ci, h with
  | 0, _ => exact cl_in0
  | 1, _ => exact cl_in1
  | 2, _ => exact cl_in0
  | 3, _ => exact cl_in3
  | 4, _ => exact cl_in4
  | 5, _ => exact cl_in5
  | 6, _ => exact cl_in6
  | 7, _ => exact cl_in7
  | 8, _ => exact cl_in8
  | 9, _ => exact cl_in9
  | 10, _ => exact cl_in10
theorem tw_nat : Cond.native arraycopyName ∈ tblG := tg 347 (by decide +kernel) (by decide +kernel)
theorem tw_stat : Cond.static arraycopyName ∈ tblG := tg 346 (by decide +kernel) (by decide +kernel)
theorem tw_sys : Cond.initialized "java/lang/System" ∈ tblG := tg 52 (by decide +kernel) (by decide +kernel)
section HCP
variable {mt : Mt} {p : Program} {s : State} {m : MethodId} {args : Array Value} {meth : Method} {c : Code} {D : va_G} {ca : Nat → ClassId} {ad : Nat → Nat} {N0 S0 : Nat}
theorem HC.ts (h : HC mt p s m args meth c D ca ad N0 S0) : ∀ w ∈ tblG, w.before args s = true := h.2.2.2.2.1
theorem HC.own (h : HC mt p s m args meth c D ca ad N0 S0) : s.vm.findClass mt.2.1 = some m.cls := h.2.2.2.1
theorem HC.ev (h : HC mt p s m args meth c D ca ad N0 S0) : Ev D ca ad mt.2.2.2.2.2.2.1 s := h.2.2.2.2.2.2.2.2.1
theorem HC.K (h : HC mt p s m args meth c D ca ad N0 S0) : va_K D kCl (tysC ca) s := h.ev.1
theorem HC.adr (h : HC mt p s m args meth c D ca ad N0 S0) : ∀ k, k < 9000 → ad k = ad 0 + k := h.ev.2.1
theorem HC.sz (h : HC mt p s m args meth c D ca ad N0 S0) : s.heap.size = ad 0 + N0 := h.2.2.2.2.2.2.2.2.2.1
end HCP
section CEL
variable {mt : Mt} {pc : Nat}
theorem s_gI {ci j idx : Nat} (hd : decode mt.1 pc = .ok (.getfield idx, 3)) (hci : ci < 11) (hj : j < nfC ci) (h0 : fkOf (tyC ci j) = 0) (hlink : Cond.fieldLink mt.2.1 idx (TCl ci j).1 (TCl ci j).2.1 (TCl ci j).2.2.1 ∈ tblG) : Snd mt pc (x_gI ci j (pc + 3)) := by
  intro R p l e s m args below meth c D ca ad N0 S0 Q hc ro ls st M K hx hk
  unfold x_gI at hx; split at hx
  next k st =>
    intro H locs la cells slots hw hS hl h1 h2 h3 h4
    rw [List.map_cons, cv_ref (Nat.lt_of_lt_of_le hx.1.1 hw.2)]
    exact va_get hc.1 hc.2.1 hc.ts (cl_in hci) hc.own hc.K hw.1 k (wsM_obj hx.1) (cl_at hci) j hj (hc.ts _ hlink) (fun _ h => h) (v := .int (M.2.1 k j)) (by rw [fsM_get hj]; simp [fV, h0]) hd (hk _ _ _ _ hx.2 H locs la cells slots hw hS hl h1 h2 h3 h4)
  next => exact hx.elim
theorem s_gL {ci j idx : Nat} (hd : decode mt.1 pc = .ok (.getfield idx, 3)) (hci : ci < 11) (hj : j < nfC ci) (h0 : fkOf (tyC ci j) = 1) (hlink : Cond.fieldLink mt.2.1 idx (TCl ci j).1 (TCl ci j).2.1 (TCl ci j).2.2.1 ∈ tblG) : Snd mt pc (x_gL ci j (pc + 3)) := by
  intro R p l e s m args below meth c D ca ad N0 S0 Q hc ro ls st M K hx hk
  unfold x_gL at hx; split at hx
  next k st =>
    intro H locs la cells slots hw hS hl h1 h2 h3 h4
    rw [List.map_cons, cv_ref (Nat.lt_of_lt_of_le hx.1.1 hw.2)]
    exact va_get hc.1 hc.2.1 hc.ts (cl_in hci) hc.own hc.K hw.1 k (wsM_obj hx.1) (cl_at hci) j hj (hc.ts _ hlink) (fun _ h => h) (v := .long (M.2.2 k j)) (by rw [fsM_get hj]; simp [fV, h0]) hd (hk _ _ _ _ hx.2 H locs la cells slots hw hS hl h1 h2 h3 h4)
  next => exact hx.elim
theorem s_gR {ci j idx : Nat} (hd : decode mt.1 pc = .ok (.getfield idx, 3)) (hci : ci < 11) (hj : j < nfC ci) (h0 : fkOf (tyC ci j) = 2) (hlink : Cond.fieldLink mt.2.1 idx (TCl ci j).1 (TCl ci j).2.1 (TCl ci j).2.2.1 ∈ tblG) : Snd mt pc (x_gR ci j (pc + 3)) := by
  intro R p l e s m args below meth c D ca ad N0 S0 Q hc ro ls st M K hx hk
  unfold x_gR at hx; split at hx
  next k st =>
    intro H locs la cells slots hw hS hl h1 h2 h3 h4
    rw [List.map_cons, cv_ref (Nat.lt_of_lt_of_le hx.1.1 hw.2)]
    exact va_get hc.1 hc.2.1 hc.ts (cl_in hci) hc.own hc.K hw.1 k (wsM_obj hx.1) (cl_at hci) j hj (hc.ts _ hlink) (fun _ h => h) (v := cv ad (.ref (sR M.1 k j))) (by rw [fsM_get hj]; simp [fV, h0]) hd (hk _ _ _ _ hx.2 H locs la cells slots hw hS hl h1 h2 h3 h4)
  next => exact hx.elim
theorem s_pI {ci j idx : Nat} (hd : decode mt.1 pc = .ok (.putfield idx, 3)) (hci : ci < 11) (hj : j < nfC ci) (h0 : tyC ci j = .int) (hfin : (TCl ci j).2.2.2 = false) (hlink : Cond.fieldLink mt.2.1 idx (TCl ci j).1 (TCl ci j).2.1 (TCl ci j).2.2.1 ∈ tblG) : Snd mt pc (x_pI ci j (pc + 3)) := by
  intro R p l e s m args below meth c D ca ad N0 S0 Q hc ro ls st M K hx hk
  unfold x_pI at hx; split at hx
  next x k st =>
    intro H locs la cells slots hw hS hl h1 h2 h3 h4
    rw [List.map_cons, List.map_cons, cv_ref (Nat.lt_of_lt_of_le hx.1.1 hw.2)]
    refine va_put hc.1 hc.2.1 hc.ts (cl_in hci) (tyC ci) (cl_ty hci) (cl_nm hci) hc.own hc.K hw.1 (wsM_D hw.2 hc.adr) hS k (wsM_obj hx.1) (cl_at hci) j hj (hc.ts _ hlink) (fun _ h => h) hfin (v := .int x) (by rw [cl_ty hci j hj, h0]) rfl rfl (by rw [fsM_len]; exact hj) hd (fun H1 locs1 hP1 hD1 hS1 => ?_)
    have e : (wsM ca ad M).set k (ad k, .inr (ci, (fsM ad M ci k).set j (.int x))) = wsM ca ad (M.1, mS M.2.1 k (upd (M.2.1 k) j x), M.2.2) := by
      refine wsM_set rfl ?_ fun q hq => cEnc_congr rfl (mS_n hq) rfl rfl
      rw [cEnc_obj (M := (M.1, mS M.2.1 k (upd (M.2.1 k) j x), M.2.2)) hx.1.2, fsM_set (j := j) (v := .int x) (M' := (M.1, mS M.2.1 k (upd (M.2.1 k) j x), M.2.2))]
      · intro _; simp [fV, h0, fkOf, mS_s, upd]
      · intro i hi; exact fV_congr (by simp [mS_s, upd, hi]) rfl rfl
    rw [e] at hP1
    exact hk _ _ _ _ hx.2 H1 locs1 la cells slots ⟨hP1, hw.2⟩ hS1 hl h1 h2 h3 h4
  next => exact hx.elim
theorem s_pZ {ci j idx : Nat} (hd : decode mt.1 pc = .ok (.putfield idx, 3)) (hci : ci < 11) (hj : j < nfC ci) (h0 : tyC ci j = .boolean) (hfin : (TCl ci j).2.2.2 = false) (hlink : Cond.fieldLink mt.2.1 idx (TCl ci j).1 (TCl ci j).2.1 (TCl ci j).2.2.1 ∈ tblG) : Snd mt pc (x_pZ ci j (pc + 3)) := by
  intro R p l e s m args below meth c D ca ad N0 S0 Q hc ro ls st M K hx hk
  unfold x_pZ at hx; split at hx
  next x k st =>
    intro H locs la cells slots hw hS hl h1 h2 h3 h4
    rw [List.map_cons, List.map_cons, cv_ref (Nat.lt_of_lt_of_le hx.1.1 hw.2)]
    refine va_put hc.1 hc.2.1 hc.ts (cl_in hci) (tyC ci) (cl_ty hci) (cl_nm hci) hc.own hc.K hw.1 (wsM_D hw.2 hc.adr) hS k (wsM_obj hx.1) (cl_at hci) j hj (hc.ts _ hlink) (fun _ h => h) hfin (ty := .boolean) (v := .int x) (by rw [cl_ty hci j hj, h0]) (by rcases hx.2.1 with h | h <;> subst h <;> rfl) (by rcases hx.2.1 with h | h <;> subst h <;> rfl) (by rw [fsM_len]; exact hj) hd (fun H1 locs1 hP1 hD1 hS1 => ?_)
    have e : (wsM ca ad M).set k (ad k, .inr (ci, (fsM ad M ci k).set j (.int x))) = wsM ca ad (M.1, mS M.2.1 k (upd (M.2.1 k) j x), M.2.2) := by
      refine wsM_set rfl ?_ fun q hq => cEnc_congr rfl (mS_n hq) rfl rfl
      rw [cEnc_obj (M := (M.1, mS M.2.1 k (upd (M.2.1 k) j x), M.2.2)) hx.1.2, fsM_set (j := j) (v := .int x) (M' := (M.1, mS M.2.1 k (upd (M.2.1 k) j x), M.2.2))]
      · intro _; simp [fV, h0, fkOf, mS_s, upd]
      · intro i hi; exact fV_congr (by simp [mS_s, upd, hi]) rfl rfl
    rw [e] at hP1
    exact hk _ _ _ _ hx.2.2 H1 locs1 la cells slots ⟨hP1, hw.2⟩ hS1 hl h1 h2 h3 h4
  next => exact hx.elim
theorem s_pL {ci j idx : Nat} (hd : decode mt.1 pc = .ok (.putfield idx, 3)) (hci : ci < 11) (hj : j < nfC ci) (h0 : tyC ci j = .long) (hfin : (TCl ci j).2.2.2 = false) (hlink : Cond.fieldLink mt.2.1 idx (TCl ci j).1 (TCl ci j).2.1 (TCl ci j).2.2.1 ∈ tblG) : Snd mt pc (x_pL ci j (pc + 3)) := by
  intro R p l e s m args below meth c D ca ad N0 S0 Q hc ro ls st M K hx hk
  unfold x_pL at hx; split at hx
  next x k st =>
    intro H locs la cells slots hw hS hl h1 h2 h3 h4
    rw [List.map_cons, List.map_cons, cv_ref (Nat.lt_of_lt_of_le hx.1.1 hw.2)]
    refine va_put hc.1 hc.2.1 hc.ts (cl_in hci) (tyC ci) (cl_ty hci) (cl_nm hci) hc.own hc.K hw.1 (wsM_D hw.2 hc.adr) hS k (wsM_obj hx.1) (cl_at hci) j hj (hc.ts _ hlink) (fun _ h => h) hfin (v := .long x) (by rw [cl_ty hci j hj, h0]) rfl rfl (by rw [fsM_len]; exact hj) hd (fun H1 locs1 hP1 hD1 hS1 => ?_)
    have e : (wsM ca ad M).set k (ad k, .inr (ci, (fsM ad M ci k).set j (.long x))) = wsM ca ad (M.1, M.2.1, mS M.2.2 k (vp_updL (M.2.2 k) j x)) := by
      refine wsM_set rfl ?_ fun q hq => cEnc_congr rfl rfl (mS_n hq) rfl
      rw [cEnc_obj (M := (M.1, M.2.1, mS M.2.2 k (vp_updL (M.2.2 k) j x))) hx.1.2, fsM_set (j := j) (v := .long x) (M' := (M.1, M.2.1, mS M.2.2 k (vp_updL (M.2.2 k) j x)))]
      · intro _; simp [fV, h0, fkOf, mS_s, vp_updL]
      · intro i hi; exact fV_congr rfl (by simp [mS_s, vp_updL, hi]) rfl
    rw [e] at hP1
    exact hk _ _ _ _ hx.2 H1 locs1 la cells slots ⟨hP1, hw.2⟩ hS1 hl h1 h2 h3 h4
  next => exact hx.elim
theorem s_ia (hd : decode mt.1 pc = .ok (.iaload, 1)) : Snd mt pc (x_ia (pc + 1)) := by
  intro R p l e s m args below meth c D ca ad N0 S0 Q hc ro ls st M K hx hk
  unfold x_ia at hx; split at hx
  next i k st =>
    intro H locs la cells slots hw hS hl h1 h2 h3 h4
    rw [List.map_cons, List.map_cons, cv_ref (Nat.lt_of_lt_of_le hx.1.1 hw.2)]
    exact va_iald hc.1 hc.2.1 hc.K hw.1 k 0 (wsM_arr hx.1 (by decide) (by decide)) rfl hx.2.1 hd (hk _ _ _ _ hx.2.2 H locs la cells slots hw hS hl h1 h2 h3 h4)
  next => exact hx.elim
theorem s_za (hd : decode mt.1 pc = .ok (.baload, 1)) : Snd mt pc (x_za (pc + 1)) := by
  intro R p l e s m args below meth c D ca ad N0 S0 Q hc ro ls st M K hx hk
  unfold x_za at hx; split at hx
  next i k st =>
    intro H locs la cells slots hw hS hl h1 h2 h3 h4
    rw [List.map_cons, List.map_cons, cv_ref (Nat.lt_of_lt_of_le hx.1.1 hw.2)]
    exact va_zald hc.1 hc.2.1 hc.K hw.1 k 1 (wsM_arr hx.1 (by decide) (by decide)) rfl hx.2.1 hd (hk _ _ _ _ hx.2.2 H locs la cells slots hw hS hl h1 h2 h3 h4)
  next => exact hx.elim
theorem s_aa (hd : decode mt.1 pc = .ok (.aaload, 1)) : Snd mt pc (x_aa (pc + 1)) := by
  intro R p l e s m args below meth c D ca ad N0 S0 Q hc ro ls st M K hx hk
  unfold x_aa at hx; split at hx
  next i k st =>
    intro H locs la cells slots hw hS hl h1 h2 h3 h4
    rw [List.map_cons, List.map_cons, cv_ref (Nat.lt_of_lt_of_le hx.1.1 hw.2)]
    exact va_aldq hc.1 hc.2.1 hc.K hw.1 k 2 (wsM_ref hx.1) rfl hx.2.1 hd (hk _ _ _ _ hx.2.2 H locs la cells slots hw hS hl h1 h2 h3 h4)
  next => exact hx.elim
theorem s_ias (hd : decode mt.1 pc = .ok (.iastore, 1)) : Snd mt pc (x_ias (pc + 1)) := by
  intro R p l e s m args below meth c D ca ad N0 S0 Q hc ro ls st M K hx hk
  unfold x_ias at hx; split at hx
  next x i k st =>
    intro H locs la cells slots hw hS hl h1 h2 h3 h4
    rw [List.map_cons, List.map_cons, List.map_cons, cv_ref (Nat.lt_of_lt_of_le hx.1.1 hw.2)]
    refine va_iast hc.1 hc.2.1 hc.K hw.1 (wsM_D hw.2 hc.adr) hS k 0 (wsM_arr hx.1 (by decide) (by decide)) rfl hx.2.1 hd (fun H1 locs1 hP1 hD1 hS1 => ?_)
    have e : (wsM ca ad M).set k (ad k, .inl (ca 1, ln M.1 k, .inl (upd (M.2.1 k) i.toNatClampNeg x))) = wsM ca ad (M.1, mS M.2.1 k (upd (M.2.1 k) i.toNatClampNeg x), M.2.2) := by
      refine wsM_set rfl ?_ fun q hq => cEnc_congr rfl (mS_n hq) rfl rfl
      rw [cEnc_arr (M := (M.1, mS M.2.1 k (upd (M.2.1 k) i.toNatClampNeg x), M.2.2)) hx.1.2 (by decide) (by decide)]
      simp only [mS_s]
    rw [e] at hP1
    exact hk _ _ _ _ hx.2.2 H1 locs1 la cells slots ⟨hP1, hw.2⟩ hS1 hl h1 h2 h3 h4
  next => exact hx.elim
theorem s_zas (hd : decode mt.1 pc = .ok (.bastore, 1)) : Snd mt pc (x_zas (pc + 1)) := by
  intro R p l e s m args below meth c D ca ad N0 S0 Q hc ro ls st M K hx hk
  unfold x_zas at hx; split at hx
  next x i k st =>
    intro H locs la cells slots hw hS hl h1 h2 h3 h4
    rw [List.map_cons, List.map_cons, List.map_cons, cv_ref (Nat.lt_of_lt_of_le hx.1.1 hw.2)]
    refine va_zast hc.1 hc.2.1 hc.K hw.1 (wsM_D hw.2 hc.adr) hS k 1 (wsM_arr hx.1 (by decide) (by decide)) rfl hx.2.1 hd (fun H1 locs1 hP1 hD1 hS1 => ?_)
    have hx1 : vp_nar .boolean x = x := by rcases hx.2.2.1 with h | h <;> subst h <;> rfl
    have e : (wsM ca ad M).set k (ad k, .inl (ca 2, ln M.1 k, .inl (upd (M.2.1 k) i.toNatClampNeg x))) = wsM ca ad (M.1, mS M.2.1 k (upd (M.2.1 k) i.toNatClampNeg x), M.2.2) := by
      refine wsM_set rfl ?_ fun q hq => cEnc_congr rfl (mS_n hq) rfl rfl
      rw [cEnc_arr (M := (M.1, mS M.2.1 k (upd (M.2.1 k) i.toNatClampNeg x), M.2.2)) hx.1.2 (by decide) (by decide)]
      simp only [mS_s]
    rw [hx1, e] at hP1
    exact hk _ _ _ _ hx.2.2.2 H1 locs1 la cells slots ⟨hP1, hw.2⟩ hS1 hl h1 h2 h3 h4
  next => exact hx.elim
theorem s_ac {idx N : Nat} (hd : decode mt.1 pc = .ok (.invokestatic idx, 3)) (hN : N < 1000) (hlink : Cond.methodLink mt.2.1 idx arraycopyName ∈ tblG) (hf : 1 ≤ mt.2.2.2.2.1.frames) (hlo : 18 ≤ mt.2.2.2.2.1.locals) : Snd mt pc (x_ac (pc + 3) N) := by
  intro R p l e s m args below meth c D ca ad N0 S0 Q hc ro ls st M K hx hk
  unfold x_ac at hx; split at hx
  next n d b z a st =>
    intro H locs la cells slots hw hS hl h1 h2 h3 h4
    obtain ⟨rfl, rfl, rfl, ta, tb, ha, hb, rfl, hx⟩ := hx
    rw [List.map_cons, List.map_cons, List.map_cons, List.map_cons, List.map_cons, cv_ref (Nat.lt_of_lt_of_le ta.1 hw.2), cv_ref (Nat.lt_of_lt_of_le tb.1 hw.2)]
    have hn : (nI N).toNatClampNeg = N := nI_clamp (by omega)
    have hz : (0 : Int32).toNatClampNeg = 0 := rfl
    obtain ⟨lv, l1, l2⟩ := hl
    refine va_copyi hc.1 hc.2.1 (by rw [hc.2.2.1]; exact l1.1.symm) hc.own (hc.ts _ hlink) (hc.ts _ tw_nat) (hc.ts _ tw_stat) (hc.ts _ tw_sys) hc.K hw.1 (wsM_D hw.2 hc.adr) hS a b 0 0 (wsM_arr ta (by decide) (by decide)) (wsM_arr tb (by decide) (by decide)) rfl rfl rfl (by decide) (by decide) (nI_pos (by omega)) (by rw [hn, hz]; omega) (by rw [hn, hz]; omega) (fun i _ => rfl) hf (by show 0 + (5 + 2 + 11) ≤ _; omega) hd (fun H1 locs1 hP1 hD1 hS1 => ?_)
    rw [hn, hz] at hP1
    have e : (wsM ca ad M).set b (ad b, .inl (ca 1, ln M.1 b, .inl (va_cpy (M.2.1 a) (M.2.1 b) 0 0 N))) = wsM ca ad (M.1, mS M.2.1 b (va_cpy (M.2.1 a) (M.2.1 b) 0 0 N), M.2.2) := by
      refine wsM_set rfl ?_ fun q hq => cEnc_congr rfl (mS_n hq) rfl rfl
      rw [cEnc_arr (M := (M.1, mS M.2.1 b (va_cpy (M.2.1 a) (M.2.1 b) 0 0 N), M.2.2)) tb.2 (by decide) (by decide)]
      simp only [mS_s]
    rw [e] at hP1
    exact hk _ _ _ _ hx H1 locs1 la cells slots ⟨hP1, hw.2⟩ hS1 ⟨lv, l1, l2⟩ h1 h2 h3 h4
  next => exact hx.elim
theorem s_fac {idx : Nat} (hd : decode mt.1 pc = .ok (.getstatic idx, 3)) (hlink : Cond.fieldLink mt.2.1 idx RX9 "FACTORIALS" "[I" ∈ tblG) : Snd mt pc (x_fac (pc + 3)) := by
  intro R p l e s m args below meth c D ca ad N0 S0 Q hc ro ls st M K hx hk H locs la cells slots hw hS hl h1 h2 h3 h4
  exact va_gets hc.1 hc.2.1 hc.ev.2.2.1 hS hc.own (hc.ts _ hlink) (fun _ h => h) hd (hk _ _ _ _ hx H locs la cells slots hw hS hl h1 h2 h3 h4)
theorem s_facN (hd : decode mt.1 pc = .ok (.getstatic 55, 3)) (ho : mt.2.1 = RX6) : Snd mt pc (x_fac (pc + 3)) := by
  intro R p l e s m args below meth c D ca ad N0 S0 Q hc ro ls st M K hx hk H locs la cells slots hw hS hl h1 h2 h3 h4
  exact va_getsN hc.1 hc.2.1 hc.ev.2.2.1 hS hc.own (by rw [ho]; exact va_Nw.use rfl hc.ev.2.2.2.2.2.1) (fun _ h => h) hd (hk _ _ _ _ hx H locs la cells slots hw hS hl h1 h2 h3 h4)
theorem s_fa (hd : decode mt.1 pc = .ok (.iaload, 1)) : Snd mt pc (x_fa (pc + 1)) := by
  intro R p l e s m args below meth c D ca ad N0 S0 Q hc ro ls st M K hx hk
  unfold x_fa at hx; split at hx
  next i k st =>
    intro H locs la cells slots hw hS hl h1 h2 h3 h4
    obtain ⟨rfl, hi, hx⟩ := hx
    exact va_ti hc.1 hc.2.1 hc.ev.2.2.2.1 hS hi rfl hd (hk _ _ _ _ hx H locs la cells slots hw hS hl h1 h2 h3 h4)
  next => exact hx.elim
theorem s_slen {q : Nat × (Nat → Int32)} (hd : decode mt.1 pc = .ok (.arraylength, 1)) (hq : mt.2.2.2.2.2.2.1 = some q) : Snd mt pc (x_slen (pc + 1) q) := by
  intro R p l e s m args below meth c D ca ad N0 S0 Q hc ro ls st M K hx hk
  unfold x_slen at hx; split at hx
  next k st =>
    intro H locs la cells slots hw hS hl h1 h2 h3 h4
    obtain ⟨rfl, hx⟩ := hx
    obtain ⟨hX, hb, ha⟩ := hc.ev.2.2.2.2.2.2.2.1 q hq
    exact va_slen hc.1 hc.2.1 hX hb (Nat.not_le.mpr ha) hS hd (hk _ _ _ _ hx H locs la cells slots hw hS hl h1 h2 h3 h4)
  next => exact hx.elim
theorem s_sa {q : Nat × (Nat → Int32)} (hd : decode mt.1 pc = .ok (.iaload, 1)) (hq : mt.2.2.2.2.2.2.1 = some q) : Snd mt pc (x_sa (pc + 1) q) := by
  intro R p l e s m args below meth c D ca ad N0 S0 Q hc ro ls st M K hx hk
  unfold x_sa at hx; split at hx
  next i k st =>
    intro H locs la cells slots hw hS hl h1 h2 h3 h4
    obtain ⟨rfl, hi, hx⟩ := hx
    obtain ⟨hX, hb, ha⟩ := hc.ev.2.2.2.2.2.2.2.1 q hq
    exact va_sld hc.1 hc.2.1 hX hb (Nat.not_le.mpr ha) hS hi hd (hk _ _ _ _ hx H locs la cells slots hw hS hl h1 h2 h3 h4)
  next => exact hx.elim
end CEL
