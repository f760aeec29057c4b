/-! CONTRACTS: a method does to memory what its transformer says; calls -/
def Pre (D : va_G) (ca : Nat → ClassId) (ad : Nat → Nat) (M : Mem) (U : State) : Prop := Wd D ca ad M U.heap ∧ Ev D ca ad none U ∧ U.heap.size = ad 0 + M.1.1
def QcM (D : va_G) (ca : Nat → ClassId) (ad : Nat → Nat) (R : Option Value → Mem → Prop) : Array Value → State → Outcome → State → Prop := fun _ st o t => (∃ (r : Option Value) (M' : Mem), o = .returned (r.map (cv ad)) ∧ R r M' ∧ Wd D ca ad M' t.heap) ∧ va_F (AA ad) st t
def mtWs (y : MethodName) (mt : Mt) : List Cond := Cond.code y mt.1 mt.2.2.1 mt.2.2.2.1 :: tblG
def Ok (y : MethodName) (mt : Mt) (P : PTT) : Prop := ∀ (l : Launch) (D : va_G) (ca : Nat → ClassId) (ad : Nat → Nat) (av : List Value) (M : Mem) (R : Option Value → Mem → Prop), P av M R →
  Met l y (mtWs y mt) mt.2.2.2.2.1 (va_Pc (av.map (cv ad)) (Pre D ca ad M)) (QcM D ca ad R) mt.2.2.2.2.1.cells mt.2.2.2.2.1.slots (AA ad)
theorem Ev.same {D : va_G} {ca : Nat → ClassId} {ad : Nat → Nat} {scr : Option (Nat × (Nat → Int32))} {u U : State} (hv : u.vm = U.vm) (hh : u.heap = U.heap) (h : Ev D ca ad scr u) : Ev D ca ad scr U := by
  obtain ⟨h1, h2, h3, h4, h5, h6, h7, h8, h9⟩ := h
  have hal : u.vm.Alike U.vm := by rw [hv]; exact Vm.Alike.refl U.vm
  exact ⟨va_K.moved hal h1, h2, by rw [← hh]; exact va_Z.moved hal h3, by rw [← hh]; exact va_T.moved hal h4, va_Nw.same rfl hv h5, va_Nw.same rfl hv h6, va_AO.moved hal h7, fun q hq => ⟨by rw [← hh]; exact va_X.moved hal (h8 q hq).1, by rw [← hh]; exact (h8 q hq).2.1, (h8 q hq).2.2⟩, by rw [← hh]; exact h9⟩
theorem Ev.warm {D : va_G} {ca : Nat → ClassId} {ad : Nat → Nat} {scr : Option (Nat × (Nat → Int32))} {s U : State} {locs : List Loc} (hW : s.WarmedH U.vm) (hS : va_S (AA ad) s.heap U.heap locs) (h : Ev D ca ad scr s) : Ev D ca ad none U := by
  obtain ⟨h1, h2, h3, h4, h5, h6, h7, h8, h9⟩ := h
  exact ⟨va_K.moved hW.alike h1, h2, va_Z.kept (va_Z.moved hW.alike h3) (fun a ha hA => hS.2.1 a ha hA), va_T.kept (va_T.moved hW.alike h4) (fun a ha hA => hS.2.1 a ha hA), va_Nw.warmM hW h5, va_Nw.warmF hW h6, va_AO.moved hW.alike h7, (fun q hq => nomatch hq), Nat.le_trans h9 hS.1⟩
theorem pre_blind {D : va_G} {ca : Nat → ClassId} {ad : Nat → Nat} {M : Mem} {av : List Value} : FrameBlind (va_Pc av (Pre D ca ad M)) := by
  intro a U g mk h
  obtain ⟨h0, h1, h2, h3⟩ := h
  exact ⟨h0, h1, Ev.same (u := U) (U := U.calling g mk a) rfl rfl h2, h3⟩
theorem pa_spec : ∀ {n : Nat} {st acc as r : List Value}, pa n st acc = some (as, r) → ∃ xs, xs.length = n ∧ st = xs ++ r ∧ as = xs.reverse ++ acc
  | 0, st, acc, as, r, h => by simp only [pa, Option.some.injEq, Prod.mk.injEq] at h; exact ⟨[], rfl, by simp [h.2], by simp [h.1]⟩
  | n + 1, [], acc, as, r, h => by simp [pa] at h
  | n + 1, v :: st, acc, as, r, h => by
    simp only [pa] at h
    obtain ⟨xs, h1, h2, h3⟩ := pa_spec h
    exact ⟨v :: xs, by simp [h1], by simp [h2], by simp [h3]⟩
theorem short_cat : ∀ {r : List Value} {n : Nat}, short r n = true → (r.map fun v => v.category).sum ≤ 2 * n
  | [], n, _ => by simp
  | v :: r, 0, h => by simp [short] at h
  | v :: r, n + 1, h => by
    have h1 := short_cat (r := r) (n := n) h
    have h2 : v.category ≤ 2 := by rcases lv_cat v with h | h <;> omega
    simp only [List.map_cons, List.sum_cons]
    omega
theorem map_cat (ad : Nat → Nat) (r : List Value) : ((r.map (cv ad)).map fun v => v.category) = r.map fun v => v.category := by
  rw [List.map_map]
  exact List.map_congr_left (fun v _ => cv_cat ad v)
theorem goodAll {big : List Cond} (hb : ∀ w ∈ tblG, w ∈ big) {ws : List Cond} (h : ∀ w ∈ ws, w ∈ tblG) : GoodIn big ws := fun w hw => ⟨hb w (h w hw), good_of_word (List.mem_filter.mp (h w hw)).2⟩
section WCM
variable {p : Program} {l : Launch} {e : Env} {R : Room} {s : State} {m : MethodId} {args : Array Value} {below : List Frame} {meth : Method} {c : Code} {H : Heap} {locs : List Loc} {cells slots mc ms : Nat} {Q : State → Prop}
theorem W.callM {D : va_G} {ca : Nat → ClassId} {ad : Nat → Nat} {pc : Nat} {la : Array Slot} {st0 rest : List Value} {a : Array Value} {Rp : Option Value → Mem → Prop} (hr : va_Run p l e R s m args below meth c H locs cells slots mc ms (F0 m pc la st0) rest (QcM D ca ad Rp a) (AA ad)) (hS : va_S (AA ad) s.heap H locs)
    (kk : ∀ (r : Option Value) (M' : Mem) (H1 : Heap) (locs1 : List Loc), Rp r M' → Wd D ca ad M' H1 → va_S (AA ad) s.heap H1 locs1 → W p l e R s m args below meth c H1 locs1 (cells + mc) (slots + ms) Q (F0 m (pc + 3) la ((r.map (cv ad)).toList ++ rest))) : W p l e R s m args below meth c H locs cells slots Q (F0 m pc la st0) := by
  intro T hT X
  obtain ⟨v, st₀, t, T', L, h0, X', hL, e1, e2, ⟨⟨r, M', hv, hp, hb⟩, hz, hk⟩, st⟩ := hr T hT X
  cases hv
  rw [h0] at hz hk
  obtain ⟨t2, a1, b1⟩ := kk r M' T'.heap (locs ++ L) hp (by rw [e1]; exact hb)
    ⟨Nat.le_trans hS.1 (by rw [e1]; exact hz), fun q h1 h2 => by rw [e1, hk q (Nat.lt_of_lt_of_le h1 hS.1) h2]; exact hS.2.1 q h1 h2, fun q hq => by
      rcases List.mem_append.mp hq with h | h
      · exact hS.2.2 q h
      · exact hL q h⟩ T' rfl X'
  exact ⟨t2, st t2 a1, b1⟩
end WCM
theorem oc_map (ad : Nat → Nat) (v : Option Value) (r : List Value) : (oc v r).map (cv ad) = (v.map (cv ad)).toList ++ r.map (cv ad) := by cases v <;> rfl
def rmFit (mt mt' : Mt) : Prop := mt'.2.2.2.2.1.frames + 1 ≤ mt.2.2.2.2.1.frames ∧ 8 + (mt'.2.2.1 + 11) + mt'.2.2.2.2.1.locals ≤ mt.2.2.2.2.1.locals
def yOk (y : MethodName) (n : Nat) : Prop := y.cls ≠ "java/lang/invoke/MethodHandle" ∧ y.cls ≠ "java/lang/invoke/VarHandle" ∧ (parseMethodDescriptor y.desc).map (fun d => d.parameters.length) = some n
section CLS
variable {mt mt' : Mt} {pc : Nat} {y : MethodName} {P : PTT} {idx n : Nat}
theorem mtWs_in (hcode : Cond.code y mt'.1 mt'.2.2.1 mt'.2.2.2.1 ∈ tblG) : ∀ w ∈ mtWs y mt', w ∈ tblG := fun w hw => (List.mem_cons.mp hw).elim (fun e => by rw [e]; exact hcode) id
theorem s_cS (hok : Ok y mt' P) (hd : decode mt.1 pc = .ok (.invokestatic idx, 3)) (hlink : Cond.methodLink mt.2.1 idx y ∈ tblG) (hst : Cond.static y ∈ tblG) (hini : Cond.initialized y.cls ∈ tblG) (hcode : Cond.code y mt'.1 mt'.2.2.1 mt'.2.2.2.1 ∈ tblG) (hy : yOk y n) (hR : rmFit mt mt') (hrc : mt'.2.2.2.2.1.cells = 0) (hrs : mt'.2.2.2.2.1.slots = 0) : Snd mt pc (x_cS n P (pc + 3)) := by
  intro R p l e s m args below meth c D ca ad N0 S0 Q hc ro ls st M K hx hk
  unfold x_cS at hx; split at hx
  next as r hpa =>
    intro H locs la cells slots hw hS hl h1 h2 h3 h4
    obtain ⟨hsh, hP⟩ := hx
    obtain ⟨xs, x1, x2, x3⟩ := pa_spec hpa
    refine W.size fun hu => ?_
    have hsz := Wd_size hw hc.adr hS hc.sz h1 hu
    obtain ⟨lv, l1, l2⟩ := hl
    have hM := hok l D ca ad as M _ hP
    rw [hrc, hrs] at hM
    have hrun := va_runS (bytes := mt'.1) (maxL := mt'.2.2.1) (ret := mt'.2.2.2.1) (H := H) (locs := locs) (cells := cells) (slots := slots) (g := F0 m pc la (st.map (cv ad))) (As := as.map (cv ad)) (rest := r.map (cv ad)) (below := below) (meth := meth) (e := e) (Ts := tblG) (R := mt.2.2.2.2.1) ⟨hc.1, hc.2.1, hc.2.2.1, hc.own, hc.ts⟩ hM (va_cwS n hc.ts (goodAll (fun _ h => h) (fun w hw => by
        rcases List.mem_append.mp hw with h | h
        · simp only [List.mem_cons, List.not_mem_nil, or_false] at h
          rcases h with h | h | h <;> subst h <;> assumption
        · exact mtWs_in hcode w h)) rfl hrc hrs hy hR)
      ⟨pre_blind, fun U hU hW => ⟨rfl, by rw [hU]; exact hw, Ev.warm hW (by rw [hU]; exact hS) hc.ev, by rw [hU]; exact hsz⟩⟩ rfl (by rw [List.length_map, x3]; simp [x1]) l1.1 (by rw [x2, x3]; simp [← List.map_reverse]) (lv_room (by rw [map_cat]; exact Nat.le_trans (short_cat hsh) (by omega))) hd ⟨by omega, by omega⟩
    refine W.callM hrun hS fun v M' H1 locs1 hq hw1 hS1 => ?_
    rw [← oc_map]
    exact hk _ _ _ _ hq.2 H1 locs1 la (cells + 0) (slots + 0) hw1 hS1 ⟨lv, l1, l2⟩ (by rw [hq.1]; exact h1) (by rw [hq.1]; exact h2) h3 h4
  next => exact hx.elim
theorem s_cN (hok : Ok yX9_held mt' P) (ho : mt.2.1 = RX1) (hd : decode mt.1 pc = .ok (.invokestatic 73, 3)) (hst : Cond.static yX9_held ∈ tblG) (hini : Cond.initialized yX9_held.cls ∈ tblG) (hcode : Cond.code yX9_held mt'.1 mt'.2.2.1 mt'.2.2.2.1 ∈ tblG) (hy : yOk yX9_held n) (hR : rmFit mt mt') (hrc : mt'.2.2.2.2.1.cells = 0) (hrs : mt'.2.2.2.2.1.slots = 0) : Snd mt pc (x_cS n P (pc + 3)) := by
  intro R p l e s m args below meth c D ca ad N0 S0 Q hc ro ls st M K hx hk
  unfold x_cS at hx; split at hx
  next as r hpa =>
    intro H locs la cells slots hw hS hl h1 h2 h3 h4
    obtain ⟨hsh, hP⟩ := hx
    obtain ⟨xs, x1, x2, x3⟩ := pa_spec hpa
    refine W.size fun hu => ?_
    have hsz := Wd_size hw hc.adr hS hc.sz h1 hu
    obtain ⟨lv, l1, l2⟩ := hl
    have hM := hok l D ca ad as M _ hP
    rw [hrc, hrs] at hM
    have hrun := va_runSN (bytes := mt'.1) (maxL := mt'.2.2.1) (ret := mt'.2.2.2.1) (H := H) (locs := locs) (cells := cells) (slots := slots) (g := F0 m pc la (st.map (cv ad))) (As := as.map (cv ad)) (rest := r.map (cv ad)) (below := below) (meth := meth) (e := e) (Ts := tblG) (R := mt.2.2.2.2.1) ⟨hc.1, hc.2.1, hc.2.2.1, hc.own, hc.ts⟩ hM ⟨va_cnB (host := RX9) n hc.ts (goodAll (fun _ h => h) (mtWs_in hcode)) rfl hrc hrs (by rw [ho]; exact hc.ev.2.2.2.2.1) (hc.ts _ hini) hy hR, hc.ts _ hst, trivial⟩
      ⟨pre_blind, fun U hU hW => ⟨rfl, by rw [hU]; exact hw, Ev.warm hW (by rw [hU]; exact hS) hc.ev, by rw [hU]; exact hsz⟩⟩ rfl (by rw [List.length_map, x3]; simp [x1]) l1.1 (by rw [x2, x3]; simp [← List.map_reverse]) (lv_room (by rw [map_cat]; exact Nat.le_trans (short_cat hsh) (by omega))) hd ⟨by omega, by omega⟩
    refine W.callM hrun hS fun v M' H1 locs1 hq hw1 hS1 => ?_
    rw [← oc_map]
    exact hk _ _ _ _ hq.2 H1 locs1 la (cells + 0) (slots + 0) hw1 hS1 ⟨lv, l1, l2⟩ (by rw [hq.1]; exact h1) (by rw [hq.1]; exact h2) h3 h4
  next => exact hx.elim
theorem s_cV {ci : Nat} (hok : Ok y mt' P) (hd : decode mt.1 pc = .ok (.invokevirtual idx, 3)) (hci : ci < 11) (hyc : y.cls = RCl ci) (hlink : Cond.methodLink mt.2.1 idx y ∈ tblG) (him : Cond.instanceMethod y ∈ tblG) (hse : Cond.selects (RCl ci) y y ∈ tblG) (hini : Cond.initialized (RCl ci) ∈ tblG) (hcode : Cond.code y mt'.1 mt'.2.2.1 mt'.2.2.2.1 ∈ tblG) (hy : yOk y n) (hR : rmFit mt mt') (hrc : mt'.2.2.2.2.1.cells = 0) (hrs : mt'.2.2.2.2.1.slots = 0) : Snd mt pc (x_cV ci n P (pc + 3)) := by
  intro R p l e s m args below meth c D ca ad N0 S0 Q hc ro ls st M K hx hk
  unfold x_cV at hx; split at hx
  next k as r hpa =>
    intro H locs la cells slots hw hS hl h1 h2 h3 h4
    obtain ⟨hto, hsh, hP⟩ := hx
    obtain ⟨xs, x1, x2, x3⟩ := pa_spec hpa
    refine W.size fun hu => ?_
    have hsz := Wd_size hw hc.adr hS hc.sz h1 hu
    obtain ⟨lv, l1, l2⟩ := hl
    have hM := hok l D ca ad (.ref k :: as) M _ hP
    rw [hrc, hrs] at hM
    have hk9 : k < 9000 := Nat.lt_of_lt_of_le hto.1 hw.2
    have hx4 : xs = as.reverse ++ [.ref k] := by
      have := congrArg List.reverse x3
      simp at this
      exact this.symm
    rw [List.map_cons, cv_ref hk9] at hM
    have hrun := va_runV (C := RCl ci) (b := ad k) (bytes := mt'.1) (maxL := mt'.2.2.1) (ret := mt'.2.2.2.1) (H := H) (locs := locs) (cells := cells) (slots := slots) (g := F0 m pc la (st.map (cv ad))) (As := as.map (cv ad)) (rest := r.map (cv ad)) (below := below) (meth := meth) (e := e) (Ts := tblG) (R := mt.2.2.2.2.1) ⟨hc.1, hc.2.1, hc.2.2.1, hc.own, hc.ts⟩ hM (cwV n hc.ts (goodAll (fun _ h => h) (fun w hw => by
        rcases List.mem_append.mp hw with h | h
        · simp only [List.mem_cons, List.not_mem_nil, or_false] at h
          rcases h with h | h | h | h <;> subst h <;> assumption
        · exact mtWs_in hcode w h)) rfl hrc hrs ⟨hyc, hy⟩ hR)
      ⟨pre_blind, va_recv hc.K hw.1 (cl_at hci) (wsM_obj hto), fun U hU hW => ⟨rfl, by rw [hU]; exact hw, Ev.warm hW (by rw [hU]; exact hS) hc.ev, by rw [hU]; exact hsz⟩⟩ rfl (by rw [List.length_map]; have := congrArg List.length hx4; simp at this; omega) l1.1 (by rw [x2, hx4]; simp [← List.map_reverse, cv_ref hk9]) (lv_room (by rw [map_cat]; exact Nat.le_trans (short_cat hsh) (by omega))) hd ⟨by omega, by omega⟩
    refine W.callM hrun hS fun v M' H1 locs1 hq hw1 hS1 => ?_
    rw [← oc_map]
    exact hk _ _ _ _ hq.2 H1 locs1 la (cells + 0) (slots + 0) hw1 hS1 ⟨lv, l1, l2⟩ (by rw [hq.1]; exact h1) (by rw [hq.1]; exact h2) h3 h4
  next => exact hx.elim
end CLS
/-! how a method begins and ends -/
def ent : List Value → Vals
  | [] => []
  | v :: r => bif wide (some v) then some v :: none :: ent r else some v :: ent r
def pad (n : Nat) (ls : Vals) : Vals := ls ++ List.replicate (n - ls.length) none
theorem wide_cat2 (v : Value) : wide (some v) = true ↔ v.category = 2 := by cases v <;> simp [wide, Value.category]
theorem lg_sl_cons (v : Value) (r : List Value) : lg_sl (v :: r) = (if v.category = 2 then [.val v, .second] else [.val v]) ++ lg_sl r := by simp [lg_sl]
theorem ent_len (ad : Nat → Nat) : ∀ av : List Value, (lg_sl (av.map (cv ad))).length = (ent av).length
  | [] => rfl
  | v :: r => by
    have ih := ent_len ad r
    by_cases h : v.category = 2
    · rw [List.map_cons, lg_sl_cons]; simp [ent, (wide_cat2 v).mpr h, cv_cat, h, ih]
    · have hw : wide (some v) = false := by
        cases hw : wide (some v) with
        | true => exact absurd ((wide_cat2 v).mp hw) h
        | false => rfl
      rw [List.map_cons, lg_sl_cons]; simp [ent, hw, cv_cat, h, ih]
theorem ent_at (ad : Nat → Nat) : ∀ (av : List Value) (b i : Nat) (v : Value), (ent av)[i]? = some (some v) → (b + i, cv ad v) ∈ lv_args b (av.map (cv ad))
  | [], b, i, v, h => by simp [ent] at h
  | w :: r, b, i, v, h => by
    by_cases hc : w.category = 2
    · have hw := (wide_cat2 w).mpr hc
      simp only [ent, hw, cond_true] at h
      simp only [List.map_cons, lv_args, cv_cat, hc, if_true]
      match i, h with
      | 0, h => simp at h; subst h; exact List.mem_cons_self
      | 1, h => simp at h
      | i + 2, h =>
        simp only [List.getElem?_cons_succ] at h
        have := ent_at ad r (b + 2) i v h
        rw [show b + (i + 2) = b + 2 + i by omega]
        exact List.mem_cons_of_mem _ this
    · have hw : wide (some w) = false := by
        cases hw : wide (some w) with
        | true => exact absurd ((wide_cat2 w).mp hw) hc
        | false => rfl
      simp only [ent, hw, cond_false] at h
      simp only [List.map_cons, lv_args, cv_cat, hc, if_false]
      match i, h with
      | 0, h => simp at h; subst h; exact List.mem_cons_self
      | i + 1, h =>
        simp only [List.getElem?_cons_succ] at h
        have := ent_at ad r (b + 1) i v h
        rw [show b + (i + 1) = b + 1 + i by omega]
        exact List.mem_cons_of_mem _ this
theorem pad_at {n i : Nat} {ls : Vals} {v : Value} (h : (pad n ls)[i]? = some (some v)) : ls[i]? = some (some v) := by
  unfold pad at h
  by_cases hi : i < ls.length
  · rwa [List.getElem?_append_left hi] at h
  · rw [List.getElem?_append_right (by omega), List.getElem?_replicate] at h
    split at h <;> simp at h
theorem RO.meth {mt : Mt} {R : Option Value → Mem → Prop} {p : Program} {l : Launch} {e : Env} {s : State} {m : MethodId} {args : Array Value} {below : List Frame} {meth : Method} {c : Code} {D : va_G} {ca : Nat → ClassId} {ad : Nat → Nat} {N0 S0 : Nat} (hx : p.tables.exec = Jvm.exec) (hb : c.code = mt.1) (hr : meth.sig.returnType = mt.2.2.2.1) (hlocks : meth.locks = false) : RO mt R p l e s m args below meth c D ca ad N0 S0 (MQ below (QcM D ca ad R) args s mt.2.2.2.2.1.cells mt.2.2.2.2.1.slots (AA ad)) := by
  intro r M H locs la pc cells slots hR hw hS h1 h2 h3 h4 hrt hd
  refine W.widen (k := mt.2.2.2.2.1.cells) (n := mt.2.2.2.2.1.slots) h3 h4 ?_
  have hq : ∀ t : State, t.heap = H → QcM D ca ad R args s (.returned (r.map (cv ad))) t := fun t ht => ⟨⟨r, M, rfl, hR, by rw [ht]; exact hw⟩, hS.F ht⟩
  unfold rtOk at hrt
  split at hrt
  next e1 => exact W.vret hx hb (hr.trans e1) (fun t ht _ => hq t ht) hS.2.2 hd
  next v e1 => exact W.iret hx hb (hr.trans e1) (fun t ht _ => hq t ht) hS.2.2 hd
  next v e1 => exact W.zret hx hb (hr.trans e1) (by rcases hrt with h | h <;> subst h <;> rfl) (fun t ht _ => hq t ht) hS.2.2 hd
  next v e1 => exact W.lret hx hb (hr.trans e1) (fun t ht _ => hq t ht) hS.2.2 hd
  next => exact hrt.elim
theorem Ok.of {y : MethodName} {mt : Mt} {P : PTT} (hy : plainName y.cls = true) (hn : mt.2.1 = y.cls) (hi : mt.2.2.2.2.2.1 = false) (hs : mt.2.2.2.2.2.2.1 = none) (ha : mt.2.2.2.2.2.2.2 = none) (h : ∀ av M R, P av M R → (ent av).length ≤ mt.2.2.1 ∧ J mt R 0 (pad mt.2.2.1 (ent av)) [] M) : Ok y mt P := by
  intro l D ca ad av M R hP
  obtain ⟨hlen, hJ⟩ := h av M R hP
  refine Met.ofW (cc := mt.1) (maxL := mt.2.2.1) (ret := mt.2.2.2.1) hy rfl ?_
  intro p e s m args below meth c s₁ B hml hv
  obtain ⟨rfl, hw, hev, hsz⟩ := hv
  have hts := atoms_spec (ws := mtWs y mt) B.pre
  have hown : s.vm.findClass mt.2.1 = some m.cls := by rw [hn]; exact findClass_of_methodNamed B.named
  have hc : HC mt p s m (av.map (cv ad)).toArray meth c D ca ad M.1.1 M.1.2.1 := ⟨B.exec, B.bytes, hml, hown, fun w hw => hts w (List.mem_cons_of_mem _ hw), B.notSynchronized, B.returns, fun h => (by rw [hi] at h; cases h), by rw [hs]; exact hev, hsz, fun q hq => (by rw [ha] at hq; cases hq)⟩
  rw [lg_entry_eq]
  have hl := lv_entry (av.map (cv ad)) (n := mt.2.2.1) (by rw [ent_len]; exact hlen)
  exact hJ p l e s m _ below meth c D ca ad M.1.1 M.1.2.1 _ hc (RO.meth B.exec B.bytes B.returns B.notSynchronized) s.heap [] _ 0 0 hw va_S.rf ⟨_, hl, fun i v hi => by have := ent_at ad av 0 i v (pad_at hi); rwa [Nat.zero_add] at this⟩ rfl rfl (Nat.zero_le _) (Nat.zero_le _)
section RET
variable {mt : Mt} {pc : Nat}
theorem s_rI (hd : decode mt.1 pc = .ok (.ireturn, 1)) (hr : mt.2.2.2.1 = some .int) : Snd mt pc x_rI := by
  intro R p l e s m args below meth c D ca ad N0 S0 Q hc ro ls st M K hx hk
  unfold x_rI at hx; split at hx
  next v =>
    intro H locs la cells slots hw hS hl h1 h2 h3 h4
    exact ro (some (.int v)) M H locs la pc cells slots hx hw hS h1 h2 h3 h4 (by rw [hr]; trivial) hd
  next => exact hx.elim
theorem s_rZ (hd : decode mt.1 pc = .ok (.ireturn, 1)) (hr : mt.2.2.2.1 = some .boolean) : Snd mt pc x_rZ := by
  intro R p l e s m args below meth c D ca ad N0 S0 Q hc ro ls st M K hx hk
  unfold x_rZ at hx; split at hx
  next v =>
    intro H locs la cells slots hw hS hl h1 h2 h3 h4
    exact ro (some (.int v)) M H locs la pc cells slots hx.2 hw hS h1 h2 h3 h4 (by rw [hr]; exact hx.1) hd
  next => exact hx.elim
theorem s_rL (hd : decode mt.1 pc = .ok (.lreturn, 1)) (hr : mt.2.2.2.1 = some .long) : Snd mt pc x_rL := by
  intro R p l e s m args below meth c D ca ad N0 S0 Q hc ro ls st M K hx hk
  unfold x_rL at hx; split at hx
  next v =>
    intro H locs la cells slots hw hS hl h1 h2 h3 h4
    exact ro (some (.long v)) M H locs la pc cells slots hx hw hS h1 h2 h3 h4 (by rw [hr]; trivial) hd
  next => exact hx.elim
theorem s_r0 (hd : decode mt.1 pc = .ok (.return_, 1)) (hr : mt.2.2.2.1 = none) : Snd mt pc x_r0 := by
  intro R p l e s m args below meth c D ca ad N0 S0 Q hc ro ls st M K hx hk
  unfold x_r0 at hx; split at hx
  next =>
    intro H locs la cells slots hw hS hl h1 h2 h3 h4
    exact ro none M H locs la pc cells slots hx hw hS h1 h2 h3 h4 (by rw [hr]; trivial) hd
  next => exact hx.elim
end RET
