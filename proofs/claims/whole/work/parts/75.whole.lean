/-! THE WHOLE: the claim out of one walk of the law -/
def R_law : String := "SparseChecksLaw"
def lw_P (b : Addr) (xs : List Int32) (args : Array Value) (s : State) : Prop := args = #[.ref b] ∧ s.IntsAt b xs ∧ xs.length ≤ 2048 ∧ (Jvm.Cond.and given_1 narrow_1).before args s = true
def lw_Q (_ : Array Value) (s : State) (o : Outcome) (t : State) : Prop := o = .returned (some (.int 1)) ∧ Framed s o t [] 600000 7302250
def lw_Z (below : List Frame) (a : Array Value) (s : State) : State → Prop := fun t => ∃ o, t.status = .running ∧ Ended t below o ∧ lw_Q a s o t
/-- the law's own end, with 1 on the stack, nothing written that was there before, its room as the claim has it -/
theorem lw_ret {p : Program} {l : Launch} {e : Env} {s : State} {m : MethodId} {below : List Frame} {meth : Method} {c : Code} {b : Nat} (hx : p.tables.exec = Jvm.exec) (hb : c.code = code) (hr : meth.sig.returnType = ret) (hlocks : meth.locks = false) {pc : Nat} {H : Heap} {ls : Array Slot} (hdg : decode code pc = .ok (.ireturn, 1)) : W p l e room_1 s m #[Value.ref b] below meth c H [] 600000 7302250 (lw_Z below #[Value.ref b] s) (F0 m pc ls [.int 1]) := by
  intro T hT X
  obtain ⟨fs, hret, hrun, hended, hW, hframe⟩ := X.leave (v := some (.int 1)) (hlocks := hlocks) (fun h => by rw [hr] at h; cases h)
  have hmeth' : T.vm.method? m = some meth := X.method'
  refine ⟨T.setFrames fs, ?_, .returned (some (.int 1)), hrun, hended, rfl, ⟨_, rfl⟩, hW, hframe⟩
  jvm_step X.here [X.here.top, hx, hb, hdg, hmeth', hr, ret, narrow_b1]
  (try refine ⟨rfl, ?_⟩); (try refine ⟨rfl, ?_⟩)
  first | (intro acts; rw [hret _ acts rfl rfl rfl]) | rw [hret _ _ rfl rfl rfl]
  exact Steps.refl _
/-- what holds at the law's entry: the machine, the code, the tables' words (any of lw_tbl by 'hts w (by decide +kernel)'), the script of L ints xs at the cell b, what the Statement gives of the start (any of its parts by flat_of_before) -/
def lw_At (p : Program) (s : State) (m : MethodId) (meth : Method) (c : Code) (b L : Nat) (xs : Nat → Int32) : Prop :=
  p.tables.exec = Jvm.exec ∧ c.code = code ∧ meth.sig.returnType = ret ∧ c.maxLocals = 4 ∧ s.vm.findClass R_law = some m.cls ∧ (∀ w ∈ lw_tbl, w.before #[Value.ref b] s = true) ∧ va_X b L xs s s.heap ∧ b < s.heap.size ∧ meth.locks = false ∧ (Jvm.Cond.and given_1 narrow_1).before #[Value.ref b] s = true
theorem cl_inst {ci : Nat} (h : ci < 11) : Cond.instantiable (RCl ci) (nfC ci) ∈ tblG := by
  match ci, h with
  | 0, _ => exact tg 218 (by decide +kernel) (by decide +kernel)
  | 1, _ => exact tg 169 (by decide +kernel) (by decide +kernel)
  | 2, _ => exact tg 218 (by decide +kernel) (by decide +kernel)
  | 3, _ => exact tg 71 (by decide +kernel) (by decide +kernel)
  | 4, _ => exact tg 238 (by decide +kernel) (by decide +kernel)
  | 5, _ => exact tg 116 (by decide +kernel) (by decide +kernel)
  | 6, _ => exact tg 205 (by decide +kernel) (by decide +kernel)
  | 7, _ => exact tg 65 (by decide +kernel) (by decide +kernel)
  | 8, _ => exact tg 195 (by decide +kernel) (by decide +kernel)
  | 9, _ => exact tg 57 (by decide +kernel) (by decide +kernel)
  | 10, _ => exact tg 687 (by decide +kernel) (by decide +kernel)
theorem kCl_at {k : Nat} {q : vw_C} (h : kCl[k]? = some q) : ∃ hk : k < 11, q = (RCl k, TCl k, nfC k) := by
  have hk : k < 11 := (List.getElem?_eq_some_iff.mp h).1
  exact ⟨hk, Option.some.inj (h.symm.trans (cl_at hk))⟩
set_option maxRecDepth 20000 in
/-- the law, from its entry -/
theorem whole_start {p : Program} {e : Env} {s : State} {m : MethodId} {below : List Frame} {meth : Method} {c : Code} (l : Launch) (hflags : l.flags = flags0) {b L : Nat} {xs : Nat → Int32} (hL : L ≤ 2048) (C0 : lw_At p s m meth c b L xs) : W p l e room_1 s m #[Value.ref b] below meth c s.heap [] 0 0 (lw_Z below #[Value.ref b] s) (entryFrame m ([Value.ref b] : List Value).toArray 4) := by
  obtain ⟨hx, hb, hr, hml, hown, hts, hX, hbl, hlocks, hgv⟩ := id C0
  have htg : ∀ w ∈ tblG, w.before #[Value.ref b] s = true := fun w hw => hts w (List.mem_filter.mp hw).1
  have hk : ∀ ci, ci < 11 → ∃ (cC : ClassId) (iS : Nat → Nat), u_Kn s (RCl ci) (TCl ci) (nfC ci) cC iS := fun ci hci => u_known (n := nfC ci) htg (cl_in hci) (htg _ (cl_inst hci))
  obtain ⟨dC, dI, hKc⟩ : ∃ (dC : Nat → ClassId) (dI : Nat → Nat → Nat), ∀ (k : Nat) (q : vw_C), kCl[k]? = some q → u_Kn s q.1 q.2.1 q.2.2 (dC k) (dI k) := by
    refine ⟨fun k => if h : k < 11 then Classical.choose (hk k h) else (Classical.choose (hk 0 (by decide))), fun k => if h : k < 11 then Classical.choose (Classical.choose_spec (hk k h)) else fun _ => 0, fun k q hq => ?_⟩
    obtain ⟨h, rfl⟩ := kCl_at hq
    simp only [dif_pos h]
    exact Classical.choose_spec (Classical.choose_spec (hk k h))
  obtain ⟨cI, kI, oI, i1, i2, i3⟩ := Cond.arrayClass_spec (htg _ (tg (w := Cond.arrayClass .int) 102 (by decide +kernel) (by decide +kernel)))
  obtain ⟨cZ, kZ, oZ, z1, z2, z3⟩ := Cond.arrayClass_spec (htg _ (tg (w := Cond.arrayClass .boolean) 288 (by decide +kernel) (by decide +kernel)))
  have hao : (Cond.arrayOver (.object RX5)).before #[Value.ref b] s = true := hts _ (List.mem_of_getElem? (i := 224) (by decide +kernel))
  obtain ⟨oO, cO, kO, q1, q2, q3, q4, q5⟩ := Cond.arrayOver_spec hao
  obtain ⟨ca, c1, c2, c3⟩ : ∃ ca : Nat → ClassId, ca 1 = cI ∧ ca 2 = cZ ∧ ca 3 = cO := ⟨fun t => if t = 1 then cI else if t = 2 then cZ else cO, rfl, rfl, rfl⟩
  have hK : va_K (dC, dI) kCl (tysC ca) s := by
    refine ⟨hKc, fun k q hq => ?_⟩
    match k, hq with
    | 0, hq => cases hq; rw [c1]; exact ⟨fun n z => ⟨fun k h => (by cases h), kI, i2, oI, i3⟩, i1⟩
    | 1, hq => cases hq; rw [c2]; exact ⟨fun n z => ⟨fun k h => (by cases h), kZ, z2, oZ, z3⟩, z1⟩
    | 2, hq => cases hq; rw [c3]; exact ⟨fun n z => ⟨fun k h => (by cases h), kO, q3, oO, q4⟩, kO, oO, q3, q4, q1, q5⟩
    | k + 3, hq => simp [tysC] at hq
  have hs := flat_of_before _ hgv
  have hA0 : ∀ a : Nat, a < s.heap.size → ¬ (fun q : Nat => s.heap.size ≤ q) a := fun a ha => Nat.not_le.mpr ha
  obtain ⟨tF, hF1, hF2⟩ := va_Tof (args := #[Value.ref b]) (s := s) (tm := .static "SparseChecks" "FACTORIALS" "[I") (ty := .int) (N := 7) (f := fun j => .int (facI j)) (A := fun q : Nat => s.heap.size ≤ q) (by decide) (hs _ (by decide +kernel)) (va_eqt (z := 7) (hs _ (by decide +kernel))) (fun j hj => by
    match j, hj with
    | 0, _ => exact va_eqt (z := 1) (hs (.eq (.elem (.static "SparseChecks" "FACTORIALS" "[I") (.int 0)) (.int 1)) (by decide +kernel))
    | 1, _ => exact va_eqt (z := 1) (hs (.eq (.elem (.static "SparseChecks" "FACTORIALS" "[I") (.int 1)) (.int 1)) (by decide +kernel))
    | 2, _ => exact va_eqt (z := 2) (hs (.eq (.elem (.static "SparseChecks" "FACTORIALS" "[I") (.int 2)) (.int 2)) (by decide +kernel))
    | 3, _ => exact va_eqt (z := 6) (hs (.eq (.elem (.static "SparseChecks" "FACTORIALS" "[I") (.int 3)) (.int 6)) (by decide +kernel))
    | 4, _ => exact va_eqt (z := 24) (hs (.eq (.elem (.static "SparseChecks" "FACTORIALS" "[I") (.int 4)) (.int 24)) (by decide +kernel))
    | 5, _ => exact va_eqt (z := 120) (hs (.eq (.elem (.static "SparseChecks" "FACTORIALS" "[I") (.int 5)) (.int 120)) (by decide +kernel))
    | 6, _ => exact va_eqt (z := 720) (hs (.eq (.elem (.static "SparseChecks" "FACTORIALS" "[I") (.int 6)) (.int 720)) (by decide +kernel))) hA0
  have hZ := va_Zref (C := "SparseChecks") (n := "FACTORIALS") (d := "[I") (A := fun q : Nat => s.heap.size ≤ q) (hts _ (List.mem_of_getElem? (i := 649) (by decide +kernel))) (hts (.initialized "SparseChecks") (by decide +kernel)) hF1 hA0
  obtain ⟨ad, a1, a2, a3⟩ : ∃ ad : Nat → Nat, (∀ k, k < 9000 → ad k = s.heap.size + k) ∧ ad 9001 = tF ∧ ad 9002 = b := ⟨fun k => if k = 9001 then tF else if k = 9002 then b else s.heap.size + k, fun k hk => by simp only []; rw [if_neg (by omega), if_neg (by omega)], rfl, rfl⟩
  have a0 : ad 0 = s.heap.size := a1 0 (by omega)
  have hAA : ∀ q, AA ad q → s.heap.size ≤ q := fun q hq => by have : ad 0 ≤ q := hq; omega
  have hEv : Ev (dC, dI) ca ad (some (L, xs)) s := by
    refine ⟨hK, fun k hk => by rw [a1 k hk, a0], ?_, ?_, va_Nw.of rfl (hts _ (List.mem_of_getElem? (i := 465) (by decide +kernel))), va_Nw.of rfl (hts _ (List.mem_of_getElem? (i := 648) (by decide +kernel))), hao, fun q hq => ?_, by rw [a0]; exact Nat.le_refl _⟩
    · rw [a2]; exact hZ.narrow hAA
    · rw [a2]; exact hF2.narrow hAA
    · cases hq
      rw [a3, a0]
      exact ⟨hX, hbl, hbl⟩
  have hc : HC (mt_L_law (L, xs)) p s m #[Value.ref b] meth c (dC, dI) ca ad 0 0 := ⟨hx, hb, hml, hown, htg, hlocks, hr, fun h => (by cases h), hEv, by rw [a0]; rfl, fun q hq => by cases hq; exact ⟨rfl, rfl⟩⟩
  have ro : RO (mt_L_law (L, xs)) (fun r _ => r = some (.int 1)) p l e s m #[Value.ref b] below meth c (dC, dI) ca ad 0 0 (lw_Z below #[Value.ref b] s) := by
    intro r M H locs la pc cells slots hr1 hw hS h1 h2 h3 h4 hrt hd
    subst hr1
    refine va_forget (fun q hq => hAA _ (hS.2.2 q hq)) ?_
    refine W.widen (k := 600000) (n := 7302250) h3 h4 ?_
    exact lw_ret hx hb hr hlocks hd
  have hw : Wd (dC, dI) ca ad ((0, 0, fun _ => (0, 0), fun _ _ => 9999), fun _ _ => 0, fun _ _ => 0) s.heap := ⟨fun k q h => by simp [wsM] at h, Nat.zero_le _⟩
  have hl := lv_entry ([.ref b]) (n := 4) (Nat.le_of_ble_eq_true rfl)
  rw [lg_entry_eq]
  refine law_start (sq := (L, xs)) hL (fun _ => rfl) p l e s m #[Value.ref b] below meth c (dC, dI) ca ad 0 0 (lw_Z below #[Value.ref b] s) hc ro s.heap [] _ 0 0 hw va_S.rf ⟨_, hl, fun i v hi => ?_⟩ rfl rfl (Nat.zero_le _) (Nat.zero_le _)
  match i, hi with
  | 0, hi =>
    cases hi
    rw [cv_ref' (by decide), a3]
    exact List.mem_cons_self
  | 1, hi => cases hi
  | 2, hi => cases hi
  | 3, hi => cases hi
  | i + 4, hi => simp at hi
set_option maxHeartbeats 4000000 in
theorem lw_walk (l : Launch) (hflags : l.flags = flags0) (b : Addr) (xs : List Int32) : MetFree l x (headSpec (Jvm.Cond.code x code maxLocals ret :: tables_1) room_1) (lw_P b xs) (fun _ _ _ _ _ => True) lw_Q := by
  refine MetFree.of_bodyS (code := code) (maxLocals := maxLocals) (ret := ret) (by decide) ?_ ?_
  · intro args s m h hn
    obtain ⟨meth, c, h1, h2, h3, h4, h5, h6, -, -⟩ := Cond.code_spec hn (atoms_spec (ws := Jvm.Cond.code x code maxLocals ret :: tables_1) h _ List.mem_cons_self)
    exact ⟨meth, c, h1, h2, h3, h4, h5, h6⟩
  · intro p e s m args below meth c s₁ B hml0 hP _
    obtain ⟨rfl, hx, hbd, hgv⟩ := hP
    obtain ⟨scr, harrAt, hlist, hof, hsmall⟩ := hx
    obtain ⟨hcb, hkn, -, -⟩ := State.arrayAt?_spec harrAt
    have hown : s.vm.findClass R_law = some m.cls := findClass_of_methodNamed B.named
    have hts0 : ∀ c ∈ (Jvm.Cond.code x code maxLocals ret :: tables_1), c.before #[Value.ref b] s = true := atoms_spec (ws := Jvm.Cond.code x code maxLocals ret :: tables_1) B.pre
    have hts : ∀ w ∈ lw_tbl, w.before #[Value.ref b] s = true := k2_hts_sels lw_privs (fun w hw => hts0 w (List.mem_cons_of_mem _ hw)) lw_privs_ok
    have hml : c.maxLocals = 4 := B.maxLocals_eq (hts0 _ List.mem_cons_self)
    have X₀ : Stand p l e room_1 s m #[Value.ref b] below meth c s₁ [] 0 0 := Stand.of_body B
    have hh0 : s₁.heap = s.heap := by rw [B.state]; rfl
    have hsz : scr.slots.size = xs.length := by rw [← Array.length_toList, hlist, List.length_map]
    have hval : ∀ j : Nat, j < xs.length → scr.slots[j]? = some (.int (xs.getD j 0)) := fun j hj => by
      rw [← Array.getElem?_toList, hlist]
      simp [hj]
    have hbl : b < s.heap.size := (Array.getElem?_eq_some_iff.mp hcb).1
    have hX : va_X b xs.length (fun j => xs.getD j 0) s s.heap := ⟨scr, hcb, hof, hkn, hsz, hval⟩
    have K : W p l e room_1 s m #[Value.ref b] below meth c s₁.heap [] 0 0 (lw_Z below #[Value.ref b] s) (entryFrame m ([Value.ref b] : List Value).toArray 4) := by
      rw [hh0]
      exact whole_start l hflags hbd ⟨B.exec, B.bytes, B.returns, hml, hown, hts, hX, hbl, B.notSynchronized, hgv⟩
    obtain ⟨t, a1, o, b1, b2, b3⟩ := K s₁ rfl X₀
    exact ⟨t, o, a1, b1, b2, b3⟩
theorem lw_pre_spec {args : Array Value} {s : State} (h : (Jvm.Cond.and given_1 narrow_1).before args s = true) (hr : rest_1_c.before args s = true) : ∃ (b : Addr) (xs : List Int32), lw_P b xs args s := by
  have hs := flat_of_before _ h
  have hq := flat_of_before _ hr
  have hc : (Cond.count 1).before args s = true := hs _ (by decide +kernel)
  have harr : (Cond.arrayOf (.arg 0) .int).before args s = true := hs _ (by decide +kernel)
  have hle : (Cond.le (.length (.arg 0)) (.int 2048)).before args s = true := hs _ (by decide +kernel)
  have hlen : (Cond.isInt (.length (.arg 0))).before args s = true := hq _ (by decide +kernel)
  have hall : (Cond.all (.arg 0) (.isInt (.elem (.arg 0) (.index 0)))).before args s = true := hq _ (by decide +kernel)
  obtain ⟨b, xs, hb, hx⟩ := State.ints_of_pre rfl harr hlen hall
  have hsm : xs.length < 2 ^ 31 := hx.choose_spec.2.2.2
  have hev : (Term.length (.arg 0)).eval args s none [] s = some (.int xs.length.toInt32) := hx.length_eval hb
  have hv := Cond.le_ints hev (show (Term.int 2048).eval args s none [] s = some (.int 2048) from rfl)
  have hd : xs.length.toInt32 ≤ 2048 := by
    simpa [Cond.before, Cond.holds, hv] using hle
  have hN : xs.length ≤ 2048 := (Int32.ofNat_le_ofNat hsm (by decide)).mp (show Int32.ofNat xs.length ≤ Int32.ofNat 2048 from hd)
  exact ⟨b, xs, Cond.one_arg hc (show args[0]? = some (.ref b) from hb), hx, hN, h⟩
theorem lw_comes (l : Launch) (hflags : l.flags = flags0) : Comes l x (Jvm.Cond.code x code maxLocals ret :: tables_1) room_1 (fun tb e args s => Calls_1 tb e args s ∧ rest_1 tb e args s ∧ Pre_1 tb e args s)
    (fun _ _ args s o t => lw_Q args s o t) := by
  intro p e ha hc hk s m args below hf hfit hheap happ hpre
  obtain ⟨b, xs, hP⟩ := lw_pre_spec hpre.2.2 hpre.2.1
  obtain ⟨k, o, h1, h2, h3, hQ⟩ := lw_walk l hflags b xs p e ha hc hk s m args below hf ((Spec.applies_iff_loose hf).mp happ).1 hP trivial
  exact ⟨k, o, h1, h2, h3, hQ⟩
theorem lw_frame {s t : State} {o : Outcome} {args : Array Value} (h : Framed s o t [] 600000 7302250) :
    Framed s o t (fieldLocs frame_1_writes args s ++ arrayLocs frame_1_arrays args s ++ staticLocs frame_1_statics s) 600000 7302250 := h
theorem lw_limb (L : Cond) (hL : ∀ (args : Array Value) (s t : State), L.after args s (.returned (some (.int 1))) t = true) :
    ArmFor flags0 classFile x code maxLocals ret World_1 tables_1 room_1 Calls_1 rest_1 Pre_1
      (fun tb e a s o t => postC L tb e a s o t ∧ Framed s o t (fieldLocs frame_1_writes a s ++ arrayLocs frame_1_arrays a s ++ staticLocs frame_1_statics s) 600000 7302250) := by
  intro l hflags _ _ p e ha hc hk s m args below hf hfit hheap happ hpre
  obtain ⟨k, o, h1, h2, h3, rfl, hF⟩ := lw_comes l hflags p e ha hc hk s m args below hf hfit hheap happ hpre
  exact ⟨k, _, h1, h2, h3, hL args s _, lw_frame hF⟩
theorem i_vc : Claimed_1_1 ∧ Claimed_1_2 := ⟨lw_limb limb_1_1 (fun args s t => by simp [limb_1_1, Cond.after, Cond.holds, Cond.value]), lw_limb limb_1_2 (fun args s t => Cond.after_iff.mpr (by
  first | (rw [show limb_1_2 = Cond.eq .result (.int 1) from rfl, Cond.eq_ints (x := 1) (y := 1) rfl rfl]; simp; done) | (simp [limb_1_2, Cond.value, Term.eval]; done)))⟩
