/-! DECODER: how many rounds are needed; the order of checks -/
def opD (n m : Nat) (ov : Nat → Nat) (d : DS) : Nat := opB ov m (wdF d.1 n)
/-- NEEDS, and behind how many rounds one stands then -/
def ndR (sol : Nat → Bool) : Nat → Nat → Int32 × Nat
  | 0, r => (if sol r = true then nI r else -9, r)
  | d + 1, r => if sol r = true then (nI r, r) else ndR sol d (r + 1)
def need (sol : Nat → Bool) : Int32 × Nat := ndR sol 20 0
def d0S (I : MI) (k : Nat) : DS := (cpy (I (k + 2)) (I (k + 3)) 9, zr (I (k + 4)) 54)
def solS (n m : Nat) (off : Int32) (ov ord : Nat → Nat) (d : DS) : Nat → Bool := fun r => opD n m ov (itD n m off ov ord r d) == 0
theorem ndR_congr {f g : Nat → Bool} : ∀ {d r : Nat}, (∀ j, j ≤ r + d → f j = g j) → ndR f d r = ndR g d r
  | 0, r, h => by simp only [ndR]; rw [h r (by omega)]
  | d + 1, r, h => by
    simp only [ndR]
    rw [h r (by omega), ndR_congr (fun j hj => h j (by omega))]
theorem need_congr {f g : Nat → Bool} (h : ∀ j, j ≤ 20 → f j = g j) : need f = need g := ndR_congr (fun j hj => h j (by omega))
theorem ndR_le (f : Nat → Bool) : ∀ d r, (ndR f d r).2 ≤ r + d
  | 0, r => Nat.le_refl _
  | d + 1, r => by
    simp only [ndR]
    split
    · simp only; omega
    · have := ndR_le f d (r + 1); omega
theorem need_le (f : Nat → Bool) : (need f).2 ≤ 20 := by have := ndR_le f 20 0; unfold need; omega
theorem ndR_no {f : Nat → Bool} : ∀ {d r : Nat}, (∀ j, r ≤ j → j ≤ r + d → f j = false) → ndR f d r = (-9, r + d)
  | 0, r, h => by simp only [ndR]; rw [h r (by omega) (by omega)]; rfl
  | d + 1, r, h => by
    simp only [ndR]
    rw [h r (by omega) (by omega), if_neg (by decide), ndR_no (fun j h1 h2 => h j (by omega) (by omega))]
    congr 1
    omega
theorem d0_ok {I : MI} {k n m : Nat} (h : SV I k n m) : DSok (d0S I k) := by
  refine ⟨fun b hb => ?_, fun j hj => ?_⟩
  · simp only [d0S]; rw [cpy_in hb]
    have := h.2.2.2.2.1 b hb
    exact ⟨by have := this.1; omega, by have := this.2; omega⟩
  · simp only [d0S, zr]; rw [if_pos hj]; exact ⟨by decide, by decide⟩
theorem beg_r {I : MI} {k q : Nat} (h0 : q ≠ k) (h3 : q ≠ k + 3) (h4 : q ≠ k + 4) : begI I k q = I q := by
  unfold begI; rw [mS_n h0, mS_n h4, mS_n h3]
theorem beg_k (I : MI) (k : Nat) : begI I k k = upd (I k) 7 0 := by unfold begI; rw [mS_s]
theorem beg_3 (I : MI) (k : Nat) : begI I k (k + 3) = cpy (I (k + 2)) (I (k + 3)) 9 := by unfold begI; rw [mS_n (by omega), mS_n (by omega), mS_s]
theorem beg_4 (I : MI) (k : Nat) : begI I k (k + 4) = zr (I (k + 4)) 54 := by unfold begI; rw [mS_n (by omega), mS_s]
theorem SV_beg {I : MI} {k n m : Nat} (h : SV I k n m) : SV (begI I k) k n m := by
  have hok := d0_ok h
  obtain ⟨a, b, c, d, e, f, g⟩ := h
  have e1 : begI I k (k + 1) = I (k + 1) := beg_r (by omega) (by omega) (by omega)
  have e2 : begI I k (k + 2) = I (k + 2) := beg_r (by omega) (by omega) (by omega)
  refine ⟨a, by rw [beg_k]; simpa [upd_app] using b, by rw [e1]; exact c, by rw [beg_k]; simpa [upd_app] using d, by rw [e2]; exact e, by rw [beg_3]; exact hok.1, by rw [beg_4]; exact hok.2⟩
def il_X1_runUntilSolved : List (Nat × Instr × Nat) := [(0, .aload_n 1, 1), (1, .invokevirtual 31, 3), (4, .iconst 1, 1), (5, .istore_n 2, 1), (6, .iconst 0, 1), (7, .istore_n 3, 1), (8, .iload_n 3, 1), (9, .bipush 20, 2), (11, .if_icmp .ge 28, 3), (14, .iload_n 2, 1), (15, .ifCond .eq 24, 3), (18, .aload_n 1, 1), (19, .invokevirtual 34, 3), (22, .ifCond .eq 5, 3), (25, .iload_n 3, 1), (26, .ireturn, 1), (27, .aload_n 0, 1), (28, .aload_n 1, 1), (29, .invokevirtual 21, 3), (32, .istore_n 2, 1), (33, .iinc 3 1, 3), (36, .goto (-28), 3), (39, .aload_n 1, 1), (40, .invokevirtual 34, 3), (43, .ifCond .eq 8, 3), (46, .bipush 20, 2), (48, .goto 5, 3), (51, .bipush (-9), 2), (53, .ireturn, 1)]
def mt_X1_runUntilSolved : Mt := (cX1_runUntilSolved, RX1, 4, (some .int), ({ frames := 3, cells := 0, slots := 0, locals := 77 } : Room), false, none, none)
set_option maxRecDepth 100000 in
theorem dl_X1_runUntilSolved : ∀ q ∈ il_X1_runUntilSolved, decode (mt_X1_runUntilSolved).1 q.1 = .ok q.2 := by decide +kernel
def tb_X1_runUntilSolved : Tb := [(0, x_al 1 1, false),
  (1, x_cV 5 0 P_X5_beginAnew 4, false),
  (4, x_c 5 (.int 1), false),
  (5, x_is 6 2, false),
  (6, x_c 7 (.int 0), false),
  (7, x_is 8 3, false),
  (8, x_il 9 3, true),
  (9, x_c 11 (.int 20), false),
  (11, x_ic 39 14 (fun x y : Int32 => y ≤ x), false),
  (14, x_il 15 2, false),
  (15, x_if 39 18 (fun x : Int32 => x = 0), false),
  (18, x_al 19 1, false),
  (19, x_cV 5 0 P_X5_solved 22, false),
  (22, x_if 27 25 (fun x : Int32 => x = 0), false),
  (25, x_il 26 3, false),
  (26, x_rI, false),
  (27, x_al 28 0, false),
  (28, x_al 29 1, false),
  (29, x_cV 1 1 P_X1_runRound 32, false),
  (32, x_is 33 2, false),
  (33, x_inc 36 3 1, false),
  (36, x_go 8, false),
  (39, x_al 40 1, false),
  (40, x_cV 5 0 P_X5_solved 43, false),
  (43, x_if 51 46 (fun x : Int32 => x = 0), false),
  (46, x_c 48 (.int 20), false),
  (48, x_go 53, false),
  (51, x_c 53 (.int (-9)), false),
  (53, x_rI, false)]
set_option maxRecDepth 100000 in
theorem tk_X1_runUntilSolved : TbOk (mt_X1_runUntilSolved) (tb_X1_runUntilSolved) :=
  tkc (s_aload_n (at_ dl_X1_runUntilSolved 0 (ins := .aload_n 1) rfl)) (
  tkc (s_cV ok_X5_beginAnew (at_ dl_X1_runUntilSolved 1 (ins := .invokevirtual 31) rfl) (by decide) rfl (tg 451 (by decide +kernel) (by decide +kernel)) (tg 349 (by decide +kernel) (by decide +kernel)) (tg 350 (by decide +kernel) (by decide +kernel)) (tg 45 (by decide +kernel) (by decide +kernel)) (tg 351 (by decide +kernel) (by decide +kernel)) (⟨by decide, by decide, by decide +kernel⟩) (⟨by decide, by decide⟩) rfl rfl) (
  tkc (s_iconst (at_ dl_X1_runUntilSolved 2 (ins := .iconst 1) rfl) (by first | rfl | decide)) (
  tkc (s_istore_n (at_ dl_X1_runUntilSolved 3 (ins := .istore_n 2) rfl) (by decide)) (
  tkc (s_iconst (at_ dl_X1_runUntilSolved 4 (ins := .iconst 0) rfl) (by first | rfl | decide)) (
  tkc (s_istore_n (at_ dl_X1_runUntilSolved 5 (ins := .istore_n 3) rfl) (by decide)) (
  tkc (s_iload_n (at_ dl_X1_runUntilSolved 6 (ins := .iload_n 3) rfl)) (
  tkc (s_bipush (at_ dl_X1_runUntilSolved 7 (ins := .bipush 20) rfl) (by first | rfl | decide)) (
  tkc (s_ic_ge (at_ dl_X1_runUntilSolved 8 (ins := .if_icmp .ge 28) rfl) (by decide)) (
  tkc (s_iload_n (at_ dl_X1_runUntilSolved 9 (ins := .iload_n 2) rfl)) (
  tkc (s_if_eq (at_ dl_X1_runUntilSolved 10 (ins := .ifCond .eq 24) rfl) (by decide)) (
  tkc (s_aload_n (at_ dl_X1_runUntilSolved 11 (ins := .aload_n 1) rfl)) (
  tkc (s_cV ok_X5_solved (at_ dl_X1_runUntilSolved 12 (ins := .invokevirtual 34) rfl) (by decide) rfl (tg 452 (by decide +kernel) (by decide +kernel)) (tg 380 (by decide +kernel) (by decide +kernel)) (tg 381 (by decide +kernel) (by decide +kernel)) (tg 45 (by decide +kernel) (by decide +kernel)) (tg 382 (by decide +kernel) (by decide +kernel)) (⟨by decide, by decide, by decide +kernel⟩) (⟨by decide, by decide⟩) rfl rfl) (
  tkc (s_if_eq (at_ dl_X1_runUntilSolved 13 (ins := .ifCond .eq 5) rfl) (by decide)) (
  tkc (s_iload_n (at_ dl_X1_runUntilSolved 14 (ins := .iload_n 3) rfl)) (
  tkc (s_rI (at_ dl_X1_runUntilSolved 15 (ins := .ireturn) rfl) rfl) (
  tkc (s_aload_n (at_ dl_X1_runUntilSolved 16 (ins := .aload_n 0) rfl)) (
  tkc (s_aload_n (at_ dl_X1_runUntilSolved 17 (ins := .aload_n 1) rfl)) (
  tkc (s_cV ok_X1_runRound (at_ dl_X1_runUntilSolved 18 (ins := .invokevirtual 21) rfl) (by decide) rfl (tg 453 (by decide +kernel) (by decide +kernel)) (tg 454 (by decide +kernel) (by decide +kernel)) (tg 455 (by decide +kernel) (by decide +kernel)) (tg 46 (by decide +kernel) (by decide +kernel)) (tg 456 (by decide +kernel) (by decide +kernel)) (⟨by decide, by decide, by decide +kernel⟩) (⟨by decide, by decide⟩) rfl rfl) (
  tkc (s_istore_n (at_ dl_X1_runUntilSolved 19 (ins := .istore_n 2) rfl) (by decide)) (
  tkc (s_iinc (at_ dl_X1_runUntilSolved 20 (ins := .iinc 3 1) rfl) (by decide) (by first | rfl | decide)) (
  tkc (s_goto (at_ dl_X1_runUntilSolved 21 (ins := .goto (-28)) rfl) (by decide)) (
  tkc (s_aload_n (at_ dl_X1_runUntilSolved 22 (ins := .aload_n 1) rfl)) (
  tkc (s_cV ok_X5_solved (at_ dl_X1_runUntilSolved 23 (ins := .invokevirtual 34) rfl) (by decide) rfl (tg 452 (by decide +kernel) (by decide +kernel)) (tg 380 (by decide +kernel) (by decide +kernel)) (tg 381 (by decide +kernel) (by decide +kernel)) (tg 45 (by decide +kernel) (by decide +kernel)) (tg 382 (by decide +kernel) (by decide +kernel)) (⟨by decide, by decide, by decide +kernel⟩) (⟨by decide, by decide⟩) rfl rfl) (
  tkc (s_if_eq (at_ dl_X1_runUntilSolved 24 (ins := .ifCond .eq 8) rfl) (by decide)) (
  tkc (s_bipush (at_ dl_X1_runUntilSolved 25 (ins := .bipush 20) rfl) (by first | rfl | decide)) (
  tkc (s_goto (at_ dl_X1_runUntilSolved 26 (ins := .goto 5) rfl) (by decide)) (
  tkc (s_bipush (at_ dl_X1_runUntilSolved 27 (ins := .bipush (-9)) rfl) (by first | rfl | decide)) (
  tkc (s_rI (at_ dl_X1_runUntilSolved 28 (ins := .ireturn) rfl) rfl) ( tk0)))))))))))))))))))))))))))))
theorem lf_X1_runUntilSolved : lk (tb_X1_runUntilSolved) 0 = (x_al 1 1, false) ∧ lk (tb_X1_runUntilSolved) 1 = (x_cV 5 0 P_X5_beginAnew 4, false) ∧ lk (tb_X1_runUntilSolved) 4 = (x_c 5 (.int 1), false) ∧ lk (tb_X1_runUntilSolved) 5 = (x_is 6 2, false) ∧ lk (tb_X1_runUntilSolved) 6 = (x_c 7 (.int 0), false) ∧ lk (tb_X1_runUntilSolved) 7 = (x_is 8 3, false) ∧ lk (tb_X1_runUntilSolved) 8 = (x_il 9 3, true) ∧ lk (tb_X1_runUntilSolved) 9 = (x_c 11 (.int 20), false) ∧ lk (tb_X1_runUntilSolved) 11 = (x_ic 39 14 (fun x y : Int32 => y ≤ x), false) ∧ lk (tb_X1_runUntilSolved) 14 = (x_il 15 2, false) ∧ lk (tb_X1_runUntilSolved) 15 = (x_if 39 18 (fun x : Int32 => x = 0), false) ∧ lk (tb_X1_runUntilSolved) 18 = (x_al 19 1, false) ∧ lk (tb_X1_runUntilSolved) 19 = (x_cV 5 0 P_X5_solved 22, false) ∧ lk (tb_X1_runUntilSolved) 22 = (x_if 27 25 (fun x : Int32 => x = 0), false) ∧ lk (tb_X1_runUntilSolved) 25 = (x_il 26 3, false) ∧ lk (tb_X1_runUntilSolved) 26 = (x_rI, false) ∧ lk (tb_X1_runUntilSolved) 27 = (x_al 28 0, false) ∧ lk (tb_X1_runUntilSolved) 28 = (x_al 29 1, false) ∧ lk (tb_X1_runUntilSolved) 29 = (x_cV 1 1 P_X1_runRound 32, false) ∧ lk (tb_X1_runUntilSolved) 32 = (x_is 33 2, false) ∧ lk (tb_X1_runUntilSolved) 33 = (x_inc 36 3 1, false) ∧ lk (tb_X1_runUntilSolved) 36 = (x_go 8, false) ∧ lk (tb_X1_runUntilSolved) 39 = (x_al 40 1, false) ∧ lk (tb_X1_runUntilSolved) 40 = (x_cV 5 0 P_X5_solved 43, false) ∧ lk (tb_X1_runUntilSolved) 43 = (x_if 51 46 (fun x : Int32 => x = 0), false) ∧ lk (tb_X1_runUntilSolved) 46 = (x_c 48 (.int 20), false) ∧ lk (tb_X1_runUntilSolved) 48 = (x_go 53, false) ∧ lk (tb_X1_runUntilSolved) 51 = (x_c 53 (.int (-9)), false) ∧ lk (tb_X1_runUntilSolved) 53 = (x_rI, false) := ⟨rfl, rfl, rfl, rfl, rfl, rfl, rfl, rfl, rfl, rfl, rfl, rfl, rfl, rfl, rfl, rfl, rfl, rfl, rfl, rfl, rfl, rfl, rfl, rfl, rfl, rfl, rfl, rfl, rfl⟩
def P_X1_runUntilSolved : PTT := fun as M R => match as with
  | [.ref d, .ref k] => d = 15 ∧ IsDc M.1 ∧ IsSt M.1 k ∧ ap15 k ∧ ∃ n m, SV M.2.1 k n m ∧ OrdV M.2.1 m ∧ ∀ I', frR k M.2.1 I' → I' k = upd (M.2.1 k) 7 0 → (I' (k + 3), I' (k + 4)) = itD n m (M.2.1 k 6) (ovS M.2.1 k) (ordI M.2.1) (need (solS n m (M.2.1 k 6) (ovS M.2.1 k) (ordI M.2.1) (d0S M.2.1 k))).2 (d0S M.2.1 k) → R (some (.int (need (solS n m (M.2.1 k 6) (ovS M.2.1 k) (ordI M.2.1) (d0S M.2.1 k))).1)) (M.1, I', M.2.2)
  | _ => False
theorem nI20 : (20 : Int32) = nI 20 := by decide
set_option maxRecDepth 20000 in
theorem ok_X1_runUntilSolved : Ok yX1_runUntilSolved mt_X1_runUntilSolved P_X1_runUntilSolved := by
  refine Ok.of (by decide) rfl rfl rfl rfl fun av ⟨S, I, L⟩ R hP => ?_
  unfold P_X1_runUntilSolved at hP
  split at hP
  case h_2 => exact hP.elim
  rename_i d k
  obtain ⟨d, rfl⟩ : ∃ q : Nat, q = d := ⟨d, rfl⟩
  obtain ⟨k, rfl⟩ : ∃ q : Nat, q = k := ⟨k, rfl⟩
  refine ⟨by simp [ent, wide, mt_X1_runUntilSolved], ?_⟩
  show J mt_X1_runUntilSolved R 0 [some (.ref d), some (.ref k), none, none] [] (S, I, L)
  try dsimp only at hP
  obtain ⟨rfl, hd, hk, hj0, n, m, hv, ho, hR⟩ := hP
  have hj : (k : Nat) + 5 ≤ 15 ∨ 18 ≤ (k : Nat) := hj0
  obtain ⟨⟨n2, n9, m6⟩, -⟩ := id hv
  refine J.of tk_X1_runUntilSolved 200 fun ρ hρ => ?_
  simp only [hρ, x_c, x_il, x_ll, x_al, x_is, x_as, x_ls, x_inc, x_ii, x_iq, x_i1, x_l2, x_lq, x_lh, x_i2l, x_l2i, x_lcmp, x_dup, x_dup2, x_pop, x_if, x_ifn, x_ic, x_icn, x_go, x_sw, swc, x_l01, x_mx, x_gI, x_gL, x_gR, x_pI, x_pZ, x_pL, x_pR, x_ia, x_za, x_aa, x_ias, x_zas, x_aas, x_fac, x_fa, x_slen, x_sa, x_ac, x_oi, x_new, x_na, x_cS, x_cV, x_cI, x_rI, x_rZ, x_rL, x_r0, pa, short, oc, lg, lset, lset2, wide, cond_true, cond_false, true_and, and_true, ↓reduceIte, Bool.false_eq_true, true_or, or_true, lf_X1_runUntilSolved, hk, hk.f, P_X5_beginAnew]
  have hvb := SV_beg hv
  generalize hB : begI I k = B at hvb
  have hBk : B k = upd (I k) 7 0 := by rw [← hB, beg_k]
  have hB1 : B (k + 1) = I (k + 1) := by rw [← hB]; exact beg_r (by omega) (by omega) (by omega)
  have hB16 : B 16 = I 16 := by rw [← hB]; exact beg_r (by omega) (by omega) (by omega)
  have hBd : (B (k + 3), B (k + 4)) = d0S I k := by rw [← hB, beg_3, beg_4]; rfl
  have hBo : OrdV B m := by intro j hj; rw [hB16]; exact ho j hj
  have hoff : B k 6 = I k 6 := by rw [hBk]; rfl
  have hBov : ovS B k = ovS I k := ov_eq hB1
  have hBor : ordI B = ordI I := by funext j; simp only [ordI, hB16]
  generalize hsol : solS n m (I k 6) (ovS I k) (ordI I) (d0S I k) = sol at hR
  have key : ∀ dd i, i + dd = 20 → ∀ I' ch, frD k B I' → (I' (k + 3), I' (k + 4)) = itD n m (I k 6) (ovS I k) (ordI I) i (d0S I k) → (ch = 0 ∨ ch = 1) → (ch = 0 → itD n m (I k 6) (ovS I k) (ordI I) 20 (d0S I k) = itD n m (I k 6) (ovS I k) (ordI I) i (d0S I k) ∧ sol i = false ∧ need sol = (-9, 20)) → ndR sol dd i = need sol → J mt_X1_runUntilSolved R 8 [some (.ref 15), some (.ref k), some (.int ch), some (.int (nI i))] [] (S, I', L) := by
    intro dd
    induction dd with
    | zero =>
      intro i hi I' ch hf hD hch hz hnd
      have hi : i = 20 := by omega
      subst hi
      have e0 : I' k = B k := hf k (by omega) (by omega) (by omega) (by omega)
      have e1 : I' (k + 1) = B (k + 1) := hf (k + 1) (by omega) (by omega) (by omega) (by omega)
      have e2 : I' (k + 2) = B (k + 2) := hf (k + 2) (by omega) (by omega) (by omega) (by omega)
      have hok := itD_ok (n := n) (m := m) (off := I k 6) (ov := ovS I k) (ord := ordI I) (d0_ok hv) 20
      have hv' : SV I' k n m := SV_D hvb e0 e1 e2 (by rw [hD]; exact hok)
      have hs : (opS I' k = 0) ↔ sol 20 = true := by
        rw [← hsol]
        simp only [solS, opD, beq_iff_eq]
        rw [← hD]
        unfold opS
        rw [hv'.2.1.1, hv'.2.1.2, tn_nI (n := n) (by omega), tn_nI (n := m) (by omega), ov_eq (I := I) (e1.trans hB1)]
      have fin : ∀ v, (if sol 20 = true then nI 20 else -9) = v → R (some (.int v)) (S, I', L) := by
        intro v hv
        have h2 := hR I' (fun q a b c d e => by rw [hf q b c d e, ← hB]; exact beg_r a b c) (by rw [e0, hBk]) (by rw [← hnd]; exact hD)
        rw [← hnd] at h2
        simp only [ndR] at h2
        rwa [hv] at h2
      refine J.of tk_X1_runUntilSolved 200 fun ρ hρ => ?_
      simp only [hρ, x_c, x_il, x_ll, x_al, x_is, x_as, x_ls, x_inc, x_ii, x_iq, x_i1, x_l2, x_lq, x_lh, x_i2l, x_l2i, x_lcmp, x_dup, x_dup2, x_pop, x_if, x_ifn, x_ic, x_icn, x_go, x_sw, swc, x_l01, x_mx, x_gI, x_gL, x_gR, x_pI, x_pZ, x_pL, x_pR, x_ia, x_za, x_aa, x_ias, x_zas, x_aas, x_fac, x_fa, x_slen, x_sa, x_ac, x_oi, x_new, x_na, x_cS, x_cV, x_cI, x_rI, x_rZ, x_rL, x_r0, pa, short, oc, lg, lset, lset2, wide, cond_true, cond_false, true_and, and_true, ↓reduceIte, Bool.false_eq_true, true_or, or_true, lf_X1_runUntilSolved, hk, hk.f, P_X5_solved, hv'.q, nI20, nI_leI (show 20 < 2 ^ 31 by omega) (show 20 < 2 ^ 31 by omega), Nat.le_refl, bI_0, Classical.not_not, hs]
      exact ⟨fun _ => ⟨fun h => fin _ (if_neg h), fun h => fin _ (if_pos h)⟩, fun h => absurd trivial h⟩
    | succ dd ih =>
      intro i hi I' ch hf hD hch hz hnd
      have e0 : I' k = B k := hf k (by omega) (by omega) (by omega) (by omega)
      have e1 : I' (k + 1) = B (k + 1) := hf (k + 1) (by omega) (by omega) (by omega) (by omega)
      have e2 : I' (k + 2) = B (k + 2) := hf (k + 2) (by omega) (by omega) (by omega) (by omega)
      have e16 : I' 16 = B 16 := hf 16 (by omega) (by omega) (by omega) (by omega)
      have hok := itD_ok (n := n) (m := m) (off := I k 6) (ov := ovS I k) (ord := ordI I) (d0_ok hv) i
      have hv' : SV I' k n m := SV_D hvb e0 e1 e2 (by rw [hD]; exact hok)
      have ho' : OrdV I' m := by intro j hj; rw [e16]; exact hBo j hj
      have hs : (opS I' k = 0) ↔ sol i = true := by
        rw [← hsol]
        simp only [solS, opD, beq_iff_eq]
        rw [← hD]
        unfold opS
        rw [hv'.2.1.1, hv'.2.1.2, tn_nI (n := n) (by omega), tn_nI (n := m) (by omega), ov_eq (I := I) (e1.trans hB1)]
      have hfr : frR k I I' := fun q a b c d e => by rw [hf q b c d e, ← hB]; exact beg_r a b c
      refine J.of tk_X1_runUntilSolved 200 fun ρ hρ => ?_
      simp only [hρ, x_c, x_il, x_ll, x_al, x_is, x_as, x_ls, x_inc, x_ii, x_iq, x_i1, x_l2, x_lq, x_lh, x_i2l, x_l2i, x_lcmp, x_dup, x_dup2, x_pop, x_if, x_ifn, x_ic, x_icn, x_go, x_sw, swc, x_l01, x_mx, x_gI, x_gL, x_gR, x_pI, x_pZ, x_pL, x_pR, x_ia, x_za, x_aa, x_ias, x_zas, x_aas, x_fac, x_fa, x_slen, x_sa, x_ac, x_oi, x_new, x_na, x_cS, x_cV, x_cI, x_rI, x_rZ, x_rL, x_r0, pa, short, oc, lg, lset, lset2, wide, cond_true, cond_false, true_and, and_true, ↓reduceIte, Bool.false_eq_true, true_or, or_true, lf_X1_runUntilSolved, hd, hk, hj0, hd.f, hk.f, P_X5_solved, P_X1_runRound, hv'.q, nI20, nI_leI (show 20 < 2 ^ 31 by omega) (show i < 2 ^ 31 by omega), bI_0, Classical.not_not, hs, nI_1]
      refine ⟨fun h => absurd h (by omega), fun _ => ⟨fun h2 => ?_, fun h2 => ⟨fun h3 => ?_, fun h3 => ?_⟩⟩⟩
      · obtain ⟨z1, z2, z3⟩ := hz h2
        refine ⟨fun h => ?_, fun h => absurd h (by rw [z2]; decide)⟩
        have h4 := hR I' hfr (by rw [e0, hBk]) (by rw [z3, hD, z1])
        rwa [z3] at h4
      · refine ⟨n, m, hv', ho', fun I2 ch2 hf2 hD2 hch2 hz2 => ?_⟩
        have h3' : sol i = false := by cases h : sol i; rfl; exact absurd h h3
        rw [e0, hoff, ov_eq (I := I) (e1.trans hB1), show ordI I' = ordI I by rw [← hBor]; funext j; simp only [ordI, e16], hD] at hD2
        refine ih (i + 1) (by omega) I2 ch2 (fun q a b c d => (hf2 q a b c d).trans (hf q a b c d)) hD2 hch2 (fun z => ?_) (by rw [← hnd]; simp only [ndR]; rw [if_neg h3])
        obtain ⟨z1, z2⟩ := hz2 z
        have hfix : rndD n (I k 6) (ovS I k) (ordI I) m (itD n m (I k 6) (ovS I k) (ordI I) i (d0S I k)) = itD n m (I k 6) (ovS I k) (ordI I) i (d0S I k) := by rw [← hD2, z1, z2, hD]
        have hall : ∀ j, i ≤ j → itD n m (I k 6) (ovS I k) (ordI I) j (d0S I k) = itD n m (I k 6) (ovS I k) (ordI I) i (d0S I k) := fun j hj => by rw [show j = i + (j - i) by omega]; exact itD_fix hfix (j - i)
        have hsj : ∀ j, i ≤ j → sol j = false := fun j hj => by
          rw [← h3', ← hsol]
          simp only [solS]
          rw [hall j hj]
        refine ⟨by rw [hall 20 (by omega), hall (i + 1) (by omega)], hsj (i + 1) (by omega), ?_⟩
        rw [← hnd, ndR_no (fun j h1 _ => hsj j h1)]
        congr 1
      · have h4 := hR I' hfr (by rw [e0, hBk]) (by rw [← hnd]; simp only [ndR]; rw [if_pos h3]; exact hD)
        rw [← hnd] at h4
        simp only [ndR] at h4
        rwa [if_pos h3] at h4
  exact key 20 0 (by omega) B 1 (fun _ _ _ _ _ => rfl) hBd (Or.inr rfl) (fun h => absurd h (by decide)) rfl
/-! the order -/
def il_X1_orderAsNumbered : List (Nat × Instr × Nat) := [(0, .iconst 0, 1), (1, .istore_n 1, 1), (2, .iload_n 1, 1), (3, .bipush 6, 2), (5, .if_icmp .ge 16, 3), (8, .aload_n 0, 1), (9, .getfield 9, 3), (12, .iload_n 1, 1), (13, .iload_n 1, 1), (14, .iastore, 1), (15, .iinc 1 1, 3), (18, .goto (-16), 3), (21, .return_, 1)]
def mt_X1_orderAsNumbered : Mt := (cX1_orderAsNumbered, RX1, 2, none, ({ frames := 0, cells := 0, slots := 0, locals := 0 } : Room), false, none, none)
set_option maxRecDepth 100000 in
theorem dl_X1_orderAsNumbered : ∀ q ∈ il_X1_orderAsNumbered, decode (mt_X1_orderAsNumbered).1 q.1 = .ok q.2 := by decide +kernel
def tb_X1_orderAsNumbered : Tb := [(0, x_c 1 (.int 0), false),
  (1, x_is 2 1, false),
  (2, x_il 3 1, true),
  (3, x_c 5 (.int 6), false),
  (5, x_ic 21 8 (fun x y : Int32 => y ≤ x), false),
  (8, x_al 9 0, false),
  (9, x_gR 1 0 12, false),
  (12, x_il 13 1, false),
  (13, x_il 14 1, false),
  (14, x_ias 15, false),
  (15, x_inc 18 1 1, false),
  (18, x_go 2, false),
  (21, x_r0, false)]
set_option maxRecDepth 100000 in
theorem tk_X1_orderAsNumbered : TbOk (mt_X1_orderAsNumbered) (tb_X1_orderAsNumbered) :=
  tkc (s_iconst (at_ dl_X1_orderAsNumbered 0 (ins := .iconst 0) rfl) (by first | rfl | decide)) (
  tkc (s_istore_n (at_ dl_X1_orderAsNumbered 1 (ins := .istore_n 1) rfl) (by decide)) (
  tkc (s_iload_n (at_ dl_X1_orderAsNumbered 2 (ins := .iload_n 1) rfl)) (
  tkc (s_bipush (at_ dl_X1_orderAsNumbered 3 (ins := .bipush 6) rfl) (by first | rfl | decide)) (
  tkc (s_ic_ge (at_ dl_X1_orderAsNumbered 4 (ins := .if_icmp .ge 16) rfl) (by decide)) (
  tkc (s_aload_n (at_ dl_X1_orderAsNumbered 5 (ins := .aload_n 0) rfl)) (
  tkc (s_gR (at_ dl_X1_orderAsNumbered 6 (ins := .getfield 9) rfl) (by decide) (by decide) (by decide) (tg 178 (by decide +kernel) (by decide +kernel))) (
  tkc (s_iload_n (at_ dl_X1_orderAsNumbered 7 (ins := .iload_n 1) rfl)) (
  tkc (s_iload_n (at_ dl_X1_orderAsNumbered 8 (ins := .iload_n 1) rfl)) (
  tkc (s_ias (at_ dl_X1_orderAsNumbered 9 (ins := .iastore) rfl)) (
  tkc (s_iinc (at_ dl_X1_orderAsNumbered 10 (ins := .iinc 1 1) rfl) (by decide) (by first | rfl | decide)) (
  tkc (s_goto (at_ dl_X1_orderAsNumbered 11 (ins := .goto (-16)) rfl) (by decide)) (
  tkc (s_r0 (at_ dl_X1_orderAsNumbered 12 (ins := .return_) rfl) rfl) ( tk0)))))))))))))
theorem lf_X1_orderAsNumbered : lk (tb_X1_orderAsNumbered) 0 = (x_c 1 (.int 0), false) ∧ lk (tb_X1_orderAsNumbered) 1 = (x_is 2 1, false) ∧ lk (tb_X1_orderAsNumbered) 2 = (x_il 3 1, true) ∧ lk (tb_X1_orderAsNumbered) 3 = (x_c 5 (.int 6), false) ∧ lk (tb_X1_orderAsNumbered) 5 = (x_ic 21 8 (fun x y : Int32 => y ≤ x), false) ∧ lk (tb_X1_orderAsNumbered) 8 = (x_al 9 0, false) ∧ lk (tb_X1_orderAsNumbered) 9 = (x_gR 1 0 12, false) ∧ lk (tb_X1_orderAsNumbered) 12 = (x_il 13 1, false) ∧ lk (tb_X1_orderAsNumbered) 13 = (x_il 14 1, false) ∧ lk (tb_X1_orderAsNumbered) 14 = (x_ias 15, false) ∧ lk (tb_X1_orderAsNumbered) 15 = (x_inc 18 1 1, false) ∧ lk (tb_X1_orderAsNumbered) 18 = (x_go 2, false) ∧ lk (tb_X1_orderAsNumbered) 21 = (x_r0, false) := ⟨rfl, rfl, rfl, rfl, rfl, rfl, rfl, rfl, rfl, rfl, rfl, rfl, rfl⟩
/-- numbered from 0 on, the first n -/
def idr (f : Nat → Int32) (n : Nat) : Nat → Int32 := fun j => if j < n then nI j else f j
theorem idr_0 (f : Nat → Int32) : idr f 0 = f := by funext j; simp [idr]
theorem idr_s (f : Nat → Int32) (i : Nat) : upd (idr f i) i (nI i) = idr f (i + 1) := by
  funext j
  simp only [upd, idr]
  by_cases h : j = i
  · subst h; simp
  · by_cases h2 : j < i
    · simp [h, h2, show j < i + 1 by omega]
    · simp [h, h2, show ¬ j < i + 1 by omega]
def P_X1_orderAsNumbered : PTT := fun as M R => match as with
  | [.ref d] => d = 15 ∧ tO M.1 15 1 ∧ sR M.1 15 0 = 16 ∧ tA M.1 16 1 ∧ ln M.1 16 = 6 ∧ R none (M.1, mS M.2.1 16 (idr (M.2.1 16) 6), M.2.2)
  | _ => False
set_option maxRecDepth 20000 in
theorem ok_X1_orderAsNumbered : Ok yX1_orderAsNumbered mt_X1_orderAsNumbered P_X1_orderAsNumbered := by
  refine Ok.of (by decide) rfl rfl rfl rfl fun av ⟨S, I, L⟩ R hP => ?_
  unfold P_X1_orderAsNumbered at hP
  split at hP
  case h_2 => exact hP.elim
  rename_i d
  obtain ⟨d, rfl⟩ : ∃ q : Nat, q = d := ⟨d, rfl⟩
  refine ⟨by simp [ent, wide, mt_X1_orderAsNumbered], ?_⟩
  show J mt_X1_orderAsNumbered R 0 [some (.ref d), none] [] (S, I, L)
  try dsimp only at hP
  obtain ⟨rfl, h1, h2, h3, h4, hR⟩ := hP
  refine J.of tk_X1_orderAsNumbered 200 fun ρ hρ => ?_
  simp only [hρ, x_c, x_il, x_ll, x_al, x_is, x_as, x_ls, x_inc, x_ii, x_iq, x_i1, x_l2, x_lq, x_lh, x_i2l, x_l2i, x_lcmp, x_dup, x_dup2, x_pop, x_if, x_ifn, x_ic, x_icn, x_go, x_sw, swc, x_l01, x_mx, x_gI, x_gL, x_gR, x_pI, x_pZ, x_pL, x_pR, x_ia, x_za, x_aa, x_ias, x_zas, x_aas, x_fac, x_fa, x_slen, x_sa, x_ac, x_oi, x_new, x_na, x_cS, x_cV, x_cI, x_rI, x_rZ, x_rL, x_r0, pa, short, oc, lg, lset, lset2, wide, cond_true, cond_false, true_and, and_true, ↓reduceIte, Bool.false_eq_true, true_or, or_true, lf_X1_orderAsNumbered]
  have key := up (P := fun i => J mt_X1_orderAsNumbered R 2 [some (.ref 15), some (.int (nI i))] [] (S, mS I 16 (idr (I 16) i), L)) (n := 6) (fun i hi ih => ?_) 0 (Nat.zero_le _)
  · rw [idr_0, mS_id] at key
    exact key
  refine J.of tk_X1_orderAsNumbered 200 fun ρ hρ => ?_
  simp only [hρ, x_c, x_il, x_ll, x_al, x_is, x_as, x_ls, x_inc, x_ii, x_iq, x_i1, x_l2, x_lq, x_lh, x_i2l, x_l2i, x_lcmp, x_dup, x_dup2, x_pop, x_if, x_ifn, x_ic, x_icn, x_go, x_sw, swc, x_l01, x_mx, x_gI, x_gL, x_gR, x_pI, x_pZ, x_pL, x_pR, x_ia, x_za, x_aa, x_ias, x_zas, x_aas, x_fac, x_fa, x_slen, x_sa, x_ac, x_oi, x_new, x_na, x_cS, x_cV, x_cI, x_rI, x_rZ, x_rL, x_r0, pa, short, oc, lg, lset, lset2, wide, cond_true, cond_false, true_and, and_true, ↓reduceIte, Bool.false_eq_true, true_or, or_true, lf_X1_orderAsNumbered, h1, h2, h3, h4, nI6, nI_leI (show 6 < 2 ^ 31 by omega) (show i < 2 ^ 31 by omega), ncl (show i < 2 ^ 31 by omega), nI_1, mS_s, mS_ss, idr_s]
  refine ⟨fun h => ?_, fun h => ⟨vp_in_nI (by omega) (by omega), ih (by omega)⟩⟩
  have : i = 6 := by omega
  subst this
  exact hR
/-- a figure of a number, from behind -/
def dg (r j : Nat) : Nat := r / 10 ^ j % 10
def rowOk (m r : Nat) : Prop := r / 10 ^ m = 0 ∧ (∀ j, j < m → dg r j < m) ∧ ∀ i j, i < j → j < m → dg r i ≠ dg r j
/-- the figures met so far, as bits -/
def met (r : Nat) : Nat → Nat
  | 0 => 0
  | j + 1 => met r j ||| 2 ^ dg r j
theorem dg_lt (r j : Nat) : dg r j < 10 := Nat.mod_lt _ (by omega)
theorem met_lt (r : Nat) : ∀ j, met r j < 1024
  | 0 => by simp [met]
  | j + 1 => by
    have h := met_lt r j
    have h2 : 2 ^ dg r j < 2 ^ 10 := Nat.pow_lt_pow_right (by omega) (dg_lt r j)
    exact Nat.or_lt_two_pow (n := 10) h h2
theorem met_bit (r x : Nat) : ∀ j, (met r j).testBit x = true ↔ ∃ i, i < j ∧ dg r i = x
  | 0 => by simp [met]
  | j + 1 => by
    rw [met, Nat.testBit_or, Bool.or_eq_true, met_bit r x j, Nat.testBit_two_pow]
    constructor
    · rintro (⟨i, h1, h2⟩ | h)
      · exact ⟨i, by omega, h2⟩
      · exact ⟨j, by omega, by simpa using h⟩
    · rintro ⟨i, h1, h2⟩
      by_cases e : i = j
      · subst e; right; simpa using h2
      · left; exact ⟨i, by omega, h2⟩
theorem dg_div (r j : Nat) : r / 10 ^ j / 10 = r / 10 ^ (j + 1) := by rw [Nat.div_div_eq_div_mul, Nat.pow_succ]
/-- the first figures are fit -/
def rowTo (m r j : Nat) : Prop := (∀ i, i < j → dg r i < m) ∧ ∀ a b, a < b → b < j → dg r a ≠ dg r b
def il_X1_orderBy : List (Nat × Instr × Nat) := [(0, .iload_n 1, 1), (1, .ifCond .ge 5, 3), (4, .iconst 0, 1), (5, .ireturn, 1), (6, .iload_n 1, 1), (7, .istore_n 3, 1), (8, .iconst 0, 1), (9, .istore 4, 2), (11, .iload_n 2, 1), (12, .iconst 1, 1), (13, .isub, 1), (14, .istore 5, 2), (16, .iload 5, 2), (18, .ifCond .lt 56, 3), (21, .iload_n 3, 1), (22, .bipush 10, 2), (24, .irem, 1), (25, .istore 6, 2), (27, .iload 6, 2), (29, .iload_n 2, 1), (30, .if_icmp .ge 13, 3), (33, .iload 4, 2), (35, .iload 6, 2), (37, .ishr, 1), (38, .iconst 1, 1), (39, .iand, 1), (40, .ifCond .eq 5, 3), (43, .iconst 0, 1), (44, .ireturn, 1), (45, .aload_n 0, 1), (46, .getfield 9, 3), (49, .iload 5, 2), (51, .iload 6, 2), (53, .iastore, 1), (54, .iload 4, 2), (56, .iconst 1, 1), (57, .iload 6, 2), (59, .ishl, 1), (60, .ior, 1), (61, .istore 4, 2), (63, .iload_n 3, 1), (64, .bipush 10, 2), (66, .idiv, 1), (67, .istore_n 3, 1), (68, .iinc 5 (-1), 3), (71, .goto (-55), 3), (74, .iload_n 3, 1), (75, .ifCond .ne 7, 3), (78, .iconst 1, 1), (79, .goto 4, 3), (82, .iconst 0, 1), (83, .ireturn, 1)]
def mt_X1_orderBy : Mt := (cX1_orderBy, RX1, 7, (some .boolean), ({ frames := 0, cells := 0, slots := 0, locals := 0 } : Room), false, none, none)
set_option maxRecDepth 100000 in
theorem dl_X1_orderBy : ∀ q ∈ il_X1_orderBy, decode (mt_X1_orderBy).1 q.1 = .ok q.2 := by decide +kernel
def tb_X1_orderBy : Tb := [(0, x_il 1 1, false),
  (1, x_if 6 4 (fun x : Int32 => 0 ≤ x), false),
  (4, x_c 5 (.int 0), false),
  (5, x_rZ, false),
  (6, x_il 7 1, false),
  (7, x_is 8 3, false),
  (8, x_c 9 (.int 0), false),
  (9, x_is 11 4, false),
  (11, x_il 12 2, false),
  (12, x_c 13 (.int 1), false),
  (13, x_ii 14 (fun x y : Int32 => x - y), false),
  (14, x_is 16 5, false),
  (16, x_il 18 5, true),
  (18, x_if 74 21 (fun x : Int32 => x < 0), false),
  (21, x_il 22 3, false),
  (22, x_c 24 (.int 10), false),
  (24, x_iq 25 (fun x y : Int32 => x - x / y * y), false),
  (25, x_is 27 6, false),
  (27, x_il 29 6, false),
  (29, x_il 30 2, false),
  (30, x_ic 43 33 (fun x y : Int32 => y ≤ x), false),
  (33, x_il 35 4, false),
  (35, x_il 37 6, false),
  (37, x_ii 38 (fun x y : Int32 => x >>> (y &&& 31)), false),
  (38, x_c 39 (.int 1), false),
  (39, x_ii 40 (fun x y : Int32 => x &&& y), false),
  (40, x_if 45 43 (fun x : Int32 => x = 0), false),
  (43, x_c 44 (.int 0), false),
  (44, x_rZ, false),
  (45, x_al 46 0, false),
  (46, x_gR 1 0 49, false),
  (49, x_il 51 5, false),
  (51, x_il 53 6, false),
  (53, x_ias 54, false),
  (54, x_il 56 4, false),
  (56, x_c 57 (.int 1), false),
  (57, x_il 59 6, false),
  (59, x_ii 60 (fun x y : Int32 => x <<< (y &&& 31)), false),
  (60, x_ii 61 (fun x y : Int32 => x ||| y), false),
  (61, x_is 63 4, false),
  (63, x_il 64 3, false),
  (64, x_c 66 (.int 10), false),
  (66, x_iq 67 (fun x y : Int32 => x / y), false),
  (67, x_is 68 3, false),
  (68, x_inc 71 5 (-1), false),
  (71, x_go 16, false),
  (74, x_il 75 3, false),
  (75, x_ifn 82 78 (fun x : Int32 => x = 0), false),
  (78, x_c 79 (.int 1), false),
  (79, x_go 83, false),
  (82, x_c 83 (.int 0), false),
  (83, x_rZ, false)]
set_option maxRecDepth 100000 in
theorem tk_X1_orderBy : TbOk (mt_X1_orderBy) (tb_X1_orderBy) :=
  tkc (s_iload_n (at_ dl_X1_orderBy 0 (ins := .iload_n 1) rfl)) (
  tkc (s_if_ge (at_ dl_X1_orderBy 1 (ins := .ifCond .ge 5) rfl) (by decide)) (
  tkc (s_iconst (at_ dl_X1_orderBy 2 (ins := .iconst 0) rfl) (by first | rfl | decide)) (
  tkc (s_rZ (at_ dl_X1_orderBy 3 (ins := .ireturn) rfl) rfl) (
  tkc (s_iload_n (at_ dl_X1_orderBy 4 (ins := .iload_n 1) rfl)) (
  tkc (s_istore_n (at_ dl_X1_orderBy 5 (ins := .istore_n 3) rfl) (by decide)) (
  tkc (s_iconst (at_ dl_X1_orderBy 6 (ins := .iconst 0) rfl) (by first | rfl | decide)) (
  tkc (s_istore (at_ dl_X1_orderBy 7 (ins := .istore 4) rfl) (by decide)) (
  tkc (s_iload_n (at_ dl_X1_orderBy 8 (ins := .iload_n 2) rfl)) (
  tkc (s_iconst (at_ dl_X1_orderBy 9 (ins := .iconst 1) rfl) (by first | rfl | decide)) (
  tkc (s_isub (at_ dl_X1_orderBy 10 (ins := .isub) rfl)) (
  tkc (s_istore (at_ dl_X1_orderBy 11 (ins := .istore 5) rfl) (by decide)) (
  tkc (s_iload (at_ dl_X1_orderBy 12 (ins := .iload 5) rfl)) (
  tkc (s_if_lt (at_ dl_X1_orderBy 13 (ins := .ifCond .lt 56) rfl) (by decide)) (
  tkc (s_iload_n (at_ dl_X1_orderBy 14 (ins := .iload_n 3) rfl)) (
  tkc (s_bipush (at_ dl_X1_orderBy 15 (ins := .bipush 10) rfl) (by first | rfl | decide)) (
  tkc (s_irem (at_ dl_X1_orderBy 16 (ins := .irem) rfl)) (
  tkc (s_istore (at_ dl_X1_orderBy 17 (ins := .istore 6) rfl) (by decide)) (
  tkc (s_iload (at_ dl_X1_orderBy 18 (ins := .iload 6) rfl)) (
  tkc (s_iload_n (at_ dl_X1_orderBy 19 (ins := .iload_n 2) rfl)) (
  tkc (s_ic_ge (at_ dl_X1_orderBy 20 (ins := .if_icmp .ge 13) rfl) (by decide)) (
  tkc (s_iload (at_ dl_X1_orderBy 21 (ins := .iload 4) rfl)) (
  tkc (s_iload (at_ dl_X1_orderBy 22 (ins := .iload 6) rfl)) (
  tkc (s_ishr (at_ dl_X1_orderBy 23 (ins := .ishr) rfl)) (
  tkc (s_iconst (at_ dl_X1_orderBy 24 (ins := .iconst 1) rfl) (by first | rfl | decide)) (
  tkc (s_iand (at_ dl_X1_orderBy 25 (ins := .iand) rfl)) (
  tkc (s_if_eq (at_ dl_X1_orderBy 26 (ins := .ifCond .eq 5) rfl) (by decide)) (
  tkc (s_iconst (at_ dl_X1_orderBy 27 (ins := .iconst 0) rfl) (by first | rfl | decide)) (
  tkc (s_rZ (at_ dl_X1_orderBy 28 (ins := .ireturn) rfl) rfl) (
  tkc (s_aload_n (at_ dl_X1_orderBy 29 (ins := .aload_n 0) rfl)) (
  tkc (s_gR (at_ dl_X1_orderBy 30 (ins := .getfield 9) rfl) (by decide) (by decide) (by decide) (tg 178 (by decide +kernel) (by decide +kernel))) (
  tkc (s_iload (at_ dl_X1_orderBy 31 (ins := .iload 5) rfl)) (
  tkc (s_iload (at_ dl_X1_orderBy 32 (ins := .iload 6) rfl)) (
  tkc (s_ias (at_ dl_X1_orderBy 33 (ins := .iastore) rfl)) (
  tkc (s_iload (at_ dl_X1_orderBy 34 (ins := .iload 4) rfl)) (
  tkc (s_iconst (at_ dl_X1_orderBy 35 (ins := .iconst 1) rfl) (by first | rfl | decide)) (
  tkc (s_iload (at_ dl_X1_orderBy 36 (ins := .iload 6) rfl)) (
  tkc (s_ishl (at_ dl_X1_orderBy 37 (ins := .ishl) rfl)) (
  tkc (s_ior (at_ dl_X1_orderBy 38 (ins := .ior) rfl)) (
  tkc (s_istore (at_ dl_X1_orderBy 39 (ins := .istore 4) rfl) (by decide)) (
  tkc (s_iload_n (at_ dl_X1_orderBy 40 (ins := .iload_n 3) rfl)) (
  tkc (s_bipush (at_ dl_X1_orderBy 41 (ins := .bipush 10) rfl) (by first | rfl | decide)) (
  tkc (s_idiv (at_ dl_X1_orderBy 42 (ins := .idiv) rfl)) (
  tkc (s_istore_n (at_ dl_X1_orderBy 43 (ins := .istore_n 3) rfl) (by decide)) (
  tkc (s_iinc (at_ dl_X1_orderBy 44 (ins := .iinc 5 (-1)) rfl) (by decide) (by first | rfl | decide)) (
  tkc (s_goto (at_ dl_X1_orderBy 45 (ins := .goto (-55)) rfl) (by decide)) (
  tkc (s_iload_n (at_ dl_X1_orderBy 46 (ins := .iload_n 3) rfl)) (
  tkc (s_if_ne (at_ dl_X1_orderBy 47 (ins := .ifCond .ne 7) rfl) (by decide)) (
  tkc (s_iconst (at_ dl_X1_orderBy 48 (ins := .iconst 1) rfl) (by first | rfl | decide)) (
  tkc (s_goto (at_ dl_X1_orderBy 49 (ins := .goto 4) rfl) (by decide)) (
  tkc (s_iconst (at_ dl_X1_orderBy 50 (ins := .iconst 0) rfl) (by first | rfl | decide)) (
  tkc (s_rZ (at_ dl_X1_orderBy 51 (ins := .ireturn) rfl) rfl) ( tk0))))))))))))))))))))))))))))))))))))))))))))))))))))
theorem lf_X1_orderBy : lk (tb_X1_orderBy) 0 = (x_il 1 1, false) ∧ lk (tb_X1_orderBy) 1 = (x_if 6 4 (fun x : Int32 => 0 ≤ x), false) ∧ lk (tb_X1_orderBy) 4 = (x_c 5 (.int 0), false) ∧ lk (tb_X1_orderBy) 5 = (x_rZ, false) ∧ lk (tb_X1_orderBy) 6 = (x_il 7 1, false) ∧ lk (tb_X1_orderBy) 7 = (x_is 8 3, false) ∧ lk (tb_X1_orderBy) 8 = (x_c 9 (.int 0), false) ∧ lk (tb_X1_orderBy) 9 = (x_is 11 4, false) ∧ lk (tb_X1_orderBy) 11 = (x_il 12 2, false) ∧ lk (tb_X1_orderBy) 12 = (x_c 13 (.int 1), false) ∧ lk (tb_X1_orderBy) 13 = (x_ii 14 (fun x y : Int32 => x - y), false) ∧ lk (tb_X1_orderBy) 14 = (x_is 16 5, false) ∧ lk (tb_X1_orderBy) 16 = (x_il 18 5, true) ∧ lk (tb_X1_orderBy) 18 = (x_if 74 21 (fun x : Int32 => x < 0), false) ∧ lk (tb_X1_orderBy) 21 = (x_il 22 3, false) ∧ lk (tb_X1_orderBy) 22 = (x_c 24 (.int 10), false) ∧ lk (tb_X1_orderBy) 24 = (x_iq 25 (fun x y : Int32 => x - x / y * y), false) ∧ lk (tb_X1_orderBy) 25 = (x_is 27 6, false) ∧ lk (tb_X1_orderBy) 27 = (x_il 29 6, false) ∧ lk (tb_X1_orderBy) 29 = (x_il 30 2, false) ∧ lk (tb_X1_orderBy) 30 = (x_ic 43 33 (fun x y : Int32 => y ≤ x), false) ∧ lk (tb_X1_orderBy) 33 = (x_il 35 4, false) ∧ lk (tb_X1_orderBy) 35 = (x_il 37 6, false) ∧ lk (tb_X1_orderBy) 37 = (x_ii 38 (fun x y : Int32 => x >>> (y &&& 31)), false) ∧ lk (tb_X1_orderBy) 38 = (x_c 39 (.int 1), false) ∧ lk (tb_X1_orderBy) 39 = (x_ii 40 (fun x y : Int32 => x &&& y), false) ∧ lk (tb_X1_orderBy) 40 = (x_if 45 43 (fun x : Int32 => x = 0), false) ∧ lk (tb_X1_orderBy) 43 = (x_c 44 (.int 0), false) ∧ lk (tb_X1_orderBy) 44 = (x_rZ, false) ∧ lk (tb_X1_orderBy) 45 = (x_al 46 0, false) ∧ lk (tb_X1_orderBy) 46 = (x_gR 1 0 49, false) ∧ lk (tb_X1_orderBy) 49 = (x_il 51 5, false) ∧ lk (tb_X1_orderBy) 51 = (x_il 53 6, false) ∧ lk (tb_X1_orderBy) 53 = (x_ias 54, false) ∧ lk (tb_X1_orderBy) 54 = (x_il 56 4, false) ∧ lk (tb_X1_orderBy) 56 = (x_c 57 (.int 1), false) ∧ lk (tb_X1_orderBy) 57 = (x_il 59 6, false) ∧ lk (tb_X1_orderBy) 59 = (x_ii 60 (fun x y : Int32 => x <<< (y &&& 31)), false) ∧ lk (tb_X1_orderBy) 60 = (x_ii 61 (fun x y : Int32 => x ||| y), false) ∧ lk (tb_X1_orderBy) 61 = (x_is 63 4, false) ∧ lk (tb_X1_orderBy) 63 = (x_il 64 3, false) ∧ lk (tb_X1_orderBy) 64 = (x_c 66 (.int 10), false) ∧ lk (tb_X1_orderBy) 66 = (x_iq 67 (fun x y : Int32 => x / y), false) ∧ lk (tb_X1_orderBy) 67 = (x_is 68 3, false) ∧ lk (tb_X1_orderBy) 68 = (x_inc 71 5 (-1), false) ∧ lk (tb_X1_orderBy) 71 = (x_go 16, false) ∧ lk (tb_X1_orderBy) 74 = (x_il 75 3, false) ∧ lk (tb_X1_orderBy) 75 = (x_ifn 82 78 (fun x : Int32 => x = 0), false) ∧ lk (tb_X1_orderBy) 78 = (x_c 79 (.int 1), false) ∧ lk (tb_X1_orderBy) 79 = (x_go 83, false) ∧ lk (tb_X1_orderBy) 82 = (x_c 83 (.int 0), false) ∧ lk (tb_X1_orderBy) 83 = (x_rZ, false) := ⟨rfl, rfl, rfl, rfl, rfl, rfl, rfl, rfl, rfl, rfl, rfl, rfl, rfl, rfl, rfl, rfl, rfl, rfl, rfl, rfl, rfl, rfl, rfl, rfl, rfl, rfl, rfl, rfl, rfl, rfl, rfl, rfl, rfl, rfl, rfl, rfl, rfl, rfl, rfl, rfl, rfl, rfl, rfl, rfl, rfl, rfl, rfl, rfl, rfl, rfl, rfl, rfl⟩
def P_X1_orderBy : PTT := fun as M R => match as with
  | [.ref d, .int row, .int chk] => d = 15 ∧ IsDc M.1 ∧ ∃ m, m ≤ 6 ∧ chk = nI m ∧ (row < 0 → R (some (.int 0)) M) ∧ (∀ r, r < 2 ^ 31 → row = nI r → ∀ I', (∀ q, q ≠ 16 → I' q = M.2.1 q) → (¬ rowOk m r → R (some (.int 0)) (M.1, I', M.2.2)) ∧ (rowOk m r → (∀ i, i < m → I' 16 i = nI (dg r (m - 1 - i))) → R (some (.int 1)) (M.1, I', M.2.2)))
  | _ => False
theorem nI10 : (10 : Int32) = nI 10 := by decide
theorem ten0 : ¬ nI 10 = 0 := by decide
set_option maxRecDepth 20000 in
theorem ok_X1_orderBy : Ok yX1_orderBy mt_X1_orderBy P_X1_orderBy := by
  refine Ok.of (by decide) rfl rfl rfl rfl fun av ⟨S, I, L⟩ R hP => ?_
  unfold P_X1_orderBy at hP
  split at hP
  case h_2 => exact hP.elim
  rename_i d row chk
  obtain ⟨d, rfl⟩ : ∃ q : Nat, q = d := ⟨d, rfl⟩
  refine ⟨by simp [ent, wide, mt_X1_orderBy], ?_⟩
  show J mt_X1_orderBy R 0 [some (.ref d), some (.int row), some (.int chk), none, none, none, none] [] (S, I, L)
  try dsimp only at hP
  obtain ⟨rfl, hd, m, m6, rfl, hneg, hR⟩ := hP
  refine J.of tk_X1_orderBy 200 fun ρ hρ => ?_
  simp only [hρ, x_c, x_il, x_ll, x_al, x_is, x_as, x_ls, x_inc, x_ii, x_iq, x_i1, x_l2, x_lq, x_lh, x_i2l, x_l2i, x_lcmp, x_dup, x_dup2, x_pop, x_if, x_ifn, x_ic, x_icn, x_go, x_sw, swc, x_l01, x_mx, x_gI, x_gL, x_gR, x_pI, x_pZ, x_pL, x_pR, x_ia, x_za, x_aa, x_ias, x_zas, x_aas, x_fac, x_fa, x_slen, x_sa, x_ac, x_oi, x_new, x_na, x_cS, x_cV, x_cI, x_rI, x_rZ, x_rL, x_r0, pa, short, oc, lg, lset, lset2, wide, cond_true, cond_false, true_and, and_true, ↓reduceIte, Bool.false_eq_true, true_or, or_true, lf_X1_orderBy]
  refine ⟨fun h0 => ?_, fun h0 => hneg (Int32.not_le.mp h0)⟩
  obtain ⟨r, hr, rfl⟩ := nI_of (Int32.not_lt.mpr h0)
  have hR := hR r hr rfl
  have key : ∀ jj, jj ≤ m → ∀ I', (∀ q, q ≠ 16 → I' q = I q) → (∀ i, m - jj ≤ i → i < m → I' 16 i = nI (dg r (m - 1 - i))) → rowTo m r jj → J mt_X1_orderBy R 16 [some (.ref 15), some (.int (nI r)), some (.int (nI m)), some (.int (nI (r / 10 ^ jj))), some (.int (nI (met r jj))), some (.int (nI (m - jj) - 1)), none] [] (S, I', L) := by
    refine up (fun jj hjj ih => ?_)
    intro I' hf hI hto
    have hd31 : r / 10 ^ jj < 2 ^ 31 := Nat.lt_of_le_of_lt (Nat.div_le_self _ _) hr
    have hdl := dg_lt r jj
    have hml := met_lt r jj
    have hdiv : nI (r / 10 ^ jj) / nI 10 = nI (r / 10 ^ (jj + 1)) := by rw [pk_div hd31 (by omega) (by omega), dg_div]
    have hrem : nI (r / 10 ^ jj) - nI (r / 10 ^ (jj + 1)) * nI 10 = nI (dg r jj) := by rw [← hdiv]; exact pk_rem hd31 (by omega) (by omega)
    by_cases hlt : jj < m
    · have hix : nI (m - jj) - 1 = nI (m - jj - 1) := by rw [show m - jj = (m - jj - 1) + 1 by omega, nI_pred]; rfl
      have hix2 : nI (m - jj - 1) + -1 = nI (m - (jj + 1)) - 1 := by rw [show m - (jj + 1) = m - jj - 1 by omega, Int32.sub_eq_add_neg]
      have hpos : nI (m - jj - 1) < 0 ↔ False := ⟨fun h => nI_pos (by omega) h, False.elim⟩
      have hw := ih hlt
      refine J.of tk_X1_orderBy 200 fun ρ hρ => ?_
      simp only [hρ, x_c, x_il, x_ll, x_al, x_is, x_as, x_ls, x_inc, x_ii, x_iq, x_i1, x_l2, x_lq, x_lh, x_i2l, x_l2i, x_lcmp, x_dup, x_dup2, x_pop, x_if, x_ifn, x_ic, x_icn, x_go, x_sw, swc, x_l01, x_mx, x_gI, x_gL, x_gR, x_pI, x_pZ, x_pL, x_pR, x_ia, x_za, x_aa, x_ias, x_zas, x_aas, x_fac, x_fa, x_slen, x_sa, x_ac, x_oi, x_new, x_na, x_cS, x_cV, x_cI, x_rI, x_rZ, x_rL, x_r0, pa, short, oc, lg, lset, lset2, wide, cond_true, cond_false, true_and, and_true, ↓reduceIte, Bool.false_eq_true, true_or, or_true, lf_X1_orderBy, hd.f, nI10, ten0, hix, hix2, hpos, hrem, hdiv, nI_leI (show m < 2 ^ 31 by omega) (show dg r jj < 2 ^ 31 by omega), bit_c (show met r jj < 2 ^ 31 by omega) (show dg r jj < 31 by omega), ncl (show m - jj - 1 < 2 ^ 31 by omega), shl1 (show dg r jj < 31 by omega), nI_or, not_false_eq_true, false_implies, true_implies, Classical.not_not]
      refine ⟨fun h => ?_, fun h => ⟨fun h2 => ?_, fun h2 => ?_⟩⟩
      · exact (hR I' hf).1 (fun q => by have := q.2.1 jj hlt; omega)
      · refine ⟨vp_in_nI (by omega) (by omega), J.weak (by simp [lsub, met]) (hw _ (fun q hq => ?_) (fun i h3 h4 => ?_) ⟨fun i hi => ?_, fun a b hab hb => ?_⟩)⟩
        · rw [mS_n hq]; exact hf q hq
        · rw [mS_s, upd_app]
          by_cases e : i = m - jj - 1
          · rw [if_pos e, e, show m - 1 - (m - jj - 1) = jj by omega]
          · rw [if_neg e]; exact hI i (by omega) h4
        · by_cases e : i = jj
          · subst e; omega
          · exact hto.1 i (by omega)
        · by_cases e : b = jj
          · subst e; intro q; exact h2 ((met_bit r (dg r b) b).mpr ⟨a, hab, q⟩)
          · exact hto.2 a b hab (by omega)
      · refine (hR I' hf).1 (fun q => ?_)
        obtain ⟨i, h3, h4⟩ := (met_bit r (dg r jj) jj).mp h2
        exact q.2.2 i jj h3 hlt h4
    · have : jj = m := by omega
      subst this
      have hz : nI (r / 10 ^ jj) = 0 ↔ r / 10 ^ jj = 0 := nI_z hd31
      have hng : nI (jj - jj) - 1 < 0 ↔ True := by rw [Nat.sub_self]; decide
      refine J.of tk_X1_orderBy 200 fun ρ hρ => ?_
      simp only [hρ, x_c, x_il, x_ll, x_al, x_is, x_as, x_ls, x_inc, x_ii, x_iq, x_i1, x_l2, x_lq, x_lh, x_i2l, x_l2i, x_lcmp, x_dup, x_dup2, x_pop, x_if, x_ifn, x_ic, x_icn, x_go, x_sw, swc, x_l01, x_mx, x_gI, x_gL, x_gR, x_pI, x_pZ, x_pL, x_pR, x_ia, x_za, x_aa, x_ias, x_zas, x_aas, x_fac, x_fa, x_slen, x_sa, x_ac, x_oi, x_new, x_na, x_cS, x_cV, x_cI, x_rI, x_rZ, x_rL, x_r0, pa, short, oc, lg, lset, lset2, wide, cond_true, cond_false, true_and, and_true, ↓reduceIte, Bool.false_eq_true, true_or, or_true, lf_X1_orderBy, hng, hz, true_implies, not_true_eq_false, false_implies]
      refine ⟨fun h => (hR I' hf).1 (fun q => h q.1), fun h => (hR I' hf).2 ⟨h, hto.1, hto.2⟩ (fun i hi => hI i (by omega) hi)⟩
  have := key 0 (by omega) I (fun _ _ => rfl) (fun i h1 h2 => by omega) ⟨fun i hi => by omega, fun a b _ hb => by omega⟩
  rw [Nat.pow_zero, Nat.div_one, Nat.sub_zero] at this
  exact this
