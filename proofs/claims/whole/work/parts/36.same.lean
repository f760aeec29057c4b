/-! SAME: rows of checks -/
def mtM (m r : Nat) : Nat → Nat
  | 0 => 0
  | j + 1 => mtM m r j ||| (if dg r j < m then 2 ^ dg r j else 0)
def rowB (m r : Nat) : Bool := (r / 10 ^ m == 0) && (mtM m r m == 2 ^ m - 1)
theorem on9_or {s x : Nat} : ∀ {n : Nat}, on9 (s ||| 2 ^ x) n = on9 s n + (if x < n ∧ ¬ s.testBit x = true then 1 else 0)
  | 0 => by simp [on9]
  | n + 1 => by
    simp only [on9, on9_or (n := n), Nat.testBit_or, Nat.testBit_two_pow]
    by_cases h : x = n
    · subst h
      have : ¬ x < x := by omega
      simp only [this, false_and, if_false, decide_true, Bool.or_true, if_true, show x < x + 1 by omega, true_and]
      cases s.testBit x <;> simp
    · simp only [h, decide_false, Bool.or_false]
      by_cases h2 : x < n
      · simp only [h2, show x < n + 1 by omega, true_and]; omega
      · simp only [h2, show ¬ x < n + 1 by omega, false_and, if_false, Nat.add_zero]
theorem mtM_lt {m r : Nat} : ∀ j, mtM m r j < 2 ^ m
  | 0 => Nat.pow_pos (by omega)
  | j + 1 => by
    refine Nat.or_lt_two_pow (mtM_lt j) ?_
    split
    · exact Nat.pow_lt_pow_right (by omega) (by assumption)
    · exact Nat.pow_pos (by omega)
theorem mtM_bit {m r x : Nat} : ∀ {j : Nat}, (mtM m r j).testBit x = true ↔ ∃ i, i < j ∧ dg r i < m ∧ dg r i = x
  | 0 => by simp [mtM]
  | j + 1 => by
    rw [mtM, Nat.testBit_or, Bool.or_eq_true, mtM_bit]
    constructor
    · rintro (⟨i, h1, h2⟩ | h)
      · exact ⟨i, by omega, h2⟩
      · by_cases hd : dg r j < m
        · rw [if_pos hd, pow_bit] at h
          exact ⟨j, by omega, hd, h.symm⟩
        · rw [if_neg hd] at h; simp at h
    · rintro ⟨i, h1, h2, h3⟩
      by_cases e : i = j
      · subst e; right; rw [if_pos h2, pow_bit]; exact h3.symm
      · left; exact ⟨i, by omega, h2, h3⟩
theorem mtM_c {m r j : Nat} (hm : m ≤ 6) : ones9 (mtM m r (j + 1)) = ones9 (mtM m r j) + (if dg r j < m ∧ ¬ (mtM m r j).testBit (dg r j) = true then 1 else 0) := by
  rw [mtM]
  by_cases h : dg r j < m
  · rw [if_pos h]
    unfold ones9
    rw [on9_or]
    simp only [show dg r j < 9 by omega, h, true_and]
  · rw [if_neg h, Nat.or_zero]
    simp [h]
theorem full6 : ∀ m, m < 7 → ones9 (2 ^ m - 1) = m ∧ ∀ s, s < 2 ^ m → ones9 s = m → s = 2 ^ m - 1 := by decide +kernel
theorem mtM_le {m r : Nat} (hm : m ≤ 6) (a : Nat) : ∀ d, ones9 (mtM m r (a + d)) ≤ ones9 (mtM m r a) + d
  | 0 => Nat.le_refl _
  | d + 1 => by
    have := mtM_le hm a d (r := r)
    have h := mtM_c (r := r) (j := a + d) hm
    rw [show a + (d + 1) = a + d + 1 by omega, h]
    split <;> omega
theorem rowB_ok {m r : Nat} (hm : m ≤ 6) : rowB m r = true ↔ rowOk m r := by
  unfold rowB rowOk
  rw [Bool.and_eq_true, beq_iff_eq, beq_iff_eq]
  obtain ⟨f1, f2⟩ := full6 m (by omega)
  constructor
  · rintro ⟨h0, hf⟩
    have hall : ∀ j, j < m → dg r j < m ∧ ¬ (mtM m r j).testBit (dg r j) = true := by
      intro j hj
      have e := mtM_c (r := r) (j := j) hm
      have l1 := mtM_le (r := r) hm 0 j
      have l2 := mtM_le (r := r) hm (j + 1) (m - (j + 1))
      rw [show j + 1 + (m - (j + 1)) = m by omega, hf, f1] at l2
      rw [Nat.zero_add, show mtM m r 0 = 0 from rfl, show ones9 0 = 0 by decide, Nat.zero_add] at l1
      by_cases h : dg r j < m ∧ ¬ (mtM m r j).testBit (dg r j) = true
      · exact h
      · rw [if_neg h] at e; omega
    refine ⟨h0, fun j hj => (hall j hj).1, fun i j hij hj he => (hall j hj).2 ?_⟩
    rw [mtM_bit]
    exact ⟨i, hij, (hall i (by omega)).1, he⟩
  · rintro ⟨h0, h1, h2⟩
    refine ⟨h0, f2 _ (mtM_lt m) ?_⟩
    have : ∀ j, j ≤ m → ones9 (mtM m r j) = j := by
      intro j
      induction j with
      | zero => intro _; show ones9 0 = 0; decide
      | succ j ih =>
        intro hj
        rw [mtM_c hm, ih (by omega), if_pos]
        refine ⟨h1 j (by omega), fun h => ?_⟩
        rw [mtM_bit] at h
        obtain ⟨i, a1, a2, a3⟩ := h
        exact h2 i j a1 (by omega) a3
    exact this m (Nat.le_refl m)
def rwO (m r : Nat) : Nat → Nat := fun i => dg r (m - 1 - i)
def gSame (g : GS) (x : Int32) : Int32 := if x < 0 ∨ ¬ rowB (aM (gA g)) (tn x) = true then -2 else bB (nI (wdA (runA (gA g) (rwO (aM (gA g)) (tn x)))) == nI (wdA (runA (gA g) id)))
theorem OrdId_idr {I : MI} : OrdId (mS I 16 (idr (I 16) 6)) := fun i hi => by rw [mS_s, idr, if_pos hi]
def il_X9_same : List (Nat × Instr × Nat) := [(0, .aload_n 0, 1), (1, .getfield 29, 3), (4, .iload_n 1, 1), (5, .aload_n 0, 1), (6, .getfield 19, 3), (9, .getfield 98, 3), (12, .invokevirtual 207, 3), (15, .ifCond .ne 13, 3), (18, .aload_n 0, 1), (19, .getfield 29, 3), (22, .invokevirtual 210, 3), (25, .bipush (-2), 2), (27, .ireturn, 1), (28, .aload_n 0, 1), (29, .invokevirtual 138, 3), (32, .istore_n 2, 1), (33, .aload_n 0, 1), (34, .getfield 29, 3), (37, .invokevirtual 210, 3), (40, .iload_n 2, 1), (41, .aload_n 0, 1), (42, .invokevirtual 138, 3), (45, .if_icmp .ne 7, 3), (48, .iconst 1, 1), (49, .goto 4, 3), (52, .iconst 0, 1), (53, .ireturn, 1)]
def mt_X9_same : Mt := (cX9_same, RX9, 3, (some .int), ({ frames := 6, cells := 0, slots := 0, locals := 140 } : Room), false, none, none)
set_option maxRecDepth 100000 in
theorem dl_X9_same : ∀ q ∈ il_X9_same, decode (mt_X9_same).1 q.1 = .ok q.2 := by decide +kernel
def tb_X9_same : Tb := [(0, x_al 1 0, false),
  (1, x_gR 9 3 4, false),
  (4, x_il 5 1, false),
  (5, x_al 6 0, false),
  (6, x_gR 9 1 9, false),
  (9, x_gI 5 5 12, false),
  (12, x_cV 1 2 P_X1_orderBy 15, false),
  (15, x_ifn 28 18 (fun x : Int32 => x = 0), false),
  (18, x_al 19 0, false),
  (19, x_gR 9 3 22, false),
  (22, x_cV 1 0 P_X1_orderAsNumbered 25, false),
  (25, x_c 27 (.int (-2)), false),
  (27, x_rI, false),
  (28, x_al 29 0, false),
  (29, x_cV 9 0 P_X9_ends 32, false),
  (32, x_is 33 2, false),
  (33, x_al 34 0, false),
  (34, x_gR 9 3 37, false),
  (37, x_cV 1 0 P_X1_orderAsNumbered 40, false),
  (40, x_il 41 2, false),
  (41, x_al 42 0, false),
  (42, x_cV 9 0 P_X9_ends 45, false),
  (45, x_icn 52 48 (fun x y : Int32 => x = y), false),
  (48, x_c 49 (.int 1), false),
  (49, x_go 53, false),
  (52, x_c 53 (.int 0), false),
  (53, x_rI, false)]
set_option maxRecDepth 100000 in
theorem tk_X9_same : TbOk (mt_X9_same) (tb_X9_same) :=
  tkc (s_aload_n (at_ dl_X9_same 0 (ins := .aload_n 0) rfl)) (
  tkc (s_gR (at_ dl_X9_same 1 (ins := .getfield 29) rfl) (by decide) (by decide) (by decide) (tg 257 (by decide +kernel) (by decide +kernel))) (
  tkc (s_iload_n (at_ dl_X9_same 2 (ins := .iload_n 1) rfl)) (
  tkc (s_aload_n (at_ dl_X9_same 3 (ins := .aload_n 0) rfl)) (
  tkc (s_gR (at_ dl_X9_same 4 (ins := .getfield 19) rfl) (by decide) (by decide) (by decide) (tg 255 (by decide +kernel) (by decide +kernel))) (
  tkc (s_gI (at_ dl_X9_same 5 (ins := .getfield 98) rfl) (by decide) (by decide) (by decide) (tg 142 (by decide +kernel) (by decide +kernel))) (
  tkc (s_cV ok_X1_orderBy (at_ dl_X9_same 6 (ins := .invokevirtual 207) rfl) (by decide) rfl (tg 569 (by decide +kernel) (by decide +kernel)) (tg 570 (by decide +kernel) (by decide +kernel)) (tg 571 (by decide +kernel) (by decide +kernel)) (tg 46 (by decide +kernel) (by decide +kernel)) (tg 572 (by decide +kernel) (by decide +kernel)) (⟨by decide, by decide, by decide +kernel⟩) (⟨by decide, by decide⟩) rfl rfl) (
  tkc (s_if_ne (at_ dl_X9_same 7 (ins := .ifCond .ne 13) rfl) (by decide)) (
  tkc (s_aload_n (at_ dl_X9_same 8 (ins := .aload_n 0) rfl)) (
  tkc (s_gR (at_ dl_X9_same 9 (ins := .getfield 29) rfl) (by decide) (by decide) (by decide) (tg 257 (by decide +kernel) (by decide +kernel))) (
  tkc (s_cV ok_X1_orderAsNumbered (at_ dl_X9_same 10 (ins := .invokevirtual 210) rfl) (by decide) rfl (tg 573 (by decide +kernel) (by decide +kernel)) (tg 175 (by decide +kernel) (by decide +kernel)) (tg 176 (by decide +kernel) (by decide +kernel)) (tg 46 (by decide +kernel) (by decide +kernel)) (tg 177 (by decide +kernel) (by decide +kernel)) (⟨by decide, by decide, by decide +kernel⟩) (⟨by decide, by decide⟩) rfl rfl) (
  tkc (s_bipush (at_ dl_X9_same 11 (ins := .bipush (-2)) rfl) (by first | rfl | decide)) (
  tkc (s_rI (at_ dl_X9_same 12 (ins := .ireturn) rfl) rfl) (
  tkc (s_aload_n (at_ dl_X9_same 13 (ins := .aload_n 0) rfl)) (
  tkc (s_cV ok_X9_ends (at_ dl_X9_same 14 (ins := .invokevirtual 138) rfl) (by decide) rfl (tg 468 (by decide +kernel) (by decide +kernel)) (tg 470 (by decide +kernel) (by decide +kernel)) (tg 11 (by decide +kernel) (by decide +kernel)) (tg 42 (by decide +kernel) (by decide +kernel)) (tg 471 (by decide +kernel) (by decide +kernel)) (⟨by decide, by decide, by decide +kernel⟩) (⟨by decide, by decide⟩) rfl rfl) (
  tkc (s_istore_n (at_ dl_X9_same 15 (ins := .istore_n 2) rfl) (by decide)) (
  tkc (s_aload_n (at_ dl_X9_same 16 (ins := .aload_n 0) rfl)) (
  tkc (s_gR (at_ dl_X9_same 17 (ins := .getfield 29) rfl) (by decide) (by decide) (by decide) (tg 257 (by decide +kernel) (by decide +kernel))) (
  tkc (s_cV ok_X1_orderAsNumbered (at_ dl_X9_same 18 (ins := .invokevirtual 210) rfl) (by decide) rfl (tg 573 (by decide +kernel) (by decide +kernel)) (tg 175 (by decide +kernel) (by decide +kernel)) (tg 176 (by decide +kernel) (by decide +kernel)) (tg 46 (by decide +kernel) (by decide +kernel)) (tg 177 (by decide +kernel) (by decide +kernel)) (⟨by decide, by decide, by decide +kernel⟩) (⟨by decide, by decide⟩) rfl rfl) (
  tkc (s_iload_n (at_ dl_X9_same 19 (ins := .iload_n 2) rfl)) (
  tkc (s_aload_n (at_ dl_X9_same 20 (ins := .aload_n 0) rfl)) (
  tkc (s_cV ok_X9_ends (at_ dl_X9_same 21 (ins := .invokevirtual 138) rfl) (by decide) rfl (tg 468 (by decide +kernel) (by decide +kernel)) (tg 470 (by decide +kernel) (by decide +kernel)) (tg 11 (by decide +kernel) (by decide +kernel)) (tg 42 (by decide +kernel) (by decide +kernel)) (tg 471 (by decide +kernel) (by decide +kernel)) (⟨by decide, by decide, by decide +kernel⟩) (⟨by decide, by decide⟩) rfl rfl) (
  tkc (s_ic_ne (at_ dl_X9_same 22 (ins := .if_icmp .ne 7) rfl) (by decide)) (
  tkc (s_iconst (at_ dl_X9_same 23 (ins := .iconst 1) rfl) (by first | rfl | decide)) (
  tkc (s_goto (at_ dl_X9_same 24 (ins := .goto 4) rfl) (by decide)) (
  tkc (s_iconst (at_ dl_X9_same 25 (ins := .iconst 0) rfl) (by first | rfl | decide)) (
  tkc (s_rI (at_ dl_X9_same 26 (ins := .ireturn) rfl) rfl) ( tk0)))))))))))))))))))))))))))
theorem lf_X9_same : lk (tb_X9_same) 0 = (x_al 1 0, false) ∧ lk (tb_X9_same) 1 = (x_gR 9 3 4, false) ∧ lk (tb_X9_same) 4 = (x_il 5 1, false) ∧ lk (tb_X9_same) 5 = (x_al 6 0, false) ∧ lk (tb_X9_same) 6 = (x_gR 9 1 9, false) ∧ lk (tb_X9_same) 9 = (x_gI 5 5 12, false) ∧ lk (tb_X9_same) 12 = (x_cV 1 2 P_X1_orderBy 15, false) ∧ lk (tb_X9_same) 15 = (x_ifn 28 18 (fun x : Int32 => x = 0), false) ∧ lk (tb_X9_same) 18 = (x_al 19 0, false) ∧ lk (tb_X9_same) 19 = (x_gR 9 3 22, false) ∧ lk (tb_X9_same) 22 = (x_cV 1 0 P_X1_orderAsNumbered 25, false) ∧ lk (tb_X9_same) 25 = (x_c 27 (.int (-2)), false) ∧ lk (tb_X9_same) 27 = (x_rI, false) ∧ lk (tb_X9_same) 28 = (x_al 29 0, false) ∧ lk (tb_X9_same) 29 = (x_cV 9 0 P_X9_ends 32, false) ∧ lk (tb_X9_same) 32 = (x_is 33 2, false) ∧ lk (tb_X9_same) 33 = (x_al 34 0, false) ∧ lk (tb_X9_same) 34 = (x_gR 9 3 37, false) ∧ lk (tb_X9_same) 37 = (x_cV 1 0 P_X1_orderAsNumbered 40, false) ∧ lk (tb_X9_same) 40 = (x_il 41 2, false) ∧ lk (tb_X9_same) 41 = (x_al 42 0, false) ∧ lk (tb_X9_same) 42 = (x_cV 9 0 P_X9_ends 45, false) ∧ lk (tb_X9_same) 45 = (x_icn 52 48 (fun x y : Int32 => x = y), false) ∧ lk (tb_X9_same) 48 = (x_c 49 (.int 1), false) ∧ lk (tb_X9_same) 49 = (x_go 53, false) ∧ lk (tb_X9_same) 52 = (x_c 53 (.int 0), false) ∧ lk (tb_X9_same) 53 = (x_rI, false) := ⟨rfl, rfl, rfl, rfl, rfl, rfl, rfl, rfl, rfl, rfl, rfl, rfl, rfl, rfl, rfl, rfl, rfl, rfl, rfl, rfl, rfl, rfl, rfl, rfl, rfl, rfl, rfl⟩
def P_X9_same : PTT := fun as M R => match as with
  | [.ref k, .int x] => k = 0 ∧ ∃ g, CR M.1 M.2.1 M.2.2 g ∧ GOk g ∧ Ans M R (gSame g x) g
  | _ => False
/-- as CR, but for the order -/
theorem CR.ord {S : Sh} {I I' : MI} {L : Nat → Nat → Int64} {g : GS} (h : CR S I L g) (hf : ∀ q, q ≠ 16 → q ≠ 3 → q ≠ 4 → (q < 10 ∨ 15 ≤ q) → q ≠ 15 → q ≠ 17 → q ≠ 20 → I' q = I q) (ho : OrdId I') : CR S I' L g := by
  obtain ⟨h1, h2, h3, h4, h5, h6, h7, h8⟩ := h
  exact ⟨h1, h2.fr (hf 1 (by omega) (by omega) (by omega) (by omega) (by omega) (by omega) (by omega)) (hf 2 (by omega) (by omega) (by omega) (by omega) (by omega) (by omega) (by omega)), h3.fr (fun q a b => hf q (by omega) (by omega) (by omega) (by omega) (by omega) (by omega) (by omega)), h4.fr (fun q a b => hf q (by omega) (by omega) (by omega) (by omega) (by omega) (by omega) (by omega)), h5.fr (fun q a b => hf q (by omega) (by omega) (by omega) (by omega) (by omega) (by omega) (by omega)), h6.fr (hf 93 (by omega) (by omega) (by omega) (by omega) (by omega) (by omega) (by omega)) (hf 94 (by omega) (by omega) (by omega) (by omega) (by omega) (by omega) (by omega)) (hf 95 (by omega) (by omega) (by omega) (by omega) (by omega) (by omega) (by omega)), h7, ho⟩
set_option maxRecDepth 20000 in
theorem ok_X9_same : Ok yX9_same mt_X9_same P_X9_same := by
  refine Ok.of (by decide) rfl rfl rfl rfl fun av ⟨S, I, L⟩ R hP => ?_
  unfold P_X9_same at hP
  split at hP
  case h_2 => exact hP.elim
  rename_i k x
  obtain ⟨k, rfl⟩ : ∃ q : Nat, q = k := ⟨k, rfl⟩
  refine ⟨by simp [ent, wide, mt_X9_same], ?_⟩
  show J mt_X9_same R 0 [some (.ref k), some (.int x), none] [] (S, I, L)
  try dsimp only at hP
  obtain ⟨rfl, g, hc, ho, hA⟩ := hP
  obtain ⟨h1, h2, h3, h4, h5, h6, h7, h8⟩ := id hc
  have em : I 5 5 = nI (aM (gA g)) := hc.2.2.1.2.1
  have hok := ho.2.1
  have h9 := ho.2.1.1
  have hfin : ∀ v I', gSame g x = v → (∀ q, q ≠ 16 → q ≠ 3 → q ≠ 4 → (q < 10 ∨ 15 ≤ q) → q ≠ 15 → q ≠ 17 → q ≠ 20 → I' q = I q) → OrdId I' → R (some (.int v)) (S, I', L) := fun v I' hv hf hor => by
    rw [hv] at hA
    exact hA I' L (fun q hq => hf q (by omega) (by omega) (by omega) (by omega) (by omega) (by omega) (by omega)) (fun _ _ => rfl) (hc.ord hf hor)
  have z0 : (0 : Int32) = 0 ↔ True := ⟨fun _ => trivial, fun _ => rfl⟩
  refine J.of tk_X9_same 200 fun ρ hρ => ?_
  simp only [hρ, x_c, x_il, x_ll, x_al, x_is, x_as, x_ls, x_inc, x_ii, x_iq, x_i1, x_l2, x_lq, x_lh, x_i2l, x_l2i, x_lcmp, x_dup, x_dup2, x_pop, x_if, x_ifn, x_ic, x_icn, x_go, x_sw, swc, x_l01, x_mx, x_gI, x_gL, x_gR, x_pI, x_pZ, x_pL, x_pR, x_ia, x_za, x_aa, x_ias, x_zas, x_aas, x_fac, x_fa, x_slen, x_sa, x_ac, x_oi, x_new, x_na, x_cS, x_cV, x_cI, x_rI, x_rZ, x_rL, x_r0, pa, short, oc, lg, lset, lset2, wide, cond_true, cond_false, true_and, and_true, ↓reduceIte, Bool.false_eq_true, true_or, or_true, lf_X9_same, h1, h1.1.f, hc.ac.2, hc.ac.2.f, h1.2.2.2.2.2.1, h1.2.2.2.2.2.1.f, em, P_X1_orderBy, P_X1_orderAsNumbered, P_X9_ends, not_true_eq_false, false_implies, true_implies, Classical.not_not]
  refine ⟨aM (gA g), h9.2.2, rfl, fun hx => hfin _ _ (by rw [gSame, if_pos (.inl hx)]) (fun q a b c d e f g => mS_n a) OrdId_idr, fun r hr hx I1 hf1 => ?_⟩
  subst hx
  have ht : tn (nI r) = r := tn_nI (by omega)
  have hg0 : ¬ rowOk (aM (gA g)) r → gSame g (nI r) = -2 := fun h => by rw [gSame, if_pos (.inr (by rw [ht, rowB_ok h9.2.2]; exact h))]
  refine ⟨fun h => hfin _ _ (hg0 h) (fun q a b c d e f g => by rw [mS_n a, hf1 q a]) OrdId_idr, fun h hor => ⟨fun _ => ?_, fun h => absurd h (by decide)⟩⟩
  have hg1 : gSame g (nI r) = bB (nI (wdA (runA (gA g) (rwO (aM (gA g)) r))) == nI (wdA (runA (gA g) id))) := by
    rw [gSame, ht, if_neg (fun q => q.elim (nI_pos (by omega)) (fun q => q ((rowB_ok h9.2.2).mpr h)))]
  refine ⟨gA g, rwO (aM (gA g)) r, h3.fr (fun q a b => hf1 q (by omega)), hok, fun i hi => ⟨hor i hi, h.2.1 _ (by omega)⟩, fun I2 hf2 => ?_⟩
  have hq : ∀ q, q ≠ 16 → q ≠ 3 → q ≠ 4 → (q < 10 ∨ 15 ≤ q) → q ≠ 15 → q ≠ 17 → q ≠ 20 → mS I2 16 (idr (I2 16) 6) q = I q := fun q a b c d e f g => by rw [mS_n a, hf2 q b c d e f g, hf1 q a]
  refine ⟨gA g, id, h3.fr (fun q a b => hq q (by omega) (by omega) (by omega) (by omega) (by omega) (by omega) (by omega)), hok, OrdId_idr.O h9.2.2, fun I3 hf3 => ?_⟩
  have hq3 : ∀ q, q ≠ 16 → q ≠ 3 → q ≠ 4 → (q < 10 ∨ 15 ≤ q) → q ≠ 15 → q ≠ 17 → q ≠ 20 → I3 q = I q := fun q a b c d e f g => by rw [hf3 q b c d e f g, hq q a b c d e f g]
  have ho3 : OrdId I3 := OrdId_idr.fr (hf3 16 (by omega) (by omega) (by omega) (by omega) (by omega) (by omega))
  exact ⟨fun hn => hfin _ I3 (hg1.trans (bB_f (by simpa using hn))) hq3 ho3, fun hn => hfin _ I3 (hg1.trans (bB_t (by simpa using hn))) hq3 ho3⟩
/-! JUDGE -/
def jdS (r n : Nat) : Nat → AS → Int32
  | 0, _ => -9
  | l + 1, a => if (doJ a (r / 1000 ^ l % 1000)).1 = true then jdS r n l (doJ a (r / 1000 ^ l % 1000)).2 else nI (n - (l + 1))
def lB (x : Int64) : Nat := x.toBitVec.toNat
def gJudge (g : GS) (n : Int32) (x : Int64) : Int32 := if (n < 1 ∨ 4 < n) ∨ x < 0 ∨ ¬ lB x / 1000 ^ tn n = 0 then -2 else jdS (lB x) (tn n) (tn n) (gA g)
theorem lB_lN {r : Nat} (h : r < 2 ^ 63) : lB (lN r) = r := by
  unfold lB lN
  simp [Int64.toBitVec]
  omega
def il_X9_judge : List (Nat × Instr × Nat) := [(0, .iload_n 1, 1), (1, .iconst 1, 1), (2, .if_icmp .lt 24, 3), (5, .iload_n 1, 1), (6, .iconst 4, 1), (7, .if_icmp .gt 19, 3), (10, .lload_n 2, 1), (11, .lconst 0, 1), (12, .lcmp, 1), (13, .ifCond .lt 13, 3), (16, .lload_n 2, 1), (17, .iload_n 1, 1), (18, .invokestatic 213, 3), (21, .lconst 0, 1), (22, .lcmp, 1), (23, .ifCond .eq 6, 3), (26, .bipush (-2), 2), (28, .ireturn, 1), (29, .aload_n 0, 1), (30, .getfield 23, 3), (33, .aload_n 0, 1), (34, .getfield 19, 3), (37, .invokevirtual 219, 3), (40, .iconst 0, 1), (41, .istore 4, 2), (43, .iload 4, 2), (45, .iload_n 1, 1), (46, .if_icmp .ge 45, 3), (49, .lload_n 2, 1), (50, .iload_n 1, 1), (51, .iconst 1, 1), (52, .isub, 1), (53, .iload 4, 2), (55, .isub, 1), (56, .invokestatic 213, 3), (59, .ldc2_w 222, 3), (62, .lrem, 1), (63, .l2i, 1), (64, .istore 5, 2), (66, .iload 5, 2), (68, .aload_n 0, 1), (69, .getfield 23, 3), (72, .aload_n 0, 1), (73, .getfield 29, 3), (76, .invokestatic 224, 3), (79, .ifCond .ne 6, 3), (82, .iload 4, 2), (84, .ireturn, 1), (85, .iinc 4 1, 3), (88, .goto (-45), 3), (91, .bipush (-9), 2), (93, .ireturn, 1)]
def mt_X9_judge : Mt := (cX9_judge, RX9, 6, (some .int), ({ frames := 6, cells := 0, slots := 0, locals := 147 } : Room), false, none, none)
set_option maxRecDepth 100000 in
theorem dl_X9_judge : ∀ q ∈ il_X9_judge, decode (mt_X9_judge).1 q.1 = .ok q.2 := by decide +kernel
def tb_X9_judge : Tb := [(0, x_il 1 1, false),
  (1, x_c 2 (.int 1), false),
  (2, x_ic 26 5 (fun x y : Int32 => x < y), false),
  (5, x_il 6 1, false),
  (6, x_c 7 (.int 4), false),
  (7, x_ic 26 10 (fun x y : Int32 => y < x), false),
  (10, x_ll 11 2, false),
  (11, x_c 12 (.long 0), false),
  (12, x_lcmp 13, false),
  (13, x_if 26 16 (fun x : Int32 => x < 0), false),
  (16, x_ll 17 2, false),
  (17, x_il 18 1, false),
  (18, x_cS 2 P_X2_withoutLast 21, false),
  (21, x_c 22 (.long 0), false),
  (22, x_lcmp 23, false),
  (23, x_if 29 26 (fun x : Int32 => x = 0), false),
  (26, x_c 28 (.int (-2)), false),
  (28, x_rI, false),
  (29, x_al 30 0, false),
  (30, x_gR 9 2 33, false),
  (33, x_al 34 0, false),
  (34, x_gR 9 1 37, false),
  (37, x_cV 5 1 P_X5_becomeLike 40, false),
  (40, x_c 41 (.int 0), false),
  (41, x_is 43 4, false),
  (43, x_il 45 4, true),
  (45, x_il 46 1, false),
  (46, x_ic 91 49 (fun x y : Int32 => y ≤ x), false),
  (49, x_ll 50 2, false),
  (50, x_il 51 1, false),
  (51, x_c 52 (.int 1), false),
  (52, x_ii 53 (fun x y : Int32 => x - y), false),
  (53, x_il 55 4, false),
  (55, x_ii 56 (fun x y : Int32 => x - y), false),
  (56, x_cS 2 P_X2_withoutLast 59, false),
  (59, x_c 62 (.long 1000), false),
  (62, x_lq 63 (fun x y : Int64 => x - x / y * y), false),
  (63, x_l2i 64, false),
  (64, x_is 66 5, false),
  (66, x_il 68 5, false),
  (68, x_al 69 0, false),
  (69, x_gR 9 2 72, false),
  (72, x_al 73 0, false),
  (73, x_gR 9 3 76, false),
  (76, x_cS 3 P_X2_goesThrough 79, false),
  (79, x_ifn 85 82 (fun x : Int32 => x = 0), false),
  (82, x_il 84 4, false),
  (84, x_rI, false),
  (85, x_inc 88 4 1, false),
  (88, x_go 43, false),
  (91, x_c 93 (.int (-9)), false),
  (93, x_rI, false)]
set_option maxRecDepth 100000 in
theorem tk_X9_judge : TbOk (mt_X9_judge) (tb_X9_judge) :=
  tkc (s_iload_n (at_ dl_X9_judge 0 (ins := .iload_n 1) rfl)) (
  tkc (s_iconst (at_ dl_X9_judge 1 (ins := .iconst 1) rfl) (by first | rfl | decide)) (
  tkc (s_ic_lt (at_ dl_X9_judge 2 (ins := .if_icmp .lt 24) rfl) (by decide)) (
  tkc (s_iload_n (at_ dl_X9_judge 3 (ins := .iload_n 1) rfl)) (
  tkc (s_iconst (at_ dl_X9_judge 4 (ins := .iconst 4) rfl) (by first | rfl | decide)) (
  tkc (s_ic_gt (at_ dl_X9_judge 5 (ins := .if_icmp .gt 19) rfl) (by decide)) (
  tkc (s_lload_n (at_ dl_X9_judge 6 (ins := .lload_n 2) rfl)) (
  tkc (s_lconst (at_ dl_X9_judge 7 (ins := .lconst 0) rfl) (by first | rfl | decide)) (
  tkc (s_lcmp (at_ dl_X9_judge 8 (ins := .lcmp) rfl)) (
  tkc (s_if_lt (at_ dl_X9_judge 9 (ins := .ifCond .lt 13) rfl) (by decide)) (
  tkc (s_lload_n (at_ dl_X9_judge 10 (ins := .lload_n 2) rfl)) (
  tkc (s_iload_n (at_ dl_X9_judge 11 (ins := .iload_n 1) rfl)) (
  tkc (s_cS ok_X2_withoutLast (at_ dl_X9_judge 12 (ins := .invokestatic 213) rfl) (tg 578 (by decide +kernel) (by decide +kernel)) (tg 579 (by decide +kernel) (by decide +kernel)) (tg 54 (by decide +kernel) (by decide +kernel)) (tg 580 (by decide +kernel) (by decide +kernel)) (⟨by decide, by decide, by decide +kernel⟩) (⟨by decide, by decide⟩) rfl rfl) (
  tkc (s_lconst (at_ dl_X9_judge 13 (ins := .lconst 0) rfl) (by first | rfl | decide)) (
  tkc (s_lcmp (at_ dl_X9_judge 14 (ins := .lcmp) rfl)) (
  tkc (s_if_eq (at_ dl_X9_judge 15 (ins := .ifCond .eq 6) rfl) (by decide)) (
  tkc (s_bipush (at_ dl_X9_judge 16 (ins := .bipush (-2)) rfl) (by first | rfl | decide)) (
  tkc (s_rI (at_ dl_X9_judge 17 (ins := .ireturn) rfl) rfl) (
  tkc (s_aload_n (at_ dl_X9_judge 18 (ins := .aload_n 0) rfl)) (
  tkc (s_gR (at_ dl_X9_judge 19 (ins := .getfield 23) rfl) (by decide) (by decide) (by decide) (tg 256 (by decide +kernel) (by decide +kernel))) (
  tkc (s_aload_n (at_ dl_X9_judge 20 (ins := .aload_n 0) rfl)) (
  tkc (s_gR (at_ dl_X9_judge 21 (ins := .getfield 19) rfl) (by decide) (by decide) (by decide) (tg 255 (by decide +kernel) (by decide +kernel))) (
  tkc (s_cV ok_X5_becomeLike (at_ dl_X9_judge 22 (ins := .invokevirtual 219) rfl) (by decide) rfl (tg 443 (by decide +kernel) (by decide +kernel)) (tg 444 (by decide +kernel) (by decide +kernel)) (tg 445 (by decide +kernel) (by decide +kernel)) (tg 45 (by decide +kernel) (by decide +kernel)) (tg 446 (by decide +kernel) (by decide +kernel)) (⟨by decide, by decide, by decide +kernel⟩) (⟨by decide, by decide⟩) rfl rfl) (
  tkc (s_iconst (at_ dl_X9_judge 23 (ins := .iconst 0) rfl) (by first | rfl | decide)) (
  tkc (s_istore (at_ dl_X9_judge 24 (ins := .istore 4) rfl) (by decide)) (
  tkc (s_iload (at_ dl_X9_judge 25 (ins := .iload 4) rfl)) (
  tkc (s_iload_n (at_ dl_X9_judge 26 (ins := .iload_n 1) rfl)) (
  tkc (s_ic_ge (at_ dl_X9_judge 27 (ins := .if_icmp .ge 45) rfl) (by decide)) (
  tkc (s_lload_n (at_ dl_X9_judge 28 (ins := .lload_n 2) rfl)) (
  tkc (s_iload_n (at_ dl_X9_judge 29 (ins := .iload_n 1) rfl)) (
  tkc (s_iconst (at_ dl_X9_judge 30 (ins := .iconst 1) rfl) (by first | rfl | decide)) (
  tkc (s_isub (at_ dl_X9_judge 31 (ins := .isub) rfl)) (
  tkc (s_iload (at_ dl_X9_judge 32 (ins := .iload 4) rfl)) (
  tkc (s_isub (at_ dl_X9_judge 33 (ins := .isub) rfl)) (
  tkc (s_cS ok_X2_withoutLast (at_ dl_X9_judge 34 (ins := .invokestatic 213) rfl) (tg 578 (by decide +kernel) (by decide +kernel)) (tg 579 (by decide +kernel) (by decide +kernel)) (tg 54 (by decide +kernel) (by decide +kernel)) (tg 580 (by decide +kernel) (by decide +kernel)) (⟨by decide, by decide, by decide +kernel⟩) (⟨by decide, by decide⟩) rfl rfl) (
  tkc (s_ldc2 (at_ dl_X9_judge 35 (ins := .ldc2_w 222) rfl) (tg 582 (by decide +kernel) (by decide +kernel))) (
  tkc (s_lrem (at_ dl_X9_judge 36 (ins := .lrem) rfl)) (
  tkc (s_l2i (at_ dl_X9_judge 37 (ins := .l2i) rfl)) (
  tkc (s_istore (at_ dl_X9_judge 38 (ins := .istore 5) rfl) (by decide)) (
  tkc (s_iload (at_ dl_X9_judge 39 (ins := .iload 5) rfl)) (
  tkc (s_aload_n (at_ dl_X9_judge 40 (ins := .aload_n 0) rfl)) (
  tkc (s_gR (at_ dl_X9_judge 41 (ins := .getfield 23) rfl) (by decide) (by decide) (by decide) (tg 256 (by decide +kernel) (by decide +kernel))) (
  tkc (s_aload_n (at_ dl_X9_judge 42 (ins := .aload_n 0) rfl)) (
  tkc (s_gR (at_ dl_X9_judge 43 (ins := .getfield 29) rfl) (by decide) (by decide) (by decide) (tg 257 (by decide +kernel) (by decide +kernel))) (
  tkc (s_cS ok_X2_goesThrough (at_ dl_X9_judge 44 (ins := .invokestatic 224) rfl) (tg 583 (by decide +kernel) (by decide +kernel)) (tg 584 (by decide +kernel) (by decide +kernel)) (tg 54 (by decide +kernel) (by decide +kernel)) (tg 585 (by decide +kernel) (by decide +kernel)) (⟨by decide, by decide, by decide +kernel⟩) (⟨by decide, by decide⟩) rfl rfl) (
  tkc (s_if_ne (at_ dl_X9_judge 45 (ins := .ifCond .ne 6) rfl) (by decide)) (
  tkc (s_iload (at_ dl_X9_judge 46 (ins := .iload 4) rfl)) (
  tkc (s_rI (at_ dl_X9_judge 47 (ins := .ireturn) rfl) rfl) (
  tkc (s_iinc (at_ dl_X9_judge 48 (ins := .iinc 4 1) rfl) (by decide) (by first | rfl | decide)) (
  tkc (s_goto (at_ dl_X9_judge 49 (ins := .goto (-45)) rfl) (by decide)) (
  tkc (s_bipush (at_ dl_X9_judge 50 (ins := .bipush (-9)) rfl) (by first | rfl | decide)) (
  tkc (s_rI (at_ dl_X9_judge 51 (ins := .ireturn) rfl) rfl) ( tk0))))))))))))))))))))))))))))))))))))))))))))))))))))
theorem lf_X9_judge : lk (tb_X9_judge) 0 = (x_il 1 1, false) ∧ lk (tb_X9_judge) 1 = (x_c 2 (.int 1), false) ∧ lk (tb_X9_judge) 2 = (x_ic 26 5 (fun x y : Int32 => x < y), false) ∧ lk (tb_X9_judge) 5 = (x_il 6 1, false) ∧ lk (tb_X9_judge) 6 = (x_c 7 (.int 4), false) ∧ lk (tb_X9_judge) 7 = (x_ic 26 10 (fun x y : Int32 => y < x), false) ∧ lk (tb_X9_judge) 10 = (x_ll 11 2, false) ∧ lk (tb_X9_judge) 11 = (x_c 12 (.long 0), false) ∧ lk (tb_X9_judge) 12 = (x_lcmp 13, false) ∧ lk (tb_X9_judge) 13 = (x_if 26 16 (fun x : Int32 => x < 0), false) ∧ lk (tb_X9_judge) 16 = (x_ll 17 2, false) ∧ lk (tb_X9_judge) 17 = (x_il 18 1, false) ∧ lk (tb_X9_judge) 18 = (x_cS 2 P_X2_withoutLast 21, false) ∧ lk (tb_X9_judge) 21 = (x_c 22 (.long 0), false) ∧ lk (tb_X9_judge) 22 = (x_lcmp 23, false) ∧ lk (tb_X9_judge) 23 = (x_if 29 26 (fun x : Int32 => x = 0), false) ∧ lk (tb_X9_judge) 26 = (x_c 28 (.int (-2)), false) ∧ lk (tb_X9_judge) 28 = (x_rI, false) ∧ lk (tb_X9_judge) 29 = (x_al 30 0, false) ∧ lk (tb_X9_judge) 30 = (x_gR 9 2 33, false) ∧ lk (tb_X9_judge) 33 = (x_al 34 0, false) ∧ lk (tb_X9_judge) 34 = (x_gR 9 1 37, false) ∧ lk (tb_X9_judge) 37 = (x_cV 5 1 P_X5_becomeLike 40, false) ∧ lk (tb_X9_judge) 40 = (x_c 41 (.int 0), false) ∧ lk (tb_X9_judge) 41 = (x_is 43 4, false) ∧ lk (tb_X9_judge) 43 = (x_il 45 4, true) ∧ lk (tb_X9_judge) 45 = (x_il 46 1, false) ∧ lk (tb_X9_judge) 46 = (x_ic 91 49 (fun x y : Int32 => y ≤ x), false) ∧ lk (tb_X9_judge) 49 = (x_ll 50 2, false) ∧ lk (tb_X9_judge) 50 = (x_il 51 1, false) ∧ lk (tb_X9_judge) 51 = (x_c 52 (.int 1), false) ∧ lk (tb_X9_judge) 52 = (x_ii 53 (fun x y : Int32 => x - y), false) ∧ lk (tb_X9_judge) 53 = (x_il 55 4, false) ∧ lk (tb_X9_judge) 55 = (x_ii 56 (fun x y : Int32 => x - y), false) ∧ lk (tb_X9_judge) 56 = (x_cS 2 P_X2_withoutLast 59, false) ∧ lk (tb_X9_judge) 59 = (x_c 62 (.long 1000), false) ∧ lk (tb_X9_judge) 62 = (x_lq 63 (fun x y : Int64 => x - x / y * y), false) ∧ lk (tb_X9_judge) 63 = (x_l2i 64, false) ∧ lk (tb_X9_judge) 64 = (x_is 66 5, false) ∧ lk (tb_X9_judge) 66 = (x_il 68 5, false) ∧ lk (tb_X9_judge) 68 = (x_al 69 0, false) ∧ lk (tb_X9_judge) 69 = (x_gR 9 2 72, false) ∧ lk (tb_X9_judge) 72 = (x_al 73 0, false) ∧ lk (tb_X9_judge) 73 = (x_gR 9 3 76, false) ∧ lk (tb_X9_judge) 76 = (x_cS 3 P_X2_goesThrough 79, false) ∧ lk (tb_X9_judge) 79 = (x_ifn 85 82 (fun x : Int32 => x = 0), false) ∧ lk (tb_X9_judge) 82 = (x_il 84 4, false) ∧ lk (tb_X9_judge) 84 = (x_rI, false) ∧ lk (tb_X9_judge) 85 = (x_inc 88 4 1, false) ∧ lk (tb_X9_judge) 88 = (x_go 43, false) ∧ lk (tb_X9_judge) 91 = (x_c 93 (.int (-9)), false) ∧ lk (tb_X9_judge) 93 = (x_rI, false) := ⟨rfl, rfl, rfl, rfl, rfl, rfl, rfl, rfl, rfl, rfl, rfl, rfl, rfl, rfl, rfl, rfl, rfl, rfl, rfl, rfl, rfl, rfl, rfl, rfl, rfl, rfl, rfl, rfl, rfl, rfl, rfl, rfl, rfl, rfl, rfl, rfl, rfl, rfl, rfl, rfl, rfl, rfl, rfl, rfl, rfl, rfl, rfl, rfl, rfl, rfl, rfl, rfl⟩
def P_X9_judge : PTT := fun as M R => match as with
  | [.ref k, .int n, .long x] => k = 0 ∧ ∃ g, CR M.1 M.2.1 M.2.2 g ∧ GOk g ∧ Ans M R (gJudge g n x) g
  | _ => False
set_option maxRecDepth 20000 in
theorem ok_X9_judge : Ok yX9_judge mt_X9_judge P_X9_judge := by
  refine Ok.of (by decide) rfl rfl rfl rfl fun av ⟨S, I, L⟩ R hP => ?_
  unfold P_X9_judge at hP
  split at hP
  case h_2 => exact hP.elim
  rename_i k n x
  obtain ⟨k, rfl⟩ : ∃ q : Nat, q = k := ⟨k, rfl⟩
  refine ⟨by simp [ent, wide, mt_X9_judge], ?_⟩
  show J mt_X9_judge R 0 [some (.ref k), some (.int n), some (.long x), none, none, none] [] (S, I, L)
  try dsimp only at hP
  obtain ⟨rfl, g, hc, ho, hA⟩ := hP
  have h1 := hc.1
  have hok := ho.2.1
  have h9 := ho.2.1.1
  have hap : apart5 10 5 := Or.inr (by omega)
  have hfin : ∀ v I', gJudge g n x = v → frS I I' → R (some (.int v)) (S, I', L) := fun v I' hv hf => (hv ▸ hA).q hc hf
  have hbad : ((n < 1 ∨ 4 < n) ∨ x < 0 ∨ ¬ lB x / 1000 ^ tn n = 0) → R (some (.int (-2))) (S, I, L) := fun h => hfin _ I (if_pos h) (frS.refl I)
  refine J.of tk_X9_judge 200 fun ρ hρ => ?_
  simp only [hρ, x_c, x_il, x_ll, x_al, x_is, x_as, x_ls, x_inc, x_ii, x_iq, x_i1, x_l2, x_lq, x_lh, x_i2l, x_l2i, x_lcmp, x_dup, x_dup2, x_pop, x_if, x_ifn, x_ic, x_icn, x_go, x_sw, swc, x_l01, x_mx, x_gI, x_gL, x_gR, x_pI, x_pZ, x_pL, x_pR, x_ia, x_za, x_aa, x_ias, x_zas, x_aas, x_fac, x_fa, x_slen, x_sa, x_ac, x_oi, x_new, x_na, x_cS, x_cV, x_cI, x_rI, x_rZ, x_rL, x_r0, pa, short, oc, lg, lset, lset2, wide, cond_true, cond_false, true_and, and_true, ↓reduceIte, Bool.false_eq_true, true_or, or_true, lf_X9_judge, h1.1.f, hc.ac.2, hc.ac.2.f, h1.2.2.2.2.1, h1.2.2.2.2.1.f, h1.2.2.2.2.2.1, P_X2_withoutLast, P_X5_becomeLike, hap, lg_cmp_lt, lg_cmp_eq]
  refine ⟨fun h => hbad (.inl (.inl h)), fun q1 => ⟨fun h => hbad (.inl (.inr h)), fun q2 => ⟨fun h => hbad (.inr (.inl h)), fun q3 => ?_⟩⟩⟩
  obtain ⟨d, hd1, hd4, rfl⟩ : ∃ d, 1 ≤ d ∧ d ≤ 4 ∧ n = nI d := by
    obtain ⟨d, a1, a2, rfl⟩ := le99 q1 (Int32.le_trans (Int32.not_lt.mp q2) (by decide))
    refine ⟨d, a1, ?_, rfl⟩
    rw [show (4 : Int32) = nI 4 by decide, nI_ltI (by omega) (by omega)] at q2
    omega
  obtain ⟨r, hr, rfl⟩ := pk_lOf q3
  have hl : lB (lN r) = r := lB_lN hr
  have ht : tn (nI d) = d := tn_nI (by omega)
  have hz : lN (r / 1000 ^ d) = 0 ↔ r / 1000 ^ d = 0 := by
    rw [show (0 : Int64) = lN 0 by decide]
    exact pk_lEQ (Nat.lt_of_le_of_lt (Nat.div_le_self _ _) hr) (by omega)
  refine ⟨r, d, hr, rfl, hd4, rfl, fun h0 => ?_, fun h0 => hbad (.inr (.inr (by rw [hl, ht]; exact fun q => h0 (hz.mpr q))))⟩
  have hg : gJudge g (nI d) (lN r) = jdS r d d (gA g) := by
    rw [gJudge, hl, ht, if_neg]
    rintro (q | q | q)
    · exact q.elim q1 q2
    · exact q3 q
    · exact q (hz.mp h0)
  have key : ∀ l a I', l ≤ d → frS I I' → SR I' 10 a → AOk a → jdS r d l a = jdS r d d (gA g) → J mt_X9_judge R 43 [some (.ref 0), some (.int (nI d)), some (.long (lN r)), none, some (.int (nI (d - l))), none] [] (S, I', L) := by
    intro l
    induction l with
    | zero =>
      intro a I' hl hf hs ha he
      refine J.of tk_X9_judge 200 fun ρ hρ => ?_
      simp only [hρ, x_c, x_il, x_ll, x_al, x_is, x_as, x_ls, x_inc, x_ii, x_iq, x_i1, x_l2, x_lq, x_lh, x_i2l, x_l2i, x_lcmp, x_dup, x_dup2, x_pop, x_if, x_ifn, x_ic, x_icn, x_go, x_sw, swc, x_l01, x_mx, x_gI, x_gL, x_gR, x_pI, x_pZ, x_pL, x_pR, x_ia, x_za, x_aa, x_ias, x_zas, x_aas, x_fac, x_fa, x_slen, x_sa, x_ac, x_oi, x_new, x_na, x_cS, x_cV, x_cI, x_rI, x_rZ, x_rL, x_r0, pa, short, oc, lg, lset, lset2, wide, cond_true, cond_false, true_and, and_true, ↓reduceIte, Bool.false_eq_true, true_or, or_true, lf_X9_judge, Nat.sub_zero, nI_leI (show d < 2 ^ 31 by omega) (show d < 2 ^ 31 by omega), Nat.le_refl, true_implies, not_true_eq_false, false_implies]
      exact hfin _ I' (show gJudge g (nI d) (lN r) = -9 by rw [hg, ← he, jdS]) hf
    | succ l ih =>
      intro a I' hl hf hs ha he
      have es : nI d - 1 - nI (d - (l + 1)) = nI l := by rw [nI_m1 (by omega), nI_sub (by omega)]; congr 1; omega
      have hor : OrdId I' := hc.2.2.2.2.2.2.2.fr (hf 16 (by omega) (by omega) (by omega) (by omega) (by omega) (by omega))
      have hq : r / 1000 ^ l < 2 ^ 63 := Nat.lt_of_le_of_lt (Nat.div_le_self _ _) hr
      have er : lN (r / 1000 ^ l) - lN (r / 1000 ^ l) / lN 1000 * lN 1000 = lN (r / 1000 ^ l % 1000) := pk_lRem hq (by omega) (by omega)
      have h1k : r / 1000 ^ l % 1000 < 1000 := Nat.mod_lt _ (by omega)
      refine J.of tk_X9_judge 200 fun ρ hρ => ?_
      simp only [hρ, x_c, x_il, x_ll, x_al, x_is, x_as, x_ls, x_inc, x_ii, x_iq, x_i1, x_l2, x_lq, x_lh, x_i2l, x_l2i, x_lcmp, x_dup, x_dup2, x_pop, x_if, x_ifn, x_ic, x_icn, x_go, x_sw, swc, x_l01, x_mx, x_gI, x_gL, x_gR, x_pI, x_pZ, x_pL, x_pR, x_ia, x_za, x_aa, x_ias, x_zas, x_aas, x_fac, x_fa, x_slen, x_sa, x_ac, x_oi, x_new, x_na, x_cS, x_cV, x_cI, x_rI, x_rZ, x_rL, x_r0, pa, short, oc, lg, lset, lset2, wide, cond_true, cond_false, true_and, and_true, ↓reduceIte, Bool.false_eq_true, true_or, or_true, lf_X9_judge, h1.1.f, h1.2.2.2.2.1, h1.2.2.2.2.1.f, h1.2.2.2.2.2.1, P_X2_withoutLast, P_X2_goesThrough, es, k1000, k1000n, nI_leI (show d < 2 ^ 31 by omega) (show d - (l + 1) < 2 ^ 31 by omega), nI_1, Classical.not_not, not_false_eq_true]
      refine ⟨fun h => absurd h (by omega), fun _ => ⟨r, l, hr, rfl, by omega, rfl, ?_⟩⟩
      rw [er, lN_i]
      refine ⟨r / 1000 ^ l % 1000, a, h1k, rfl, hs, ha, hor, fun I2 hf2 hs2 => ?_⟩
      have hf' : frS I I2 := hf.trans (fun q a b c d e f => hf2 q (by omega) (by omega) (by omega))
      simp only [jdS] at he
      rw [bB_0]
      refine ⟨fun h => ?_, fun h => ?_⟩
      · rw [Classical.not_not] at h
        rw [if_pos h] at he
        have := ih _ I2 (by omega) hf' hs2 (doJ_ok ha) he
        rw [show d - (l + 1) + 1 = d - l by omega]
        exact J.weak (by simp [lsub]) this
      · rw [if_neg h] at he
        exact hfin _ I2 (by rw [hg, ← he]) hf'
  have := key d (gA g) (cpI I 10 5) (Nat.le_refl d) (fun q a b c d e f => cpI_fr (by omega)) (hc.2.2.1.cpI h9.2.2) hok rfl
  rw [Nat.sub_self] at this
  exact this
