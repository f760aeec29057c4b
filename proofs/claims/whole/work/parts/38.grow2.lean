/-! GROW, the call -/
def gpA (a : AS) (c : Int32) (b : Nat) : AS := if (¬ c < 0 ∧ ¬ nI (aM a) ≤ c) then putA a (tn c) b else a
def grA (b : Nat) : Nat → AS → AS
  | 0, a => a
  | l + 1, a => grA b l (gpA a (cgA a b) b)
theorem gpA_ok {a : AS} {c : Int32} {b : Nat} (h : AOk a) (hb : b < aN a) : AOk (gpA a c b) ∧ aN (gpA a c b) = aN a ∧ aM (gpA a c b) = aM a := by
  unfold gpA
  split
  · next hc =>
    obtain ⟨i, hi, rfl⟩ := in_of hc h.1.2.2 (by omega)
    rw [tn_nI (by have := h.1; omega)]
    exact ⟨putA_ok h hi hb, rfl, rfl⟩
  · exact ⟨h, rfl, rfl⟩
def gGrow (g : GS) (b d : Int32) : Int32 × GS := if ¬ hB g b then (-1, g) else if d < 1 ∨ ¬ d ≤ nI (aM (gA g)) then (-2, g) else (nI (tn d - ones9 (coF (aV (gA g)) (aM (gA g)) (tn b))), GA (remG g) (grA (tn b) (tn d - ones9 (coF (aV (gA g)) (aM (gA g)) (tn b))) (gA g)))
theorem coF_lt {ov : Nat → Nat} {m b : Nat} (h : m ≤ 6) : coF ov m b < 64 := Nat.lt_of_lt_of_le (bs_lt _ _) (pow6 h)
theorem CR.up {S : Sh} {I : MI} {L : Nat → Nat → Int64} {g : GS} (h : CR S I L (remG g)) : CR S I L (GA (remG g) (gA g)) := h
def il_X9_grow : List (Nat × Instr × Nat) := [(0, .aload_n 0, 1), (1, .getfield 19, 3), (4, .iload_n 1, 1), (5, .invokevirtual 148, 3), (8, .ifCond .ne 5, 3), (11, .iconst (-1), 1), (12, .ireturn, 1), (13, .iload_n 2, 1), (14, .iconst 1, 1), (15, .if_icmp .lt 14, 3), (18, .iload_n 2, 1), (19, .aload_n 0, 1), (20, .getfield 19, 3), (23, .getfield 98, 3), (26, .if_icmp .le 6, 3), (29, .bipush (-2), 2), (31, .ireturn, 1), (32, .aload_n 0, 1), (33, .getfield 52, 3), (36, .aload_n 0, 1), (37, .getfield 19, 3), (40, .invokevirtual 175, 3), (43, .iconst 0, 1), (44, .istore_n 3, 1), (45, .aload_n 0, 1), (46, .getfield 19, 3), (49, .iload_n 1, 1), (50, .invokevirtual 159, 3), (53, .invokestatic 185, 3), (56, .istore 4, 2), (58, .iload 4, 2), (60, .iload_n 2, 1), (61, .if_icmp .ge 28, 3), (64, .aload_n 0, 1), (65, .getfield 19, 3), (68, .aload_n 0, 1), (69, .getfield 38, 3), (72, .iload_n 1, 1), (73, .invokevirtual 194, 3), (76, .iload_n 1, 1), (77, .invokevirtual 190, 3), (80, .iinc 3 1, 3), (83, .iinc 4 1, 3), (86, .goto (-28), 3), (89, .iload_n 3, 1), (90, .ireturn, 1)]
def mt_X9_grow : Mt := (cX9_grow, RX9, 5, (some .int), ({ frames := 3, cells := 0, slots := 0, locals := 76 } : Room), false, none, none)
set_option maxRecDepth 100000 in
theorem dl_X9_grow : ∀ q ∈ il_X9_grow, decode (mt_X9_grow).1 q.1 = .ok q.2 := by decide +kernel
def tb_X9_grow : Tb := [(0, x_al 1 0, false),
  (1, x_gR 9 1 4, false),
  (4, x_il 5 1, false),
  (5, x_cV 5 1 P_X5_hasBit 8, false),
  (8, x_ifn 13 11 (fun x : Int32 => x = 0), false),
  (11, x_c 12 (.int (-1)), false),
  (12, x_rI, false),
  (13, x_il 14 2, false),
  (14, x_c 15 (.int 1), false),
  (15, x_ic 29 18 (fun x y : Int32 => x < y), false),
  (18, x_il 19 2, false),
  (19, x_al 20 0, false),
  (20, x_gR 9 1 23, false),
  (23, x_gI 5 5 26, false),
  (26, x_ic 32 29 (fun x y : Int32 => x ≤ y), false),
  (29, x_c 31 (.int (-2)), false),
  (31, x_rI, false),
  (32, x_al 33 0, false),
  (33, x_gR 9 6 36, false),
  (36, x_al 37 0, false),
  (37, x_gR 9 1 40, false),
  (40, x_cV 0 1 P_X0_remember 43, false),
  (43, x_c 44 (.int 0), false),
  (44, x_is 45 3, false),
  (45, x_al 46 0, false),
  (46, x_gR 9 1 49, false),
  (49, x_il 50 1, false),
  (50, x_cV 5 1 P_X5_checksOver 53, false),
  (53, x_cS 1 P_J6_bitCount_0f7a4 56, false),
  (56, x_is 58 4, false),
  (58, x_il 60 4, true),
  (60, x_il 61 2, false),
  (61, x_ic 89 64 (fun x y : Int32 => y ≤ x), false),
  (64, x_al 65 0, false),
  (65, x_gR 9 1 68, false),
  (68, x_al 69 0, false),
  (69, x_gR 9 4 72, false),
  (72, x_il 73 1, false),
  (73, x_cV 8 1 P_X8_checkToGrowInto 76, false),
  (76, x_il 77 1, false),
  (77, x_cV 5 2 P_X5_turnOver 80, false),
  (80, x_inc 83 3 1, false),
  (83, x_inc 86 4 1, false),
  (86, x_go 58, false),
  (89, x_il 90 3, false),
  (90, x_rI, false)]
set_option maxRecDepth 100000 in
theorem tk_X9_grow : TbOk (mt_X9_grow) (tb_X9_grow) :=
  tkc (s_aload_n (at_ dl_X9_grow 0 (ins := .aload_n 0) rfl)) (
  tkc (s_gR (at_ dl_X9_grow 1 (ins := .getfield 19) rfl) (by decide) (by decide) (by decide) (tg 255 (by decide +kernel) (by decide +kernel))) (
  tkc (s_iload_n (at_ dl_X9_grow 2 (ins := .iload_n 1) rfl)) (
  tkc (s_cV ok_X5_hasBit (at_ dl_X9_grow 3 (ins := .invokevirtual 148) rfl) (by decide) rfl (tg 480 (by decide +kernel) (by decide +kernel)) (tg 396 (by decide +kernel) (by decide +kernel)) (tg 397 (by decide +kernel) (by decide +kernel)) (tg 45 (by decide +kernel) (by decide +kernel)) (tg 398 (by decide +kernel) (by decide +kernel)) (⟨by decide, by decide, by decide +kernel⟩) (⟨by decide, by decide⟩) rfl rfl) (
  tkc (s_if_ne (at_ dl_X9_grow 4 (ins := .ifCond .ne 5) rfl) (by decide)) (
  tkc (s_iconst (at_ dl_X9_grow 5 (ins := .iconst (-1)) rfl) (by first | rfl | decide)) (
  tkc (s_rI (at_ dl_X9_grow 6 (ins := .ireturn) rfl) rfl) (
  tkc (s_iload_n (at_ dl_X9_grow 7 (ins := .iload_n 2) rfl)) (
  tkc (s_iconst (at_ dl_X9_grow 8 (ins := .iconst 1) rfl) (by first | rfl | decide)) (
  tkc (s_ic_lt (at_ dl_X9_grow 9 (ins := .if_icmp .lt 14) rfl) (by decide)) (
  tkc (s_iload_n (at_ dl_X9_grow 10 (ins := .iload_n 2) rfl)) (
  tkc (s_aload_n (at_ dl_X9_grow 11 (ins := .aload_n 0) rfl)) (
  tkc (s_gR (at_ dl_X9_grow 12 (ins := .getfield 19) rfl) (by decide) (by decide) (by decide) (tg 255 (by decide +kernel) (by decide +kernel))) (
  tkc (s_gI (at_ dl_X9_grow 13 (ins := .getfield 98) rfl) (by decide) (by decide) (by decide) (tg 142 (by decide +kernel) (by decide +kernel))) (
  tkc (s_ic_le (at_ dl_X9_grow 14 (ins := .if_icmp .le 6) rfl) (by decide)) (
  tkc (s_bipush (at_ dl_X9_grow 15 (ins := .bipush (-2)) rfl) (by first | rfl | decide)) (
  tkc (s_rI (at_ dl_X9_grow 16 (ins := .ireturn) rfl) rfl) (
  tkc (s_aload_n (at_ dl_X9_grow 17 (ins := .aload_n 0) rfl)) (
  tkc (s_gR (at_ dl_X9_grow 18 (ins := .getfield 52) rfl) (by decide) (by decide) (by decide) (tg 260 (by decide +kernel) (by decide +kernel))) (
  tkc (s_aload_n (at_ dl_X9_grow 19 (ins := .aload_n 0) rfl)) (
  tkc (s_gR (at_ dl_X9_grow 20 (ins := .getfield 19) rfl) (by decide) (by decide) (by decide) (tg 255 (by decide +kernel) (by decide +kernel))) (
  tkc (s_cV ok_X0_remember (at_ dl_X9_grow 21 (ins := .invokevirtual 175) rfl) (by decide) rfl (tg 496 (by decide +kernel) (by decide +kernel)) (tg 497 (by decide +kernel) (by decide +kernel)) (tg 498 (by decide +kernel) (by decide +kernel)) (tg 49 (by decide +kernel) (by decide +kernel)) (tg 499 (by decide +kernel) (by decide +kernel)) (⟨by decide, by decide, by decide +kernel⟩) (⟨by decide, by decide⟩) rfl rfl) (
  tkc (s_iconst (at_ dl_X9_grow 22 (ins := .iconst 0) rfl) (by first | rfl | decide)) (
  tkc (s_istore_n (at_ dl_X9_grow 23 (ins := .istore_n 3) rfl) (by decide)) (
  tkc (s_aload_n (at_ dl_X9_grow 24 (ins := .aload_n 0) rfl)) (
  tkc (s_gR (at_ dl_X9_grow 25 (ins := .getfield 19) rfl) (by decide) (by decide) (by decide) (tg 255 (by decide +kernel) (by decide +kernel))) (
  tkc (s_iload_n (at_ dl_X9_grow 26 (ins := .iload_n 1) rfl)) (
  tkc (s_cV ok_X5_checksOver (at_ dl_X9_grow 27 (ins := .invokevirtual 159) rfl) (by decide) rfl (tg 481 (by decide +kernel) (by decide +kernel)) (tg 404 (by decide +kernel) (by decide +kernel)) (tg 405 (by decide +kernel) (by decide +kernel)) (tg 45 (by decide +kernel) (by decide +kernel)) (tg 406 (by decide +kernel) (by decide +kernel)) (⟨by decide, by decide, by decide +kernel⟩) (⟨by decide, by decide⟩) rfl rfl) (
  tkc (s_cS ok_J6_bitCount_0f7a4 (at_ dl_X9_grow 28 (ins := .invokestatic 185) rfl) (tg 514 (by decide +kernel) (by decide +kernel)) (tg 374 (by decide +kernel) (by decide +kernel)) (tg 53 (by decide +kernel) (by decide +kernel)) (tg 375 (by decide +kernel) (by decide +kernel)) (⟨by decide, by decide, by decide +kernel⟩) (⟨by decide, by decide⟩) rfl rfl) (
  tkc (s_istore (at_ dl_X9_grow 29 (ins := .istore 4) rfl) (by decide)) (
  tkc (s_iload (at_ dl_X9_grow 30 (ins := .iload 4) rfl)) (
  tkc (s_iload_n (at_ dl_X9_grow 31 (ins := .iload_n 2) rfl)) (
  tkc (s_ic_ge (at_ dl_X9_grow 32 (ins := .if_icmp .ge 28) rfl) (by decide)) (
  tkc (s_aload_n (at_ dl_X9_grow 33 (ins := .aload_n 0) rfl)) (
  tkc (s_gR (at_ dl_X9_grow 34 (ins := .getfield 19) rfl) (by decide) (by decide) (by decide) (tg 255 (by decide +kernel) (by decide +kernel))) (
  tkc (s_aload_n (at_ dl_X9_grow 35 (ins := .aload_n 0) rfl)) (
  tkc (s_gR (at_ dl_X9_grow 36 (ins := .getfield 38) rfl) (by decide) (by decide) (by decide) (tg 258 (by decide +kernel) (by decide +kernel))) (
  tkc (s_iload_n (at_ dl_X9_grow 37 (ins := .iload_n 1) rfl)) (
  tkc (s_cV ok_X8_checkToGrowInto (at_ dl_X9_grow 38 (ins := .invokevirtual 194) rfl) (by decide) rfl (tg 527 (by decide +kernel) (by decide +kernel)) (tg 528 (by decide +kernel) (by decide +kernel)) (tg 529 (by decide +kernel) (by decide +kernel)) (tg 47 (by decide +kernel) (by decide +kernel)) (tg 530 (by decide +kernel) (by decide +kernel)) (⟨by decide, by decide, by decide +kernel⟩) (⟨by decide, by decide⟩) rfl rfl) (
  tkc (s_iload_n (at_ dl_X9_grow 39 (ins := .iload_n 1) rfl)) (
  tkc (s_cV ok_X5_turnOver (at_ dl_X9_grow 40 (ins := .invokevirtual 190) rfl) (by decide) rfl (tg 519 (by decide +kernel) (by decide +kernel)) (tg 520 (by decide +kernel) (by decide +kernel)) (tg 521 (by decide +kernel) (by decide +kernel)) (tg 45 (by decide +kernel) (by decide +kernel)) (tg 522 (by decide +kernel) (by decide +kernel)) (⟨by decide, by decide, by decide +kernel⟩) (⟨by decide, by decide⟩) rfl rfl) (
  tkc (s_iinc (at_ dl_X9_grow 41 (ins := .iinc 3 1) rfl) (by decide) (by first | rfl | decide)) (
  tkc (s_iinc (at_ dl_X9_grow 42 (ins := .iinc 4 1) rfl) (by decide) (by first | rfl | decide)) (
  tkc (s_goto (at_ dl_X9_grow 43 (ins := .goto (-28)) rfl) (by decide)) (
  tkc (s_iload_n (at_ dl_X9_grow 44 (ins := .iload_n 3) rfl)) (
  tkc (s_rI (at_ dl_X9_grow 45 (ins := .ireturn) rfl) rfl) ( tk0))))))))))))))))))))))))))))))))))))))))))))))
theorem lf_X9_grow : lk (tb_X9_grow) 0 = (x_al 1 0, false) ∧ lk (tb_X9_grow) 1 = (x_gR 9 1 4, false) ∧ lk (tb_X9_grow) 4 = (x_il 5 1, false) ∧ lk (tb_X9_grow) 5 = (x_cV 5 1 P_X5_hasBit 8, false) ∧ lk (tb_X9_grow) 8 = (x_ifn 13 11 (fun x : Int32 => x = 0), false) ∧ lk (tb_X9_grow) 11 = (x_c 12 (.int (-1)), false) ∧ lk (tb_X9_grow) 12 = (x_rI, false) ∧ lk (tb_X9_grow) 13 = (x_il 14 2, false) ∧ lk (tb_X9_grow) 14 = (x_c 15 (.int 1), false) ∧ lk (tb_X9_grow) 15 = (x_ic 29 18 (fun x y : Int32 => x < y), false) ∧ lk (tb_X9_grow) 18 = (x_il 19 2, false) ∧ lk (tb_X9_grow) 19 = (x_al 20 0, false) ∧ lk (tb_X9_grow) 20 = (x_gR 9 1 23, false) ∧ lk (tb_X9_grow) 23 = (x_gI 5 5 26, false) ∧ lk (tb_X9_grow) 26 = (x_ic 32 29 (fun x y : Int32 => x ≤ y), false) ∧ lk (tb_X9_grow) 29 = (x_c 31 (.int (-2)), false) ∧ lk (tb_X9_grow) 31 = (x_rI, false) ∧ lk (tb_X9_grow) 32 = (x_al 33 0, false) ∧ lk (tb_X9_grow) 33 = (x_gR 9 6 36, false) ∧ lk (tb_X9_grow) 36 = (x_al 37 0, false) ∧ lk (tb_X9_grow) 37 = (x_gR 9 1 40, false) ∧ lk (tb_X9_grow) 40 = (x_cV 0 1 P_X0_remember 43, false) ∧ lk (tb_X9_grow) 43 = (x_c 44 (.int 0), false) ∧ lk (tb_X9_grow) 44 = (x_is 45 3, false) ∧ lk (tb_X9_grow) 45 = (x_al 46 0, false) ∧ lk (tb_X9_grow) 46 = (x_gR 9 1 49, false) ∧ lk (tb_X9_grow) 49 = (x_il 50 1, false) ∧ lk (tb_X9_grow) 50 = (x_cV 5 1 P_X5_checksOver 53, false) ∧ lk (tb_X9_grow) 53 = (x_cS 1 P_J6_bitCount_0f7a4 56, false) ∧ lk (tb_X9_grow) 56 = (x_is 58 4, false) ∧ lk (tb_X9_grow) 58 = (x_il 60 4, true) ∧ lk (tb_X9_grow) 60 = (x_il 61 2, false) ∧ lk (tb_X9_grow) 61 = (x_ic 89 64 (fun x y : Int32 => y ≤ x), false) ∧ lk (tb_X9_grow) 64 = (x_al 65 0, false) ∧ lk (tb_X9_grow) 65 = (x_gR 9 1 68, false) ∧ lk (tb_X9_grow) 68 = (x_al 69 0, false) ∧ lk (tb_X9_grow) 69 = (x_gR 9 4 72, false) ∧ lk (tb_X9_grow) 72 = (x_il 73 1, false) ∧ lk (tb_X9_grow) 73 = (x_cV 8 1 P_X8_checkToGrowInto 76, false) ∧ lk (tb_X9_grow) 76 = (x_il 77 1, false) ∧ lk (tb_X9_grow) 77 = (x_cV 5 2 P_X5_turnOver 80, false) ∧ lk (tb_X9_grow) 80 = (x_inc 83 3 1, false) ∧ lk (tb_X9_grow) 83 = (x_inc 86 4 1, false) ∧ lk (tb_X9_grow) 86 = (x_go 58, false) ∧ lk (tb_X9_grow) 89 = (x_il 90 3, false) ∧ lk (tb_X9_grow) 90 = (x_rI, false) := ⟨rfl, rfl, rfl, rfl, rfl, rfl, rfl, rfl, rfl, rfl, rfl, rfl, rfl, rfl, rfl, rfl, rfl, rfl, rfl, rfl, rfl, rfl, rfl, rfl, rfl, rfl, rfl, rfl, rfl, rfl, rfl, rfl, rfl, rfl, rfl, rfl, rfl, rfl, rfl, rfl, rfl, rfl, rfl, rfl, rfl, rfl⟩
def P_X9_grow : PTT := fun as M R => match as with
  | [.ref k, .int b, .int d] => k = 0 ∧ ∃ g, CR M.1 M.2.1 M.2.2 g ∧ GOk g ∧ Ans M R (gGrow g b d).1 (gGrow g b d).2
  | _ => False
set_option maxRecDepth 20000 in
theorem ok_X9_grow : Ok yX9_grow mt_X9_grow P_X9_grow := by
  refine Ok.of (by decide) rfl rfl rfl rfl fun av ⟨S, I, L⟩ R hP => ?_
  unfold P_X9_grow at hP
  split at hP
  case h_2 => exact hP.elim
  rename_i k b d
  obtain ⟨k, rfl⟩ : ∃ q : Nat, q = k := ⟨k, rfl⟩
  refine ⟨by simp [ent, wide, mt_X9_grow], ?_⟩
  show J mt_X9_grow R 0 [some (.ref k), some (.int b), some (.int d), none, none] [] (S, I, L)
  try dsimp only at hP
  obtain ⟨rfl, g, hc, ho, hA⟩ := hP
  have h1 := hc.1
  have en : I 5 4 = nI (aN (gA g)) := hc.2.2.1.1
  have em : I 5 5 = nI (aM (gA g)) := hc.2.2.1.2.1
  have hok := ho.2.1
  have h9 := ho.2.1.1
  refine J.of tk_X9_grow 200 fun ρ hρ => ?_
  simp only [hρ, x_c, x_il, x_ll, x_al, x_is, x_as, x_ls, x_inc, x_ii, x_iq, x_i1, x_l2, x_lq, x_lh, x_i2l, x_l2i, x_lcmp, x_dup, x_dup2, x_pop, x_if, x_ifn, x_ic, x_icn, x_go, x_sw, swc, x_l01, x_mx, x_gI, x_gL, x_gR, x_pI, x_pZ, x_pL, x_pR, x_ia, x_za, x_aa, x_ias, x_zas, x_aas, x_fac, x_fa, x_slen, x_sa, x_ac, x_oi, x_new, x_na, x_cS, x_cV, x_cI, x_rI, x_rZ, x_rL, x_r0, pa, short, oc, lg, lset, lset2, wide, cond_true, cond_false, true_and, and_true, ↓reduceIte, Bool.false_eq_true, true_or, or_true, lf_X9_grow, h1.1.f, hc.ac, hc.ac.1.f, hc.ac.2.f, P_X5_hasBit, P_X5_checksOver, P_J6_bitCount_0f7a4, P_X0_remember, en, em, bI_0, Classical.not_not]
  refine ⟨fun hb => ⟨fun hd => (hA.e (by rw [gGrow, if_neg (fun q => q hb), if_pos (.inl hd)])).s hc, fun hd => ⟨fun hd' => CR.rem hc ho fun I' hf8 hc' => ?_, fun hd' => (hA.e (by rw [gGrow, if_neg (fun q => q hb), if_pos (.inr hd')])).s hc⟩⟩, fun hb => (hA.e (by rw [gGrow, if_pos hb])).s hc⟩
  have hA' := hA.e (show gGrow g b d = (nI (tn d - ones9 (coF (aV (gA g)) (aM (gA g)) (tn b))), GA (remG g) (grA (tn b) (tn d - ones9 (coF (aV (gA g)) (aM (gA g)) (tn b))) (gA g))) by rw [gGrow, if_neg (fun q => q hb), if_neg (fun q => q.elim hd (fun r => r hd'))])
  obtain ⟨j, hj, rfl⟩ := hB.i (g := g) hb ho
  obtain ⟨D, hD1, hD2, rfl⟩ : ∃ D, 1 ≤ D ∧ D ≤ aM (gA g) ∧ d = nI D := by
    obtain ⟨D, a1, a2, rfl⟩ := le99 hd (Int32.le_trans hd' (by rw [show (99 : Int32) = nI 99 by decide, nI_leI (by omega) (by omega)]; omega))
    rw [nI_leI (by omega) (by omega)] at hd'
    exact ⟨D, a1, hd', rfl⟩
  rw [tn_nI (n := j) (by omega), tn_nI (n := D) (by omega)] at hA'
  have hs' : SR I' 5 (gA g) := hc'.2.2.1
  have hcl := coF_lt (ov := aV (gA g)) (b := j) h9.2.2
  rw [tn_nI (n := j) (by omega), hs'.co hok, tn_nI (n := coF (aV (gA g)) (aM (gA g)) j) (by omega)]
  refine ⟨hs'.ovq hok, ⟨j, by omega, rfl⟩, by omega, ?_⟩
  have o9 := ones9_le (coF (aV (gA g)) (aM (gA g)) j)
  generalize ones9 (coF (aV (gA g)) (aM (gA g)) j) = o at hA' o9
  have key : ∀ l o mr a I', l = D - o → o ≤ 100 → mr + l ≤ 100 → fr8 I I' → CR S I' L (GA (remG g) a) → AOk a → sz a (gA g) → (∀ I'' : MI, fr8 I I'' → CR S I'' L (GA (remG g) (grA j l a)) → R (some (.int (nI (mr + l)))) (S, I'', L)) → J mt_X9_grow R 58 [some (.ref 0), some (.int (nI j)), some (.int (nI D)), some (.int (nI mr)), some (.int (nI o))] [] (S, I', L) := by
    intro l
    induction l with
    | zero =>
      intro o mr a I1 hl ho1 hm1 hf1 hc1 ha1 hz1 hR1
      have hle : nI D ≤ nI o ↔ True := by rw [nI_leI (by omega) (by omega)]; exact ⟨fun _ => trivial, fun _ => by omega⟩
      refine J.of tk_X9_grow 200 fun ρ hρ => ?_
      simp only [hρ, x_c, x_il, x_ll, x_al, x_is, x_as, x_ls, x_inc, x_ii, x_iq, x_i1, x_l2, x_lq, x_lh, x_i2l, x_l2i, x_lcmp, x_dup, x_dup2, x_pop, x_if, x_ifn, x_ic, x_icn, x_go, x_sw, swc, x_l01, x_mx, x_gI, x_gL, x_gR, x_pI, x_pZ, x_pL, x_pR, x_ia, x_za, x_aa, x_ias, x_zas, x_aas, x_fac, x_fa, x_slen, x_sa, x_ac, x_oi, x_new, x_na, x_cS, x_cV, x_cI, x_rI, x_rZ, x_rL, x_r0, pa, short, oc, lg, lset, lset2, wide, cond_true, cond_false, true_and, and_true, ↓reduceIte, Bool.false_eq_true, true_or, or_true, lf_X9_grow, hle, true_implies, not_true_eq_false, false_implies]
      exact hR1 I1 hf1 hc1
    | succ l ih =>
      intro o mr a I1 hl ho1 hm1 hf1 hc1 ha1 hz1 hR1
      have hle : nI D ≤ nI o ↔ False := by rw [nI_leI (by omega) (by omega)]; exact ⟨fun _ => by omega, False.elim⟩
      have hs1 : SR I1 5 a := hc1.2.2.1
      have hja : j < aN a := by rw [hz1.1]; exact hj
      have en1 : I1 5 4 = nI (aN a) := hs1.1
      have em1 : I1 5 5 = nI (aM a) := hs1.2.1
      have hn9 := ha1.1
      refine J.of tk_X9_grow 200 fun ρ hρ => ?_
      simp only [hρ, x_c, x_il, x_ll, x_al, x_is, x_as, x_ls, x_inc, x_ii, x_iq, x_i1, x_l2, x_lq, x_lh, x_i2l, x_l2i, x_lcmp, x_dup, x_dup2, x_pop, x_if, x_ifn, x_ic, x_icn, x_go, x_sw, swc, x_l01, x_mx, x_gI, x_gL, x_gR, x_pI, x_pZ, x_pL, x_pR, x_ia, x_za, x_aa, x_ias, x_zas, x_aas, x_fac, x_fa, x_slen, x_sa, x_ac, x_oi, x_new, x_na, x_cS, x_cV, x_cI, x_rI, x_rZ, x_rL, x_r0, pa, short, oc, lg, lset, lset2, wide, cond_true, cond_false, true_and, and_true, ↓reduceIte, Bool.false_eq_true, true_or, or_true, lf_X9_grow, h1.1.f, hc.ac.2, hc.ac.2.f, h1.2.2.2.2.2.2.1, h1.2.2.2.2.2.2.1.f, P_X8_checkToGrowInto, P_X5_turnOver, hle, en1, em1, nI_1, false_implies, not_false_eq_true, true_implies]
      refine ⟨a, hs1, ha1, by rw [tn_nI (by omega)]; exact hja, ⟨_, hn9.2.1, rfl⟩, ⟨_, hn9.2.2, rfl⟩, fun hin => ?_, fun hin => ?_⟩
      · rw [tn_nI (n := j) (by omega)] at hin ⊢
        obtain ⟨c, hcm, ec⟩ := in_of hin.1 hn9.2.2 (by omega)
        have hgp : gpA a (cgA a j) j = putA a c j := by rw [gpA, if_pos hin.1, ec, tn_nI (by omega)]
        have hs2 := SR.put (I := I1) (k := 5) hs1 ha1 hcm hja
        rw [ec]
        refine ih (o + 1) (mr + 1) (putA a c j) _ (by omega) (by omega) (by omega) (hf1.trans (fun q hq => put_fr (by omega) (by omega))) (hc1.now (fun q a b c d e f => put_fr (by omega) (by omega)) hs2) (putA_ok ha1 hcm hja) hz1 (fun I'' q1 q2 => ?_)
        rw [show mr + 1 + l = mr + (l + 1) by omega]
        refine hR1 I'' q1 ?_
        rw [grA, hgp]; exact q2
      · rw [tn_nI (n := j) (by omega)] at hin
        have hnr : ¬ (¬ cgA a j < 0 ∧ ¬ nI (aM a) ≤ cgA a j) := fun q => hin ⟨q, (in_lt (by omega) (by omega)).mpr hja⟩
        have hgp : gpA a (cgA a j) j = a := by rw [gpA, if_neg hnr]
        refine ih (o + 1) (mr + 1) a _ (by omega) (by omega) (by omega) hf1 hc1 ha1 hz1 (fun I'' q1 q2 => ?_)
        rw [show mr + 1 + l = mr + (l + 1) by omega]
        refine hR1 I'' q1 ?_
        rw [grA, hgp]; exact q2
  refine key (D - o) o 0 (gA g) I' rfl (by omega) (by omega) hf8 hc'.up hok ⟨rfl, rfl⟩ (fun I'' q1 q2 => ?_)
  rw [Nat.zero_add]
  exact hA' I'' L q1 (fun _ _ => rfl) q2
