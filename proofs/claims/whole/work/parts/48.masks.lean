/-! ASKS of the model: bit, message -/
theorem MR.ms {S : Sh} {I : MI} {L : Nat → Nat → Int64} {g : GS} (h : MR S I L g) (ho : GOk g) : MS S I 110 (gA g) := MS.of h.1 (Or.inl rfl) h.2.2.2.1 ho.2.1 h.2.2.1.1 h.2.2.1.2
def il_X10_bit : List (Nat × Instr × Nat) := [(0, .aload_n 0, 1), (1, .iload_n 1, 1), (2, .invokevirtual 168, 3), (5, .ifCond .ne 5, 3), (8, .iconst (-1), 1), (9, .ireturn, 1), (10, .iload_n 2, 1), (11, .tableswitch 60 0 2 #[25, 37, 50], 25), (36, .aload_n 0, 1), (37, .getfield 13, 3), (40, .iconst 0, 1), (41, .iload_n 1, 1), (42, .iadd, 1), (43, .iaload, 1), (44, .bipush 100, 2), (46, .iadd, 1), (47, .ireturn, 1), (48, .aload_n 0, 1), (49, .getfield 13, 3), (52, .bipush 9, 2), (54, .iload_n 1, 1), (55, .iadd, 1), (56, .iaload, 1), (57, .bipush 100, 2), (59, .iadd, 1), (60, .ireturn, 1), (61, .aload_n 0, 1), (62, .aload_n 0, 1), (63, .getfield 13, 3), (66, .iload_n 1, 1), (67, .invokevirtual 171, 3), (70, .ireturn, 1), (71, .bipush (-2), 2), (73, .ireturn, 1)]
def mt_X10_bit : Mt := (cX10_bit, RX10, 3, (some .int), ({ frames := 2, cells := 0, slots := 0, locals := 46 } : Room), false, none, none)
set_option maxRecDepth 100000 in
theorem dl_X10_bit : ∀ q ∈ il_X10_bit, decode (mt_X10_bit).1 q.1 = .ok q.2 := by decide +kernel
def tb_X10_bit : Tb := [(0, x_al 1 0, false),
  (1, x_il 2 1, false),
  (2, x_cV 10 1 P_X10_isBit 5, false),
  (5, x_ifn 10 8 (fun x : Int32 => x = 0), false),
  (8, x_c 9 (.int (-1)), false),
  (9, x_rI, false),
  (10, x_il 11 2, false),
  (11, x_sw 0 2 [36, 48, 61] 71, false),
  (36, x_al 37 0, false),
  (37, x_gR 10 4 40, false),
  (40, x_c 41 (.int 0), false),
  (41, x_il 42 1, false),
  (42, x_ii 43 (fun x y : Int32 => x + y), false),
  (43, x_ia 44, false),
  (44, x_c 46 (.int 100), false),
  (46, x_ii 47 (fun x y : Int32 => x + y), false),
  (47, x_rI, false),
  (48, x_al 49 0, false),
  (49, x_gR 10 4 52, false),
  (52, x_c 54 (.int 9), false),
  (54, x_il 55 1, false),
  (55, x_ii 56 (fun x y : Int32 => x + y), false),
  (56, x_ia 57, false),
  (57, x_c 59 (.int 100), false),
  (59, x_ii 60 (fun x y : Int32 => x + y), false),
  (60, x_rI, false),
  (61, x_al 62 0, false),
  (62, x_al 63 0, false),
  (63, x_gR 10 4 66, false),
  (66, x_il 67 1, false),
  (67, x_cV 10 2 P_X10_checksOver 70, false),
  (70, x_rI, false),
  (71, x_c 73 (.int (-2)), false),
  (73, x_rI, false)]
set_option maxRecDepth 100000 in
theorem tk_X10_bit : TbOk (mt_X10_bit) (tb_X10_bit) :=
  tkc (s_aload_n (at_ dl_X10_bit 0 (ins := .aload_n 0) rfl)) (
  tkc (s_iload_n (at_ dl_X10_bit 1 (ins := .iload_n 1) rfl)) (
  tkc (s_cV ok_X10_isBit (at_ dl_X10_bit 2 (ins := .invokevirtual 168) rfl) (by decide) rfl (tg 880 (by decide +kernel) (by decide +kernel)) (tg 882 (by decide +kernel) (by decide +kernel)) (tg 34 (by decide +kernel) (by decide +kernel)) (tg 51 (by decide +kernel) (by decide +kernel)) (tg 883 (by decide +kernel) (by decide +kernel)) (⟨by decide, by decide, by decide +kernel⟩) (⟨by decide, by decide⟩) rfl rfl) (
  tkc (s_if_ne (at_ dl_X10_bit 3 (ins := .ifCond .ne 5) rfl) (by decide)) (
  tkc (s_iconst (at_ dl_X10_bit 4 (ins := .iconst (-1)) rfl) (by first | rfl | decide)) (
  tkc (s_rI (at_ dl_X10_bit 5 (ins := .ireturn) rfl) rfl) (
  tkc (s_iload_n (at_ dl_X10_bit 6 (ins := .iload_n 2) rfl)) (
  tkc (s_sw (at_ dl_X10_bit 7 (ins := .tableswitch 60 0 2 #[25, 37, 50]) rfl) rfl (tsw [36, 48, 61] (by decide +kernel)) (by decide)) (
  tkc (s_aload_n (at_ dl_X10_bit 8 (ins := .aload_n 0) rfl)) (
  tkc (s_gR (at_ dl_X10_bit 9 (ins := .getfield 13) rfl) (by decide) (by decide) (by decide) (tg 700 (by decide +kernel) (by decide +kernel))) (
  tkc (s_iconst (at_ dl_X10_bit 10 (ins := .iconst 0) rfl) (by first | rfl | decide)) (
  tkc (s_iload_n (at_ dl_X10_bit 11 (ins := .iload_n 1) rfl)) (
  tkc (s_iadd (at_ dl_X10_bit 12 (ins := .iadd) rfl)) (
  tkc (s_ia (at_ dl_X10_bit 13 (ins := .iaload) rfl)) (
  tkc (s_bipush (at_ dl_X10_bit 14 (ins := .bipush 100) rfl) (by first | rfl | decide)) (
  tkc (s_iadd (at_ dl_X10_bit 15 (ins := .iadd) rfl)) (
  tkc (s_rI (at_ dl_X10_bit 16 (ins := .ireturn) rfl) rfl) (
  tkc (s_aload_n (at_ dl_X10_bit 17 (ins := .aload_n 0) rfl)) (
  tkc (s_gR (at_ dl_X10_bit 18 (ins := .getfield 13) rfl) (by decide) (by decide) (by decide) (tg 700 (by decide +kernel) (by decide +kernel))) (
  tkc (s_bipush (at_ dl_X10_bit 19 (ins := .bipush 9) rfl) (by first | rfl | decide)) (
  tkc (s_iload_n (at_ dl_X10_bit 20 (ins := .iload_n 1) rfl)) (
  tkc (s_iadd (at_ dl_X10_bit 21 (ins := .iadd) rfl)) (
  tkc (s_ia (at_ dl_X10_bit 22 (ins := .iaload) rfl)) (
  tkc (s_bipush (at_ dl_X10_bit 23 (ins := .bipush 100) rfl) (by first | rfl | decide)) (
  tkc (s_iadd (at_ dl_X10_bit 24 (ins := .iadd) rfl)) (
  tkc (s_rI (at_ dl_X10_bit 25 (ins := .ireturn) rfl) rfl) (
  tkc (s_aload_n (at_ dl_X10_bit 26 (ins := .aload_n 0) rfl)) (
  tkc (s_aload_n (at_ dl_X10_bit 27 (ins := .aload_n 0) rfl)) (
  tkc (s_gR (at_ dl_X10_bit 28 (ins := .getfield 13) rfl) (by decide) (by decide) (by decide) (tg 700 (by decide +kernel) (by decide +kernel))) (
  tkc (s_iload_n (at_ dl_X10_bit 29 (ins := .iload_n 1) rfl)) (
  tkc (s_cV ok_X10_checksOver (at_ dl_X10_bit 30 (ins := .invokevirtual 171) rfl) (by decide) rfl (tg 884 (by decide +kernel) (by decide +kernel)) (tg 886 (by decide +kernel) (by decide +kernel)) (tg 35 (by decide +kernel) (by decide +kernel)) (tg 51 (by decide +kernel) (by decide +kernel)) (tg 887 (by decide +kernel) (by decide +kernel)) (⟨by decide, by decide, by decide +kernel⟩) (⟨by decide, by decide⟩) rfl rfl) (
  tkc (s_rI (at_ dl_X10_bit 31 (ins := .ireturn) rfl) rfl) (
  tkc (s_bipush (at_ dl_X10_bit 32 (ins := .bipush (-2)) rfl) (by first | rfl | decide)) (
  tkc (s_rI (at_ dl_X10_bit 33 (ins := .ireturn) rfl) rfl) ( tk0))))))))))))))))))))))))))))))))))
theorem lf_X10_bit : lk (tb_X10_bit) 0 = (x_al 1 0, false) ∧ lk (tb_X10_bit) 1 = (x_il 2 1, false) ∧ lk (tb_X10_bit) 2 = (x_cV 10 1 P_X10_isBit 5, false) ∧ lk (tb_X10_bit) 5 = (x_ifn 10 8 (fun x : Int32 => x = 0), false) ∧ lk (tb_X10_bit) 8 = (x_c 9 (.int (-1)), false) ∧ lk (tb_X10_bit) 9 = (x_rI, false) ∧ lk (tb_X10_bit) 10 = (x_il 11 2, false) ∧ lk (tb_X10_bit) 11 = (x_sw 0 2 [36, 48, 61] 71, false) ∧ lk (tb_X10_bit) 36 = (x_al 37 0, false) ∧ lk (tb_X10_bit) 37 = (x_gR 10 4 40, false) ∧ lk (tb_X10_bit) 40 = (x_c 41 (.int 0), false) ∧ lk (tb_X10_bit) 41 = (x_il 42 1, false) ∧ lk (tb_X10_bit) 42 = (x_ii 43 (fun x y : Int32 => x + y), false) ∧ lk (tb_X10_bit) 43 = (x_ia 44, false) ∧ lk (tb_X10_bit) 44 = (x_c 46 (.int 100), false) ∧ lk (tb_X10_bit) 46 = (x_ii 47 (fun x y : Int32 => x + y), false) ∧ lk (tb_X10_bit) 47 = (x_rI, false) ∧ lk (tb_X10_bit) 48 = (x_al 49 0, false) ∧ lk (tb_X10_bit) 49 = (x_gR 10 4 52, false) ∧ lk (tb_X10_bit) 52 = (x_c 54 (.int 9), false) ∧ lk (tb_X10_bit) 54 = (x_il 55 1, false) ∧ lk (tb_X10_bit) 55 = (x_ii 56 (fun x y : Int32 => x + y), false) ∧ lk (tb_X10_bit) 56 = (x_ia 57, false) ∧ lk (tb_X10_bit) 57 = (x_c 59 (.int 100), false) ∧ lk (tb_X10_bit) 59 = (x_ii 60 (fun x y : Int32 => x + y), false) ∧ lk (tb_X10_bit) 60 = (x_rI, false) ∧ lk (tb_X10_bit) 61 = (x_al 62 0, false) ∧ lk (tb_X10_bit) 62 = (x_al 63 0, false) ∧ lk (tb_X10_bit) 63 = (x_gR 10 4 66, false) ∧ lk (tb_X10_bit) 66 = (x_il 67 1, false) ∧ lk (tb_X10_bit) 67 = (x_cV 10 2 P_X10_checksOver 70, false) ∧ lk (tb_X10_bit) 70 = (x_rI, false) ∧ lk (tb_X10_bit) 71 = (x_c 73 (.int (-2)), false) ∧ lk (tb_X10_bit) 73 = (x_rI, false) := ⟨rfl, rfl, rfl, rfl, rfl, rfl, rfl, rfl, rfl, rfl, rfl, rfl, rfl, rfl, rfl, rfl, rfl, rfl, rfl, rfl, rfl, rfl, rfl, rfl, rfl, rfl, rfl, rfl, rfl, rfl, rfl, rfl, rfl, rfl⟩
def P_X10_bit : PTT := fun as M R => match as with
  | [.ref k, .int b, .int w] => k = 108 ∧ ∃ g, MR M.1 M.2.1 M.2.2 g ∧ GOk g ∧ Anm M R (gBit g b w) g
  | _ => False
set_option maxRecDepth 20000 in
theorem ok_X10_bit : Ok yX10_bit mt_X10_bit P_X10_bit := by
  refine Ok.of (by decide) rfl rfl rfl rfl fun av ⟨S, I, L⟩ R hP => ?_
  unfold P_X10_bit at hP
  split at hP
  case h_2 => exact hP.elim
  rename_i k b w
  obtain ⟨k, rfl⟩ : ∃ q : Nat, q = k := ⟨k, rfl⟩
  refine ⟨by simp [ent, wide, mt_X10_bit], ?_⟩
  show J mt_X10_bit R 0 [some (.ref k), some (.int b), some (.int w)] [] (S, I, L)
  try dsimp only at hP
  obtain ⟨rfl, g, hc, ho, hA⟩ := hP
  obtain ⟨h1, h2, h3, h4, h5, h6, h7, h8, h9⟩ := id hc
  have hm := ho.2.1.1
  have hfin : ∀ v, gBit g b w = v → R (some (.int v)) (S, I, L) := fun v hv => (hv ▸ hA).s hc
  refine J.of tk_X10_bit 200 fun ρ hρ => ?_
  simp only [hρ, x_c, x_il, x_ll, x_al, x_is, x_as, x_ls, x_inc, x_ii, x_iq, x_i1, x_l2, x_lq, x_lh, x_i2l, x_l2i, x_lcmp, x_dup, x_dup2, x_pop, x_if, x_ifn, x_ic, x_icn, x_go, x_sw, swc, x_l01, x_mx, x_gI, x_gL, x_gR, x_pI, x_pZ, x_pL, x_pR, x_ia, x_za, x_aa, x_ias, x_zas, x_aas, x_fac, x_fa, x_slen, x_sa, x_ac, x_oi, x_new, x_na, x_cS, x_cV, x_cI, x_rI, x_rZ, x_rL, x_r0, pa, short, oc, lg, lset, lset2, wide, cond_true, cond_false, true_and, and_true, ↓reduceIte, Bool.false_eq_true, true_or, or_true, lf_X10_bit, h1.f, P_X10_isBit, P_X10_checksOver]
  refine ⟨aN (gA g), by omega, h3.1, ?_⟩
  simp only [bI_0, Classical.not_not]
  refine ⟨fun h => ?_, fun h => hfin _ (by rw [gBit, if_pos h])⟩
  obtain ⟨j, hj, rfl⟩ := hB.i (g := g) h ho
  have hn : ¬ ¬ hB g (nI j) := fun q => q h
  have et : tn (nI j) = j := tn_nI (by omega)
  rw [Int32.zero_add, show (9 : Int32) + nI j = nI (9 + j) by rw [nI9, nI_add], ncl (show j < 2 ^ 31 by omega), ncl (show 9 + j < 2 ^ 31 by omega), h4.l (by omega), h4.t (by omega)]
  refine ⟨⟨fun h0 => ⟨vp_in_nI (by omega) (by omega), hfin _ (by rw [gBit, if_neg hn, if_pos h0, et])⟩, fun h0 => ⟨vp_in_nI (by omega) (by omega), hfin _ (by rw [gBit, if_neg hn, if_neg (by omega), if_pos (by omega), et])⟩, fun h0 => ⟨gA g, j, hc.ms ho, by omega, rfl, hfin _ (by rw [gBit, if_neg hn, if_neg (by omega), if_neg (by omega), if_pos (by omega), et])⟩⟩, fun h0 => hfin _ (by rw [gBit, if_neg hn, if_neg (by omega), if_neg (by omega), if_neg (by omega)])⟩
def il_X10_message : List (Nat × Instr × Nat) := [(0, .aload_n 0, 1), (1, .iload_n 1, 1), (2, .invokevirtual 174, 3), (5, .ifCond .eq 11, 3), (8, .aload_n 0, 1), (9, .iload_n 2, 1), (10, .invokevirtual 168, 3), (13, .ifCond .ne 5, 3), (16, .iconst (-1), 1), (17, .ireturn, 1), (18, .aload_n 0, 1), (19, .getfield 13, 3), (22, .bipush 18, 2), (24, .iload_n 1, 1), (25, .iadd, 1), (26, .iaload, 1), (27, .iload_n 2, 1), (28, .invokestatic 102, 3), (31, .ifCond .eq 23, 3), (34, .aload_n 0, 1), (35, .getfield 13, 3), (38, .bipush 24, 2), (40, .bipush 9, 2), (42, .iload_n 1, 1), (43, .imul, 1), (44, .iadd, 1), (45, .iload_n 2, 1), (46, .iadd, 1), (47, .iaload, 1), (48, .bipush 100, 2), (50, .iadd, 1), (51, .goto 5, 3), (54, .bipush (-9), 2), (56, .ireturn, 1)]
def mt_X10_message : Mt := (cX10_message, RX10, 3, (some .int), ({ frames := 2, cells := 0, slots := 0, locals := 46 } : Room), false, none, none)
set_option maxRecDepth 100000 in
theorem dl_X10_message : ∀ q ∈ il_X10_message, decode (mt_X10_message).1 q.1 = .ok q.2 := by decide +kernel
def tb_X10_message : Tb := [(0, x_al 1 0, false),
  (1, x_il 2 1, false),
  (2, x_cV 10 1 P_X10_isCheck 5, false),
  (5, x_if 16 8 (fun x : Int32 => x = 0), false),
  (8, x_al 9 0, false),
  (9, x_il 10 2, false),
  (10, x_cV 10 1 P_X10_isBit 13, false),
  (13, x_ifn 18 16 (fun x : Int32 => x = 0), false),
  (16, x_c 17 (.int (-1)), false),
  (17, x_rI, false),
  (18, x_al 19 0, false),
  (19, x_gR 10 4 22, false),
  (22, x_c 24 (.int 18), false),
  (24, x_il 25 1, false),
  (25, x_ii 26 (fun x y : Int32 => x + y), false),
  (26, x_ia 27, false),
  (27, x_il 28 2, false),
  (28, x_cS 2 P_X10_has 31, false),
  (31, x_if 54 34 (fun x : Int32 => x = 0), false),
  (34, x_al 35 0, false),
  (35, x_gR 10 4 38, false),
  (38, x_c 40 (.int 24), false),
  (40, x_c 42 (.int 9), false),
  (42, x_il 43 1, false),
  (43, x_ii 44 (fun x y : Int32 => x * y), false),
  (44, x_ii 45 (fun x y : Int32 => x + y), false),
  (45, x_il 46 2, false),
  (46, x_ii 47 (fun x y : Int32 => x + y), false),
  (47, x_ia 48, false),
  (48, x_c 50 (.int 100), false),
  (50, x_ii 51 (fun x y : Int32 => x + y), false),
  (51, x_go 56, false),
  (54, x_c 56 (.int (-9)), false),
  (56, x_rI, false)]
set_option maxRecDepth 100000 in
theorem tk_X10_message : TbOk (mt_X10_message) (tb_X10_message) :=
  tkc (s_aload_n (at_ dl_X10_message 0 (ins := .aload_n 0) rfl)) (
  tkc (s_iload_n (at_ dl_X10_message 1 (ins := .iload_n 1) rfl)) (
  tkc (s_cV ok_X10_isCheck (at_ dl_X10_message 2 (ins := .invokevirtual 174) rfl) (by decide) rfl (tg 892 (by decide +kernel) (by decide +kernel)) (tg 894 (by decide +kernel) (by decide +kernel)) (tg 36 (by decide +kernel) (by decide +kernel)) (tg 51 (by decide +kernel) (by decide +kernel)) (tg 895 (by decide +kernel) (by decide +kernel)) (⟨by decide, by decide, by decide +kernel⟩) (⟨by decide, by decide⟩) rfl rfl) (
  tkc (s_if_eq (at_ dl_X10_message 3 (ins := .ifCond .eq 11) rfl) (by decide)) (
  tkc (s_aload_n (at_ dl_X10_message 4 (ins := .aload_n 0) rfl)) (
  tkc (s_iload_n (at_ dl_X10_message 5 (ins := .iload_n 2) rfl)) (
  tkc (s_cV ok_X10_isBit (at_ dl_X10_message 6 (ins := .invokevirtual 168) rfl) (by decide) rfl (tg 880 (by decide +kernel) (by decide +kernel)) (tg 882 (by decide +kernel) (by decide +kernel)) (tg 34 (by decide +kernel) (by decide +kernel)) (tg 51 (by decide +kernel) (by decide +kernel)) (tg 883 (by decide +kernel) (by decide +kernel)) (⟨by decide, by decide, by decide +kernel⟩) (⟨by decide, by decide⟩) rfl rfl) (
  tkc (s_if_ne (at_ dl_X10_message 7 (ins := .ifCond .ne 5) rfl) (by decide)) (
  tkc (s_iconst (at_ dl_X10_message 8 (ins := .iconst (-1)) rfl) (by first | rfl | decide)) (
  tkc (s_rI (at_ dl_X10_message 9 (ins := .ireturn) rfl) rfl) (
  tkc (s_aload_n (at_ dl_X10_message 10 (ins := .aload_n 0) rfl)) (
  tkc (s_gR (at_ dl_X10_message 11 (ins := .getfield 13) rfl) (by decide) (by decide) (by decide) (tg 700 (by decide +kernel) (by decide +kernel))) (
  tkc (s_bipush (at_ dl_X10_message 12 (ins := .bipush 18) rfl) (by first | rfl | decide)) (
  tkc (s_iload_n (at_ dl_X10_message 13 (ins := .iload_n 1) rfl)) (
  tkc (s_iadd (at_ dl_X10_message 14 (ins := .iadd) rfl)) (
  tkc (s_ia (at_ dl_X10_message 15 (ins := .iaload) rfl)) (
  tkc (s_iload_n (at_ dl_X10_message 16 (ins := .iload_n 2) rfl)) (
  tkc (s_cS ok_X10_has (at_ dl_X10_message 17 (ins := .invokestatic 102) rfl) (tg 828 (by decide +kernel) (by decide +kernel)) (tg 829 (by decide +kernel) (by decide +kernel)) (tg 51 (by decide +kernel) (by decide +kernel)) (tg 830 (by decide +kernel) (by decide +kernel)) (⟨by decide, by decide, by decide +kernel⟩) (⟨by decide, by decide⟩) rfl rfl) (
  tkc (s_if_eq (at_ dl_X10_message 18 (ins := .ifCond .eq 23) rfl) (by decide)) (
  tkc (s_aload_n (at_ dl_X10_message 19 (ins := .aload_n 0) rfl)) (
  tkc (s_gR (at_ dl_X10_message 20 (ins := .getfield 13) rfl) (by decide) (by decide) (by decide) (tg 700 (by decide +kernel) (by decide +kernel))) (
  tkc (s_bipush (at_ dl_X10_message 21 (ins := .bipush 24) rfl) (by first | rfl | decide)) (
  tkc (s_bipush (at_ dl_X10_message 22 (ins := .bipush 9) rfl) (by first | rfl | decide)) (
  tkc (s_iload_n (at_ dl_X10_message 23 (ins := .iload_n 1) rfl)) (
  tkc (s_imul (at_ dl_X10_message 24 (ins := .imul) rfl)) (
  tkc (s_iadd (at_ dl_X10_message 25 (ins := .iadd) rfl)) (
  tkc (s_iload_n (at_ dl_X10_message 26 (ins := .iload_n 2) rfl)) (
  tkc (s_iadd (at_ dl_X10_message 27 (ins := .iadd) rfl)) (
  tkc (s_ia (at_ dl_X10_message 28 (ins := .iaload) rfl)) (
  tkc (s_bipush (at_ dl_X10_message 29 (ins := .bipush 100) rfl) (by first | rfl | decide)) (
  tkc (s_iadd (at_ dl_X10_message 30 (ins := .iadd) rfl)) (
  tkc (s_goto (at_ dl_X10_message 31 (ins := .goto 5) rfl) (by decide)) (
  tkc (s_bipush (at_ dl_X10_message 32 (ins := .bipush (-9)) rfl) (by first | rfl | decide)) (
  tkc (s_rI (at_ dl_X10_message 33 (ins := .ireturn) rfl) rfl) ( tk0))))))))))))))))))))))))))))))))))
theorem lf_X10_message : lk (tb_X10_message) 0 = (x_al 1 0, false) ∧ lk (tb_X10_message) 1 = (x_il 2 1, false) ∧ lk (tb_X10_message) 2 = (x_cV 10 1 P_X10_isCheck 5, false) ∧ lk (tb_X10_message) 5 = (x_if 16 8 (fun x : Int32 => x = 0), false) ∧ lk (tb_X10_message) 8 = (x_al 9 0, false) ∧ lk (tb_X10_message) 9 = (x_il 10 2, false) ∧ lk (tb_X10_message) 10 = (x_cV 10 1 P_X10_isBit 13, false) ∧ lk (tb_X10_message) 13 = (x_ifn 18 16 (fun x : Int32 => x = 0), false) ∧ lk (tb_X10_message) 16 = (x_c 17 (.int (-1)), false) ∧ lk (tb_X10_message) 17 = (x_rI, false) ∧ lk (tb_X10_message) 18 = (x_al 19 0, false) ∧ lk (tb_X10_message) 19 = (x_gR 10 4 22, false) ∧ lk (tb_X10_message) 22 = (x_c 24 (.int 18), false) ∧ lk (tb_X10_message) 24 = (x_il 25 1, false) ∧ lk (tb_X10_message) 25 = (x_ii 26 (fun x y : Int32 => x + y), false) ∧ lk (tb_X10_message) 26 = (x_ia 27, false) ∧ lk (tb_X10_message) 27 = (x_il 28 2, false) ∧ lk (tb_X10_message) 28 = (x_cS 2 P_X10_has 31, false) ∧ lk (tb_X10_message) 31 = (x_if 54 34 (fun x : Int32 => x = 0), false) ∧ lk (tb_X10_message) 34 = (x_al 35 0, false) ∧ lk (tb_X10_message) 35 = (x_gR 10 4 38, false) ∧ lk (tb_X10_message) 38 = (x_c 40 (.int 24), false) ∧ lk (tb_X10_message) 40 = (x_c 42 (.int 9), false) ∧ lk (tb_X10_message) 42 = (x_il 43 1, false) ∧ lk (tb_X10_message) 43 = (x_ii 44 (fun x y : Int32 => x * y), false) ∧ lk (tb_X10_message) 44 = (x_ii 45 (fun x y : Int32 => x + y), false) ∧ lk (tb_X10_message) 45 = (x_il 46 2, false) ∧ lk (tb_X10_message) 46 = (x_ii 47 (fun x y : Int32 => x + y), false) ∧ lk (tb_X10_message) 47 = (x_ia 48, false) ∧ lk (tb_X10_message) 48 = (x_c 50 (.int 100), false) ∧ lk (tb_X10_message) 50 = (x_ii 51 (fun x y : Int32 => x + y), false) ∧ lk (tb_X10_message) 51 = (x_go 56, false) ∧ lk (tb_X10_message) 54 = (x_c 56 (.int (-9)), false) ∧ lk (tb_X10_message) 56 = (x_rI, false) := ⟨rfl, rfl, rfl, rfl, rfl, rfl, rfl, rfl, rfl, rfl, rfl, rfl, rfl, rfl, rfl, rfl, rfl, rfl, rfl, rfl, rfl, rfl, rfl, rfl, rfl, rfl, rfl, rfl, rfl, rfl, rfl, rfl, rfl, rfl⟩
def P_X10_message : PTT := fun as M R => match as with
  | [.ref k, .int c, .int b] => k = 108 ∧ ∃ g, MR M.1 M.2.1 M.2.2 g ∧ GOk g ∧ Anm M R (gMsg g c b) g
  | _ => False
set_option maxRecDepth 20000 in
theorem ok_X10_message : Ok yX10_message mt_X10_message P_X10_message := by
  refine Ok.of (by decide) rfl rfl rfl rfl fun av ⟨S, I, L⟩ R hP => ?_
  unfold P_X10_message at hP
  split at hP
  case h_2 => exact hP.elim
  rename_i k c b
  obtain ⟨k, rfl⟩ : ∃ q : Nat, q = k := ⟨k, rfl⟩
  refine ⟨by simp [ent, wide, mt_X10_message], ?_⟩
  show J mt_X10_message R 0 [some (.ref k), some (.int c), some (.int b)] [] (S, I, L)
  try dsimp only at hP
  obtain ⟨rfl, g, hc, ho, hA⟩ := hP
  obtain ⟨h1, h2, h3, h4, h5, h6, h7, h8, h9⟩ := id hc
  have hm := ho.2.1.1
  have hfin : ∀ v, gMsg g c b = v → R (some (.int v)) (S, I, L) := fun v hv => (hv ▸ hA).s hc
  refine J.of tk_X10_message 200 fun ρ hρ => ?_
  simp only [hρ, x_c, x_il, x_ll, x_al, x_is, x_as, x_ls, x_inc, x_ii, x_iq, x_i1, x_l2, x_lq, x_lh, x_i2l, x_l2i, x_lcmp, x_dup, x_dup2, x_pop, x_if, x_ifn, x_ic, x_icn, x_go, x_sw, swc, x_l01, x_mx, x_gI, x_gL, x_gR, x_pI, x_pZ, x_pL, x_pR, x_ia, x_za, x_aa, x_ias, x_zas, x_aas, x_fac, x_fa, x_slen, x_sa, x_ac, x_oi, x_new, x_na, x_cS, x_cV, x_cI, x_rI, x_rZ, x_rL, x_r0, pa, short, oc, lg, lset, lset2, wide, cond_true, cond_false, true_and, and_true, ↓reduceIte, Bool.false_eq_true, true_or, or_true, lf_X10_message, h1.f, P_X10_isBit, P_X10_isCheck, P_X10_has]
  refine ⟨aM (gA g), by omega, h3.2, ?_⟩
  simp only [bI_0, Classical.not_not]
  refine ⟨fun h => hfin _ (by rw [gMsg, if_pos (fun q => h q.1)]), fun h => ⟨aN (gA g), by omega, h3.1, fun h' => ?_, fun h' => hfin _ (by rw [gMsg, if_pos (fun q => h' q.2)])⟩⟩
  obtain ⟨i, hi, rfl⟩ := hC.i (g := g) h ho
  obtain ⟨j, hj, rfl⟩ := hB.i (g := g) h' ho
  have hv := ho.2.1.v hi
  have e1 : (18 : Int32) + nI i = nI (18 + i) := by rw [show (18 : Int32) = nI 18 by decide, nI_add]
  have e2 : (24 : Int32) + 9 * nI i + nI j = nI (24 + (9 * i + j)) := by rw [show (24 : Int32) = nI 24 by decide, nI9, pk_mul, nI_add, nI_add, Nat.add_assoc]
  rw [e1, e2, ncl (by omega), ncl (by omega), h4.v hi, h4.m (by omega)]
  have hg : gMsg g (nI i) (nI j) = if (aV (gA g) i).testBit j = true then (aD (gA g)).2 (9 * i + j) + 100 else -9 := by rw [gMsg, if_neg (fun q => q ⟨h, h'⟩), tn_nI (by omega), tn_nI (by omega)]
  refine ⟨vp_in_nI (by omega) (by omega), _, _, rfl, by omega, rfl, by omega, ?_⟩
  simp only [bB_0, Classical.not_not]
  exact ⟨fun q => hfin _ (by rw [hg, if_neg q]), fun q => ⟨vp_in_nI (by omega) (by omega), hfin _ (by rw [hg, if_pos q])⟩⟩
