/-! ASKS of the class: bit, check, message; seen, seed, slots -/
def gCheck (g : GS) (c : Int32) : Int32 := if hC g c then nI (aV (gA g) (tn c)) else -1
def il_X9_check : List (Nat × Instr × Nat) := [(0, .aload_n 0, 1), (1, .getfield 19, 3), (4, .iload_n 1, 1), (5, .invokevirtual 162, 3), (8, .ifCond .eq 15, 3), (11, .aload_n 0, 1), (12, .getfield 19, 3), (15, .getfield 165, 3), (18, .iload_n 1, 1), (19, .iaload, 1), (20, .goto 4, 3), (23, .iconst (-1), 1), (24, .ireturn, 1)]
def mt_X9_check : Mt := (cX9_check, RX9, 2, (some .int), ({ frames := 1, cells := 0, slots := 0, locals := 21 } : Room), false, none, none)
set_option maxRecDepth 100000 in
theorem dl_X9_check : ∀ q ∈ il_X9_check, decode (mt_X9_check).1 q.1 = .ok q.2 := by decide +kernel
def tb_X9_check : Tb := [(0, x_al 1 0, false),
  (1, x_gR 9 1 4, false),
  (4, x_il 5 1, false),
  (5, x_cV 5 1 P_X5_hasCheck 8, false),
  (8, x_if 23 11 (fun x : Int32 => x = 0), false),
  (11, x_al 12 0, false),
  (12, x_gR 9 1 15, false),
  (15, x_gR 5 0 18, false),
  (18, x_il 19 1, false),
  (19, x_ia 20, false),
  (20, x_go 24, false),
  (23, x_c 24 (.int (-1)), false),
  (24, x_rI, false)]
set_option maxRecDepth 100000 in
theorem tk_X9_check : TbOk (mt_X9_check) (tb_X9_check) :=
  tkc (s_aload_n (at_ dl_X9_check 0 (ins := .aload_n 0) rfl)) (
  tkc (s_gR (at_ dl_X9_check 1 (ins := .getfield 19) rfl) (by decide) (by decide) (by decide) (tg 255 (by decide +kernel) (by decide +kernel))) (
  tkc (s_iload_n (at_ dl_X9_check 2 (ins := .iload_n 1) rfl)) (
  tkc (s_cV ok_X5_hasCheck (at_ dl_X9_check 3 (ins := .invokevirtual 162) rfl) (by decide) rfl (tg 486 (by decide +kernel) (by decide +kernel)) (tg 392 (by decide +kernel) (by decide +kernel)) (tg 393 (by decide +kernel) (by decide +kernel)) (tg 45 (by decide +kernel) (by decide +kernel)) (tg 394 (by decide +kernel) (by decide +kernel)) (⟨by decide, by decide, by decide +kernel⟩) (⟨by decide, by decide⟩) rfl rfl) (
  tkc (s_if_eq (at_ dl_X9_check 4 (ins := .ifCond .eq 15) rfl) (by decide)) (
  tkc (s_aload_n (at_ dl_X9_check 5 (ins := .aload_n 0) rfl)) (
  tkc (s_gR (at_ dl_X9_check 6 (ins := .getfield 19) rfl) (by decide) (by decide) (by decide) (tg 255 (by decide +kernel) (by decide +kernel))) (
  tkc (s_gR (at_ dl_X9_check 7 (ins := .getfield 165) rfl) (by decide) (by decide) (by decide) (tg 125 (by decide +kernel) (by decide +kernel))) (
  tkc (s_iload_n (at_ dl_X9_check 8 (ins := .iload_n 1) rfl)) (
  tkc (s_ia (at_ dl_X9_check 9 (ins := .iaload) rfl)) (
  tkc (s_goto (at_ dl_X9_check 10 (ins := .goto 4) rfl) (by decide)) (
  tkc (s_iconst (at_ dl_X9_check 11 (ins := .iconst (-1)) rfl) (by first | rfl | decide)) (
  tkc (s_rI (at_ dl_X9_check 12 (ins := .ireturn) rfl) rfl) ( tk0)))))))))))))
theorem lf_X9_check : lk (tb_X9_check) 0 = (x_al 1 0, false) ∧ lk (tb_X9_check) 1 = (x_gR 9 1 4, false) ∧ lk (tb_X9_check) 4 = (x_il 5 1, false) ∧ lk (tb_X9_check) 5 = (x_cV 5 1 P_X5_hasCheck 8, false) ∧ lk (tb_X9_check) 8 = (x_if 23 11 (fun x : Int32 => x = 0), false) ∧ lk (tb_X9_check) 11 = (x_al 12 0, false) ∧ lk (tb_X9_check) 12 = (x_gR 9 1 15, false) ∧ lk (tb_X9_check) 15 = (x_gR 5 0 18, false) ∧ lk (tb_X9_check) 18 = (x_il 19 1, false) ∧ lk (tb_X9_check) 19 = (x_ia 20, false) ∧ lk (tb_X9_check) 20 = (x_go 24, false) ∧ lk (tb_X9_check) 23 = (x_c 24 (.int (-1)), false) ∧ lk (tb_X9_check) 24 = (x_rI, false) := ⟨rfl, rfl, rfl, rfl, rfl, rfl, rfl, rfl, rfl, rfl, rfl, rfl, rfl⟩
def P_X9_check : PTT := fun as M R => match as with
  | [.ref k, .int c] => k = 0 ∧ ∃ g, CR M.1 M.2.1 M.2.2 g ∧ GOk g ∧ Ans M R (gCheck g c) g
  | _ => False
set_option maxRecDepth 20000 in
theorem ok_X9_check : Ok yX9_check mt_X9_check P_X9_check := by
  refine Ok.of (by decide) rfl rfl rfl rfl fun av ⟨S, I, L⟩ R hP => ?_
  unfold P_X9_check at hP
  split at hP
  case h_2 => exact hP.elim
  rename_i k c
  obtain ⟨k, rfl⟩ : ∃ q : Nat, q = k := ⟨k, rfl⟩
  refine ⟨by simp [ent, wide, mt_X9_check], ?_⟩
  show J mt_X9_check R 0 [some (.ref k), some (.int c)] [] (S, I, L)
  try dsimp only at hP
  obtain ⟨rfl, g, hc, ho, hA⟩ := hP
  have h1 := hc.1
  have em : I 5 5 = nI (aM (gA g)) := hc.2.2.1.2.1
  have h9 := ho.2.1.1
  have hfin : ∀ v, gCheck g c = v → R (some (.int v)) (S, I, L) := fun v hv => (hv ▸ hA).s hc
  refine J.of tk_X9_check 200 fun ρ hρ => ?_
  simp only [hρ, x_c, x_il, x_ll, x_al, x_is, x_as, x_ls, x_inc, x_ii, x_iq, x_i1, x_l2, x_lq, x_lh, x_i2l, x_l2i, x_lcmp, x_dup, x_dup2, x_pop, x_if, x_ifn, x_ic, x_icn, x_go, x_sw, swc, x_l01, x_mx, x_gI, x_gL, x_gR, x_pI, x_pZ, x_pL, x_pR, x_ia, x_za, x_aa, x_ias, x_zas, x_aas, x_fac, x_fa, x_slen, x_sa, x_ac, x_oi, x_new, x_na, x_cS, x_cV, x_cI, x_rI, x_rZ, x_rL, x_r0, pa, short, oc, lg, lset, lset2, wide, cond_true, cond_false, true_and, and_true, ↓reduceIte, Bool.false_eq_true, true_or, or_true, lf_X9_check, h1.1.f, hc.ac, hc.ac.2.f, P_X5_hasCheck, em, bI_0, Classical.not_not]
  refine ⟨fun h => hfin _ (if_neg h), fun h => ?_⟩
  obtain ⟨i, hi, rfl⟩ := hC.i (g := g) h ho
  rw [ncl (by omega)]
  refine ⟨vp_in_nI (by omega) (by omega), hfin _ ?_⟩
  rw [gCheck, if_pos h, tn_nI (by omega)]
  exact (hc.2.2.1.2.2.2.2.1 i hi).symm
def gBit (g : GS) (b w : Int32) : Int32 := if ¬ hB g b then -1 else if w.toInt = 0 then aL (gA g) (tn b) + 100 else if w.toInt = 1 then (aD (gA g)).1 (tn b) + 100 else if w.toInt = 2 then nI (coF (aV (gA g)) (aM (gA g)) (tn b)) else -2
def il_X9_bit : List (Nat × Instr × Nat) := [(0, .aload_n 0, 1), (1, .getfield 19, 3), (4, .iload_n 1, 1), (5, .invokevirtual 148, 3), (8, .ifCond .ne 5, 3), (11, .iconst (-1), 1), (12, .ireturn, 1), (13, .iload_n 2, 1), (14, .tableswitch 61 0 2 #[26, 39, 52], 26), (40, .aload_n 0, 1), (41, .getfield 19, 3), (44, .getfield 152, 3), (47, .iload_n 1, 1), (48, .iaload, 1), (49, .bipush 100, 2), (51, .iadd, 1), (52, .ireturn, 1), (53, .aload_n 0, 1), (54, .getfield 19, 3), (57, .getfield 156, 3), (60, .iload_n 1, 1), (61, .iaload, 1), (62, .bipush 100, 2), (64, .iadd, 1), (65, .ireturn, 1), (66, .aload_n 0, 1), (67, .getfield 19, 3), (70, .iload_n 1, 1), (71, .invokevirtual 159, 3), (74, .ireturn, 1), (75, .bipush (-2), 2), (77, .ireturn, 1)]
def mt_X9_bit : Mt := (cX9_bit, RX9, 3, (some .int), ({ frames := 1, cells := 0, slots := 0, locals := 23 } : Room), false, none, none)
set_option maxRecDepth 100000 in
theorem dl_X9_bit : ∀ q ∈ il_X9_bit, decode (mt_X9_bit).1 q.1 = .ok q.2 := by decide +kernel
def tb_X9_bit : Tb := [(0, x_al 1 0, false),
  (1, x_gR 9 1 4, false),
  (4, x_il 5 1, false),
  (5, x_cV 5 1 P_X5_hasBit 8, false),
  (8, x_ifn 13 11 (fun x : Int32 => x = 0), false),
  (11, x_c 12 (.int (-1)), false),
  (12, x_rI, false),
  (13, x_il 14 2, false),
  (14, x_sw 0 2 [40, 53, 66] 75, false),
  (40, x_al 41 0, false),
  (41, x_gR 9 1 44, false),
  (44, x_gR 5 1 47, false),
  (47, x_il 48 1, false),
  (48, x_ia 49, false),
  (49, x_c 51 (.int 100), false),
  (51, x_ii 52 (fun x y : Int32 => x + y), false),
  (52, x_rI, false),
  (53, x_al 54 0, false),
  (54, x_gR 9 1 57, false),
  (57, x_gR 5 2 60, false),
  (60, x_il 61 1, false),
  (61, x_ia 62, false),
  (62, x_c 64 (.int 100), false),
  (64, x_ii 65 (fun x y : Int32 => x + y), false),
  (65, x_rI, false),
  (66, x_al 67 0, false),
  (67, x_gR 9 1 70, false),
  (70, x_il 71 1, false),
  (71, x_cV 5 1 P_X5_checksOver 74, false),
  (74, x_rI, false),
  (75, x_c 77 (.int (-2)), false),
  (77, x_rI, false)]
set_option maxRecDepth 100000 in
theorem tk_X9_bit : TbOk (mt_X9_bit) (tb_X9_bit) :=
  tkc (s_aload_n (at_ dl_X9_bit 0 (ins := .aload_n 0) rfl)) (
  tkc (s_gR (at_ dl_X9_bit 1 (ins := .getfield 19) rfl) (by decide) (by decide) (by decide) (tg 255 (by decide +kernel) (by decide +kernel))) (
  tkc (s_iload_n (at_ dl_X9_bit 2 (ins := .iload_n 1) rfl)) (
  tkc (s_cV ok_X5_hasBit (at_ dl_X9_bit 3 (ins := .invokevirtual 148) rfl) (by decide) rfl (tg 480 (by decide +kernel) (by decide +kernel)) (tg 396 (by decide +kernel) (by decide +kernel)) (tg 397 (by decide +kernel) (by decide +kernel)) (tg 45 (by decide +kernel) (by decide +kernel)) (tg 398 (by decide +kernel) (by decide +kernel)) (⟨by decide, by decide, by decide +kernel⟩) (⟨by decide, by decide⟩) rfl rfl) (
  tkc (s_if_ne (at_ dl_X9_bit 4 (ins := .ifCond .ne 5) rfl) (by decide)) (
  tkc (s_iconst (at_ dl_X9_bit 5 (ins := .iconst (-1)) rfl) (by first | rfl | decide)) (
  tkc (s_rI (at_ dl_X9_bit 6 (ins := .ireturn) rfl) rfl) (
  tkc (s_iload_n (at_ dl_X9_bit 7 (ins := .iload_n 2) rfl)) (
  tkc (s_sw (at_ dl_X9_bit 8 (ins := .tableswitch 61 0 2 #[26, 39, 52]) rfl) rfl (tsw [40, 53, 66] (by decide +kernel)) (by decide)) (
  tkc (s_aload_n (at_ dl_X9_bit 9 (ins := .aload_n 0) rfl)) (
  tkc (s_gR (at_ dl_X9_bit 10 (ins := .getfield 19) rfl) (by decide) (by decide) (by decide) (tg 255 (by decide +kernel) (by decide +kernel))) (
  tkc (s_gR (at_ dl_X9_bit 11 (ins := .getfield 152) rfl) (by decide) (by decide) (by decide) (tg 127 (by decide +kernel) (by decide +kernel))) (
  tkc (s_iload_n (at_ dl_X9_bit 12 (ins := .iload_n 1) rfl)) (
  tkc (s_ia (at_ dl_X9_bit 13 (ins := .iaload) rfl)) (
  tkc (s_bipush (at_ dl_X9_bit 14 (ins := .bipush 100) rfl) (by first | rfl | decide)) (
  tkc (s_iadd (at_ dl_X9_bit 15 (ins := .iadd) rfl)) (
  tkc (s_rI (at_ dl_X9_bit 16 (ins := .ireturn) rfl) rfl) (
  tkc (s_aload_n (at_ dl_X9_bit 17 (ins := .aload_n 0) rfl)) (
  tkc (s_gR (at_ dl_X9_bit 18 (ins := .getfield 19) rfl) (by decide) (by decide) (by decide) (tg 255 (by decide +kernel) (by decide +kernel))) (
  tkc (s_gR (at_ dl_X9_bit 19 (ins := .getfield 156) rfl) (by decide) (by decide) (by decide) (tg 130 (by decide +kernel) (by decide +kernel))) (
  tkc (s_iload_n (at_ dl_X9_bit 20 (ins := .iload_n 1) rfl)) (
  tkc (s_ia (at_ dl_X9_bit 21 (ins := .iaload) rfl)) (
  tkc (s_bipush (at_ dl_X9_bit 22 (ins := .bipush 100) rfl) (by first | rfl | decide)) (
  tkc (s_iadd (at_ dl_X9_bit 23 (ins := .iadd) rfl)) (
  tkc (s_rI (at_ dl_X9_bit 24 (ins := .ireturn) rfl) rfl) (
  tkc (s_aload_n (at_ dl_X9_bit 25 (ins := .aload_n 0) rfl)) (
  tkc (s_gR (at_ dl_X9_bit 26 (ins := .getfield 19) rfl) (by decide) (by decide) (by decide) (tg 255 (by decide +kernel) (by decide +kernel))) (
  tkc (s_iload_n (at_ dl_X9_bit 27 (ins := .iload_n 1) rfl)) (
  tkc (s_cV ok_X5_checksOver (at_ dl_X9_bit 28 (ins := .invokevirtual 159) rfl) (by decide) rfl (tg 481 (by decide +kernel) (by decide +kernel)) (tg 404 (by decide +kernel) (by decide +kernel)) (tg 405 (by decide +kernel) (by decide +kernel)) (tg 45 (by decide +kernel) (by decide +kernel)) (tg 406 (by decide +kernel) (by decide +kernel)) (⟨by decide, by decide, by decide +kernel⟩) (⟨by decide, by decide⟩) rfl rfl) (
  tkc (s_rI (at_ dl_X9_bit 29 (ins := .ireturn) rfl) rfl) (
  tkc (s_bipush (at_ dl_X9_bit 30 (ins := .bipush (-2)) rfl) (by first | rfl | decide)) (
  tkc (s_rI (at_ dl_X9_bit 31 (ins := .ireturn) rfl) rfl) ( tk0))))))))))))))))))))))))))))))))
theorem lf_X9_bit : lk (tb_X9_bit) 0 = (x_al 1 0, false) ∧ lk (tb_X9_bit) 1 = (x_gR 9 1 4, false) ∧ lk (tb_X9_bit) 4 = (x_il 5 1, false) ∧ lk (tb_X9_bit) 5 = (x_cV 5 1 P_X5_hasBit 8, false) ∧ lk (tb_X9_bit) 8 = (x_ifn 13 11 (fun x : Int32 => x = 0), false) ∧ lk (tb_X9_bit) 11 = (x_c 12 (.int (-1)), false) ∧ lk (tb_X9_bit) 12 = (x_rI, false) ∧ lk (tb_X9_bit) 13 = (x_il 14 2, false) ∧ lk (tb_X9_bit) 14 = (x_sw 0 2 [40, 53, 66] 75, false) ∧ lk (tb_X9_bit) 40 = (x_al 41 0, false) ∧ lk (tb_X9_bit) 41 = (x_gR 9 1 44, false) ∧ lk (tb_X9_bit) 44 = (x_gR 5 1 47, false) ∧ lk (tb_X9_bit) 47 = (x_il 48 1, false) ∧ lk (tb_X9_bit) 48 = (x_ia 49, false) ∧ lk (tb_X9_bit) 49 = (x_c 51 (.int 100), false) ∧ lk (tb_X9_bit) 51 = (x_ii 52 (fun x y : Int32 => x + y), false) ∧ lk (tb_X9_bit) 52 = (x_rI, false) ∧ lk (tb_X9_bit) 53 = (x_al 54 0, false) ∧ lk (tb_X9_bit) 54 = (x_gR 9 1 57, false) ∧ lk (tb_X9_bit) 57 = (x_gR 5 2 60, false) ∧ lk (tb_X9_bit) 60 = (x_il 61 1, false) ∧ lk (tb_X9_bit) 61 = (x_ia 62, false) ∧ lk (tb_X9_bit) 62 = (x_c 64 (.int 100), false) ∧ lk (tb_X9_bit) 64 = (x_ii 65 (fun x y : Int32 => x + y), false) ∧ lk (tb_X9_bit) 65 = (x_rI, false) ∧ lk (tb_X9_bit) 66 = (x_al 67 0, false) ∧ lk (tb_X9_bit) 67 = (x_gR 9 1 70, false) ∧ lk (tb_X9_bit) 70 = (x_il 71 1, false) ∧ lk (tb_X9_bit) 71 = (x_cV 5 1 P_X5_checksOver 74, false) ∧ lk (tb_X9_bit) 74 = (x_rI, false) ∧ lk (tb_X9_bit) 75 = (x_c 77 (.int (-2)), false) ∧ lk (tb_X9_bit) 77 = (x_rI, false) := ⟨rfl, rfl, rfl, rfl, rfl, rfl, rfl, rfl, rfl, rfl, rfl, rfl, rfl, rfl, rfl, rfl, rfl, rfl, rfl, rfl, rfl, rfl, rfl, rfl, rfl, rfl, rfl, rfl, rfl, rfl, rfl, rfl⟩
def P_X9_bit : PTT := fun as M R => match as with
  | [.ref k, .int b, .int w] => k = 0 ∧ ∃ g, CR M.1 M.2.1 M.2.2 g ∧ GOk g ∧ Ans M R (gBit g b w) g
  | _ => False
set_option maxRecDepth 20000 in
theorem ok_X9_bit : Ok yX9_bit mt_X9_bit P_X9_bit := by
  refine Ok.of (by decide) rfl rfl rfl rfl fun av ⟨S, I, L⟩ R hP => ?_
  unfold P_X9_bit at hP
  split at hP
  case h_2 => exact hP.elim
  rename_i k b w
  obtain ⟨k, rfl⟩ : ∃ q : Nat, q = k := ⟨k, rfl⟩
  refine ⟨by simp [ent, wide, mt_X9_bit], ?_⟩
  show J mt_X9_bit R 0 [some (.ref k), some (.int b), some (.int w)] [] (S, I, L)
  try dsimp only at hP
  obtain ⟨rfl, g, hc, ho, hA⟩ := hP
  have h1 := hc.1
  have en : I 5 4 = nI (aN (gA g)) := hc.2.2.1.1
  have h9 := ho.2.1.1
  have hs := hc.2.2.1
  have hfin : ∀ v, gBit g b w = v → R (some (.int v)) (S, I, L) := fun v hv => (hv ▸ hA).s hc
  refine J.of tk_X9_bit 200 fun ρ hρ => ?_
  simp only [hρ, x_c, x_il, x_ll, x_al, x_is, x_as, x_ls, x_inc, x_ii, x_iq, x_i1, x_l2, x_lq, x_lh, x_i2l, x_l2i, x_lcmp, x_dup, x_dup2, x_pop, x_if, x_ifn, x_ic, x_icn, x_go, x_sw, swc, x_l01, x_mx, x_gI, x_gL, x_gR, x_pI, x_pZ, x_pL, x_pR, x_ia, x_za, x_aa, x_ias, x_zas, x_aas, x_fac, x_fa, x_slen, x_sa, x_ac, x_oi, x_new, x_na, x_cS, x_cV, x_cI, x_rI, x_rZ, x_rL, x_r0, pa, short, oc, lg, lset, lset2, wide, cond_true, cond_false, true_and, and_true, ↓reduceIte, Bool.false_eq_true, true_or, or_true, lf_X9_bit, h1.1.f, hc.ac, hc.ac.2.f, P_X5_hasBit, P_X5_checksOver, en, bI_0, Classical.not_not, eq_true (hs.ovq ho.2.1), hs.co ho.2.1]
  refine ⟨fun h => ?_, fun h => hfin _ (by rw [gBit, if_pos h])⟩
  obtain ⟨j, hj, rfl⟩ := hB.i (g := g) h ho
  have hv : vp_in (nI j) 9 := vp_in_nI (by omega) (by omega)
  have e7 : I (5 + 2) j = aL (gA g) j := hs.2.2.2.2.2.1 j (by omega)
  have e8 : I (5 + 3) j = (aD (gA g)).1 j := hs.2.2.2.2.2.2.1 j (by omega)
  rw [ncl (by omega), e7, e8, tn_nI (by omega)]
  have hn : ¬ ¬ hB g (nI j) := fun q => q h
  have et : tn (nI j) = j := tn_nI (by omega)
  refine ⟨⟨fun h0 => ⟨hv, hfin _ (by rw [gBit, if_neg hn, if_pos h0, et])⟩, fun h0 => ⟨hv, hfin _ (by rw [gBit, if_neg hn, if_neg (by omega), if_pos (by omega), et])⟩, fun h0 => ⟨⟨j, by omega, rfl⟩, hfin _ (by rw [gBit, if_neg hn, if_neg (by omega), if_neg (by omega), if_pos (by omega), et])⟩⟩, fun h0 => hfin _ (by rw [gBit, if_neg hn, if_neg (by omega), if_neg (by omega), if_neg (by omega)])⟩
def gMsg (g : GS) (c b : Int32) : Int32 := if ¬ (hC g c ∧ hB g b) then -1 else if (aV (gA g) (tn c)).testBit (tn b) = true then (aD (gA g)).2 (9 * tn c + tn b) + 100 else -9
def il_X9_message : List (Nat × Instr × Nat) := [(0, .aload_n 0, 1), (1, .getfield 19, 3), (4, .iload_n 1, 1), (5, .invokevirtual 162, 3), (8, .ifCond .eq 14, 3), (11, .aload_n 0, 1), (12, .getfield 19, 3), (15, .iload_n 2, 1), (16, .invokevirtual 148, 3), (19, .ifCond .ne 5, 3), (22, .iconst (-1), 1), (23, .ireturn, 1), (24, .aload_n 0, 1), (25, .getfield 19, 3), (28, .iload_n 1, 1), (29, .iload_n 2, 1), (30, .invokevirtual 168, 3), (33, .ifCond .eq 23, 3), (36, .aload_n 0, 1), (37, .getfield 19, 3), (40, .getfield 172, 3), (43, .iload_n 1, 1), (44, .bipush 9, 2), (46, .imul, 1), (47, .iload_n 2, 1), (48, .iadd, 1), (49, .iaload, 1), (50, .bipush 100, 2), (52, .iadd, 1), (53, .goto 5, 3), (56, .bipush (-9), 2), (58, .ireturn, 1)]
def mt_X9_message : Mt := (cX9_message, RX9, 3, (some .int), ({ frames := 2, cells := 0, slots := 0, locals := 43 } : Room), false, none, none)
set_option maxRecDepth 100000 in
theorem dl_X9_message : ∀ q ∈ il_X9_message, decode (mt_X9_message).1 q.1 = .ok q.2 := by decide +kernel
def tb_X9_message : Tb := [(0, x_al 1 0, false),
  (1, x_gR 9 1 4, false),
  (4, x_il 5 1, false),
  (5, x_cV 5 1 P_X5_hasCheck 8, false),
  (8, x_if 22 11 (fun x : Int32 => x = 0), false),
  (11, x_al 12 0, false),
  (12, x_gR 9 1 15, false),
  (15, x_il 16 2, false),
  (16, x_cV 5 1 P_X5_hasBit 19, false),
  (19, x_ifn 24 22 (fun x : Int32 => x = 0), false),
  (22, x_c 23 (.int (-1)), false),
  (23, x_rI, false),
  (24, x_al 25 0, false),
  (25, x_gR 9 1 28, false),
  (28, x_il 29 1, false),
  (29, x_il 30 2, false),
  (30, x_cV 5 2 P_X5_isOver 33, false),
  (33, x_if 56 36 (fun x : Int32 => x = 0), false),
  (36, x_al 37 0, false),
  (37, x_gR 9 1 40, false),
  (40, x_gR 5 3 43, false),
  (43, x_il 44 1, false),
  (44, x_c 46 (.int 9), false),
  (46, x_ii 47 (fun x y : Int32 => x * y), false),
  (47, x_il 48 2, false),
  (48, x_ii 49 (fun x y : Int32 => x + y), false),
  (49, x_ia 50, false),
  (50, x_c 52 (.int 100), false),
  (52, x_ii 53 (fun x y : Int32 => x + y), false),
  (53, x_go 58, false),
  (56, x_c 58 (.int (-9)), false),
  (58, x_rI, false)]
set_option maxRecDepth 100000 in
theorem tk_X9_message : TbOk (mt_X9_message) (tb_X9_message) :=
  tkc (s_aload_n (at_ dl_X9_message 0 (ins := .aload_n 0) rfl)) (
  tkc (s_gR (at_ dl_X9_message 1 (ins := .getfield 19) rfl) (by decide) (by decide) (by decide) (tg 255 (by decide +kernel) (by decide +kernel))) (
  tkc (s_iload_n (at_ dl_X9_message 2 (ins := .iload_n 1) rfl)) (
  tkc (s_cV ok_X5_hasCheck (at_ dl_X9_message 3 (ins := .invokevirtual 162) rfl) (by decide) rfl (tg 486 (by decide +kernel) (by decide +kernel)) (tg 392 (by decide +kernel) (by decide +kernel)) (tg 393 (by decide +kernel) (by decide +kernel)) (tg 45 (by decide +kernel) (by decide +kernel)) (tg 394 (by decide +kernel) (by decide +kernel)) (⟨by decide, by decide, by decide +kernel⟩) (⟨by decide, by decide⟩) rfl rfl) (
  tkc (s_if_eq (at_ dl_X9_message 4 (ins := .ifCond .eq 14) rfl) (by decide)) (
  tkc (s_aload_n (at_ dl_X9_message 5 (ins := .aload_n 0) rfl)) (
  tkc (s_gR (at_ dl_X9_message 6 (ins := .getfield 19) rfl) (by decide) (by decide) (by decide) (tg 255 (by decide +kernel) (by decide +kernel))) (
  tkc (s_iload_n (at_ dl_X9_message 7 (ins := .iload_n 2) rfl)) (
  tkc (s_cV ok_X5_hasBit (at_ dl_X9_message 8 (ins := .invokevirtual 148) rfl) (by decide) rfl (tg 480 (by decide +kernel) (by decide +kernel)) (tg 396 (by decide +kernel) (by decide +kernel)) (tg 397 (by decide +kernel) (by decide +kernel)) (tg 45 (by decide +kernel) (by decide +kernel)) (tg 398 (by decide +kernel) (by decide +kernel)) (⟨by decide, by decide, by decide +kernel⟩) (⟨by decide, by decide⟩) rfl rfl) (
  tkc (s_if_ne (at_ dl_X9_message 9 (ins := .ifCond .ne 5) rfl) (by decide)) (
  tkc (s_iconst (at_ dl_X9_message 10 (ins := .iconst (-1)) rfl) (by first | rfl | decide)) (
  tkc (s_rI (at_ dl_X9_message 11 (ins := .ireturn) rfl) rfl) (
  tkc (s_aload_n (at_ dl_X9_message 12 (ins := .aload_n 0) rfl)) (
  tkc (s_gR (at_ dl_X9_message 13 (ins := .getfield 19) rfl) (by decide) (by decide) (by decide) (tg 255 (by decide +kernel) (by decide +kernel))) (
  tkc (s_iload_n (at_ dl_X9_message 14 (ins := .iload_n 1) rfl)) (
  tkc (s_iload_n (at_ dl_X9_message 15 (ins := .iload_n 2) rfl)) (
  tkc (s_cV ok_X5_isOver (at_ dl_X9_message 16 (ins := .invokevirtual 168) rfl) (by decide) rfl (tg 491 (by decide +kernel) (by decide +kernel)) (tg 388 (by decide +kernel) (by decide +kernel)) (tg 389 (by decide +kernel) (by decide +kernel)) (tg 45 (by decide +kernel) (by decide +kernel)) (tg 390 (by decide +kernel) (by decide +kernel)) (⟨by decide, by decide, by decide +kernel⟩) (⟨by decide, by decide⟩) rfl rfl) (
  tkc (s_if_eq (at_ dl_X9_message 17 (ins := .ifCond .eq 23) rfl) (by decide)) (
  tkc (s_aload_n (at_ dl_X9_message 18 (ins := .aload_n 0) rfl)) (
  tkc (s_gR (at_ dl_X9_message 19 (ins := .getfield 19) rfl) (by decide) (by decide) (by decide) (tg 255 (by decide +kernel) (by decide +kernel))) (
  tkc (s_gR (at_ dl_X9_message 20 (ins := .getfield 172) rfl) (by decide) (by decide) (by decide) (tg 133 (by decide +kernel) (by decide +kernel))) (
  tkc (s_iload_n (at_ dl_X9_message 21 (ins := .iload_n 1) rfl)) (
  tkc (s_bipush (at_ dl_X9_message 22 (ins := .bipush 9) rfl) (by first | rfl | decide)) (
  tkc (s_imul (at_ dl_X9_message 23 (ins := .imul) rfl)) (
  tkc (s_iload_n (at_ dl_X9_message 24 (ins := .iload_n 2) rfl)) (
  tkc (s_iadd (at_ dl_X9_message 25 (ins := .iadd) rfl)) (
  tkc (s_ia (at_ dl_X9_message 26 (ins := .iaload) rfl)) (
  tkc (s_bipush (at_ dl_X9_message 27 (ins := .bipush 100) rfl) (by first | rfl | decide)) (
  tkc (s_iadd (at_ dl_X9_message 28 (ins := .iadd) rfl)) (
  tkc (s_goto (at_ dl_X9_message 29 (ins := .goto 5) rfl) (by decide)) (
  tkc (s_bipush (at_ dl_X9_message 30 (ins := .bipush (-9)) rfl) (by first | rfl | decide)) (
  tkc (s_rI (at_ dl_X9_message 31 (ins := .ireturn) rfl) rfl) ( tk0))))))))))))))))))))))))))))))))
theorem lf_X9_message : lk (tb_X9_message) 0 = (x_al 1 0, false) ∧ lk (tb_X9_message) 1 = (x_gR 9 1 4, false) ∧ lk (tb_X9_message) 4 = (x_il 5 1, false) ∧ lk (tb_X9_message) 5 = (x_cV 5 1 P_X5_hasCheck 8, false) ∧ lk (tb_X9_message) 8 = (x_if 22 11 (fun x : Int32 => x = 0), false) ∧ lk (tb_X9_message) 11 = (x_al 12 0, false) ∧ lk (tb_X9_message) 12 = (x_gR 9 1 15, false) ∧ lk (tb_X9_message) 15 = (x_il 16 2, false) ∧ lk (tb_X9_message) 16 = (x_cV 5 1 P_X5_hasBit 19, false) ∧ lk (tb_X9_message) 19 = (x_ifn 24 22 (fun x : Int32 => x = 0), false) ∧ lk (tb_X9_message) 22 = (x_c 23 (.int (-1)), false) ∧ lk (tb_X9_message) 23 = (x_rI, false) ∧ lk (tb_X9_message) 24 = (x_al 25 0, false) ∧ lk (tb_X9_message) 25 = (x_gR 9 1 28, false) ∧ lk (tb_X9_message) 28 = (x_il 29 1, false) ∧ lk (tb_X9_message) 29 = (x_il 30 2, false) ∧ lk (tb_X9_message) 30 = (x_cV 5 2 P_X5_isOver 33, false) ∧ lk (tb_X9_message) 33 = (x_if 56 36 (fun x : Int32 => x = 0), false) ∧ lk (tb_X9_message) 36 = (x_al 37 0, false) ∧ lk (tb_X9_message) 37 = (x_gR 9 1 40, false) ∧ lk (tb_X9_message) 40 = (x_gR 5 3 43, false) ∧ lk (tb_X9_message) 43 = (x_il 44 1, false) ∧ lk (tb_X9_message) 44 = (x_c 46 (.int 9), false) ∧ lk (tb_X9_message) 46 = (x_ii 47 (fun x y : Int32 => x * y), false) ∧ lk (tb_X9_message) 47 = (x_il 48 2, false) ∧ lk (tb_X9_message) 48 = (x_ii 49 (fun x y : Int32 => x + y), false) ∧ lk (tb_X9_message) 49 = (x_ia 50, false) ∧ lk (tb_X9_message) 50 = (x_c 52 (.int 100), false) ∧ lk (tb_X9_message) 52 = (x_ii 53 (fun x y : Int32 => x + y), false) ∧ lk (tb_X9_message) 53 = (x_go 58, false) ∧ lk (tb_X9_message) 56 = (x_c 58 (.int (-9)), false) ∧ lk (tb_X9_message) 58 = (x_rI, false) := ⟨rfl, rfl, rfl, rfl, rfl, rfl, rfl, rfl, rfl, rfl, rfl, rfl, rfl, rfl, rfl, rfl, rfl, rfl, rfl, rfl, rfl, rfl, rfl, rfl, rfl, rfl, rfl, rfl, rfl, rfl, rfl, rfl⟩
def P_X9_message : PTT := fun as M R => match as with
  | [.ref k, .int c, .int b] => k = 0 ∧ ∃ g, CR M.1 M.2.1 M.2.2 g ∧ GOk g ∧ Ans M R (gMsg g c b) g
  | _ => False
set_option maxRecDepth 20000 in
theorem ok_X9_message : Ok yX9_message mt_X9_message P_X9_message := by
  refine Ok.of (by decide) rfl rfl rfl rfl fun av ⟨S, I, L⟩ R hP => ?_
  unfold P_X9_message at hP
  split at hP
  case h_2 => exact hP.elim
  rename_i k c b
  obtain ⟨k, rfl⟩ : ∃ q : Nat, q = k := ⟨k, rfl⟩
  refine ⟨by simp [ent, wide, mt_X9_message], ?_⟩
  show J mt_X9_message R 0 [some (.ref k), some (.int c), some (.int b)] [] (S, I, L)
  try dsimp only at hP
  obtain ⟨rfl, g, hc, ho, hA⟩ := hP
  have h1 := hc.1
  have en : I 5 4 = nI (aN (gA g)) := hc.2.2.1.1
  have em : I 5 5 = nI (aM (gA g)) := hc.2.2.1.2.1
  have h9 := ho.2.1.1
  have hs := hc.2.2.1
  have hfin : ∀ v, gMsg g c b = v → R (some (.int v)) (S, I, L) := fun v hv => (hv ▸ hA).s hc
  have hx : ∃ m, m ≤ 6 ∧ nI (aM (gA g)) = nI m := ⟨_, h9.2.2, rfl⟩
  refine J.of tk_X9_message 200 fun ρ hρ => ?_
  simp only [hρ, x_c, x_il, x_ll, x_al, x_is, x_as, x_ls, x_inc, x_ii, x_iq, x_i1, x_l2, x_lq, x_lh, x_i2l, x_l2i, x_lcmp, x_dup, x_dup2, x_pop, x_if, x_ifn, x_ic, x_icn, x_go, x_sw, swc, x_l01, x_mx, x_gI, x_gL, x_gR, x_pI, x_pZ, x_pL, x_pR, x_ia, x_za, x_aa, x_ias, x_zas, x_aas, x_fac, x_fa, x_slen, x_sa, x_ac, x_oi, x_new, x_na, x_cS, x_cV, x_cI, x_rI, x_rZ, x_rL, x_r0, pa, short, oc, lg, lset, lset2, wide, cond_true, cond_false, true_and, and_true, ↓reduceIte, Bool.false_eq_true, true_or, or_true, lf_X9_message, h1.1.f, hc.ac, hc.ac.2.f, P_X5_hasBit, P_X5_hasCheck, P_X5_isOver, en, em, hx, bI_0, Classical.not_not]
  refine ⟨fun h => hfin _ (by rw [gMsg, if_pos (fun q => h q.1)]), fun h => ⟨fun h' => ?_, fun h' => hfin _ (by rw [gMsg, if_pos (fun q => h' q.2)])⟩⟩
  obtain ⟨i, hi, rfl⟩ := hC.i (g := g) h ho
  obtain ⟨j, hj, rfl⟩ := hB.i (g := g) h' ho
  have hv := ho.2.1.v hi
  have e6 : I (5 + 1) i = nI (aV (gA g) i) := hs.2.2.2.2.1 i hi
  have e9 : I (5 + 4) (9 * i + j) = (aD (gA g)).2 (9 * i + j) := hs.2.2.2.2.2.2.2 (9 * i + j) (by omega)
  have ei : nI i * 9 + nI j = nI (9 * i + j) := by rw [nI9, pk_mul, nI_add, Nat.mul_comm]
  rw [ei, ncl (by omega), ncl (by omega), e6, bit_c (by omega) (by omega), e9, Classical.not_not]
  have hg : gMsg g (nI i) (nI j) = if (aV (gA g) i).testBit j = true then (aD (gA g)).2 (9 * i + j) + 100 else -9 := by rw [gMsg, if_neg (fun q => q ⟨h, h'⟩), tn_nI (by omega), tn_nI (by omega)]
  refine ⟨fun h2 => hfin _ ?_, fun h2 => ⟨vp_in_nI (by omega) (by omega), hfin _ ?_⟩⟩
  · rw [hg, if_neg (fun q => h2 ⟨h, h', q⟩)]
  · rw [hg, if_pos h2.2.2]
/-- see -/
def gSee (g : GS) (n v : Int32) : Int32 × GS := if (n < 0 ∨ 20 < n) ∨ v < 0 ∨ ¬ v ≤ 63 then (-2, g) else if gN g = 6 then (-4, g) else (nI (gN g + 1), GE g (gN g + 1) (upd (gB g) (gN g) n) (upd (gO g) (gN g) v))
def il_X9_see : List (Nat × Instr × Nat) := [(0, .iload_n 1, 1), (1, .ifCond .lt 19, 3), (4, .iload_n 1, 1), (5, .bipush 20, 2), (7, .if_icmp .gt 13, 3), (10, .iload_n 2, 1), (11, .ifCond .lt 9, 3), (14, .iload_n 2, 1), (15, .bipush 63, 2), (17, .if_icmp .le 6, 3), (20, .bipush (-2), 2), (22, .ireturn, 1), (23, .aload_n 0, 1), (24, .getfield 59, 3), (27, .getfield 147, 3), (30, .bipush 6, 2), (32, .if_icmp .lt 6, 3), (35, .bipush (-4), 2), (37, .ireturn, 1), (38, .aload_n 0, 1), (39, .getfield 59, 3), (42, .iload_n 1, 1), (43, .iload_n 2, 1), (44, .invokevirtual 228, 3), (47, .ireturn, 1)]
def mt_X9_see : Mt := (cX9_see, RX9, 3, (some .int), ({ frames := 1, cells := 0, slots := 0, locals := 22 } : Room), false, none, none)
set_option maxRecDepth 100000 in
theorem dl_X9_see : ∀ q ∈ il_X9_see, decode (mt_X9_see).1 q.1 = .ok q.2 := by decide +kernel
def tb_X9_see : Tb := [(0, x_il 1 1, false),
  (1, x_if 20 4 (fun x : Int32 => x < 0), false),
  (4, x_il 5 1, false),
  (5, x_c 7 (.int 20), false),
  (7, x_ic 20 10 (fun x y : Int32 => y < x), false),
  (10, x_il 11 2, false),
  (11, x_if 20 14 (fun x : Int32 => x < 0), false),
  (14, x_il 15 2, false),
  (15, x_c 17 (.int 63), false),
  (17, x_ic 23 20 (fun x y : Int32 => x ≤ y), false),
  (20, x_c 22 (.int (-2)), false),
  (22, x_rI, false),
  (23, x_al 24 0, false),
  (24, x_gR 9 7 27, false),
  (27, x_gI 4 2 30, false),
  (30, x_c 32 (.int 6), false),
  (32, x_ic 38 35 (fun x y : Int32 => x < y), false),
  (35, x_c 37 (.int (-4)), false),
  (37, x_rI, false),
  (38, x_al 39 0, false),
  (39, x_gR 9 7 42, false),
  (42, x_il 43 1, false),
  (43, x_il 44 2, false),
  (44, x_cV 4 2 P_X4_add 47, false),
  (47, x_rI, false)]
set_option maxRecDepth 100000 in
theorem tk_X9_see : TbOk (mt_X9_see) (tb_X9_see) :=
  tkc (s_iload_n (at_ dl_X9_see 0 (ins := .iload_n 1) rfl)) (
  tkc (s_if_lt (at_ dl_X9_see 1 (ins := .ifCond .lt 19) rfl) (by decide)) (
  tkc (s_iload_n (at_ dl_X9_see 2 (ins := .iload_n 1) rfl)) (
  tkc (s_bipush (at_ dl_X9_see 3 (ins := .bipush 20) rfl) (by first | rfl | decide)) (
  tkc (s_ic_gt (at_ dl_X9_see 4 (ins := .if_icmp .gt 13) rfl) (by decide)) (
  tkc (s_iload_n (at_ dl_X9_see 5 (ins := .iload_n 2) rfl)) (
  tkc (s_if_lt (at_ dl_X9_see 6 (ins := .ifCond .lt 9) rfl) (by decide)) (
  tkc (s_iload_n (at_ dl_X9_see 7 (ins := .iload_n 2) rfl)) (
  tkc (s_bipush (at_ dl_X9_see 8 (ins := .bipush 63) rfl) (by first | rfl | decide)) (
  tkc (s_ic_le (at_ dl_X9_see 9 (ins := .if_icmp .le 6) rfl) (by decide)) (
  tkc (s_bipush (at_ dl_X9_see 10 (ins := .bipush (-2)) rfl) (by first | rfl | decide)) (
  tkc (s_rI (at_ dl_X9_see 11 (ins := .ireturn) rfl) rfl) (
  tkc (s_aload_n (at_ dl_X9_see 12 (ins := .aload_n 0) rfl)) (
  tkc (s_gR (at_ dl_X9_see 13 (ins := .getfield 59) rfl) (by decide) (by decide) (by decide) (tg 261 (by decide +kernel) (by decide +kernel))) (
  tkc (s_gI (at_ dl_X9_see 14 (ins := .getfield 147) rfl) (by decide) (by decide) (by decide) (tg 246 (by decide +kernel) (by decide +kernel))) (
  tkc (s_bipush (at_ dl_X9_see 15 (ins := .bipush 6) rfl) (by first | rfl | decide)) (
  tkc (s_ic_lt (at_ dl_X9_see 16 (ins := .if_icmp .lt 6) rfl) (by decide)) (
  tkc (s_bipush (at_ dl_X9_see 17 (ins := .bipush (-4)) rfl) (by first | rfl | decide)) (
  tkc (s_rI (at_ dl_X9_see 18 (ins := .ireturn) rfl) rfl) (
  tkc (s_aload_n (at_ dl_X9_see 19 (ins := .aload_n 0) rfl)) (
  tkc (s_gR (at_ dl_X9_see 20 (ins := .getfield 59) rfl) (by decide) (by decide) (by decide) (tg 261 (by decide +kernel) (by decide +kernel))) (
  tkc (s_iload_n (at_ dl_X9_see 21 (ins := .iload_n 1) rfl)) (
  tkc (s_iload_n (at_ dl_X9_see 22 (ins := .iload_n 2) rfl)) (
  tkc (s_cV ok_X4_add (at_ dl_X9_see 23 (ins := .invokevirtual 228) rfl) (by decide) rfl (tg 610 (by decide +kernel) (by decide +kernel)) (tg 611 (by decide +kernel) (by decide +kernel)) (tg 612 (by decide +kernel) (by decide +kernel)) (tg 50 (by decide +kernel) (by decide +kernel)) (tg 613 (by decide +kernel) (by decide +kernel)) (⟨by decide, by decide, by decide +kernel⟩) (⟨by decide, by decide⟩) rfl rfl) (
  tkc (s_rI (at_ dl_X9_see 24 (ins := .ireturn) rfl) rfl) ( tk0)))))))))))))))))))))))))
theorem lf_X9_see : lk (tb_X9_see) 0 = (x_il 1 1, false) ∧ lk (tb_X9_see) 1 = (x_if 20 4 (fun x : Int32 => x < 0), false) ∧ lk (tb_X9_see) 4 = (x_il 5 1, false) ∧ lk (tb_X9_see) 5 = (x_c 7 (.int 20), false) ∧ lk (tb_X9_see) 7 = (x_ic 20 10 (fun x y : Int32 => y < x), false) ∧ lk (tb_X9_see) 10 = (x_il 11 2, false) ∧ lk (tb_X9_see) 11 = (x_if 20 14 (fun x : Int32 => x < 0), false) ∧ lk (tb_X9_see) 14 = (x_il 15 2, false) ∧ lk (tb_X9_see) 15 = (x_c 17 (.int 63), false) ∧ lk (tb_X9_see) 17 = (x_ic 23 20 (fun x y : Int32 => x ≤ y), false) ∧ lk (tb_X9_see) 20 = (x_c 22 (.int (-2)), false) ∧ lk (tb_X9_see) 22 = (x_rI, false) ∧ lk (tb_X9_see) 23 = (x_al 24 0, false) ∧ lk (tb_X9_see) 24 = (x_gR 9 7 27, false) ∧ lk (tb_X9_see) 27 = (x_gI 4 2 30, false) ∧ lk (tb_X9_see) 30 = (x_c 32 (.int 6), false) ∧ lk (tb_X9_see) 32 = (x_ic 38 35 (fun x y : Int32 => x < y), false) ∧ lk (tb_X9_see) 35 = (x_c 37 (.int (-4)), false) ∧ lk (tb_X9_see) 37 = (x_rI, false) ∧ lk (tb_X9_see) 38 = (x_al 39 0, false) ∧ lk (tb_X9_see) 39 = (x_gR 9 7 42, false) ∧ lk (tb_X9_see) 42 = (x_il 43 1, false) ∧ lk (tb_X9_see) 43 = (x_il 44 2, false) ∧ lk (tb_X9_see) 44 = (x_cV 4 2 P_X4_add 47, false) ∧ lk (tb_X9_see) 47 = (x_rI, false) := ⟨rfl, rfl, rfl, rfl, rfl, rfl, rfl, rfl, rfl, rfl, rfl, rfl, rfl, rfl, rfl, rfl, rfl, rfl, rfl, rfl, rfl, rfl, rfl, rfl, rfl⟩
def P_X9_see : PTT := fun as M R => match as with
  | [.ref k, .int n, .int v] => k = 0 ∧ ∃ g, CR M.1 M.2.1 M.2.2 g ∧ GOk g ∧ Ans M R (gSee g n v).1 (gSee g n v).2
  | _ => False
set_option maxRecDepth 20000 in
theorem ok_X9_see : Ok yX9_see mt_X9_see P_X9_see := by
  refine Ok.of (by decide) rfl rfl rfl rfl fun av ⟨S, I, L⟩ R hP => ?_
  unfold P_X9_see at hP
  split at hP
  case h_2 => exact hP.elim
  rename_i k n v
  obtain ⟨k, rfl⟩ : ∃ q : Nat, q = k := ⟨k, rfl⟩
  refine ⟨by simp [ent, wide, mt_X9_see], ?_⟩
  show J mt_X9_see R 0 [some (.ref k), some (.int n), some (.int v)] [] (S, I, L)
  try dsimp only at hP
  obtain ⟨rfl, g, hc, ho, hA⟩ := hP
  obtain ⟨h1, h2, h3, h4, h5, h6, h7, h8⟩ := id hc
  have hl := ho.2.2.2.2.1
  refine J.of tk_X9_see 200 fun ρ hρ => ?_
  simp only [hρ, x_c, x_il, x_ll, x_al, x_is, x_as, x_ls, x_inc, x_ii, x_iq, x_i1, x_l2, x_lq, x_lh, x_i2l, x_l2i, x_lcmp, x_dup, x_dup2, x_pop, x_if, x_ifn, x_ic, x_icn, x_go, x_sw, swc, x_l01, x_mx, x_gI, x_gL, x_gR, x_pI, x_pZ, x_pL, x_pR, x_ia, x_za, x_aa, x_ias, x_zas, x_aas, x_fac, x_fa, x_slen, x_sa, x_ac, x_oi, x_new, x_na, x_cS, x_cV, x_cI, x_rI, x_rZ, x_rL, x_r0, pa, short, oc, lg, lset, lset2, wide, cond_true, cond_false, true_and, and_true, ↓reduceIte, Bool.false_eq_true, true_or, or_true, lf_X9_see, h1.1.f, h1.2.2.2.2.2.2.2.2.2.1, h1.2.2.2.2.2.2.2.2.2.1.f, h6.1, nI6, nI_ltI (show gN g < 2 ^ 31 by omega) (show 6 < 2 ^ 31 by omega), P_X4_add, Classical.not_not]
  have hbad : ((n < 0 ∨ 20 < n) ∨ v < 0 ∨ ¬ v ≤ 63) → R (some (.int (-2))) (S, I, L) := fun h => (hA.e (by rw [gSee, if_pos h])).s hc
  refine ⟨fun h => hbad (.inl (.inl h)), fun q1 => ⟨fun h => hbad (.inl (.inr h)), fun q2 => ⟨fun h => hbad (.inr (.inl h)), fun q3 => ⟨fun q4 => ?_, fun h => hbad (.inr (.inr h))⟩⟩⟩⟩
  have hno : ¬ ((n < 0 ∨ 20 < n) ∨ v < 0 ∨ ¬ v ≤ 63) := fun q => q.elim (fun q => q.elim q1 q2) (fun q => q.elim q3 (fun r => r q4))
  refine ⟨fun h => ⟨gN g, h, rfl, ?_⟩, fun h => (hA.e (by rw [gSee, if_neg hno, if_pos (by omega)])).s hc⟩
  refine (hA.e (show gSee g n v = (nI (gN g + 1), GE g (gN g + 1) (upd (gB g) (gN g) n) (upd (gO g) (gN g) v)) by rw [gSee, if_neg hno, if_neg (by omega)])) _ L (fun q hq => by rw [mS_n (by omega), mS_n (by omega), mS_n (by omega)]) (fun _ _ => rfl) ⟨h1, h2.fr rfl rfl, h3.fr (fun q a b => by rw [mS_n (by omega), mS_n (by omega), mS_n (by omega)]), CA.fr (g := g) h4 (fun q a b => by rw [mS_n (by omega), mS_n (by omega), mS_n (by omega)]), CK.fr (g := g) h5 (fun q a b => by rw [mS_n (by omega), mS_n (by omega), mS_n (by omega)]), ⟨by rw [mS_s, upd_s]; rfl, fun j hj => ?_⟩, h7, h8.fr rfl⟩
  replace hj : j < gN g + 1 := hj
  show upd (I 94) (gN g) n j = upd (gB g) (gN g) n j ∧ upd (I 95) (gN g) v j = upd (gO g) (gN g) v j
  simp only [upd_app]
  split
  · exact ⟨rfl, rfl⟩
  · exact h6.2 j (by omega)
/-- unsee -/
def gUnsee (g : GS) : Int32 × GS := (nI (gN g), GE g 0 (gB g) (gO g))
def il_X9_unsee : List (Nat × Instr × Nat) := [(0, .aload_n 0, 1), (1, .getfield 59, 3), (4, .getfield 147, 3), (7, .istore_n 1, 1), (8, .aload_n 0, 1), (9, .getfield 59, 3), (12, .iconst 0, 1), (13, .putfield 147, 3), (16, .iload_n 1, 1), (17, .ireturn, 1)]
def mt_X9_unsee : Mt := (cX9_unsee, RX9, 2, (some .int), ({ frames := 0, cells := 0, slots := 0, locals := 0 } : Room), false, none, none)
set_option maxRecDepth 100000 in
theorem dl_X9_unsee : ∀ q ∈ il_X9_unsee, decode (mt_X9_unsee).1 q.1 = .ok q.2 := by decide +kernel
def tb_X9_unsee : Tb := [(0, x_al 1 0, false),
  (1, x_gR 9 7 4, false),
  (4, x_gI 4 2 7, false),
  (7, x_is 8 1, false),
  (8, x_al 9 0, false),
  (9, x_gR 9 7 12, false),
  (12, x_c 13 (.int 0), false),
  (13, x_pI 4 2 16, false),
  (16, x_il 17 1, false),
  (17, x_rI, false)]
set_option maxRecDepth 100000 in
theorem tk_X9_unsee : TbOk (mt_X9_unsee) (tb_X9_unsee) :=
  tkc (s_aload_n (at_ dl_X9_unsee 0 (ins := .aload_n 0) rfl)) (
  tkc (s_gR (at_ dl_X9_unsee 1 (ins := .getfield 59) rfl) (by decide) (by decide) (by decide) (tg 261 (by decide +kernel) (by decide +kernel))) (
  tkc (s_gI (at_ dl_X9_unsee 2 (ins := .getfield 147) rfl) (by decide) (by decide) (by decide) (tg 246 (by decide +kernel) (by decide +kernel))) (
  tkc (s_istore_n (at_ dl_X9_unsee 3 (ins := .istore_n 1) rfl) (by decide)) (
  tkc (s_aload_n (at_ dl_X9_unsee 4 (ins := .aload_n 0) rfl)) (
  tkc (s_gR (at_ dl_X9_unsee 5 (ins := .getfield 59) rfl) (by decide) (by decide) (by decide) (tg 261 (by decide +kernel) (by decide +kernel))) (
  tkc (s_iconst (at_ dl_X9_unsee 6 (ins := .iconst 0) rfl) (by first | rfl | decide)) (
  tkc (s_pI (at_ dl_X9_unsee 7 (ins := .putfield 147) rfl) (by decide) (by decide) (by decide) (by decide) (tg 246 (by decide +kernel) (by decide +kernel))) (
  tkc (s_iload_n (at_ dl_X9_unsee 8 (ins := .iload_n 1) rfl)) (
  tkc (s_rI (at_ dl_X9_unsee 9 (ins := .ireturn) rfl) rfl) ( tk0))))))))))
theorem lf_X9_unsee : lk (tb_X9_unsee) 0 = (x_al 1 0, false) ∧ lk (tb_X9_unsee) 1 = (x_gR 9 7 4, false) ∧ lk (tb_X9_unsee) 4 = (x_gI 4 2 7, false) ∧ lk (tb_X9_unsee) 7 = (x_is 8 1, false) ∧ lk (tb_X9_unsee) 8 = (x_al 9 0, false) ∧ lk (tb_X9_unsee) 9 = (x_gR 9 7 12, false) ∧ lk (tb_X9_unsee) 12 = (x_c 13 (.int 0), false) ∧ lk (tb_X9_unsee) 13 = (x_pI 4 2 16, false) ∧ lk (tb_X9_unsee) 16 = (x_il 17 1, false) ∧ lk (tb_X9_unsee) 17 = (x_rI, false) := ⟨rfl, rfl, rfl, rfl, rfl, rfl, rfl, rfl, rfl, rfl⟩
def P_X9_unsee : PTT := fun as M R => match as with
  | [.ref k] => k = 0 ∧ ∃ g, CR M.1 M.2.1 M.2.2 g ∧ GOk g ∧ Ans M R (gUnsee g).1 (gUnsee g).2
  | _ => False
set_option maxRecDepth 20000 in
theorem ok_X9_unsee : Ok yX9_unsee mt_X9_unsee P_X9_unsee := by
  refine Ok.of (by decide) rfl rfl rfl rfl fun av ⟨S, I, L⟩ R hP => ?_
  unfold P_X9_unsee at hP
  split at hP
  case h_2 => exact hP.elim
  rename_i k
  obtain ⟨k, rfl⟩ : ∃ q : Nat, q = k := ⟨k, rfl⟩
  refine ⟨by simp [ent, wide, mt_X9_unsee], ?_⟩
  show J mt_X9_unsee R 0 [some (.ref k), none] [] (S, I, L)
  try dsimp only at hP
  obtain ⟨rfl, g, ⟨h1, h2, h3, h4, h5, h6, h7, h8⟩, ho, hA⟩ := hP
  refine J.of tk_X9_unsee 200 fun ρ hρ => ?_
  simp only [hρ, x_c, x_il, x_ll, x_al, x_is, x_as, x_ls, x_inc, x_ii, x_iq, x_i1, x_l2, x_lq, x_lh, x_i2l, x_l2i, x_lcmp, x_dup, x_dup2, x_pop, x_if, x_ifn, x_ic, x_icn, x_go, x_sw, swc, x_l01, x_mx, x_gI, x_gL, x_gR, x_pI, x_pZ, x_pL, x_pR, x_ia, x_za, x_aa, x_ias, x_zas, x_aas, x_fac, x_fa, x_slen, x_sa, x_ac, x_oi, x_new, x_na, x_cS, x_cV, x_cI, x_rI, x_rZ, x_rL, x_r0, pa, short, oc, lg, lset, lset2, wide, cond_true, cond_false, true_and, and_true, ↓reduceIte, Bool.false_eq_true, true_or, or_true, lf_X9_unsee, h1.1.f, h1.2.2.2.2.2.2.2.2.2.1, h1.2.2.2.2.2.2.2.2.2.1.f, h6.1]
  exact hA _ L (fun q hq => mS_n (by omega)) (fun _ _ => rfl) ⟨h1, h2.fr rfl rfl, h3.fr (fun q a b => mS_n (by omega)), CA.fr (g := g) h4 (fun q a b => mS_n (by omega)), CK.fr (g := g) h5 (fun q a b => mS_n (by omega)), ⟨by rw [mS_s, upd_s]; rfl, fun j hj => absurd hj (Nat.not_lt_zero j)⟩, h7, h8.fr rfl⟩
/-- seed -/
def il_X9_seed : List (Nat × Instr × Nat) := [(0, .aload_n 0, 1), (1, .getfield 71, 3), (4, .lstore_n 3, 1), (5, .aload_n 0, 1), (6, .lload_n 1, 1), (7, .putfield 71, 3), (10, .lload_n 3, 1), (11, .lreturn, 1)]
def mt_X9_seed : Mt := (cX9_seed, RX9, 5, (some .long), ({ frames := 0, cells := 0, slots := 0, locals := 0 } : Room), false, none, none)
set_option maxRecDepth 100000 in
theorem dl_X9_seed : ∀ q ∈ il_X9_seed, decode (mt_X9_seed).1 q.1 = .ok q.2 := by decide +kernel
def tb_X9_seed : Tb := [(0, x_al 1 0, false),
  (1, x_gL 9 10 4, false),
  (4, x_ls 5 3, false),
  (5, x_al 6 0, false),
  (6, x_ll 7 1, false),
  (7, x_pL 9 10 10, false),
  (10, x_ll 11 3, false),
  (11, x_rL, false)]
set_option maxRecDepth 100000 in
theorem tk_X9_seed : TbOk (mt_X9_seed) (tb_X9_seed) :=
  tkc (s_aload_n (at_ dl_X9_seed 0 (ins := .aload_n 0) rfl)) (
  tkc (s_gL (at_ dl_X9_seed 1 (ins := .getfield 71) rfl) (by decide) (by decide) (by decide) (tg 264 (by decide +kernel) (by decide +kernel))) (
  tkc (s_lstore_n (at_ dl_X9_seed 2 (ins := .lstore_n 3) rfl) (by decide)) (
  tkc (s_aload_n (at_ dl_X9_seed 3 (ins := .aload_n 0) rfl)) (
  tkc (s_lload_n (at_ dl_X9_seed 4 (ins := .lload_n 1) rfl)) (
  tkc (s_pL (at_ dl_X9_seed 5 (ins := .putfield 71) rfl) (by decide) (by decide) (by decide) (by decide) (tg 264 (by decide +kernel) (by decide +kernel))) (
  tkc (s_lload_n (at_ dl_X9_seed 6 (ins := .lload_n 3) rfl)) (
  tkc (s_rL (at_ dl_X9_seed 7 (ins := .lreturn) rfl) rfl) ( tk0))))))))
theorem lf_X9_seed : lk (tb_X9_seed) 0 = (x_al 1 0, false) ∧ lk (tb_X9_seed) 1 = (x_gL 9 10 4, false) ∧ lk (tb_X9_seed) 4 = (x_ls 5 3, false) ∧ lk (tb_X9_seed) 5 = (x_al 6 0, false) ∧ lk (tb_X9_seed) 6 = (x_ll 7 1, false) ∧ lk (tb_X9_seed) 7 = (x_pL 9 10 10, false) ∧ lk (tb_X9_seed) 10 = (x_ll 11 3, false) ∧ lk (tb_X9_seed) 11 = (x_rL, false) := ⟨rfl, rfl, rfl, rfl, rfl, rfl, rfl, rfl⟩
def P_X9_seed : PTT := fun as M R => match as with
  | [.ref k, .long v] => k = 0 ∧ ∃ g, CR M.1 M.2.1 M.2.2 g ∧ ∀ L', (∀ q, q ≠ 0 → L' q = M.2.2 q) → CR M.1 M.2.1 L' (GZ g v) → R (some (.long (gZ g))) (M.1, M.2.1, L')
  | _ => False
set_option maxRecDepth 20000 in
theorem ok_X9_seed : Ok yX9_seed mt_X9_seed P_X9_seed := by
  refine Ok.of (by decide) rfl rfl rfl rfl fun av ⟨S, I, L⟩ R hP => ?_
  unfold P_X9_seed at hP
  split at hP
  case h_2 => exact hP.elim
  rename_i k v
  obtain ⟨k, rfl⟩ : ∃ q : Nat, q = k := ⟨k, rfl⟩
  refine ⟨by simp [ent, wide, mt_X9_seed], ?_⟩
  show J mt_X9_seed R 0 [some (.ref k), some (.long v), none, none, none] [] (S, I, L)
  try dsimp only at hP
  obtain ⟨rfl, g, ⟨h1, h2, h3, h4, h5, h6, h7, h8⟩, hA⟩ := hP
  refine J.of tk_X9_seed 200 fun ρ hρ => ?_
  simp only [hρ, x_c, x_il, x_ll, x_al, x_is, x_as, x_ls, x_inc, x_ii, x_iq, x_i1, x_l2, x_lq, x_lh, x_i2l, x_l2i, x_lcmp, x_dup, x_dup2, x_pop, x_if, x_ifn, x_ic, x_icn, x_go, x_sw, swc, x_l01, x_mx, x_gI, x_gL, x_gR, x_pI, x_pZ, x_pL, x_pR, x_ia, x_za, x_aa, x_ias, x_zas, x_aas, x_fac, x_fa, x_slen, x_sa, x_ac, x_oi, x_new, x_na, x_cS, x_cV, x_cI, x_rI, x_rZ, x_rL, x_r0, pa, short, oc, lg, lset, lset2, wide, cond_true, cond_false, true_and, and_true, ↓reduceIte, Bool.false_eq_true, true_or, or_true, lf_X9_seed, h1.1.f, h7]
  exact hA _ (fun q hq => mS_n hq) ⟨h1, h2, h3, h4, h5, h6, by rw [mS_s]; simp [vp_updL]; rfl, h8⟩
/-- keep -/
def gKeep (g : GS) (x : Int32) : Int32 × GS := if x < 0 ∨ ¬ x < 2 then (-1, g) else (aR (gA g), GK g (fun i => if i = tn x then true else gK g i) (fun i => if i = tn x then gA g else gS g i))
theorem ix2 {x : Int32} (h1 : ¬ x < 0) (h2 : x < 2) : ∃ i, i < 2 ∧ x = nI i := by
  rcases pk_ix x (n := 2) (by omega) with h | h | h
  · exact absurd h h1
  · exact absurd h2 (Int32.not_lt.mpr h)
  · exact h
theorem slot {S : Sh} (h : IsCl S) {i : Nat} (hi : i < 2) : sR S 96 i = 97 + 5 * i ∧ IsSt S (97 + 5 * i) := by
  obtain ⟨-, -, -, -, -, -, -, -, -, -, hs, h97, h102⟩ := h
  rcases b2 hi with rfl | rfl
  · exact ⟨hs.2.2.1, h97⟩
  · exact ⟨hs.2.2.2.1, h102⟩
def il_X9_keep : List (Nat × Instr × Nat) := [(0, .iload_n 1, 1), (1, .ifCond .lt 8, 3), (4, .iload_n 1, 1), (5, .iconst 2, 1), (6, .if_icmp .lt 5, 3), (9, .iconst (-1), 1), (10, .ireturn, 1), (11, .aload_n 0, 1), (12, .getfield 63, 3), (15, .iload_n 1, 1), (16, .aaload, 1), (17, .aload_n 0, 1), (18, .getfield 19, 3), (21, .invokevirtual 219, 3), (24, .aload_n 0, 1), (25, .getfield 67, 3), (28, .iload_n 1, 1), (29, .iconst 1, 1), (30, .bastore, 1), (31, .aload_n 0, 1), (32, .getfield 19, 3), (35, .getfield 107, 3), (38, .ireturn, 1)]
def mt_X9_keep : Mt := (cX9_keep, RX9, 2, (some .int), ({ frames := 2, cells := 0, slots := 0, locals := 39 } : Room), false, none, none)
set_option maxRecDepth 100000 in
theorem dl_X9_keep : ∀ q ∈ il_X9_keep, decode (mt_X9_keep).1 q.1 = .ok q.2 := by decide +kernel
def tb_X9_keep : Tb := [(0, x_il 1 1, false),
  (1, x_if 9 4 (fun x : Int32 => x < 0), false),
  (4, x_il 5 1, false),
  (5, x_c 6 (.int 2), false),
  (6, x_ic 11 9 (fun x y : Int32 => x < y), false),
  (9, x_c 10 (.int (-1)), false),
  (10, x_rI, false),
  (11, x_al 12 0, false),
  (12, x_gR 9 8 15, false),
  (15, x_il 16 1, false),
  (16, x_aa 17, false),
  (17, x_al 18 0, false),
  (18, x_gR 9 1 21, false),
  (21, x_cV 5 1 P_X5_becomeLike 24, false),
  (24, x_al 25 0, false),
  (25, x_gR 9 9 28, false),
  (28, x_il 29 1, false),
  (29, x_c 30 (.int 1), false),
  (30, x_zas 31, false),
  (31, x_al 32 0, false),
  (32, x_gR 9 1 35, false),
  (35, x_gI 5 7 38, false),
  (38, x_rI, false)]
set_option maxRecDepth 100000 in
theorem tk_X9_keep : TbOk (mt_X9_keep) (tb_X9_keep) :=
  tkc (s_iload_n (at_ dl_X9_keep 0 (ins := .iload_n 1) rfl)) (
  tkc (s_if_lt (at_ dl_X9_keep 1 (ins := .ifCond .lt 8) rfl) (by decide)) (
  tkc (s_iload_n (at_ dl_X9_keep 2 (ins := .iload_n 1) rfl)) (
  tkc (s_iconst (at_ dl_X9_keep 3 (ins := .iconst 2) rfl) (by first | rfl | decide)) (
  tkc (s_ic_lt (at_ dl_X9_keep 4 (ins := .if_icmp .lt 5) rfl) (by decide)) (
  tkc (s_iconst (at_ dl_X9_keep 5 (ins := .iconst (-1)) rfl) (by first | rfl | decide)) (
  tkc (s_rI (at_ dl_X9_keep 6 (ins := .ireturn) rfl) rfl) (
  tkc (s_aload_n (at_ dl_X9_keep 7 (ins := .aload_n 0) rfl)) (
  tkc (s_gR (at_ dl_X9_keep 8 (ins := .getfield 63) rfl) (by decide) (by decide) (by decide) (tg 262 (by decide +kernel) (by decide +kernel))) (
  tkc (s_iload_n (at_ dl_X9_keep 9 (ins := .iload_n 1) rfl)) (
  tkc (s_aa (at_ dl_X9_keep 10 (ins := .aaload) rfl)) (
  tkc (s_aload_n (at_ dl_X9_keep 11 (ins := .aload_n 0) rfl)) (
  tkc (s_gR (at_ dl_X9_keep 12 (ins := .getfield 19) rfl) (by decide) (by decide) (by decide) (tg 255 (by decide +kernel) (by decide +kernel))) (
  tkc (s_cV ok_X5_becomeLike (at_ dl_X9_keep 13 (ins := .invokevirtual 219) rfl) (by decide) rfl (tg 443 (by decide +kernel) (by decide +kernel)) (tg 444 (by decide +kernel) (by decide +kernel)) (tg 445 (by decide +kernel) (by decide +kernel)) (tg 45 (by decide +kernel) (by decide +kernel)) (tg 446 (by decide +kernel) (by decide +kernel)) (⟨by decide, by decide, by decide +kernel⟩) (⟨by decide, by decide⟩) rfl rfl) (
  tkc (s_aload_n (at_ dl_X9_keep 14 (ins := .aload_n 0) rfl)) (
  tkc (s_gR (at_ dl_X9_keep 15 (ins := .getfield 67) rfl) (by decide) (by decide) (by decide) (tg 263 (by decide +kernel) (by decide +kernel))) (
  tkc (s_iload_n (at_ dl_X9_keep 16 (ins := .iload_n 1) rfl)) (
  tkc (s_iconst (at_ dl_X9_keep 17 (ins := .iconst 1) rfl) (by first | rfl | decide)) (
  tkc (s_zas (at_ dl_X9_keep 18 (ins := .bastore) rfl)) (
  tkc (s_aload_n (at_ dl_X9_keep 19 (ins := .aload_n 0) rfl)) (
  tkc (s_gR (at_ dl_X9_keep 20 (ins := .getfield 19) rfl) (by decide) (by decide) (by decide) (tg 255 (by decide +kernel) (by decide +kernel))) (
  tkc (s_gI (at_ dl_X9_keep 21 (ins := .getfield 107) rfl) (by decide) (by decide) (by decide) (tg 150 (by decide +kernel) (by decide +kernel))) (
  tkc (s_rI (at_ dl_X9_keep 22 (ins := .ireturn) rfl) rfl) ( tk0)))))))))))))))))))))))
theorem lf_X9_keep : lk (tb_X9_keep) 0 = (x_il 1 1, false) ∧ lk (tb_X9_keep) 1 = (x_if 9 4 (fun x : Int32 => x < 0), false) ∧ lk (tb_X9_keep) 4 = (x_il 5 1, false) ∧ lk (tb_X9_keep) 5 = (x_c 6 (.int 2), false) ∧ lk (tb_X9_keep) 6 = (x_ic 11 9 (fun x y : Int32 => x < y), false) ∧ lk (tb_X9_keep) 9 = (x_c 10 (.int (-1)), false) ∧ lk (tb_X9_keep) 10 = (x_rI, false) ∧ lk (tb_X9_keep) 11 = (x_al 12 0, false) ∧ lk (tb_X9_keep) 12 = (x_gR 9 8 15, false) ∧ lk (tb_X9_keep) 15 = (x_il 16 1, false) ∧ lk (tb_X9_keep) 16 = (x_aa 17, false) ∧ lk (tb_X9_keep) 17 = (x_al 18 0, false) ∧ lk (tb_X9_keep) 18 = (x_gR 9 1 21, false) ∧ lk (tb_X9_keep) 21 = (x_cV 5 1 P_X5_becomeLike 24, false) ∧ lk (tb_X9_keep) 24 = (x_al 25 0, false) ∧ lk (tb_X9_keep) 25 = (x_gR 9 9 28, false) ∧ lk (tb_X9_keep) 28 = (x_il 29 1, false) ∧ lk (tb_X9_keep) 29 = (x_c 30 (.int 1), false) ∧ lk (tb_X9_keep) 30 = (x_zas 31, false) ∧ lk (tb_X9_keep) 31 = (x_al 32 0, false) ∧ lk (tb_X9_keep) 32 = (x_gR 9 1 35, false) ∧ lk (tb_X9_keep) 35 = (x_gI 5 7 38, false) ∧ lk (tb_X9_keep) 38 = (x_rI, false) := ⟨rfl, rfl, rfl, rfl, rfl, rfl, rfl, rfl, rfl, rfl, rfl, rfl, rfl, rfl, rfl, rfl, rfl, rfl, rfl, rfl, rfl, rfl, rfl⟩
def P_X9_keep : PTT := fun as M R => match as with
  | [.ref k, .int x] => k = 0 ∧ ∃ g, CR M.1 M.2.1 M.2.2 g ∧ GOk g ∧ Ans M R (gKeep g x).1 (gKeep g x).2
  | _ => False
set_option maxRecDepth 20000 in
theorem ok_X9_keep : Ok yX9_keep mt_X9_keep P_X9_keep := by
  refine Ok.of (by decide) rfl rfl rfl rfl fun av ⟨S, I, L⟩ R hP => ?_
  unfold P_X9_keep at hP
  split at hP
  case h_2 => exact hP.elim
  rename_i k x
  obtain ⟨k, rfl⟩ : ∃ q : Nat, q = k := ⟨k, rfl⟩
  refine ⟨by simp [ent, wide, mt_X9_keep], ?_⟩
  show J mt_X9_keep R 0 [some (.ref k), some (.int x)] [] (S, I, L)
  try dsimp only at hP
  obtain ⟨rfl, g, hc, ho, hA⟩ := hP
  obtain ⟨h1, h2, h3, h4, h5, h6, h7, h8⟩ := id hc
  have hbad : (x < 0 ∨ ¬ x < 2) → R (some (.int (-1))) (S, I, L) := fun h => (hA.e (by rw [gKeep, if_pos h])).s hc
  by_cases hx : x < 0 ∨ ¬ x < 2
  · refine J.of tk_X9_keep 200 fun ρ hρ => ?_
    simp only [hρ, x_c, x_il, x_ll, x_al, x_is, x_as, x_ls, x_inc, x_ii, x_iq, x_i1, x_l2, x_lq, x_lh, x_i2l, x_l2i, x_lcmp, x_dup, x_dup2, x_pop, x_if, x_ifn, x_ic, x_icn, x_go, x_sw, swc, x_l01, x_mx, x_gI, x_gL, x_gR, x_pI, x_pZ, x_pL, x_pR, x_ia, x_za, x_aa, x_ias, x_zas, x_aas, x_fac, x_fa, x_slen, x_sa, x_ac, x_oi, x_new, x_na, x_cS, x_cV, x_cI, x_rI, x_rZ, x_rL, x_r0, pa, short, oc, lg, lset, lset2, wide, cond_true, cond_false, true_and, and_true, ↓reduceIte, Bool.false_eq_true, true_or, or_true, lf_X9_keep, h1.1.f, h1.2.2.2.2.2.2.2.2.2.2.1.f, P_X5_becomeLike, eq_true (hbad hx), implies_true]
    exact fun q1 q2 => absurd hx (fun q => q.elim q1 (fun r => r q2))
  · have q1 : ¬ x < 0 := fun q => hx (.inl q)
    have q2 : x < 2 := Classical.byContradiction fun q => hx (.inr q)
    have hA' := hA.e (show gKeep g x = (aR (gA g), GK g (fun i => if i = tn x then true else gK g i) (fun i => if i = tn x then gA g else gS g i)) by rw [gKeep, if_neg hx])
    obtain ⟨i, hi, rfl⟩ := ix2 q1 q2
    rw [tn_nI (n := i) (by omega)] at hA'
    obtain ⟨s1, s2⟩ := slot h1 hi
    have hap : apart5 (97 + 5 * i) 5 := Or.inr (by omega)
    have e107 : cpI I (97 + 5 * i) 5 107 = I 107 := cpI_fr (by omega)
    refine J.of tk_X9_keep 200 fun ρ hρ => ?_
    simp only [hρ, x_c, x_il, x_ll, x_al, x_is, x_as, x_ls, x_inc, x_ii, x_iq, x_i1, x_l2, x_lq, x_lh, x_i2l, x_l2i, x_lcmp, x_dup, x_dup2, x_pop, x_if, x_ifn, x_ic, x_icn, x_go, x_sw, swc, x_l01, x_mx, x_gI, x_gL, x_gR, x_pI, x_pZ, x_pL, x_pR, x_ia, x_za, x_aa, x_ias, x_zas, x_aas, x_fac, x_fa, x_slen, x_sa, x_ac, x_oi, x_new, x_na, x_cS, x_cV, x_cI, x_rI, x_rZ, x_rL, x_r0, pa, short, oc, lg, lset, lset2, wide, cond_true, cond_false, true_and, and_true, ↓reduceIte, Bool.false_eq_true, true_or, or_true, lf_X9_keep, h1.1.f, h1.2.2.2.2.2.2.2.2.2.2.1.f, hc.ac, hc.ac.2.f, P_X5_becomeLike, q1, q2, ncl (show i < 2 ^ 31 by omega), s1, s2, s2.f, hap, eq_true (show vp_in (nI i) 2 from vp_in_nI (by omega) (by omega)), e107, true_implies, not_true_eq_false, false_implies, not_false_eq_true]
    have hX : ∀ q, (q < 97 + 5 * i ∨ 97 + 5 * i + 5 ≤ q) → q ≠ 107 → mS (cpI I (97 + 5 * i) 5) 107 (upd (I 107) i 1) q = I q := fun q a b => by rw [mS_n b, cpI_fr a]
    rw [hX 5 (by omega) (by omega), h3.2.2.2.1]
    refine hA' _ L (fun q hq => hX q (by omega) (by omega)) (fun _ _ => rfl) ⟨h1, h2.fr (hX 1 (by omega) (by omega)) (hX 2 (by omega) (by omega)), h3.fr (fun q a b => hX q (by omega) (by omega)), CA.fr (g := g) h4 (fun q a b => hX q (by omega) (by omega)), fun j hj => ?_, CE.fr (g := g) h6 (hX 93 (by omega) (by omega)) (hX 94 (by omega) (by omega)) (hX 95 (by omega) (by omega)), h7, h8.fr (hX 16 (by omega) (by omega))⟩
    show mS (cpI I (97 + 5 * i) 5) 107 (upd (I 107) i 1) 107 j = bB (if j = i then true else gK g j) ∧ ((if j = i then true else gK g j) = true → SR _ (97 + 5 * j) (if j = i then gA g else gS g j))
    rw [mS_s, upd_app]
    by_cases hji : j = i
    · subst hji
      simp only [if_true]
      exact ⟨rfl, fun _ => (SR.cpI (k := 97 + 5 * j) h3 ho.2.1.1.2.2).fr (fun q a b => mS_n (by omega))⟩
    · simp only [hji, if_false]
      exact ⟨(h5 j hj).1, fun hk => ((h5 j hj).2 hk).fr (fun q a b => hX q (by omega) (by omega))⟩
/-- again -/
def gAgain (g : GS) (x : Int32) : Int32 × GS := if x < 0 ∨ ¬ x < 2 then (-1, g) else if ¬ gK g (tn x) = true then (-3, g) else (aR (gS g (tn x)), GH (GA g (gS g (tn x))) 0 (gH g))
def il_X9_again : List (Nat × Instr × Nat) := [(0, .iload_n 1, 1), (1, .ifCond .lt 8, 3), (4, .iload_n 1, 1), (5, .iconst 2, 1), (6, .if_icmp .lt 5, 3), (9, .iconst (-1), 1), (10, .ireturn, 1), (11, .aload_n 0, 1), (12, .getfield 67, 3), (15, .iload_n 1, 1), (16, .baload, 1), (17, .ifCond .ne 6, 3), (20, .bipush (-3), 2), (22, .ireturn, 1), (23, .aload_n 0, 1), (24, .getfield 19, 3), (27, .aload_n 0, 1), (28, .getfield 63, 3), (31, .iload_n 1, 1), (32, .aaload, 1), (33, .invokevirtual 219, 3), (36, .aload_n 0, 1), (37, .getfield 52, 3), (40, .invokevirtual 95, 3), (43, .aload_n 0, 1), (44, .getfield 19, 3), (47, .getfield 107, 3), (50, .ireturn, 1)]
def mt_X9_again : Mt := (cX9_again, RX9, 2, (some .int), ({ frames := 2, cells := 0, slots := 0, locals := 39 } : Room), false, none, none)
set_option maxRecDepth 100000 in
theorem dl_X9_again : ∀ q ∈ il_X9_again, decode (mt_X9_again).1 q.1 = .ok q.2 := by decide +kernel
def tb_X9_again : Tb := [(0, x_il 1 1, false),
  (1, x_if 9 4 (fun x : Int32 => x < 0), false),
  (4, x_il 5 1, false),
  (5, x_c 6 (.int 2), false),
  (6, x_ic 11 9 (fun x y : Int32 => x < y), false),
  (9, x_c 10 (.int (-1)), false),
  (10, x_rI, false),
  (11, x_al 12 0, false),
  (12, x_gR 9 9 15, false),
  (15, x_il 16 1, false),
  (16, x_za 17, false),
  (17, x_ifn 23 20 (fun x : Int32 => x = 0), false),
  (20, x_c 22 (.int (-3)), false),
  (22, x_rI, false),
  (23, x_al 24 0, false),
  (24, x_gR 9 1 27, false),
  (27, x_al 28 0, false),
  (28, x_gR 9 8 31, false),
  (31, x_il 32 1, false),
  (32, x_aa 33, false),
  (33, x_cV 5 1 P_X5_becomeLike 36, false),
  (36, x_al 37 0, false),
  (37, x_gR 9 6 40, false),
  (40, x_cV 0 0 P_X0_forgetAll 43, false),
  (43, x_al 44 0, false),
  (44, x_gR 9 1 47, false),
  (47, x_gI 5 7 50, false),
  (50, x_rI, false)]
set_option maxRecDepth 100000 in
theorem tk_X9_again : TbOk (mt_X9_again) (tb_X9_again) :=
  tkc (s_iload_n (at_ dl_X9_again 0 (ins := .iload_n 1) rfl)) (
  tkc (s_if_lt (at_ dl_X9_again 1 (ins := .ifCond .lt 8) rfl) (by decide)) (
  tkc (s_iload_n (at_ dl_X9_again 2 (ins := .iload_n 1) rfl)) (
  tkc (s_iconst (at_ dl_X9_again 3 (ins := .iconst 2) rfl) (by first | rfl | decide)) (
  tkc (s_ic_lt (at_ dl_X9_again 4 (ins := .if_icmp .lt 5) rfl) (by decide)) (
  tkc (s_iconst (at_ dl_X9_again 5 (ins := .iconst (-1)) rfl) (by first | rfl | decide)) (
  tkc (s_rI (at_ dl_X9_again 6 (ins := .ireturn) rfl) rfl) (
  tkc (s_aload_n (at_ dl_X9_again 7 (ins := .aload_n 0) rfl)) (
  tkc (s_gR (at_ dl_X9_again 8 (ins := .getfield 67) rfl) (by decide) (by decide) (by decide) (tg 263 (by decide +kernel) (by decide +kernel))) (
  tkc (s_iload_n (at_ dl_X9_again 9 (ins := .iload_n 1) rfl)) (
  tkc (s_za (at_ dl_X9_again 10 (ins := .baload) rfl)) (
  tkc (s_if_ne (at_ dl_X9_again 11 (ins := .ifCond .ne 6) rfl) (by decide)) (
  tkc (s_bipush (at_ dl_X9_again 12 (ins := .bipush (-3)) rfl) (by first | rfl | decide)) (
  tkc (s_rI (at_ dl_X9_again 13 (ins := .ireturn) rfl) rfl) (
  tkc (s_aload_n (at_ dl_X9_again 14 (ins := .aload_n 0) rfl)) (
  tkc (s_gR (at_ dl_X9_again 15 (ins := .getfield 19) rfl) (by decide) (by decide) (by decide) (tg 255 (by decide +kernel) (by decide +kernel))) (
  tkc (s_aload_n (at_ dl_X9_again 16 (ins := .aload_n 0) rfl)) (
  tkc (s_gR (at_ dl_X9_again 17 (ins := .getfield 63) rfl) (by decide) (by decide) (by decide) (tg 262 (by decide +kernel) (by decide +kernel))) (
  tkc (s_iload_n (at_ dl_X9_again 18 (ins := .iload_n 1) rfl)) (
  tkc (s_aa (at_ dl_X9_again 19 (ins := .aaload) rfl)) (
  tkc (s_cV ok_X5_becomeLike (at_ dl_X9_again 20 (ins := .invokevirtual 219) rfl) (by decide) rfl (tg 443 (by decide +kernel) (by decide +kernel)) (tg 444 (by decide +kernel) (by decide +kernel)) (tg 445 (by decide +kernel) (by decide +kernel)) (tg 45 (by decide +kernel) (by decide +kernel)) (tg 446 (by decide +kernel) (by decide +kernel)) (⟨by decide, by decide, by decide +kernel⟩) (⟨by decide, by decide⟩) rfl rfl) (
  tkc (s_aload_n (at_ dl_X9_again 21 (ins := .aload_n 0) rfl)) (
  tkc (s_gR (at_ dl_X9_again 22 (ins := .getfield 52) rfl) (by decide) (by decide) (by decide) (tg 260 (by decide +kernel) (by decide +kernel))) (
  tkc (s_cV ok_X0_forgetAll (at_ dl_X9_again 23 (ins := .invokevirtual 95) rfl) (by decide) rfl (tg 352 (by decide +kernel) (by decide +kernel)) (tg 353 (by decide +kernel) (by decide +kernel)) (tg 354 (by decide +kernel) (by decide +kernel)) (tg 49 (by decide +kernel) (by decide +kernel)) (tg 355 (by decide +kernel) (by decide +kernel)) (⟨by decide, by decide, by decide +kernel⟩) (⟨by decide, by decide⟩) rfl rfl) (
  tkc (s_aload_n (at_ dl_X9_again 24 (ins := .aload_n 0) rfl)) (
  tkc (s_gR (at_ dl_X9_again 25 (ins := .getfield 19) rfl) (by decide) (by decide) (by decide) (tg 255 (by decide +kernel) (by decide +kernel))) (
  tkc (s_gI (at_ dl_X9_again 26 (ins := .getfield 107) rfl) (by decide) (by decide) (by decide) (tg 150 (by decide +kernel) (by decide +kernel))) (
  tkc (s_rI (at_ dl_X9_again 27 (ins := .ireturn) rfl) rfl) ( tk0))))))))))))))))))))))))))))
theorem lf_X9_again : lk (tb_X9_again) 0 = (x_il 1 1, false) ∧ lk (tb_X9_again) 1 = (x_if 9 4 (fun x : Int32 => x < 0), false) ∧ lk (tb_X9_again) 4 = (x_il 5 1, false) ∧ lk (tb_X9_again) 5 = (x_c 6 (.int 2), false) ∧ lk (tb_X9_again) 6 = (x_ic 11 9 (fun x y : Int32 => x < y), false) ∧ lk (tb_X9_again) 9 = (x_c 10 (.int (-1)), false) ∧ lk (tb_X9_again) 10 = (x_rI, false) ∧ lk (tb_X9_again) 11 = (x_al 12 0, false) ∧ lk (tb_X9_again) 12 = (x_gR 9 9 15, false) ∧ lk (tb_X9_again) 15 = (x_il 16 1, false) ∧ lk (tb_X9_again) 16 = (x_za 17, false) ∧ lk (tb_X9_again) 17 = (x_ifn 23 20 (fun x : Int32 => x = 0), false) ∧ lk (tb_X9_again) 20 = (x_c 22 (.int (-3)), false) ∧ lk (tb_X9_again) 22 = (x_rI, false) ∧ lk (tb_X9_again) 23 = (x_al 24 0, false) ∧ lk (tb_X9_again) 24 = (x_gR 9 1 27, false) ∧ lk (tb_X9_again) 27 = (x_al 28 0, false) ∧ lk (tb_X9_again) 28 = (x_gR 9 8 31, false) ∧ lk (tb_X9_again) 31 = (x_il 32 1, false) ∧ lk (tb_X9_again) 32 = (x_aa 33, false) ∧ lk (tb_X9_again) 33 = (x_cV 5 1 P_X5_becomeLike 36, false) ∧ lk (tb_X9_again) 36 = (x_al 37 0, false) ∧ lk (tb_X9_again) 37 = (x_gR 9 6 40, false) ∧ lk (tb_X9_again) 40 = (x_cV 0 0 P_X0_forgetAll 43, false) ∧ lk (tb_X9_again) 43 = (x_al 44 0, false) ∧ lk (tb_X9_again) 44 = (x_gR 9 1 47, false) ∧ lk (tb_X9_again) 47 = (x_gI 5 7 50, false) ∧ lk (tb_X9_again) 50 = (x_rI, false) := ⟨rfl, rfl, rfl, rfl, rfl, rfl, rfl, rfl, rfl, rfl, rfl, rfl, rfl, rfl, rfl, rfl, rfl, rfl, rfl, rfl, rfl, rfl, rfl, rfl, rfl, rfl, rfl, rfl⟩
def P_X9_again : PTT := fun as M R => match as with
  | [.ref k, .int x] => k = 0 ∧ ∃ g, CR M.1 M.2.1 M.2.2 g ∧ GOk g ∧ Ans M R (gAgain g x).1 (gAgain g x).2
  | _ => False
set_option maxRecDepth 20000 in
theorem ok_X9_again : Ok yX9_again mt_X9_again P_X9_again := by
  refine Ok.of (by decide) rfl rfl rfl rfl fun av ⟨S, I, L⟩ R hP => ?_
  unfold P_X9_again at hP
  split at hP
  case h_2 => exact hP.elim
  rename_i k x
  obtain ⟨k, rfl⟩ : ∃ q : Nat, q = k := ⟨k, rfl⟩
  refine ⟨by simp [ent, wide, mt_X9_again], ?_⟩
  show J mt_X9_again R 0 [some (.ref k), some (.int x)] [] (S, I, L)
  try dsimp only at hP
  obtain ⟨rfl, g, hc, ho, hA⟩ := hP
  obtain ⟨h1, h2, h3, h4, h5, h6, h7, h8⟩ := id hc
  have hbad : (x < 0 ∨ ¬ x < 2) → R (some (.int (-1))) (S, I, L) := fun h => (hA.e (by rw [gAgain, if_pos h])).s hc
  by_cases hx : x < 0 ∨ ¬ x < 2
  · refine J.of tk_X9_again 200 fun ρ hρ => ?_
    simp only [hρ, x_c, x_il, x_ll, x_al, x_is, x_as, x_ls, x_inc, x_ii, x_iq, x_i1, x_l2, x_lq, x_lh, x_i2l, x_l2i, x_lcmp, x_dup, x_dup2, x_pop, x_if, x_ifn, x_ic, x_icn, x_go, x_sw, swc, x_l01, x_mx, x_gI, x_gL, x_gR, x_pI, x_pZ, x_pL, x_pR, x_ia, x_za, x_aa, x_ias, x_zas, x_aas, x_fac, x_fa, x_slen, x_sa, x_ac, x_oi, x_new, x_na, x_cS, x_cV, x_cI, x_rI, x_rZ, x_rL, x_r0, pa, short, oc, lg, lset, lset2, wide, cond_true, cond_false, true_and, and_true, ↓reduceIte, Bool.false_eq_true, true_or, or_true, lf_X9_again, h1.1.f, h1.2.2.2.2.2.2.2.2.2.2.1.f, P_X5_becomeLike, P_X0_forgetAll, eq_true (hbad hx), implies_true]
    exact fun q1 q2 => absurd hx (fun q => q.elim q1 (fun r => r q2))
  · have q1 : ¬ x < 0 := fun q => hx (.inl q)
    have q2 : x < 2 := Classical.byContradiction fun q => hx (.inr q)
    obtain ⟨i, hi, rfl⟩ := ix2 q1 q2
    have ht : tn (nI i) = i := tn_nI (by omega)
    obtain ⟨s1, s2⟩ := slot h1 hi
    obtain ⟨k1, k2⟩ := h5 i hi
    have hap : apart5 5 (97 + 5 * i) := Or.inl (by omega)
    have e21 : cpI I 5 (97 + 5 * i) 21 = I 21 := cpI_fr (by omega)
    refine J.of tk_X9_again 200 fun ρ hρ => ?_
    simp only [hρ, x_c, x_il, x_ll, x_al, x_is, x_as, x_ls, x_inc, x_ii, x_iq, x_i1, x_l2, x_lq, x_lh, x_i2l, x_l2i, x_lcmp, x_dup, x_dup2, x_pop, x_if, x_ifn, x_ic, x_icn, x_go, x_sw, swc, x_l01, x_mx, x_gI, x_gL, x_gR, x_pI, x_pZ, x_pL, x_pR, x_ia, x_za, x_aa, x_ias, x_zas, x_aas, x_fac, x_fa, x_slen, x_sa, x_ac, x_oi, x_new, x_na, x_cS, x_cV, x_cI, x_rI, x_rZ, x_rL, x_r0, pa, short, oc, lg, lset, lset2, wide, cond_true, cond_false, true_and, and_true, ↓reduceIte, Bool.false_eq_true, true_or, or_true, lf_X9_again, h1.1.f, h1.2.2.2.2.2.2.2.2.2.2.1.f, hc.ac, hc.ac.1.f, hc.ac.2.f, P_X5_becomeLike, P_X0_forgetAll, q1, q2, ncl (show i < 2 ^ 31 by omega), s1, s2, s2.f, hap, eq_true (show vp_in (nI i) 2 from vp_in_nI (by omega) (by omega)), e21, k1, bB_0, Classical.not_not, true_implies, not_true_eq_false, false_implies, not_false_eq_true]
    refine ⟨fun hk => ?_, fun hk => (hA.e (show gAgain g (nI i) = (-3, g) by rw [gAgain, if_neg hx, ht, if_pos hk])).s hc⟩
    have hA' := hA.e (show gAgain g (nI i) = (aR (gS g i), GH (GA g (gS g i)) 0 (gH g)) by rw [gAgain, if_neg hx, ht, if_neg (fun q => q hk)])
    have hX : ∀ q, (q < 5 ∨ 10 ≤ q) → q ≠ 21 → mS (cpI I 5 (97 + 5 * i)) 21 (upd (I 21) 2 0) q = I q := fun q a b => by rw [mS_n b, cpI_fr a]
    have hs5 : SR (mS (cpI I 5 (97 + 5 * i)) 21 (upd (I 21) 2 0)) 5 (gS g i) := (SR.cpI (k := 5) (k2 hk) (ho.2.2.2.1 i hi hk).1.1.2.2).fr (fun q a b => mS_n (by omega))
    rw [hs5.2.2.2.1]
    obtain ⟨f, ⟨a1, a2, a3, a4⟩, -⟩ := h4
    refine hA' _ L (fun q hq => hX q (by omega) (by omega)) (fun _ _ => rfl) ⟨h1, h2.fr (hX 1 (by omega) (by omega)) (hX 2 (by omega) (by omega)), hs5, ⟨f, ⟨a1, Nat.zero_le _, ?_, ?_⟩, fun j hj => absurd hj (Nat.not_lt_zero j)⟩, CK.fr (g := g) h5 (fun q a b => hX q (by omega) (by omega)), CE.fr (g := g) h6 (hX 93 (by omega) (by omega)) (hX 94 (by omega) (by omega)) (hX 95 (by omega) (by omega)), h7, h8.fr (hX 16 (by omega) (by omega))⟩
    · rw [mS_s]; exact a3
    · rw [mS_s]; rfl
