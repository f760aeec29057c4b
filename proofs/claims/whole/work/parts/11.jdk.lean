/-! the JDK's two -/
def il_J6_bitCount_0f7a4 : List (Nat × Instr × Nat) := [(0, .iload_n 0, 1), (1, .iload_n 0, 1), (2, .iconst 1, 1), (3, .iushr, 1), (4, .ldc_w 265, 3), (7, .iand, 1), (8, .isub, 1), (9, .istore_n 0, 1), (10, .iload_n 0, 1), (11, .ldc_w 266, 3), (14, .iand, 1), (15, .iload_n 0, 1), (16, .iconst 2, 1), (17, .iushr, 1), (18, .ldc_w 266, 3), (21, .iand, 1), (22, .iadd, 1), (23, .istore_n 0, 1), (24, .iload_n 0, 1), (25, .iload_n 0, 1), (26, .iconst 4, 1), (27, .iushr, 1), (28, .iadd, 1), (29, .ldc_w 267, 3), (32, .iand, 1), (33, .istore_n 0, 1), (34, .iload_n 0, 1), (35, .iload_n 0, 1), (36, .bipush 8, 2), (38, .iushr, 1), (39, .iadd, 1), (40, .istore_n 0, 1), (41, .iload_n 0, 1), (42, .iload_n 0, 1), (43, .bipush 16, 2), (45, .iushr, 1), (46, .iadd, 1), (47, .istore_n 0, 1), (48, .iload_n 0, 1), (49, .bipush 63, 2), (51, .iand, 1), (52, .ireturn, 1)]
def mt_J6_bitCount_0f7a4 : Mt := (cJ6_bitCount_0f7a4, RJ6, 1, (some .int), ({ frames := 0, cells := 0, slots := 0, locals := 0 } : Room), false, none, none)
set_option maxRecDepth 100000 in
theorem dl_J6_bitCount_0f7a4 : ∀ q ∈ il_J6_bitCount_0f7a4, decode (mt_J6_bitCount_0f7a4).1 q.1 = .ok q.2 := by decide +kernel
def tb_J6_bitCount_0f7a4 : Tb := [(0, x_il 1 0, false),
  (1, x_il 2 0, false),
  (2, x_c 3 (.int 1), false),
  (3, x_ii 4 ushr, false),
  (4, x_c 7 (.int 1431655765), false),
  (7, x_ii 8 (fun x y : Int32 => x &&& y), false),
  (8, x_ii 9 (fun x y : Int32 => x - y), false),
  (9, x_is 10 0, false),
  (10, x_il 11 0, true),
  (11, x_c 14 (.int 858993459), false),
  (14, x_ii 15 (fun x y : Int32 => x &&& y), false),
  (15, x_il 16 0, false),
  (16, x_c 17 (.int 2), false),
  (17, x_ii 18 ushr, false),
  (18, x_c 21 (.int 858993459), false),
  (21, x_ii 22 (fun x y : Int32 => x &&& y), false),
  (22, x_ii 23 (fun x y : Int32 => x + y), false),
  (23, x_is 24 0, false),
  (24, x_il 25 0, true),
  (25, x_il 26 0, false),
  (26, x_c 27 (.int 4), false),
  (27, x_ii 28 ushr, false),
  (28, x_ii 29 (fun x y : Int32 => x + y), false),
  (29, x_c 32 (.int 252645135), false),
  (32, x_ii 33 (fun x y : Int32 => x &&& y), false),
  (33, x_is 34 0, false),
  (34, x_il 35 0, true),
  (35, x_il 36 0, false),
  (36, x_c 38 (.int 8), false),
  (38, x_ii 39 ushr, false),
  (39, x_ii 40 (fun x y : Int32 => x + y), false),
  (40, x_is 41 0, false),
  (41, x_il 42 0, true),
  (42, x_il 43 0, false),
  (43, x_c 45 (.int 16), false),
  (45, x_ii 46 ushr, false),
  (46, x_ii 47 (fun x y : Int32 => x + y), false),
  (47, x_is 48 0, false),
  (48, x_il 49 0, true),
  (49, x_c 51 (.int 63), false),
  (51, x_ii 52 (fun x y : Int32 => x &&& y), false),
  (52, x_rI, false)]
set_option maxRecDepth 100000 in
theorem tk_J6_bitCount_0f7a4 : TbOk (mt_J6_bitCount_0f7a4) (tb_J6_bitCount_0f7a4) :=
  tkc (s_iload_n (at_ dl_J6_bitCount_0f7a4 0 (ins := .iload_n 0) rfl)) (
  tkc (s_iload_n (at_ dl_J6_bitCount_0f7a4 1 (ins := .iload_n 0) rfl)) (
  tkc (s_iconst (at_ dl_J6_bitCount_0f7a4 2 (ins := .iconst 1) rfl) (by first | rfl | decide)) (
  tkc (s_iushr (at_ dl_J6_bitCount_0f7a4 3 (ins := .iushr) rfl)) (
  tkc (s_ldcw (at_ dl_J6_bitCount_0f7a4 4 (ins := .ldc_w 265) rfl) (tg 376 (by decide +kernel) (by decide +kernel))) (
  tkc (s_iand (at_ dl_J6_bitCount_0f7a4 5 (ins := .iand) rfl)) (
  tkc (s_isub (at_ dl_J6_bitCount_0f7a4 6 (ins := .isub) rfl)) (
  tkc (s_istore_n (at_ dl_J6_bitCount_0f7a4 7 (ins := .istore_n 0) rfl) (by decide)) (
  tkc (s_iload_n (at_ dl_J6_bitCount_0f7a4 8 (ins := .iload_n 0) rfl)) (
  tkc (s_ldcw (at_ dl_J6_bitCount_0f7a4 9 (ins := .ldc_w 266) rfl) (tg 377 (by decide +kernel) (by decide +kernel))) (
  tkc (s_iand (at_ dl_J6_bitCount_0f7a4 10 (ins := .iand) rfl)) (
  tkc (s_iload_n (at_ dl_J6_bitCount_0f7a4 11 (ins := .iload_n 0) rfl)) (
  tkc (s_iconst (at_ dl_J6_bitCount_0f7a4 12 (ins := .iconst 2) rfl) (by first | rfl | decide)) (
  tkc (s_iushr (at_ dl_J6_bitCount_0f7a4 13 (ins := .iushr) rfl)) (
  tkc (s_ldcw (at_ dl_J6_bitCount_0f7a4 14 (ins := .ldc_w 266) rfl) (tg 377 (by decide +kernel) (by decide +kernel))) (
  tkc (s_iand (at_ dl_J6_bitCount_0f7a4 15 (ins := .iand) rfl)) (
  tkc (s_iadd (at_ dl_J6_bitCount_0f7a4 16 (ins := .iadd) rfl)) (
  tkc (s_istore_n (at_ dl_J6_bitCount_0f7a4 17 (ins := .istore_n 0) rfl) (by decide)) (
  tkc (s_iload_n (at_ dl_J6_bitCount_0f7a4 18 (ins := .iload_n 0) rfl)) (
  tkc (s_iload_n (at_ dl_J6_bitCount_0f7a4 19 (ins := .iload_n 0) rfl)) (
  tkc (s_iconst (at_ dl_J6_bitCount_0f7a4 20 (ins := .iconst 4) rfl) (by first | rfl | decide)) (
  tkc (s_iushr (at_ dl_J6_bitCount_0f7a4 21 (ins := .iushr) rfl)) (
  tkc (s_iadd (at_ dl_J6_bitCount_0f7a4 22 (ins := .iadd) rfl)) (
  tkc (s_ldcw (at_ dl_J6_bitCount_0f7a4 23 (ins := .ldc_w 267) rfl) (tg 378 (by decide +kernel) (by decide +kernel))) (
  tkc (s_iand (at_ dl_J6_bitCount_0f7a4 24 (ins := .iand) rfl)) (
  tkc (s_istore_n (at_ dl_J6_bitCount_0f7a4 25 (ins := .istore_n 0) rfl) (by decide)) (
  tkc (s_iload_n (at_ dl_J6_bitCount_0f7a4 26 (ins := .iload_n 0) rfl)) (
  tkc (s_iload_n (at_ dl_J6_bitCount_0f7a4 27 (ins := .iload_n 0) rfl)) (
  tkc (s_bipush (at_ dl_J6_bitCount_0f7a4 28 (ins := .bipush 8) rfl) (by first | rfl | decide)) (
  tkc (s_iushr (at_ dl_J6_bitCount_0f7a4 29 (ins := .iushr) rfl)) (
  tkc (s_iadd (at_ dl_J6_bitCount_0f7a4 30 (ins := .iadd) rfl)) (
  tkc (s_istore_n (at_ dl_J6_bitCount_0f7a4 31 (ins := .istore_n 0) rfl) (by decide)) (
  tkc (s_iload_n (at_ dl_J6_bitCount_0f7a4 32 (ins := .iload_n 0) rfl)) (
  tkc (s_iload_n (at_ dl_J6_bitCount_0f7a4 33 (ins := .iload_n 0) rfl)) (
  tkc (s_bipush (at_ dl_J6_bitCount_0f7a4 34 (ins := .bipush 16) rfl) (by first | rfl | decide)) (
  tkc (s_iushr (at_ dl_J6_bitCount_0f7a4 35 (ins := .iushr) rfl)) (
  tkc (s_iadd (at_ dl_J6_bitCount_0f7a4 36 (ins := .iadd) rfl)) (
  tkc (s_istore_n (at_ dl_J6_bitCount_0f7a4 37 (ins := .istore_n 0) rfl) (by decide)) (
  tkc (s_iload_n (at_ dl_J6_bitCount_0f7a4 38 (ins := .iload_n 0) rfl)) (
  tkc (s_bipush (at_ dl_J6_bitCount_0f7a4 39 (ins := .bipush 63) rfl) (by first | rfl | decide)) (
  tkc (s_iand (at_ dl_J6_bitCount_0f7a4 40 (ins := .iand) rfl)) (
  tkc (s_rI (at_ dl_J6_bitCount_0f7a4 41 (ins := .ireturn) rfl) rfl) ( tk0))))))))))))))))))))))))))))))))))))))))))
theorem lf_J6_bitCount_0f7a4 : lk (tb_J6_bitCount_0f7a4) 0 = (x_il 1 0, false) ∧ lk (tb_J6_bitCount_0f7a4) 1 = (x_il 2 0, false) ∧ lk (tb_J6_bitCount_0f7a4) 2 = (x_c 3 (.int 1), false) ∧ lk (tb_J6_bitCount_0f7a4) 3 = (x_ii 4 ushr, false) ∧ lk (tb_J6_bitCount_0f7a4) 4 = (x_c 7 (.int 1431655765), false) ∧ lk (tb_J6_bitCount_0f7a4) 7 = (x_ii 8 (fun x y : Int32 => x &&& y), false) ∧ lk (tb_J6_bitCount_0f7a4) 8 = (x_ii 9 (fun x y : Int32 => x - y), false) ∧ lk (tb_J6_bitCount_0f7a4) 9 = (x_is 10 0, false) ∧ lk (tb_J6_bitCount_0f7a4) 10 = (x_il 11 0, true) ∧ lk (tb_J6_bitCount_0f7a4) 11 = (x_c 14 (.int 858993459), false) ∧ lk (tb_J6_bitCount_0f7a4) 14 = (x_ii 15 (fun x y : Int32 => x &&& y), false) ∧ lk (tb_J6_bitCount_0f7a4) 15 = (x_il 16 0, false) ∧ lk (tb_J6_bitCount_0f7a4) 16 = (x_c 17 (.int 2), false) ∧ lk (tb_J6_bitCount_0f7a4) 17 = (x_ii 18 ushr, false) ∧ lk (tb_J6_bitCount_0f7a4) 18 = (x_c 21 (.int 858993459), false) ∧ lk (tb_J6_bitCount_0f7a4) 21 = (x_ii 22 (fun x y : Int32 => x &&& y), false) ∧ lk (tb_J6_bitCount_0f7a4) 22 = (x_ii 23 (fun x y : Int32 => x + y), false) ∧ lk (tb_J6_bitCount_0f7a4) 23 = (x_is 24 0, false) ∧ lk (tb_J6_bitCount_0f7a4) 24 = (x_il 25 0, true) ∧ lk (tb_J6_bitCount_0f7a4) 25 = (x_il 26 0, false) ∧ lk (tb_J6_bitCount_0f7a4) 26 = (x_c 27 (.int 4), false) ∧ lk (tb_J6_bitCount_0f7a4) 27 = (x_ii 28 ushr, false) ∧ lk (tb_J6_bitCount_0f7a4) 28 = (x_ii 29 (fun x y : Int32 => x + y), false) ∧ lk (tb_J6_bitCount_0f7a4) 29 = (x_c 32 (.int 252645135), false) ∧ lk (tb_J6_bitCount_0f7a4) 32 = (x_ii 33 (fun x y : Int32 => x &&& y), false) ∧ lk (tb_J6_bitCount_0f7a4) 33 = (x_is 34 0, false) ∧ lk (tb_J6_bitCount_0f7a4) 34 = (x_il 35 0, true) ∧ lk (tb_J6_bitCount_0f7a4) 35 = (x_il 36 0, false) ∧ lk (tb_J6_bitCount_0f7a4) 36 = (x_c 38 (.int 8), false) ∧ lk (tb_J6_bitCount_0f7a4) 38 = (x_ii 39 ushr, false) ∧ lk (tb_J6_bitCount_0f7a4) 39 = (x_ii 40 (fun x y : Int32 => x + y), false) ∧ lk (tb_J6_bitCount_0f7a4) 40 = (x_is 41 0, false) ∧ lk (tb_J6_bitCount_0f7a4) 41 = (x_il 42 0, true) ∧ lk (tb_J6_bitCount_0f7a4) 42 = (x_il 43 0, false) ∧ lk (tb_J6_bitCount_0f7a4) 43 = (x_c 45 (.int 16), false) ∧ lk (tb_J6_bitCount_0f7a4) 45 = (x_ii 46 ushr, false) ∧ lk (tb_J6_bitCount_0f7a4) 46 = (x_ii 47 (fun x y : Int32 => x + y), false) ∧ lk (tb_J6_bitCount_0f7a4) 47 = (x_is 48 0, false) ∧ lk (tb_J6_bitCount_0f7a4) 48 = (x_il 49 0, true) ∧ lk (tb_J6_bitCount_0f7a4) 49 = (x_c 51 (.int 63), false) ∧ lk (tb_J6_bitCount_0f7a4) 51 = (x_ii 52 (fun x y : Int32 => x &&& y), false) ∧ lk (tb_J6_bitCount_0f7a4) 52 = (x_rI, false) := ⟨rfl, rfl, rfl, rfl, rfl, rfl, rfl, rfl, rfl, rfl, rfl, rfl, rfl, rfl, rfl, rfl, rfl, rfl, rfl, rfl, rfl, rfl, rfl, rfl, rfl, rfl, rfl, rfl, rfl, rfl, rfl, rfl, rfl, rfl, rfl, rfl, rfl, rfl, rfl, rfl, rfl, rfl⟩
def bc1 (x : Int32) : Int32 := x - (ushr x 1 &&& 1431655765)
def bc2 (x : Int32) : Int32 := (x &&& 858993459) + (ushr x 2 &&& 858993459)
def bc3 (x : Int32) : Int32 := (x + ushr x 4) &&& 252645135
def bc4 (x : Int32) : Int32 := x + ushr x 8
def bc5 (x : Int32) : Int32 := x + ushr x 16
def P_J6_bitCount_0f7a4 : PTT := fun as M R => match as with
  | [.int x] => tn x < 512 ∧ R (some (.int (nI (ones9 (tn x))))) M
  | _ => False
set_option maxRecDepth 100000 in
theorem bc_all : ∀ v, v < 512 → bc5 (bc4 (bc3 (bc2 (bc1 (nI v))))) &&& 63 = nI (ones9 v) := by decide +kernel
theorem ok_J6_bitCount_0f7a4 : Ok yJ6_bitCount_0f7a4 mt_J6_bitCount_0f7a4 P_J6_bitCount_0f7a4 := by
  refine Ok.of (by decide) rfl rfl rfl rfl fun av M R hP => ?_
  unfold P_J6_bitCount_0f7a4 at hP
  split at hP
  next x =>
    refine ⟨by simp [ent, wide, mt_J6_bitCount_0f7a4], ?_⟩
    show J mt_J6_bitCount_0f7a4 R 0 [some (.int x)] [] M
    have hb := bc_all (tn x) hP.1
    rw [nI_tn] at hb
    have hR := hP.2
    rw [← hb] at hR
    refine J.of tk_J6_bitCount_0f7a4 60 fun ρ hρ => ?_
    simp only [hρ, x_c, x_il, x_ll, x_al, x_is, x_as, x_ls, x_inc, x_ii, x_iq, x_i1, x_l2, x_lq, x_lh, x_i2l, x_l2i, x_lcmp, x_dup, x_dup2, x_pop, x_if, x_ifn, x_ic, x_icn, x_go, x_sw, swc, x_l01, x_mx, x_gI, x_gL, x_gR, x_pI, x_pZ, x_pL, x_pR, x_ia, x_za, x_aa, x_ias, x_zas, x_aas, x_fac, x_fa, x_slen, x_sa, x_ac, x_oi, x_new, x_na, x_cS, x_cV, x_cI, x_rI, x_rZ, x_rL, x_r0, pa, short, oc, lg, lset, lset2, wide, cond_true, cond_false, true_and, and_true, ↓reduceIte, Bool.false_eq_true, true_or, or_true, lf_J6_bitCount_0f7a4]
    show J mt_J6_bitCount_0f7a4 R 10 [some (.int (bc1 x))] [] M
    generalize bc1 x = x at hR
    refine J.of tk_J6_bitCount_0f7a4 60 fun ρ hρ => ?_
    simp only [hρ, x_c, x_il, x_ll, x_al, x_is, x_as, x_ls, x_inc, x_ii, x_iq, x_i1, x_l2, x_lq, x_lh, x_i2l, x_l2i, x_lcmp, x_dup, x_dup2, x_pop, x_if, x_ifn, x_ic, x_icn, x_go, x_sw, swc, x_l01, x_mx, x_gI, x_gL, x_gR, x_pI, x_pZ, x_pL, x_pR, x_ia, x_za, x_aa, x_ias, x_zas, x_aas, x_fac, x_fa, x_slen, x_sa, x_ac, x_oi, x_new, x_na, x_cS, x_cV, x_cI, x_rI, x_rZ, x_rL, x_r0, pa, short, oc, lg, lset, lset2, wide, cond_true, cond_false, true_and, and_true, ↓reduceIte, Bool.false_eq_true, true_or, or_true, lf_J6_bitCount_0f7a4]
    show J mt_J6_bitCount_0f7a4 R 24 [some (.int (bc2 x))] [] M
    generalize bc2 x = x at hR
    refine J.of tk_J6_bitCount_0f7a4 60 fun ρ hρ => ?_
    simp only [hρ, x_c, x_il, x_ll, x_al, x_is, x_as, x_ls, x_inc, x_ii, x_iq, x_i1, x_l2, x_lq, x_lh, x_i2l, x_l2i, x_lcmp, x_dup, x_dup2, x_pop, x_if, x_ifn, x_ic, x_icn, x_go, x_sw, swc, x_l01, x_mx, x_gI, x_gL, x_gR, x_pI, x_pZ, x_pL, x_pR, x_ia, x_za, x_aa, x_ias, x_zas, x_aas, x_fac, x_fa, x_slen, x_sa, x_ac, x_oi, x_new, x_na, x_cS, x_cV, x_cI, x_rI, x_rZ, x_rL, x_r0, pa, short, oc, lg, lset, lset2, wide, cond_true, cond_false, true_and, and_true, ↓reduceIte, Bool.false_eq_true, true_or, or_true, lf_J6_bitCount_0f7a4]
    show J mt_J6_bitCount_0f7a4 R 34 [some (.int (bc3 x))] [] M
    generalize bc3 x = x at hR
    refine J.of tk_J6_bitCount_0f7a4 60 fun ρ hρ => ?_
    simp only [hρ, x_c, x_il, x_ll, x_al, x_is, x_as, x_ls, x_inc, x_ii, x_iq, x_i1, x_l2, x_lq, x_lh, x_i2l, x_l2i, x_lcmp, x_dup, x_dup2, x_pop, x_if, x_ifn, x_ic, x_icn, x_go, x_sw, swc, x_l01, x_mx, x_gI, x_gL, x_gR, x_pI, x_pZ, x_pL, x_pR, x_ia, x_za, x_aa, x_ias, x_zas, x_aas, x_fac, x_fa, x_slen, x_sa, x_ac, x_oi, x_new, x_na, x_cS, x_cV, x_cI, x_rI, x_rZ, x_rL, x_r0, pa, short, oc, lg, lset, lset2, wide, cond_true, cond_false, true_and, and_true, ↓reduceIte, Bool.false_eq_true, true_or, or_true, lf_J6_bitCount_0f7a4]
    show J mt_J6_bitCount_0f7a4 R 41 [some (.int (bc4 x))] [] M
    generalize bc4 x = x at hR
    refine J.of tk_J6_bitCount_0f7a4 60 fun ρ hρ => ?_
    simp only [hρ, x_c, x_il, x_ll, x_al, x_is, x_as, x_ls, x_inc, x_ii, x_iq, x_i1, x_l2, x_lq, x_lh, x_i2l, x_l2i, x_lcmp, x_dup, x_dup2, x_pop, x_if, x_ifn, x_ic, x_icn, x_go, x_sw, swc, x_l01, x_mx, x_gI, x_gL, x_gR, x_pI, x_pZ, x_pL, x_pR, x_ia, x_za, x_aa, x_ias, x_zas, x_aas, x_fac, x_fa, x_slen, x_sa, x_ac, x_oi, x_new, x_na, x_cS, x_cV, x_cI, x_rI, x_rZ, x_rL, x_r0, pa, short, oc, lg, lset, lset2, wide, cond_true, cond_false, true_and, and_true, ↓reduceIte, Bool.false_eq_true, true_or, or_true, lf_J6_bitCount_0f7a4]
    show J mt_J6_bitCount_0f7a4 R 48 [some (.int (bc5 x))] [] M
    generalize bc5 x = x at hR
    refine J.of tk_J6_bitCount_0f7a4 60 fun ρ hρ => ?_
    simp only [hρ, x_c, x_il, x_ll, x_al, x_is, x_as, x_ls, x_inc, x_ii, x_iq, x_i1, x_l2, x_lq, x_lh, x_i2l, x_l2i, x_lcmp, x_dup, x_dup2, x_pop, x_if, x_ifn, x_ic, x_icn, x_go, x_sw, swc, x_l01, x_mx, x_gI, x_gL, x_gR, x_pI, x_pZ, x_pL, x_pR, x_ia, x_za, x_aa, x_ias, x_zas, x_aas, x_fac, x_fa, x_slen, x_sa, x_ac, x_oi, x_new, x_na, x_cS, x_cV, x_cI, x_rI, x_rZ, x_rL, x_r0, pa, short, oc, lg, lset, lset2, wide, cond_true, cond_false, true_and, and_true, ↓reduceIte, Bool.false_eq_true, true_or, or_true, lf_J6_bitCount_0f7a4]
    exact hR
  next => exact hP.elim
