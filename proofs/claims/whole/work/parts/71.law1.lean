/-! THE LAW, case by case, on -/
def il_L8 : List (Nat × Instr × Nat) := [(330, .aload_n 1, 1), (331, .aload_n 0, 1), (332, .iload_n 3, 1), (333, .iconst 1, 1), (334, .iadd, 1), (335, .iaload, 1), (336, .aload_n 0, 1), (337, .iload_n 3, 1), (338, .iconst 2, 1), (339, .iadd, 1), (340, .iaload, 1), (341, .invokevirtual 48, 3), (344, .aload_n 2, 1), (345, .aload_n 0, 1), (346, .iload_n 3, 1), (347, .iconst 1, 1), (348, .iadd, 1), (349, .iaload, 1), (350, .aload_n 0, 1), (351, .iload_n 3, 1), (352, .iconst 2, 1), (353, .iadd, 1), (354, .iaload, 1), (355, .invokevirtual 51, 3), (358, .if_icmp .eq 562, 3), (361, .iconst 0, 1), (362, .ireturn, 1), (920, .iinc 3 4, 3)]
set_option maxRecDepth 100000 in
theorem dl_L8 (sq : Nat × (Nat → Int32)) : ∀ q ∈ il_L8, decode (mt_L_law sq).1 q.1 = .ok q.2 := (by decide +kernel : ∀ q ∈ il_L8, decode cL_law q.1 = .ok q.2)
def tb_L8 (sq : Nat × (Nat → Int32)) : Tb := [(330, x_al 331 1, false),
  (331, x_al 332 0, false),
  (332, x_il 333 3, false),
  (333, x_c 334 (.int 1), false),
  (334, x_ii 335 (fun x y : Int32 => x + y), false),
  (335, x_sa 336 sq, false),
  (336, x_al 337 0, false),
  (337, x_il 338 3, false),
  (338, x_c 339 (.int 2), false),
  (339, x_ii 340 (fun x y : Int32 => x + y), false),
  (340, x_sa 341 sq, false),
  (341, x_cV 9 2 P_X9_level 344, false),
  (344, x_al 345 2, false),
  (345, x_al 346 0, false),
  (346, x_il 347 3, false),
  (347, x_c 348 (.int 1), false),
  (348, x_ii 349 (fun x y : Int32 => x + y), false),
  (349, x_sa 350 sq, false),
  (350, x_al 351 0, false),
  (351, x_il 352 3, false),
  (352, x_c 353 (.int 2), false),
  (353, x_ii 354 (fun x y : Int32 => x + y), false),
  (354, x_sa 355 sq, false),
  (355, x_cV 10 2 P_X10_level 358, false),
  (358, x_ic 920 361 (fun x y : Int32 => x = y), false),
  (361, x_c 362 (.int 0), false),
  (362, x_rZ, false),
  (920, x_inc 923 3 4, true)]
set_option maxRecDepth 100000 in
theorem tk_L8 (sq : Nat × (Nat → Int32)) : TbOk (mt_L_law sq) (tb_L8 sq) :=
  tkc (s_aload_n (at_ (dl_L8 sq) 0 (ins := .aload_n 1) rfl)) (
  tkc (s_aload_n (at_ (dl_L8 sq) 1 (ins := .aload_n 0) rfl)) (
  tkc (s_iload_n (at_ (dl_L8 sq) 2 (ins := .iload_n 3) rfl)) (
  tkc (s_iconst (at_ (dl_L8 sq) 3 (ins := .iconst 1) rfl) (by first | rfl | decide)) (
  tkc (s_iadd (at_ (dl_L8 sq) 4 (ins := .iadd) rfl)) (
  tkc (s_sa (at_ (dl_L8 sq) 5 (ins := .iaload) rfl) rfl) (
  tkc (s_aload_n (at_ (dl_L8 sq) 6 (ins := .aload_n 0) rfl)) (
  tkc (s_iload_n (at_ (dl_L8 sq) 7 (ins := .iload_n 3) rfl)) (
  tkc (s_iconst (at_ (dl_L8 sq) 8 (ins := .iconst 2) rfl) (by first | rfl | decide)) (
  tkc (s_iadd (at_ (dl_L8 sq) 9 (ins := .iadd) rfl)) (
  tkc (s_sa (at_ (dl_L8 sq) 10 (ins := .iaload) rfl) rfl) (
  tkc (s_cV ok_X9_level (at_ (dl_L8 sq) 11 (ins := .invokevirtual 48) rfl) (by decide) rfl (show Cond.methodLink RL 48 yX9_level ∈ tblG from (tg 492 (by decide +kernel) (by decide +kernel))) (tg 493 (by decide +kernel) (by decide +kernel)) (tg 494 (by decide +kernel) (by decide +kernel)) (tg 42 (by decide +kernel) (by decide +kernel)) (tg 495 (by decide +kernel) (by decide +kernel)) (⟨by decide, by decide, by decide +kernel⟩) (⟨(Nat.le_of_ble_eq_true rfl), (Nat.le_of_ble_eq_true rfl)⟩) rfl rfl) (
  tkc (s_aload_n (at_ (dl_L8 sq) 12 (ins := .aload_n 2) rfl)) (
  tkc (s_aload_n (at_ (dl_L8 sq) 13 (ins := .aload_n 0) rfl)) (
  tkc (s_iload_n (at_ (dl_L8 sq) 14 (ins := .iload_n 3) rfl)) (
  tkc (s_iconst (at_ (dl_L8 sq) 15 (ins := .iconst 1) rfl) (by first | rfl | decide)) (
  tkc (s_iadd (at_ (dl_L8 sq) 16 (ins := .iadd) rfl)) (
  tkc (s_sa (at_ (dl_L8 sq) 17 (ins := .iaload) rfl) rfl) (
  tkc (s_aload_n (at_ (dl_L8 sq) 18 (ins := .aload_n 0) rfl)) (
  tkc (s_iload_n (at_ (dl_L8 sq) 19 (ins := .iload_n 3) rfl)) (
  tkc (s_iconst (at_ (dl_L8 sq) 20 (ins := .iconst 2) rfl) (by first | rfl | decide)) (
  tkc (s_iadd (at_ (dl_L8 sq) 21 (ins := .iadd) rfl)) (
  tkc (s_sa (at_ (dl_L8 sq) 22 (ins := .iaload) rfl) rfl) (
  tkc (s_cV ok_X10_level (at_ (dl_L8 sq) 23 (ins := .invokevirtual 51) rfl) (by decide) rfl (show Cond.methodLink RL 51 yX10_level ∈ tblG from (tg 900 (by decide +kernel) (by decide +kernel))) (tg 901 (by decide +kernel) (by decide +kernel)) (tg 902 (by decide +kernel) (by decide +kernel)) (tg 51 (by decide +kernel) (by decide +kernel)) (tg 903 (by decide +kernel) (by decide +kernel)) (⟨by decide, by decide, by decide +kernel⟩) (⟨(Nat.le_of_ble_eq_true rfl), (Nat.le_of_ble_eq_true rfl)⟩) rfl rfl) (
  tkc (s_ic_eq (at_ (dl_L8 sq) 24 (ins := .if_icmp .eq 562) rfl) (by decide)) (
  tkc (s_iconst (at_ (dl_L8 sq) 25 (ins := .iconst 0) rfl) (by first | rfl | decide)) (
  tkc (s_rZ (at_ (dl_L8 sq) 26 (ins := .ireturn) rfl) rfl) (
  tkc (s_iinc (at_ (dl_L8 sq) 27 (ins := .iinc 3 4) rfl) (Nat.le_of_ble_eq_true rfl) (by first | rfl | decide)) ( tk0))))))))))))))))))))))))))))
theorem lf_L8 (sq : Nat × (Nat → Int32)) : lk (tb_L8 sq) 330 = (x_al 331 1, false) ∧ lk (tb_L8 sq) 331 = (x_al 332 0, false) ∧ lk (tb_L8 sq) 332 = (x_il 333 3, false) ∧ lk (tb_L8 sq) 333 = (x_c 334 (.int 1), false) ∧ lk (tb_L8 sq) 334 = (x_ii 335 (fun x y : Int32 => x + y), false) ∧ lk (tb_L8 sq) 335 = (x_sa 336 sq, false) ∧ lk (tb_L8 sq) 336 = (x_al 337 0, false) ∧ lk (tb_L8 sq) 337 = (x_il 338 3, false) ∧ lk (tb_L8 sq) 338 = (x_c 339 (.int 2), false) ∧ lk (tb_L8 sq) 339 = (x_ii 340 (fun x y : Int32 => x + y), false) ∧ lk (tb_L8 sq) 340 = (x_sa 341 sq, false) ∧ lk (tb_L8 sq) 341 = (x_cV 9 2 P_X9_level 344, false) ∧ lk (tb_L8 sq) 344 = (x_al 345 2, false) ∧ lk (tb_L8 sq) 345 = (x_al 346 0, false) ∧ lk (tb_L8 sq) 346 = (x_il 347 3, false) ∧ lk (tb_L8 sq) 347 = (x_c 348 (.int 1), false) ∧ lk (tb_L8 sq) 348 = (x_ii 349 (fun x y : Int32 => x + y), false) ∧ lk (tb_L8 sq) 349 = (x_sa 350 sq, false) ∧ lk (tb_L8 sq) 350 = (x_al 351 0, false) ∧ lk (tb_L8 sq) 351 = (x_il 352 3, false) ∧ lk (tb_L8 sq) 352 = (x_c 353 (.int 2), false) ∧ lk (tb_L8 sq) 353 = (x_ii 354 (fun x y : Int32 => x + y), false) ∧ lk (tb_L8 sq) 354 = (x_sa 355 sq, false) ∧ lk (tb_L8 sq) 355 = (x_cV 10 2 P_X10_level 358, false) ∧ lk (tb_L8 sq) 358 = (x_ic 920 361 (fun x y : Int32 => x = y), false) ∧ lk (tb_L8 sq) 361 = (x_c 362 (.int 0), false) ∧ lk (tb_L8 sq) 362 = (x_rZ, false) ∧ lk (tb_L8 sq) 920 = (x_inc 923 3 4, true) := ⟨rfl, rfl, rfl, rfl, rfl, rfl, rfl, rfl, rfl, rfl, rfl, rfl, rfl, rfl, rfl, rfl, rfl, rfl, rfl, rfl, rfl, rfl, rfl, rfl, rfl, rfl, rfl, rfl⟩
set_option maxRecDepth 20000 in
theorem lc_8 {sq : Nat × (Nat → Int32)} {R : Option Value → Mem → Prop} {S : Sh} {I : MI} {L : Nat → Nat → Int64} {g : GS} {i : Nat} (h4 : i + 4 ≤ sq.1) (h2 : sq.1 ≤ 2048) (hC : CR S I L g) (hM : MR S I L g) (hO : GOk g) (hnx : ∀ I' L' g', CR S I' L' g' → MR S I' L' g' → GOk g' → J (mt_L_law sq) R 920 [some (.ref 9002), some (.ref 0), some (.ref 108), some (.int (nI i))] [] (S, I', L')) : J (mt_L_law sq) R 330 [some (.ref 9002), some (.ref 0), some (.ref 108), some (.int (nI i))] [] (S, I, L) := by
  have t0 : tO S 0 9 := hC.1.1.1
  have t8 : tO S 108 10 := hM.1.1
  have v1 : vp_in (nI (i + 1)) sq.1 := vp_in_nI (by omega) (by omega)
  have v2 : vp_in (nI (i + 2)) sq.1 := vp_in_nI (by omega) (by omega)
  have v3 : vp_in (nI (i + 3)) sq.1 := vp_in_nI (by omega) (by omega)
  refine J.of (tk_L8 sq) 200 fun ρ hρ => ?_
  simp only [hρ, x_c, x_il, x_ll, x_al, x_is, x_as, x_ls, x_inc, x_ii, x_iq, x_i1, x_l2, x_lq, x_lh, x_i2l, x_l2i, x_lcmp, x_dup, x_dup2, x_pop, x_if, x_ifn, x_ic, x_icn, x_go, x_sw, swc, x_l01, x_mx, x_gI, x_gL, x_gR, x_pI, x_pZ, x_pL, x_pR, x_ia, x_za, x_aa, x_ias, x_zas, x_aas, x_fac, x_fa, x_slen, x_sa, x_ac, x_oi, x_new, x_na, x_cS, x_cV, x_cI, x_rI, x_rZ, x_rL, x_r0, pa, short, oc, lg, lset, lset2, wide, cond_true, cond_false, true_and, and_true, ↓reduceIte, Bool.false_eq_true, true_or, or_true, lf_L8, t0, t8, P_X9_level, P_X10_level, Ans, Anm, nI_1, show (2 : Int32) = nI 2 by decide, show (3 : Int32) = nI 3 by decide, nI_add, eq_true v1, eq_true v2, eq_true v3, ncl (show i + 1 < 2 ^ 31 by omega), ncl (show i + 2 < 2 ^ 31 by omega), ncl (show i + 3 < 2 ^ 31 by omega), lg_cmp_eq, true_implies, not_true_eq_false, false_implies, not_false_eq_true]
  exact ⟨g, hC, hO, fun I1 L1 f1 l1 c1 => ⟨g, hM.f8 f1 l1, hO, fun I2 L2 f2 l2 c2 => ⟨fun _ => hnx I2 L2 _ (c1.i f2 (l2 0 (by omega))) c2 (kLevel hO), fun h => absurd rfl h⟩⟩⟩
def il_L9 : List (Nat × Instr × Nat) := [(363, .aload_n 1, 1), (364, .invokevirtual 52, 3), (367, .aload_n 2, 1), (368, .invokevirtual 55, 3), (371, .if_icmp .eq 549, 3), (374, .iconst 0, 1), (375, .ireturn, 1), (920, .iinc 3 4, 3)]
set_option maxRecDepth 100000 in
theorem dl_L9 (sq : Nat × (Nat → Int32)) : ∀ q ∈ il_L9, decode (mt_L_law sq).1 q.1 = .ok q.2 := (by decide +kernel : ∀ q ∈ il_L9, decode cL_law q.1 = .ok q.2)
def tb_L9 (sq : Nat × (Nat → Int32)) : Tb := [(363, x_al 364 1, false),
  (364, x_cV 9 0 P_X9_begin 367, false),
  (367, x_al 368 2, false),
  (368, x_cV 10 0 P_X10_begin 371, false),
  (371, x_ic 920 374 (fun x y : Int32 => x = y), false),
  (374, x_c 375 (.int 0), false),
  (375, x_rZ, false),
  (920, x_inc 923 3 4, true)]
set_option maxRecDepth 100000 in
theorem tk_L9 (sq : Nat × (Nat → Int32)) : TbOk (mt_L_law sq) (tb_L9 sq) :=
  tkc (s_aload_n (at_ (dl_L9 sq) 0 (ins := .aload_n 1) rfl)) (
  tkc (s_cV ok_X9_begin (at_ (dl_L9 sq) 1 (ins := .invokevirtual 52) rfl) (by decide) rfl (show Cond.methodLink RL 52 yX9_begin ∈ tblG from (tg 501 (by decide +kernel) (by decide +kernel))) (tg 502 (by decide +kernel) (by decide +kernel)) (tg 503 (by decide +kernel) (by decide +kernel)) (tg 42 (by decide +kernel) (by decide +kernel)) (tg 504 (by decide +kernel) (by decide +kernel)) (⟨by decide, by decide, by decide +kernel⟩) (⟨(Nat.le_of_ble_eq_true rfl), (Nat.le_of_ble_eq_true rfl)⟩) rfl rfl) (
  tkc (s_aload_n (at_ (dl_L9 sq) 2 (ins := .aload_n 2) rfl)) (
  tkc (s_cV ok_X10_begin (at_ (dl_L9 sq) 3 (ins := .invokevirtual 55) rfl) (by decide) rfl (show Cond.methodLink RL 55 yX10_begin ∈ tblG from (tg 910 (by decide +kernel) (by decide +kernel))) (tg 911 (by decide +kernel) (by decide +kernel)) (tg 912 (by decide +kernel) (by decide +kernel)) (tg 51 (by decide +kernel) (by decide +kernel)) (tg 913 (by decide +kernel) (by decide +kernel)) (⟨by decide, by decide, by decide +kernel⟩) (⟨(Nat.le_of_ble_eq_true rfl), (Nat.le_of_ble_eq_true rfl)⟩) rfl rfl) (
  tkc (s_ic_eq (at_ (dl_L9 sq) 4 (ins := .if_icmp .eq 549) rfl) (by decide)) (
  tkc (s_iconst (at_ (dl_L9 sq) 5 (ins := .iconst 0) rfl) (by first | rfl | decide)) (
  tkc (s_rZ (at_ (dl_L9 sq) 6 (ins := .ireturn) rfl) rfl) (
  tkc (s_iinc (at_ (dl_L9 sq) 7 (ins := .iinc 3 4) rfl) (Nat.le_of_ble_eq_true rfl) (by first | rfl | decide)) ( tk0))))))))
theorem lf_L9 (sq : Nat × (Nat → Int32)) : lk (tb_L9 sq) 363 = (x_al 364 1, false) ∧ lk (tb_L9 sq) 364 = (x_cV 9 0 P_X9_begin 367, false) ∧ lk (tb_L9 sq) 367 = (x_al 368 2, false) ∧ lk (tb_L9 sq) 368 = (x_cV 10 0 P_X10_begin 371, false) ∧ lk (tb_L9 sq) 371 = (x_ic 920 374 (fun x y : Int32 => x = y), false) ∧ lk (tb_L9 sq) 374 = (x_c 375 (.int 0), false) ∧ lk (tb_L9 sq) 375 = (x_rZ, false) ∧ lk (tb_L9 sq) 920 = (x_inc 923 3 4, true) := ⟨rfl, rfl, rfl, rfl, rfl, rfl, rfl, rfl⟩
set_option maxRecDepth 20000 in
theorem lc_9 {sq : Nat × (Nat → Int32)} {R : Option Value → Mem → Prop} {S : Sh} {I : MI} {L : Nat → Nat → Int64} {g : GS} {i : Nat} (h4 : i + 4 ≤ sq.1) (h2 : sq.1 ≤ 2048) (hC : CR S I L g) (hM : MR S I L g) (hO : GOk g) (hnx : ∀ I' L' g', CR S I' L' g' → MR S I' L' g' → GOk g' → J (mt_L_law sq) R 920 [some (.ref 9002), some (.ref 0), some (.ref 108), some (.int (nI i))] [] (S, I', L')) : J (mt_L_law sq) R 363 [some (.ref 9002), some (.ref 0), some (.ref 108), some (.int (nI i))] [] (S, I, L) := by
  have t0 : tO S 0 9 := hC.1.1.1
  have t8 : tO S 108 10 := hM.1.1
  have v1 : vp_in (nI (i + 1)) sq.1 := vp_in_nI (by omega) (by omega)
  have v2 : vp_in (nI (i + 2)) sq.1 := vp_in_nI (by omega) (by omega)
  have v3 : vp_in (nI (i + 3)) sq.1 := vp_in_nI (by omega) (by omega)
  refine J.of (tk_L9 sq) 200 fun ρ hρ => ?_
  simp only [hρ, x_c, x_il, x_ll, x_al, x_is, x_as, x_ls, x_inc, x_ii, x_iq, x_i1, x_l2, x_lq, x_lh, x_i2l, x_l2i, x_lcmp, x_dup, x_dup2, x_pop, x_if, x_ifn, x_ic, x_icn, x_go, x_sw, swc, x_l01, x_mx, x_gI, x_gL, x_gR, x_pI, x_pZ, x_pL, x_pR, x_ia, x_za, x_aa, x_ias, x_zas, x_aas, x_fac, x_fa, x_slen, x_sa, x_ac, x_oi, x_new, x_na, x_cS, x_cV, x_cI, x_rI, x_rZ, x_rL, x_r0, pa, short, oc, lg, lset, lset2, wide, cond_true, cond_false, true_and, and_true, ↓reduceIte, Bool.false_eq_true, true_or, or_true, lf_L9, t0, t8, P_X9_begin, P_X10_begin, Ans, Anm, nI_1, show (2 : Int32) = nI 2 by decide, show (3 : Int32) = nI 3 by decide, nI_add, eq_true v1, eq_true v2, eq_true v3, ncl (show i + 1 < 2 ^ 31 by omega), ncl (show i + 2 < 2 ^ 31 by omega), ncl (show i + 3 < 2 ^ 31 by omega), lg_cmp_eq, true_implies, not_true_eq_false, false_implies, not_false_eq_true]
  exact ⟨g, hC, hO, fun I1 L1 f1 l1 c1 => ⟨g, hM.f8 f1 l1, hO, fun I2 L2 f2 l2 c2 => ⟨fun _ => hnx I2 L2 _ (c1.i f2 (l2 0 (by omega))) c2 (kBegin hO), fun h => absurd rfl h⟩⟩⟩
def il_L10 : List (Nat × Instr × Nat) := [(376, .aload_n 1, 1), (377, .aload_n 0, 1), (378, .iload_n 3, 1), (379, .iconst 1, 1), (380, .iadd, 1), (381, .iaload, 1), (382, .invokevirtual 56, 3), (385, .aload_n 2, 1), (386, .aload_n 0, 1), (387, .iload_n 3, 1), (388, .iconst 1, 1), (389, .iadd, 1), (390, .iaload, 1), (391, .invokevirtual 59, 3), (394, .if_icmp .eq 526, 3), (397, .iconst 0, 1), (398, .ireturn, 1), (920, .iinc 3 4, 3)]
set_option maxRecDepth 100000 in
theorem dl_L10 (sq : Nat × (Nat → Int32)) : ∀ q ∈ il_L10, decode (mt_L_law sq).1 q.1 = .ok q.2 := (by decide +kernel : ∀ q ∈ il_L10, decode cL_law q.1 = .ok q.2)
def tb_L10 (sq : Nat × (Nat → Int32)) : Tb := [(376, x_al 377 1, false),
  (377, x_al 378 0, false),
  (378, x_il 379 3, false),
  (379, x_c 380 (.int 1), false),
  (380, x_ii 381 (fun x y : Int32 => x + y), false),
  (381, x_sa 382 sq, false),
  (382, x_cV 9 1 P_X9_round 385, false),
  (385, x_al 386 2, false),
  (386, x_al 387 0, false),
  (387, x_il 388 3, false),
  (388, x_c 389 (.int 1), false),
  (389, x_ii 390 (fun x y : Int32 => x + y), false),
  (390, x_sa 391 sq, false),
  (391, x_cV 10 1 P_X10_round 394, false),
  (394, x_ic 920 397 (fun x y : Int32 => x = y), false),
  (397, x_c 398 (.int 0), false),
  (398, x_rZ, false),
  (920, x_inc 923 3 4, true)]
set_option maxRecDepth 100000 in
theorem tk_L10 (sq : Nat × (Nat → Int32)) : TbOk (mt_L_law sq) (tb_L10 sq) :=
  tkc (s_aload_n (at_ (dl_L10 sq) 0 (ins := .aload_n 1) rfl)) (
  tkc (s_aload_n (at_ (dl_L10 sq) 1 (ins := .aload_n 0) rfl)) (
  tkc (s_iload_n (at_ (dl_L10 sq) 2 (ins := .iload_n 3) rfl)) (
  tkc (s_iconst (at_ (dl_L10 sq) 3 (ins := .iconst 1) rfl) (by first | rfl | decide)) (
  tkc (s_iadd (at_ (dl_L10 sq) 4 (ins := .iadd) rfl)) (
  tkc (s_sa (at_ (dl_L10 sq) 5 (ins := .iaload) rfl) rfl) (
  tkc (s_cV ok_X9_round (at_ (dl_L10 sq) 6 (ins := .invokevirtual 56) rfl) (by decide) rfl (show Cond.methodLink RL 56 yX9_round ∈ tblG from (tg 506 (by decide +kernel) (by decide +kernel))) (tg 507 (by decide +kernel) (by decide +kernel)) (tg 508 (by decide +kernel) (by decide +kernel)) (tg 42 (by decide +kernel) (by decide +kernel)) (tg 509 (by decide +kernel) (by decide +kernel)) (⟨by decide, by decide, by decide +kernel⟩) (⟨(Nat.le_of_ble_eq_true rfl), (Nat.le_of_ble_eq_true rfl)⟩) rfl rfl) (
  tkc (s_aload_n (at_ (dl_L10 sq) 7 (ins := .aload_n 2) rfl)) (
  tkc (s_aload_n (at_ (dl_L10 sq) 8 (ins := .aload_n 0) rfl)) (
  tkc (s_iload_n (at_ (dl_L10 sq) 9 (ins := .iload_n 3) rfl)) (
  tkc (s_iconst (at_ (dl_L10 sq) 10 (ins := .iconst 1) rfl) (by first | rfl | decide)) (
  tkc (s_iadd (at_ (dl_L10 sq) 11 (ins := .iadd) rfl)) (
  tkc (s_sa (at_ (dl_L10 sq) 12 (ins := .iaload) rfl) rfl) (
  tkc (s_cV ok_X10_round (at_ (dl_L10 sq) 13 (ins := .invokevirtual 59) rfl) (by decide) rfl (show Cond.methodLink RL 59 yX10_round ∈ tblG from (tg 914 (by decide +kernel) (by decide +kernel))) (tg 915 (by decide +kernel) (by decide +kernel)) (tg 916 (by decide +kernel) (by decide +kernel)) (tg 51 (by decide +kernel) (by decide +kernel)) (tg 917 (by decide +kernel) (by decide +kernel)) (⟨by decide, by decide, by decide +kernel⟩) (⟨(Nat.le_of_ble_eq_true rfl), (Nat.le_of_ble_eq_true rfl)⟩) rfl rfl) (
  tkc (s_ic_eq (at_ (dl_L10 sq) 14 (ins := .if_icmp .eq 526) rfl) (by decide)) (
  tkc (s_iconst (at_ (dl_L10 sq) 15 (ins := .iconst 0) rfl) (by first | rfl | decide)) (
  tkc (s_rZ (at_ (dl_L10 sq) 16 (ins := .ireturn) rfl) rfl) (
  tkc (s_iinc (at_ (dl_L10 sq) 17 (ins := .iinc 3 4) rfl) (Nat.le_of_ble_eq_true rfl) (by first | rfl | decide)) ( tk0))))))))))))))))))
theorem lf_L10 (sq : Nat × (Nat → Int32)) : lk (tb_L10 sq) 376 = (x_al 377 1, false) ∧ lk (tb_L10 sq) 377 = (x_al 378 0, false) ∧ lk (tb_L10 sq) 378 = (x_il 379 3, false) ∧ lk (tb_L10 sq) 379 = (x_c 380 (.int 1), false) ∧ lk (tb_L10 sq) 380 = (x_ii 381 (fun x y : Int32 => x + y), false) ∧ lk (tb_L10 sq) 381 = (x_sa 382 sq, false) ∧ lk (tb_L10 sq) 382 = (x_cV 9 1 P_X9_round 385, false) ∧ lk (tb_L10 sq) 385 = (x_al 386 2, false) ∧ lk (tb_L10 sq) 386 = (x_al 387 0, false) ∧ lk (tb_L10 sq) 387 = (x_il 388 3, false) ∧ lk (tb_L10 sq) 388 = (x_c 389 (.int 1), false) ∧ lk (tb_L10 sq) 389 = (x_ii 390 (fun x y : Int32 => x + y), false) ∧ lk (tb_L10 sq) 390 = (x_sa 391 sq, false) ∧ lk (tb_L10 sq) 391 = (x_cV 10 1 P_X10_round 394, false) ∧ lk (tb_L10 sq) 394 = (x_ic 920 397 (fun x y : Int32 => x = y), false) ∧ lk (tb_L10 sq) 397 = (x_c 398 (.int 0), false) ∧ lk (tb_L10 sq) 398 = (x_rZ, false) ∧ lk (tb_L10 sq) 920 = (x_inc 923 3 4, true) := ⟨rfl, rfl, rfl, rfl, rfl, rfl, rfl, rfl, rfl, rfl, rfl, rfl, rfl, rfl, rfl, rfl, rfl, rfl⟩
set_option maxRecDepth 20000 in
theorem lc_10 {sq : Nat × (Nat → Int32)} {R : Option Value → Mem → Prop} {S : Sh} {I : MI} {L : Nat → Nat → Int64} {g : GS} {i : Nat} (h4 : i + 4 ≤ sq.1) (h2 : sq.1 ≤ 2048) (hC : CR S I L g) (hM : MR S I L g) (hO : GOk g) (hnx : ∀ I' L' g', CR S I' L' g' → MR S I' L' g' → GOk g' → J (mt_L_law sq) R 920 [some (.ref 9002), some (.ref 0), some (.ref 108), some (.int (nI i))] [] (S, I', L')) : J (mt_L_law sq) R 376 [some (.ref 9002), some (.ref 0), some (.ref 108), some (.int (nI i))] [] (S, I, L) := by
  have t0 : tO S 0 9 := hC.1.1.1
  have t8 : tO S 108 10 := hM.1.1
  have v1 : vp_in (nI (i + 1)) sq.1 := vp_in_nI (by omega) (by omega)
  have v2 : vp_in (nI (i + 2)) sq.1 := vp_in_nI (by omega) (by omega)
  have v3 : vp_in (nI (i + 3)) sq.1 := vp_in_nI (by omega) (by omega)
  refine J.of (tk_L10 sq) 200 fun ρ hρ => ?_
  simp only [hρ, x_c, x_il, x_ll, x_al, x_is, x_as, x_ls, x_inc, x_ii, x_iq, x_i1, x_l2, x_lq, x_lh, x_i2l, x_l2i, x_lcmp, x_dup, x_dup2, x_pop, x_if, x_ifn, x_ic, x_icn, x_go, x_sw, swc, x_l01, x_mx, x_gI, x_gL, x_gR, x_pI, x_pZ, x_pL, x_pR, x_ia, x_za, x_aa, x_ias, x_zas, x_aas, x_fac, x_fa, x_slen, x_sa, x_ac, x_oi, x_new, x_na, x_cS, x_cV, x_cI, x_rI, x_rZ, x_rL, x_r0, pa, short, oc, lg, lset, lset2, wide, cond_true, cond_false, true_and, and_true, ↓reduceIte, Bool.false_eq_true, true_or, or_true, lf_L10, t0, t8, P_X9_round, P_X10_round, Ans, Anm, nI_1, show (2 : Int32) = nI 2 by decide, show (3 : Int32) = nI 3 by decide, nI_add, eq_true v1, eq_true v2, eq_true v3, ncl (show i + 1 < 2 ^ 31 by omega), ncl (show i + 2 < 2 ^ 31 by omega), ncl (show i + 3 < 2 ^ 31 by omega), lg_cmp_eq, true_implies, not_true_eq_false, false_implies, not_false_eq_true]
  exact ⟨g, hC, hO, fun I1 L1 f1 l1 c1 => ⟨g, hM.f8 f1 l1, hO, fun I2 L2 f2 l2 c2 => ⟨fun _ => hnx I2 L2 _ (c1.i f2 (l2 0 (by omega))) c2 (kRound hO), fun h => absurd rfl h⟩⟩⟩
def il_L11 : List (Nat × Instr × Nat) := [(399, .aload_n 1, 1), (400, .aload_n 0, 1), (401, .iload_n 3, 1), (402, .iconst 1, 1), (403, .iadd, 1), (404, .iaload, 1), (405, .aload_n 0, 1), (406, .iload_n 3, 1), (407, .iconst 2, 1), (408, .iadd, 1), (409, .iaload, 1), (410, .invokevirtual 60, 3), (413, .aload_n 2, 1), (414, .aload_n 0, 1), (415, .iload_n 3, 1), (416, .iconst 1, 1), (417, .iadd, 1), (418, .iaload, 1), (419, .aload_n 0, 1), (420, .iload_n 3, 1), (421, .iconst 2, 1), (422, .iadd, 1), (423, .iaload, 1), (424, .invokevirtual 63, 3), (427, .if_icmp .eq 493, 3), (430, .iconst 0, 1), (431, .ireturn, 1), (920, .iinc 3 4, 3)]
set_option maxRecDepth 100000 in
theorem dl_L11 (sq : Nat × (Nat → Int32)) : ∀ q ∈ il_L11, decode (mt_L_law sq).1 q.1 = .ok q.2 := (by decide +kernel : ∀ q ∈ il_L11, decode cL_law q.1 = .ok q.2)
def tb_L11 (sq : Nat × (Nat → Int32)) : Tb := [(399, x_al 400 1, false),
  (400, x_al 401 0, false),
  (401, x_il 402 3, false),
  (402, x_c 403 (.int 1), false),
  (403, x_ii 404 (fun x y : Int32 => x + y), false),
  (404, x_sa 405 sq, false),
  (405, x_al 406 0, false),
  (406, x_il 407 3, false),
  (407, x_c 408 (.int 2), false),
  (408, x_ii 409 (fun x y : Int32 => x + y), false),
  (409, x_sa 410 sq, false),
  (410, x_cV 9 2 P_X9_put 413, false),
  (413, x_al 414 2, false),
  (414, x_al 415 0, false),
  (415, x_il 416 3, false),
  (416, x_c 417 (.int 1), false),
  (417, x_ii 418 (fun x y : Int32 => x + y), false),
  (418, x_sa 419 sq, false),
  (419, x_al 420 0, false),
  (420, x_il 421 3, false),
  (421, x_c 422 (.int 2), false),
  (422, x_ii 423 (fun x y : Int32 => x + y), false),
  (423, x_sa 424 sq, false),
  (424, x_cV 10 2 P_X10_put 427, false),
  (427, x_ic 920 430 (fun x y : Int32 => x = y), false),
  (430, x_c 431 (.int 0), false),
  (431, x_rZ, false),
  (920, x_inc 923 3 4, true)]
set_option maxRecDepth 100000 in
theorem tk_L11 (sq : Nat × (Nat → Int32)) : TbOk (mt_L_law sq) (tb_L11 sq) :=
  tkc (s_aload_n (at_ (dl_L11 sq) 0 (ins := .aload_n 1) rfl)) (
  tkc (s_aload_n (at_ (dl_L11 sq) 1 (ins := .aload_n 0) rfl)) (
  tkc (s_iload_n (at_ (dl_L11 sq) 2 (ins := .iload_n 3) rfl)) (
  tkc (s_iconst (at_ (dl_L11 sq) 3 (ins := .iconst 1) rfl) (by first | rfl | decide)) (
  tkc (s_iadd (at_ (dl_L11 sq) 4 (ins := .iadd) rfl)) (
  tkc (s_sa (at_ (dl_L11 sq) 5 (ins := .iaload) rfl) rfl) (
  tkc (s_aload_n (at_ (dl_L11 sq) 6 (ins := .aload_n 0) rfl)) (
  tkc (s_iload_n (at_ (dl_L11 sq) 7 (ins := .iload_n 3) rfl)) (
  tkc (s_iconst (at_ (dl_L11 sq) 8 (ins := .iconst 2) rfl) (by first | rfl | decide)) (
  tkc (s_iadd (at_ (dl_L11 sq) 9 (ins := .iadd) rfl)) (
  tkc (s_sa (at_ (dl_L11 sq) 10 (ins := .iaload) rfl) rfl) (
  tkc (s_cV ok_X9_put (at_ (dl_L11 sq) 11 (ins := .invokevirtual 60) rfl) (by decide) rfl (show Cond.methodLink RL 60 yX9_put ∈ tblG from (tg 515 (by decide +kernel) (by decide +kernel))) (tg 516 (by decide +kernel) (by decide +kernel)) (tg 517 (by decide +kernel) (by decide +kernel)) (tg 42 (by decide +kernel) (by decide +kernel)) (tg 518 (by decide +kernel) (by decide +kernel)) (⟨by decide, by decide, by decide +kernel⟩) (⟨(Nat.le_of_ble_eq_true rfl), (Nat.le_of_ble_eq_true rfl)⟩) rfl rfl) (
  tkc (s_aload_n (at_ (dl_L11 sq) 12 (ins := .aload_n 2) rfl)) (
  tkc (s_aload_n (at_ (dl_L11 sq) 13 (ins := .aload_n 0) rfl)) (
  tkc (s_iload_n (at_ (dl_L11 sq) 14 (ins := .iload_n 3) rfl)) (
  tkc (s_iconst (at_ (dl_L11 sq) 15 (ins := .iconst 1) rfl) (by first | rfl | decide)) (
  tkc (s_iadd (at_ (dl_L11 sq) 16 (ins := .iadd) rfl)) (
  tkc (s_sa (at_ (dl_L11 sq) 17 (ins := .iaload) rfl) rfl) (
  tkc (s_aload_n (at_ (dl_L11 sq) 18 (ins := .aload_n 0) rfl)) (
  tkc (s_iload_n (at_ (dl_L11 sq) 19 (ins := .iload_n 3) rfl)) (
  tkc (s_iconst (at_ (dl_L11 sq) 20 (ins := .iconst 2) rfl) (by first | rfl | decide)) (
  tkc (s_iadd (at_ (dl_L11 sq) 21 (ins := .iadd) rfl)) (
  tkc (s_sa (at_ (dl_L11 sq) 22 (ins := .iaload) rfl) rfl) (
  tkc (s_cV ok_X10_put (at_ (dl_L11 sq) 23 (ins := .invokevirtual 63) rfl) (by decide) rfl (show Cond.methodLink RL 63 yX10_put ∈ tblG from (tg 919 (by decide +kernel) (by decide +kernel))) (tg 920 (by decide +kernel) (by decide +kernel)) (tg 921 (by decide +kernel) (by decide +kernel)) (tg 51 (by decide +kernel) (by decide +kernel)) (tg 922 (by decide +kernel) (by decide +kernel)) (⟨by decide, by decide, by decide +kernel⟩) (⟨(Nat.le_of_ble_eq_true rfl), (Nat.le_of_ble_eq_true rfl)⟩) rfl rfl) (
  tkc (s_ic_eq (at_ (dl_L11 sq) 24 (ins := .if_icmp .eq 493) rfl) (by decide)) (
  tkc (s_iconst (at_ (dl_L11 sq) 25 (ins := .iconst 0) rfl) (by first | rfl | decide)) (
  tkc (s_rZ (at_ (dl_L11 sq) 26 (ins := .ireturn) rfl) rfl) (
  tkc (s_iinc (at_ (dl_L11 sq) 27 (ins := .iinc 3 4) rfl) (Nat.le_of_ble_eq_true rfl) (by first | rfl | decide)) ( tk0))))))))))))))))))))))))))))
theorem lf_L11 (sq : Nat × (Nat → Int32)) : lk (tb_L11 sq) 399 = (x_al 400 1, false) ∧ lk (tb_L11 sq) 400 = (x_al 401 0, false) ∧ lk (tb_L11 sq) 401 = (x_il 402 3, false) ∧ lk (tb_L11 sq) 402 = (x_c 403 (.int 1), false) ∧ lk (tb_L11 sq) 403 = (x_ii 404 (fun x y : Int32 => x + y), false) ∧ lk (tb_L11 sq) 404 = (x_sa 405 sq, false) ∧ lk (tb_L11 sq) 405 = (x_al 406 0, false) ∧ lk (tb_L11 sq) 406 = (x_il 407 3, false) ∧ lk (tb_L11 sq) 407 = (x_c 408 (.int 2), false) ∧ lk (tb_L11 sq) 408 = (x_ii 409 (fun x y : Int32 => x + y), false) ∧ lk (tb_L11 sq) 409 = (x_sa 410 sq, false) ∧ lk (tb_L11 sq) 410 = (x_cV 9 2 P_X9_put 413, false) ∧ lk (tb_L11 sq) 413 = (x_al 414 2, false) ∧ lk (tb_L11 sq) 414 = (x_al 415 0, false) ∧ lk (tb_L11 sq) 415 = (x_il 416 3, false) ∧ lk (tb_L11 sq) 416 = (x_c 417 (.int 1), false) ∧ lk (tb_L11 sq) 417 = (x_ii 418 (fun x y : Int32 => x + y), false) ∧ lk (tb_L11 sq) 418 = (x_sa 419 sq, false) ∧ lk (tb_L11 sq) 419 = (x_al 420 0, false) ∧ lk (tb_L11 sq) 420 = (x_il 421 3, false) ∧ lk (tb_L11 sq) 421 = (x_c 422 (.int 2), false) ∧ lk (tb_L11 sq) 422 = (x_ii 423 (fun x y : Int32 => x + y), false) ∧ lk (tb_L11 sq) 423 = (x_sa 424 sq, false) ∧ lk (tb_L11 sq) 424 = (x_cV 10 2 P_X10_put 427, false) ∧ lk (tb_L11 sq) 427 = (x_ic 920 430 (fun x y : Int32 => x = y), false) ∧ lk (tb_L11 sq) 430 = (x_c 431 (.int 0), false) ∧ lk (tb_L11 sq) 431 = (x_rZ, false) ∧ lk (tb_L11 sq) 920 = (x_inc 923 3 4, true) := ⟨rfl, rfl, rfl, rfl, rfl, rfl, rfl, rfl, rfl, rfl, rfl, rfl, rfl, rfl, rfl, rfl, rfl, rfl, rfl, rfl, rfl, rfl, rfl, rfl, rfl, rfl, rfl, rfl⟩
set_option maxRecDepth 20000 in
theorem lc_11 {sq : Nat × (Nat → Int32)} {R : Option Value → Mem → Prop} {S : Sh} {I : MI} {L : Nat → Nat → Int64} {g : GS} {i : Nat} (h4 : i + 4 ≤ sq.1) (h2 : sq.1 ≤ 2048) (hC : CR S I L g) (hM : MR S I L g) (hO : GOk g) (hnx : ∀ I' L' g', CR S I' L' g' → MR S I' L' g' → GOk g' → J (mt_L_law sq) R 920 [some (.ref 9002), some (.ref 0), some (.ref 108), some (.int (nI i))] [] (S, I', L')) : J (mt_L_law sq) R 399 [some (.ref 9002), some (.ref 0), some (.ref 108), some (.int (nI i))] [] (S, I, L) := by
  have t0 : tO S 0 9 := hC.1.1.1
  have t8 : tO S 108 10 := hM.1.1
  have v1 : vp_in (nI (i + 1)) sq.1 := vp_in_nI (by omega) (by omega)
  have v2 : vp_in (nI (i + 2)) sq.1 := vp_in_nI (by omega) (by omega)
  have v3 : vp_in (nI (i + 3)) sq.1 := vp_in_nI (by omega) (by omega)
  refine J.of (tk_L11 sq) 200 fun ρ hρ => ?_
  simp only [hρ, x_c, x_il, x_ll, x_al, x_is, x_as, x_ls, x_inc, x_ii, x_iq, x_i1, x_l2, x_lq, x_lh, x_i2l, x_l2i, x_lcmp, x_dup, x_dup2, x_pop, x_if, x_ifn, x_ic, x_icn, x_go, x_sw, swc, x_l01, x_mx, x_gI, x_gL, x_gR, x_pI, x_pZ, x_pL, x_pR, x_ia, x_za, x_aa, x_ias, x_zas, x_aas, x_fac, x_fa, x_slen, x_sa, x_ac, x_oi, x_new, x_na, x_cS, x_cV, x_cI, x_rI, x_rZ, x_rL, x_r0, pa, short, oc, lg, lset, lset2, wide, cond_true, cond_false, true_and, and_true, ↓reduceIte, Bool.false_eq_true, true_or, or_true, lf_L11, t0, t8, P_X9_put, P_X10_put, Ans, Anm, nI_1, show (2 : Int32) = nI 2 by decide, show (3 : Int32) = nI 3 by decide, nI_add, eq_true v1, eq_true v2, eq_true v3, ncl (show i + 1 < 2 ^ 31 by omega), ncl (show i + 2 < 2 ^ 31 by omega), ncl (show i + 3 < 2 ^ 31 by omega), lg_cmp_eq, true_implies, not_true_eq_false, false_implies, not_false_eq_true]
  exact ⟨g, hC, hO, fun I1 L1 f1 l1 c1 => ⟨g, hM.f8 f1 l1, hO, fun I2 L2 f2 l2 c2 => ⟨fun _ => hnx I2 L2 _ (c1.i f2 (l2 0 (by omega))) c2 (kPut hO), fun h => absurd rfl h⟩⟩⟩
def il_L12 : List (Nat × Instr × Nat) := [(432, .aload_n 1, 1), (433, .aload_n 0, 1), (434, .iload_n 3, 1), (435, .iconst 1, 1), (436, .iadd, 1), (437, .iaload, 1), (438, .aload_n 0, 1), (439, .iload_n 3, 1), (440, .iconst 2, 1), (441, .iadd, 1), (442, .iaload, 1), (443, .invokevirtual 64, 3), (446, .aload_n 2, 1), (447, .aload_n 0, 1), (448, .iload_n 3, 1), (449, .iconst 1, 1), (450, .iadd, 1), (451, .iaload, 1), (452, .aload_n 0, 1), (453, .iload_n 3, 1), (454, .iconst 2, 1), (455, .iadd, 1), (456, .iaload, 1), (457, .invokevirtual 67, 3), (460, .if_icmp .eq 460, 3), (463, .iconst 0, 1), (464, .ireturn, 1), (920, .iinc 3 4, 3)]
set_option maxRecDepth 100000 in
theorem dl_L12 (sq : Nat × (Nat → Int32)) : ∀ q ∈ il_L12, decode (mt_L_law sq).1 q.1 = .ok q.2 := (by decide +kernel : ∀ q ∈ il_L12, decode cL_law q.1 = .ok q.2)
def tb_L12 (sq : Nat × (Nat → Int32)) : Tb := [(432, x_al 433 1, false),
  (433, x_al 434 0, false),
  (434, x_il 435 3, false),
  (435, x_c 436 (.int 1), false),
  (436, x_ii 437 (fun x y : Int32 => x + y), false),
  (437, x_sa 438 sq, false),
  (438, x_al 439 0, false),
  (439, x_il 440 3, false),
  (440, x_c 441 (.int 2), false),
  (441, x_ii 442 (fun x y : Int32 => x + y), false),
  (442, x_sa 443 sq, false),
  (443, x_cV 9 2 P_X9_grow 446, false),
  (446, x_al 447 2, false),
  (447, x_al 448 0, false),
  (448, x_il 449 3, false),
  (449, x_c 450 (.int 1), false),
  (450, x_ii 451 (fun x y : Int32 => x + y), false),
  (451, x_sa 452 sq, false),
  (452, x_al 453 0, false),
  (453, x_il 454 3, false),
  (454, x_c 455 (.int 2), false),
  (455, x_ii 456 (fun x y : Int32 => x + y), false),
  (456, x_sa 457 sq, false),
  (457, x_cV 10 2 P_X10_grow 460, false),
  (460, x_ic 920 463 (fun x y : Int32 => x = y), false),
  (463, x_c 464 (.int 0), false),
  (464, x_rZ, false),
  (920, x_inc 923 3 4, true)]
set_option maxRecDepth 100000 in
theorem tk_L12 (sq : Nat × (Nat → Int32)) : TbOk (mt_L_law sq) (tb_L12 sq) :=
  tkc (s_aload_n (at_ (dl_L12 sq) 0 (ins := .aload_n 1) rfl)) (
  tkc (s_aload_n (at_ (dl_L12 sq) 1 (ins := .aload_n 0) rfl)) (
  tkc (s_iload_n (at_ (dl_L12 sq) 2 (ins := .iload_n 3) rfl)) (
  tkc (s_iconst (at_ (dl_L12 sq) 3 (ins := .iconst 1) rfl) (by first | rfl | decide)) (
  tkc (s_iadd (at_ (dl_L12 sq) 4 (ins := .iadd) rfl)) (
  tkc (s_sa (at_ (dl_L12 sq) 5 (ins := .iaload) rfl) rfl) (
  tkc (s_aload_n (at_ (dl_L12 sq) 6 (ins := .aload_n 0) rfl)) (
  tkc (s_iload_n (at_ (dl_L12 sq) 7 (ins := .iload_n 3) rfl)) (
  tkc (s_iconst (at_ (dl_L12 sq) 8 (ins := .iconst 2) rfl) (by first | rfl | decide)) (
  tkc (s_iadd (at_ (dl_L12 sq) 9 (ins := .iadd) rfl)) (
  tkc (s_sa (at_ (dl_L12 sq) 10 (ins := .iaload) rfl) rfl) (
  tkc (s_cV ok_X9_grow (at_ (dl_L12 sq) 11 (ins := .invokevirtual 64) rfl) (by decide) rfl (show Cond.methodLink RL 64 yX9_grow ∈ tblG from (tg 523 (by decide +kernel) (by decide +kernel))) (tg 524 (by decide +kernel) (by decide +kernel)) (tg 525 (by decide +kernel) (by decide +kernel)) (tg 42 (by decide +kernel) (by decide +kernel)) (tg 526 (by decide +kernel) (by decide +kernel)) (⟨by decide, by decide, by decide +kernel⟩) (⟨(Nat.le_of_ble_eq_true rfl), (Nat.le_of_ble_eq_true rfl)⟩) rfl rfl) (
  tkc (s_aload_n (at_ (dl_L12 sq) 12 (ins := .aload_n 2) rfl)) (
  tkc (s_aload_n (at_ (dl_L12 sq) 13 (ins := .aload_n 0) rfl)) (
  tkc (s_iload_n (at_ (dl_L12 sq) 14 (ins := .iload_n 3) rfl)) (
  tkc (s_iconst (at_ (dl_L12 sq) 15 (ins := .iconst 1) rfl) (by first | rfl | decide)) (
  tkc (s_iadd (at_ (dl_L12 sq) 16 (ins := .iadd) rfl)) (
  tkc (s_sa (at_ (dl_L12 sq) 17 (ins := .iaload) rfl) rfl) (
  tkc (s_aload_n (at_ (dl_L12 sq) 18 (ins := .aload_n 0) rfl)) (
  tkc (s_iload_n (at_ (dl_L12 sq) 19 (ins := .iload_n 3) rfl)) (
  tkc (s_iconst (at_ (dl_L12 sq) 20 (ins := .iconst 2) rfl) (by first | rfl | decide)) (
  tkc (s_iadd (at_ (dl_L12 sq) 21 (ins := .iadd) rfl)) (
  tkc (s_sa (at_ (dl_L12 sq) 22 (ins := .iaload) rfl) rfl) (
  tkc (s_cV ok_X10_grow (at_ (dl_L12 sq) 23 (ins := .invokevirtual 67) rfl) (by decide) rfl (show Cond.methodLink RL 67 yX10_grow ∈ tblG from (tg 926 (by decide +kernel) (by decide +kernel))) (tg 927 (by decide +kernel) (by decide +kernel)) (tg 928 (by decide +kernel) (by decide +kernel)) (tg 51 (by decide +kernel) (by decide +kernel)) (tg 929 (by decide +kernel) (by decide +kernel)) (⟨by decide, by decide, by decide +kernel⟩) (⟨(Nat.le_of_ble_eq_true rfl), (Nat.le_of_ble_eq_true rfl)⟩) rfl rfl) (
  tkc (s_ic_eq (at_ (dl_L12 sq) 24 (ins := .if_icmp .eq 460) rfl) (by decide)) (
  tkc (s_iconst (at_ (dl_L12 sq) 25 (ins := .iconst 0) rfl) (by first | rfl | decide)) (
  tkc (s_rZ (at_ (dl_L12 sq) 26 (ins := .ireturn) rfl) rfl) (
  tkc (s_iinc (at_ (dl_L12 sq) 27 (ins := .iinc 3 4) rfl) (Nat.le_of_ble_eq_true rfl) (by first | rfl | decide)) ( tk0))))))))))))))))))))))))))))
theorem lf_L12 (sq : Nat × (Nat → Int32)) : lk (tb_L12 sq) 432 = (x_al 433 1, false) ∧ lk (tb_L12 sq) 433 = (x_al 434 0, false) ∧ lk (tb_L12 sq) 434 = (x_il 435 3, false) ∧ lk (tb_L12 sq) 435 = (x_c 436 (.int 1), false) ∧ lk (tb_L12 sq) 436 = (x_ii 437 (fun x y : Int32 => x + y), false) ∧ lk (tb_L12 sq) 437 = (x_sa 438 sq, false) ∧ lk (tb_L12 sq) 438 = (x_al 439 0, false) ∧ lk (tb_L12 sq) 439 = (x_il 440 3, false) ∧ lk (tb_L12 sq) 440 = (x_c 441 (.int 2), false) ∧ lk (tb_L12 sq) 441 = (x_ii 442 (fun x y : Int32 => x + y), false) ∧ lk (tb_L12 sq) 442 = (x_sa 443 sq, false) ∧ lk (tb_L12 sq) 443 = (x_cV 9 2 P_X9_grow 446, false) ∧ lk (tb_L12 sq) 446 = (x_al 447 2, false) ∧ lk (tb_L12 sq) 447 = (x_al 448 0, false) ∧ lk (tb_L12 sq) 448 = (x_il 449 3, false) ∧ lk (tb_L12 sq) 449 = (x_c 450 (.int 1), false) ∧ lk (tb_L12 sq) 450 = (x_ii 451 (fun x y : Int32 => x + y), false) ∧ lk (tb_L12 sq) 451 = (x_sa 452 sq, false) ∧ lk (tb_L12 sq) 452 = (x_al 453 0, false) ∧ lk (tb_L12 sq) 453 = (x_il 454 3, false) ∧ lk (tb_L12 sq) 454 = (x_c 455 (.int 2), false) ∧ lk (tb_L12 sq) 455 = (x_ii 456 (fun x y : Int32 => x + y), false) ∧ lk (tb_L12 sq) 456 = (x_sa 457 sq, false) ∧ lk (tb_L12 sq) 457 = (x_cV 10 2 P_X10_grow 460, false) ∧ lk (tb_L12 sq) 460 = (x_ic 920 463 (fun x y : Int32 => x = y), false) ∧ lk (tb_L12 sq) 463 = (x_c 464 (.int 0), false) ∧ lk (tb_L12 sq) 464 = (x_rZ, false) ∧ lk (tb_L12 sq) 920 = (x_inc 923 3 4, true) := ⟨rfl, rfl, rfl, rfl, rfl, rfl, rfl, rfl, rfl, rfl, rfl, rfl, rfl, rfl, rfl, rfl, rfl, rfl, rfl, rfl, rfl, rfl, rfl, rfl, rfl, rfl, rfl, rfl⟩
set_option maxRecDepth 20000 in
theorem lc_12 {sq : Nat × (Nat → Int32)} {R : Option Value → Mem → Prop} {S : Sh} {I : MI} {L : Nat → Nat → Int64} {g : GS} {i : Nat} (h4 : i + 4 ≤ sq.1) (h2 : sq.1 ≤ 2048) (hC : CR S I L g) (hM : MR S I L g) (hO : GOk g) (hnx : ∀ I' L' g', CR S I' L' g' → MR S I' L' g' → GOk g' → J (mt_L_law sq) R 920 [some (.ref 9002), some (.ref 0), some (.ref 108), some (.int (nI i))] [] (S, I', L')) : J (mt_L_law sq) R 432 [some (.ref 9002), some (.ref 0), some (.ref 108), some (.int (nI i))] [] (S, I, L) := by
  have t0 : tO S 0 9 := hC.1.1.1
  have t8 : tO S 108 10 := hM.1.1
  have v1 : vp_in (nI (i + 1)) sq.1 := vp_in_nI (by omega) (by omega)
  have v2 : vp_in (nI (i + 2)) sq.1 := vp_in_nI (by omega) (by omega)
  have v3 : vp_in (nI (i + 3)) sq.1 := vp_in_nI (by omega) (by omega)
  refine J.of (tk_L12 sq) 200 fun ρ hρ => ?_
  simp only [hρ, x_c, x_il, x_ll, x_al, x_is, x_as, x_ls, x_inc, x_ii, x_iq, x_i1, x_l2, x_lq, x_lh, x_i2l, x_l2i, x_lcmp, x_dup, x_dup2, x_pop, x_if, x_ifn, x_ic, x_icn, x_go, x_sw, swc, x_l01, x_mx, x_gI, x_gL, x_gR, x_pI, x_pZ, x_pL, x_pR, x_ia, x_za, x_aa, x_ias, x_zas, x_aas, x_fac, x_fa, x_slen, x_sa, x_ac, x_oi, x_new, x_na, x_cS, x_cV, x_cI, x_rI, x_rZ, x_rL, x_r0, pa, short, oc, lg, lset, lset2, wide, cond_true, cond_false, true_and, and_true, ↓reduceIte, Bool.false_eq_true, true_or, or_true, lf_L12, t0, t8, P_X9_grow, P_X10_grow, Ans, Anm, nI_1, show (2 : Int32) = nI 2 by decide, show (3 : Int32) = nI 3 by decide, nI_add, eq_true v1, eq_true v2, eq_true v3, ncl (show i + 1 < 2 ^ 31 by omega), ncl (show i + 2 < 2 ^ 31 by omega), ncl (show i + 3 < 2 ^ 31 by omega), lg_cmp_eq, true_implies, not_true_eq_false, false_implies, not_false_eq_true]
  exact ⟨g, hC, hO, fun I1 L1 f1 l1 c1 => ⟨g, hM.f8 f1 l1, hO, fun I2 L2 f2 l2 c2 => ⟨fun _ => hnx I2 L2 _ (c1.i f2 (l2 0 (by omega))) c2 (kGrow hO), fun h => absurd rfl h⟩⟩⟩
def il_L13 : List (Nat × Instr × Nat) := [(465, .aload_n 1, 1), (466, .aload_n 0, 1), (467, .iload_n 3, 1), (468, .iconst 1, 1), (469, .iadd, 1), (470, .iaload, 1), (471, .invokevirtual 68, 3), (474, .aload_n 2, 1), (475, .aload_n 0, 1), (476, .iload_n 3, 1), (477, .iconst 1, 1), (478, .iadd, 1), (479, .iaload, 1), (480, .invokevirtual 71, 3), (483, .if_icmp .eq 437, 3), (486, .iconst 0, 1), (487, .ireturn, 1), (920, .iinc 3 4, 3)]
set_option maxRecDepth 100000 in
theorem dl_L13 (sq : Nat × (Nat → Int32)) : ∀ q ∈ il_L13, decode (mt_L_law sq).1 q.1 = .ok q.2 := (by decide +kernel : ∀ q ∈ il_L13, decode cL_law q.1 = .ok q.2)
def tb_L13 (sq : Nat × (Nat → Int32)) : Tb := [(465, x_al 466 1, false),
  (466, x_al 467 0, false),
  (467, x_il 468 3, false),
  (468, x_c 469 (.int 1), false),
  (469, x_ii 470 (fun x y : Int32 => x + y), false),
  (470, x_sa 471 sq, false),
  (471, x_cV 9 1 P_X9_offset 474, false),
  (474, x_al 475 2, false),
  (475, x_al 476 0, false),
  (476, x_il 477 3, false),
  (477, x_c 478 (.int 1), false),
  (478, x_ii 479 (fun x y : Int32 => x + y), false),
  (479, x_sa 480 sq, false),
  (480, x_cV 10 1 P_X10_offset 483, false),
  (483, x_ic 920 486 (fun x y : Int32 => x = y), false),
  (486, x_c 487 (.int 0), false),
  (487, x_rZ, false),
  (920, x_inc 923 3 4, true)]
set_option maxRecDepth 100000 in
theorem tk_L13 (sq : Nat × (Nat → Int32)) : TbOk (mt_L_law sq) (tb_L13 sq) :=
  tkc (s_aload_n (at_ (dl_L13 sq) 0 (ins := .aload_n 1) rfl)) (
  tkc (s_aload_n (at_ (dl_L13 sq) 1 (ins := .aload_n 0) rfl)) (
  tkc (s_iload_n (at_ (dl_L13 sq) 2 (ins := .iload_n 3) rfl)) (
  tkc (s_iconst (at_ (dl_L13 sq) 3 (ins := .iconst 1) rfl) (by first | rfl | decide)) (
  tkc (s_iadd (at_ (dl_L13 sq) 4 (ins := .iadd) rfl)) (
  tkc (s_sa (at_ (dl_L13 sq) 5 (ins := .iaload) rfl) rfl) (
  tkc (s_cV ok_X9_offset (at_ (dl_L13 sq) 6 (ins := .invokevirtual 68) rfl) (by decide) rfl (show Cond.methodLink RL 68 yX9_offset ∈ tblG from (tg 537 (by decide +kernel) (by decide +kernel))) (tg 538 (by decide +kernel) (by decide +kernel)) (tg 539 (by decide +kernel) (by decide +kernel)) (tg 42 (by decide +kernel) (by decide +kernel)) (tg 540 (by decide +kernel) (by decide +kernel)) (⟨by decide, by decide, by decide +kernel⟩) (⟨(Nat.le_of_ble_eq_true rfl), (Nat.le_of_ble_eq_true rfl)⟩) rfl rfl) (
  tkc (s_aload_n (at_ (dl_L13 sq) 7 (ins := .aload_n 2) rfl)) (
  tkc (s_aload_n (at_ (dl_L13 sq) 8 (ins := .aload_n 0) rfl)) (
  tkc (s_iload_n (at_ (dl_L13 sq) 9 (ins := .iload_n 3) rfl)) (
  tkc (s_iconst (at_ (dl_L13 sq) 10 (ins := .iconst 1) rfl) (by first | rfl | decide)) (
  tkc (s_iadd (at_ (dl_L13 sq) 11 (ins := .iadd) rfl)) (
  tkc (s_sa (at_ (dl_L13 sq) 12 (ins := .iaload) rfl) rfl) (
  tkc (s_cV ok_X10_offset (at_ (dl_L13 sq) 13 (ins := .invokevirtual 71) rfl) (by decide) rfl (show Cond.methodLink RL 71 yX10_offset ∈ tblG from (tg 934 (by decide +kernel) (by decide +kernel))) (tg 935 (by decide +kernel) (by decide +kernel)) (tg 936 (by decide +kernel) (by decide +kernel)) (tg 51 (by decide +kernel) (by decide +kernel)) (tg 937 (by decide +kernel) (by decide +kernel)) (⟨by decide, by decide, by decide +kernel⟩) (⟨(Nat.le_of_ble_eq_true rfl), (Nat.le_of_ble_eq_true rfl)⟩) rfl rfl) (
  tkc (s_ic_eq (at_ (dl_L13 sq) 14 (ins := .if_icmp .eq 437) rfl) (by decide)) (
  tkc (s_iconst (at_ (dl_L13 sq) 15 (ins := .iconst 0) rfl) (by first | rfl | decide)) (
  tkc (s_rZ (at_ (dl_L13 sq) 16 (ins := .ireturn) rfl) rfl) (
  tkc (s_iinc (at_ (dl_L13 sq) 17 (ins := .iinc 3 4) rfl) (Nat.le_of_ble_eq_true rfl) (by first | rfl | decide)) ( tk0))))))))))))))))))
theorem lf_L13 (sq : Nat × (Nat → Int32)) : lk (tb_L13 sq) 465 = (x_al 466 1, false) ∧ lk (tb_L13 sq) 466 = (x_al 467 0, false) ∧ lk (tb_L13 sq) 467 = (x_il 468 3, false) ∧ lk (tb_L13 sq) 468 = (x_c 469 (.int 1), false) ∧ lk (tb_L13 sq) 469 = (x_ii 470 (fun x y : Int32 => x + y), false) ∧ lk (tb_L13 sq) 470 = (x_sa 471 sq, false) ∧ lk (tb_L13 sq) 471 = (x_cV 9 1 P_X9_offset 474, false) ∧ lk (tb_L13 sq) 474 = (x_al 475 2, false) ∧ lk (tb_L13 sq) 475 = (x_al 476 0, false) ∧ lk (tb_L13 sq) 476 = (x_il 477 3, false) ∧ lk (tb_L13 sq) 477 = (x_c 478 (.int 1), false) ∧ lk (tb_L13 sq) 478 = (x_ii 479 (fun x y : Int32 => x + y), false) ∧ lk (tb_L13 sq) 479 = (x_sa 480 sq, false) ∧ lk (tb_L13 sq) 480 = (x_cV 10 1 P_X10_offset 483, false) ∧ lk (tb_L13 sq) 483 = (x_ic 920 486 (fun x y : Int32 => x = y), false) ∧ lk (tb_L13 sq) 486 = (x_c 487 (.int 0), false) ∧ lk (tb_L13 sq) 487 = (x_rZ, false) ∧ lk (tb_L13 sq) 920 = (x_inc 923 3 4, true) := ⟨rfl, rfl, rfl, rfl, rfl, rfl, rfl, rfl, rfl, rfl, rfl, rfl, rfl, rfl, rfl, rfl, rfl, rfl⟩
set_option maxRecDepth 20000 in
theorem lc_13 {sq : Nat × (Nat → Int32)} {R : Option Value → Mem → Prop} {S : Sh} {I : MI} {L : Nat → Nat → Int64} {g : GS} {i : Nat} (h4 : i + 4 ≤ sq.1) (h2 : sq.1 ≤ 2048) (hC : CR S I L g) (hM : MR S I L g) (hO : GOk g) (hnx : ∀ I' L' g', CR S I' L' g' → MR S I' L' g' → GOk g' → J (mt_L_law sq) R 920 [some (.ref 9002), some (.ref 0), some (.ref 108), some (.int (nI i))] [] (S, I', L')) : J (mt_L_law sq) R 465 [some (.ref 9002), some (.ref 0), some (.ref 108), some (.int (nI i))] [] (S, I, L) := by
  have t0 : tO S 0 9 := hC.1.1.1
  have t8 : tO S 108 10 := hM.1.1
  have v1 : vp_in (nI (i + 1)) sq.1 := vp_in_nI (by omega) (by omega)
  have v2 : vp_in (nI (i + 2)) sq.1 := vp_in_nI (by omega) (by omega)
  have v3 : vp_in (nI (i + 3)) sq.1 := vp_in_nI (by omega) (by omega)
  refine J.of (tk_L13 sq) 200 fun ρ hρ => ?_
  simp only [hρ, x_c, x_il, x_ll, x_al, x_is, x_as, x_ls, x_inc, x_ii, x_iq, x_i1, x_l2, x_lq, x_lh, x_i2l, x_l2i, x_lcmp, x_dup, x_dup2, x_pop, x_if, x_ifn, x_ic, x_icn, x_go, x_sw, swc, x_l01, x_mx, x_gI, x_gL, x_gR, x_pI, x_pZ, x_pL, x_pR, x_ia, x_za, x_aa, x_ias, x_zas, x_aas, x_fac, x_fa, x_slen, x_sa, x_ac, x_oi, x_new, x_na, x_cS, x_cV, x_cI, x_rI, x_rZ, x_rL, x_r0, pa, short, oc, lg, lset, lset2, wide, cond_true, cond_false, true_and, and_true, ↓reduceIte, Bool.false_eq_true, true_or, or_true, lf_L13, t0, t8, P_X9_offset, P_X10_offset, Ans, Anm, nI_1, show (2 : Int32) = nI 2 by decide, show (3 : Int32) = nI 3 by decide, nI_add, eq_true v1, eq_true v2, eq_true v3, ncl (show i + 1 < 2 ^ 31 by omega), ncl (show i + 2 < 2 ^ 31 by omega), ncl (show i + 3 < 2 ^ 31 by omega), lg_cmp_eq, true_implies, not_true_eq_false, false_implies, not_false_eq_true]
  exact ⟨g, hC, hO, fun I1 L1 f1 l1 c1 => ⟨g, hM.f8 f1 l1, hO, fun I2 L2 f2 l2 c2 => ⟨fun _ => hnx I2 L2 _ (c1.i f2 (l2 0 (by omega))) c2 (kOffset hO), fun h => absurd rfl h⟩⟩⟩
def il_L14 : List (Nat × Instr × Nat) := [(488, .aload_n 1, 1), (489, .invokevirtual 72, 3), (492, .aload_n 2, 1), (493, .invokevirtual 75, 3), (496, .if_icmp .eq 424, 3), (499, .iconst 0, 1), (500, .ireturn, 1), (920, .iinc 3 4, 3)]
set_option maxRecDepth 100000 in
theorem dl_L14 (sq : Nat × (Nat → Int32)) : ∀ q ∈ il_L14, decode (mt_L_law sq).1 q.1 = .ok q.2 := (by decide +kernel : ∀ q ∈ il_L14, decode cL_law q.1 = .ok q.2)
def tb_L14 (sq : Nat × (Nat → Int32)) : Tb := [(488, x_al 489 1, false),
  (489, x_cV 9 0 P_X9_undo 492, false),
  (492, x_al 493 2, false),
  (493, x_cV 10 0 P_X10_undo 496, false),
  (496, x_ic 920 499 (fun x y : Int32 => x = y), false),
  (499, x_c 500 (.int 0), false),
  (500, x_rZ, false),
  (920, x_inc 923 3 4, true)]
set_option maxRecDepth 100000 in
theorem tk_L14 (sq : Nat × (Nat → Int32)) : TbOk (mt_L_law sq) (tb_L14 sq) :=
  tkc (s_aload_n (at_ (dl_L14 sq) 0 (ins := .aload_n 1) rfl)) (
  tkc (s_cV ok_X9_undo (at_ (dl_L14 sq) 1 (ins := .invokevirtual 72) rfl) (by decide) rfl (show Cond.methodLink RL 72 yX9_undo ∈ tblG from (tg 541 (by decide +kernel) (by decide +kernel))) (tg 542 (by decide +kernel) (by decide +kernel)) (tg 543 (by decide +kernel) (by decide +kernel)) (tg 42 (by decide +kernel) (by decide +kernel)) (tg 544 (by decide +kernel) (by decide +kernel)) (⟨by decide, by decide, by decide +kernel⟩) (⟨(Nat.le_of_ble_eq_true rfl), (Nat.le_of_ble_eq_true rfl)⟩) rfl rfl) (
  tkc (s_aload_n (at_ (dl_L14 sq) 2 (ins := .aload_n 2) rfl)) (
  tkc (s_cV ok_X10_undo (at_ (dl_L14 sq) 3 (ins := .invokevirtual 75) rfl) (by decide) rfl (show Cond.methodLink RL 75 yX10_undo ∈ tblG from (tg 938 (by decide +kernel) (by decide +kernel))) (tg 939 (by decide +kernel) (by decide +kernel)) (tg 940 (by decide +kernel) (by decide +kernel)) (tg 51 (by decide +kernel) (by decide +kernel)) (tg 941 (by decide +kernel) (by decide +kernel)) (⟨by decide, by decide, by decide +kernel⟩) (⟨(Nat.le_of_ble_eq_true rfl), (Nat.le_of_ble_eq_true rfl)⟩) rfl rfl) (
  tkc (s_ic_eq (at_ (dl_L14 sq) 4 (ins := .if_icmp .eq 424) rfl) (by decide)) (
  tkc (s_iconst (at_ (dl_L14 sq) 5 (ins := .iconst 0) rfl) (by first | rfl | decide)) (
  tkc (s_rZ (at_ (dl_L14 sq) 6 (ins := .ireturn) rfl) rfl) (
  tkc (s_iinc (at_ (dl_L14 sq) 7 (ins := .iinc 3 4) rfl) (Nat.le_of_ble_eq_true rfl) (by first | rfl | decide)) ( tk0))))))))
theorem lf_L14 (sq : Nat × (Nat → Int32)) : lk (tb_L14 sq) 488 = (x_al 489 1, false) ∧ lk (tb_L14 sq) 489 = (x_cV 9 0 P_X9_undo 492, false) ∧ lk (tb_L14 sq) 492 = (x_al 493 2, false) ∧ lk (tb_L14 sq) 493 = (x_cV 10 0 P_X10_undo 496, false) ∧ lk (tb_L14 sq) 496 = (x_ic 920 499 (fun x y : Int32 => x = y), false) ∧ lk (tb_L14 sq) 499 = (x_c 500 (.int 0), false) ∧ lk (tb_L14 sq) 500 = (x_rZ, false) ∧ lk (tb_L14 sq) 920 = (x_inc 923 3 4, true) := ⟨rfl, rfl, rfl, rfl, rfl, rfl, rfl, rfl⟩
set_option maxRecDepth 20000 in
theorem lc_14 {sq : Nat × (Nat → Int32)} {R : Option Value → Mem → Prop} {S : Sh} {I : MI} {L : Nat → Nat → Int64} {g : GS} {i : Nat} (h4 : i + 4 ≤ sq.1) (h2 : sq.1 ≤ 2048) (hC : CR S I L g) (hM : MR S I L g) (hO : GOk g) (hnx : ∀ I' L' g', CR S I' L' g' → MR S I' L' g' → GOk g' → J (mt_L_law sq) R 920 [some (.ref 9002), some (.ref 0), some (.ref 108), some (.int (nI i))] [] (S, I', L')) : J (mt_L_law sq) R 488 [some (.ref 9002), some (.ref 0), some (.ref 108), some (.int (nI i))] [] (S, I, L) := by
  have t0 : tO S 0 9 := hC.1.1.1
  have t8 : tO S 108 10 := hM.1.1
  have v1 : vp_in (nI (i + 1)) sq.1 := vp_in_nI (by omega) (by omega)
  have v2 : vp_in (nI (i + 2)) sq.1 := vp_in_nI (by omega) (by omega)
  have v3 : vp_in (nI (i + 3)) sq.1 := vp_in_nI (by omega) (by omega)
  refine J.of (tk_L14 sq) 200 fun ρ hρ => ?_
  simp only [hρ, x_c, x_il, x_ll, x_al, x_is, x_as, x_ls, x_inc, x_ii, x_iq, x_i1, x_l2, x_lq, x_lh, x_i2l, x_l2i, x_lcmp, x_dup, x_dup2, x_pop, x_if, x_ifn, x_ic, x_icn, x_go, x_sw, swc, x_l01, x_mx, x_gI, x_gL, x_gR, x_pI, x_pZ, x_pL, x_pR, x_ia, x_za, x_aa, x_ias, x_zas, x_aas, x_fac, x_fa, x_slen, x_sa, x_ac, x_oi, x_new, x_na, x_cS, x_cV, x_cI, x_rI, x_rZ, x_rL, x_r0, pa, short, oc, lg, lset, lset2, wide, cond_true, cond_false, true_and, and_true, ↓reduceIte, Bool.false_eq_true, true_or, or_true, lf_L14, t0, t8, P_X9_undo, P_X10_undo, Ans, Anm, nI_1, show (2 : Int32) = nI 2 by decide, show (3 : Int32) = nI 3 by decide, nI_add, eq_true v1, eq_true v2, eq_true v3, ncl (show i + 1 < 2 ^ 31 by omega), ncl (show i + 2 < 2 ^ 31 by omega), ncl (show i + 3 < 2 ^ 31 by omega), lg_cmp_eq, true_implies, not_true_eq_false, false_implies, not_false_eq_true]
  exact ⟨g, hC, hO, fun I1 L1 f1 l1 c1 => ⟨g, hM.f8 f1 l1, hO, fun I2 L2 f2 l2 c2 => ⟨fun _ => hnx I2 L2 _ (c1.i f2 (l2 0 (by omega))) c2 (kUndo hO), fun h => absurd rfl h⟩⟩⟩
