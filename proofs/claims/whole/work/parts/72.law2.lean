/-! THE LAW, case by case, on -/
def il_L15 : List (Nat × Instr × Nat) := [(501, .aload_n 1, 1), (502, .aload_n 0, 1), (503, .iload_n 3, 1), (504, .iconst 1, 1), (505, .iadd, 1), (506, .iaload, 1), (507, .aload_n 0, 1), (508, .iload_n 3, 1), (509, .iconst 2, 1), (510, .iadd, 1), (511, .iaload, 1), (512, .aload_n 0, 1), (513, .iload_n 3, 1), (514, .iconst 3, 1), (515, .iadd, 1), (516, .iaload, 1), (517, .invokevirtual 76, 3), (520, .aload_n 2, 1), (521, .aload_n 0, 1), (522, .iload_n 3, 1), (523, .iconst 1, 1), (524, .iadd, 1), (525, .iaload, 1), (526, .aload_n 0, 1), (527, .iload_n 3, 1), (528, .iconst 2, 1), (529, .iadd, 1), (530, .iaload, 1), (531, .aload_n 0, 1), (532, .iload_n 3, 1), (533, .iconst 3, 1), (534, .iadd, 1), (535, .iaload, 1), (536, .invokevirtual 80, 3), (539, .if_icmp .eq 381, 3), (542, .iconst 0, 1), (543, .ireturn, 1), (920, .iinc 3 4, 3)]
set_option maxRecDepth 100000 in
theorem dl_L15 (sq : Nat × (Nat → Int32)) : ∀ q ∈ il_L15, decode (mt_L_law sq).1 q.1 = .ok q.2 := (by decide +kernel : ∀ q ∈ il_L15, decode cL_law q.1 = .ok q.2)
def tb_L15 (sq : Nat × (Nat → Int32)) : Tb := [(501, x_al 502 1, false),
  (502, x_al 503 0, false),
  (503, x_il 504 3, false),
  (504, x_c 505 (.int 1), false),
  (505, x_ii 506 (fun x y : Int32 => x + y), false),
  (506, x_sa 507 sq, false),
  (507, x_al 508 0, false),
  (508, x_il 509 3, false),
  (509, x_c 510 (.int 2), false),
  (510, x_ii 511 (fun x y : Int32 => x + y), false),
  (511, x_sa 512 sq, false),
  (512, x_al 513 0, false),
  (513, x_il 514 3, false),
  (514, x_c 515 (.int 3), false),
  (515, x_ii 516 (fun x y : Int32 => x + y), false),
  (516, x_sa 517 sq, false),
  (517, x_cV 9 3 P_X9_traps 520, false),
  (520, x_al 521 2, false),
  (521, x_al 522 0, false),
  (522, x_il 523 3, false),
  (523, x_c 524 (.int 1), false),
  (524, x_ii 525 (fun x y : Int32 => x + y), false),
  (525, x_sa 526 sq, false),
  (526, x_al 527 0, false),
  (527, x_il 528 3, false),
  (528, x_c 529 (.int 2), false),
  (529, x_ii 530 (fun x y : Int32 => x + y), false),
  (530, x_sa 531 sq, false),
  (531, x_al 532 0, false),
  (532, x_il 533 3, false),
  (533, x_c 534 (.int 3), false),
  (534, x_ii 535 (fun x y : Int32 => x + y), false),
  (535, x_sa 536 sq, false),
  (536, x_cV 10 3 P_X10_traps 539, false),
  (539, x_ic 920 542 (fun x y : Int32 => x = y), false),
  (542, x_c 543 (.int 0), false),
  (543, x_rZ, false),
  (920, x_inc 923 3 4, true)]
set_option maxRecDepth 100000 in
theorem tk_L15 (sq : Nat × (Nat → Int32)) : TbOk (mt_L_law sq) (tb_L15 sq) :=
  tkc (s_aload_n (at_ (dl_L15 sq) 0 (ins := .aload_n 1) rfl)) (
  tkc (s_aload_n (at_ (dl_L15 sq) 1 (ins := .aload_n 0) rfl)) (
  tkc (s_iload_n (at_ (dl_L15 sq) 2 (ins := .iload_n 3) rfl)) (
  tkc (s_iconst (at_ (dl_L15 sq) 3 (ins := .iconst 1) rfl) (by first | rfl | decide)) (
  tkc (s_iadd (at_ (dl_L15 sq) 4 (ins := .iadd) rfl)) (
  tkc (s_sa (at_ (dl_L15 sq) 5 (ins := .iaload) rfl) rfl) (
  tkc (s_aload_n (at_ (dl_L15 sq) 6 (ins := .aload_n 0) rfl)) (
  tkc (s_iload_n (at_ (dl_L15 sq) 7 (ins := .iload_n 3) rfl)) (
  tkc (s_iconst (at_ (dl_L15 sq) 8 (ins := .iconst 2) rfl) (by first | rfl | decide)) (
  tkc (s_iadd (at_ (dl_L15 sq) 9 (ins := .iadd) rfl)) (
  tkc (s_sa (at_ (dl_L15 sq) 10 (ins := .iaload) rfl) rfl) (
  tkc (s_aload_n (at_ (dl_L15 sq) 11 (ins := .aload_n 0) rfl)) (
  tkc (s_iload_n (at_ (dl_L15 sq) 12 (ins := .iload_n 3) rfl)) (
  tkc (s_iconst (at_ (dl_L15 sq) 13 (ins := .iconst 3) rfl) (by first | rfl | decide)) (
  tkc (s_iadd (at_ (dl_L15 sq) 14 (ins := .iadd) rfl)) (
  tkc (s_sa (at_ (dl_L15 sq) 15 (ins := .iaload) rfl) rfl) (
  tkc (s_cV ok_X9_traps (at_ (dl_L15 sq) 16 (ins := .invokevirtual 76) rfl) (by decide) rfl (show Cond.methodLink RL 76 yX9_traps ∈ tblG from (tg 549 (by decide +kernel) (by decide +kernel))) (tg 550 (by decide +kernel) (by decide +kernel)) (tg 551 (by decide +kernel) (by decide +kernel)) (tg 42 (by decide +kernel) (by decide +kernel)) (tg 552 (by decide +kernel) (by decide +kernel)) (⟨by decide, by decide, by decide +kernel⟩) (⟨(Nat.le_of_ble_eq_true rfl), (Nat.le_of_ble_eq_true rfl)⟩) rfl rfl) (
  tkc (s_aload_n (at_ (dl_L15 sq) 17 (ins := .aload_n 2) rfl)) (
  tkc (s_aload_n (at_ (dl_L15 sq) 18 (ins := .aload_n 0) rfl)) (
  tkc (s_iload_n (at_ (dl_L15 sq) 19 (ins := .iload_n 3) rfl)) (
  tkc (s_iconst (at_ (dl_L15 sq) 20 (ins := .iconst 1) rfl) (by first | rfl | decide)) (
  tkc (s_iadd (at_ (dl_L15 sq) 21 (ins := .iadd) rfl)) (
  tkc (s_sa (at_ (dl_L15 sq) 22 (ins := .iaload) rfl) rfl) (
  tkc (s_aload_n (at_ (dl_L15 sq) 23 (ins := .aload_n 0) rfl)) (
  tkc (s_iload_n (at_ (dl_L15 sq) 24 (ins := .iload_n 3) rfl)) (
  tkc (s_iconst (at_ (dl_L15 sq) 25 (ins := .iconst 2) rfl) (by first | rfl | decide)) (
  tkc (s_iadd (at_ (dl_L15 sq) 26 (ins := .iadd) rfl)) (
  tkc (s_sa (at_ (dl_L15 sq) 27 (ins := .iaload) rfl) rfl) (
  tkc (s_aload_n (at_ (dl_L15 sq) 28 (ins := .aload_n 0) rfl)) (
  tkc (s_iload_n (at_ (dl_L15 sq) 29 (ins := .iload_n 3) rfl)) (
  tkc (s_iconst (at_ (dl_L15 sq) 30 (ins := .iconst 3) rfl) (by first | rfl | decide)) (
  tkc (s_iadd (at_ (dl_L15 sq) 31 (ins := .iadd) rfl)) (
  tkc (s_sa (at_ (dl_L15 sq) 32 (ins := .iaload) rfl) rfl) (
  tkc (s_cV ok_X10_traps (at_ (dl_L15 sq) 33 (ins := .invokevirtual 80) rfl) (by decide) rfl (show Cond.methodLink RL 80 yX10_traps ∈ tblG from (tg 942 (by decide +kernel) (by decide +kernel))) (tg 943 (by decide +kernel) (by decide +kernel)) (tg 944 (by decide +kernel) (by decide +kernel)) (tg 51 (by decide +kernel) (by decide +kernel)) (tg 945 (by decide +kernel) (by decide +kernel)) (⟨by decide, by decide, by decide +kernel⟩) (⟨(Nat.le_of_ble_eq_true rfl), (Nat.le_of_ble_eq_true rfl)⟩) rfl rfl) (
  tkc (s_ic_eq (at_ (dl_L15 sq) 34 (ins := .if_icmp .eq 381) rfl) (by decide)) (
  tkc (s_iconst (at_ (dl_L15 sq) 35 (ins := .iconst 0) rfl) (by first | rfl | decide)) (
  tkc (s_rZ (at_ (dl_L15 sq) 36 (ins := .ireturn) rfl) rfl) (
  tkc (s_iinc (at_ (dl_L15 sq) 37 (ins := .iinc 3 4) rfl) (Nat.le_of_ble_eq_true rfl) (by first | rfl | decide)) ( tk0))))))))))))))))))))))))))))))))))))))
theorem lf_L15 (sq : Nat × (Nat → Int32)) : lk (tb_L15 sq) 501 = (x_al 502 1, false) ∧ lk (tb_L15 sq) 502 = (x_al 503 0, false) ∧ lk (tb_L15 sq) 503 = (x_il 504 3, false) ∧ lk (tb_L15 sq) 504 = (x_c 505 (.int 1), false) ∧ lk (tb_L15 sq) 505 = (x_ii 506 (fun x y : Int32 => x + y), false) ∧ lk (tb_L15 sq) 506 = (x_sa 507 sq, false) ∧ lk (tb_L15 sq) 507 = (x_al 508 0, false) ∧ lk (tb_L15 sq) 508 = (x_il 509 3, false) ∧ lk (tb_L15 sq) 509 = (x_c 510 (.int 2), false) ∧ lk (tb_L15 sq) 510 = (x_ii 511 (fun x y : Int32 => x + y), false) ∧ lk (tb_L15 sq) 511 = (x_sa 512 sq, false) ∧ lk (tb_L15 sq) 512 = (x_al 513 0, false) ∧ lk (tb_L15 sq) 513 = (x_il 514 3, false) ∧ lk (tb_L15 sq) 514 = (x_c 515 (.int 3), false) ∧ lk (tb_L15 sq) 515 = (x_ii 516 (fun x y : Int32 => x + y), false) ∧ lk (tb_L15 sq) 516 = (x_sa 517 sq, false) ∧ lk (tb_L15 sq) 517 = (x_cV 9 3 P_X9_traps 520, false) ∧ lk (tb_L15 sq) 520 = (x_al 521 2, false) ∧ lk (tb_L15 sq) 521 = (x_al 522 0, false) ∧ lk (tb_L15 sq) 522 = (x_il 523 3, false) ∧ lk (tb_L15 sq) 523 = (x_c 524 (.int 1), false) ∧ lk (tb_L15 sq) 524 = (x_ii 525 (fun x y : Int32 => x + y), false) ∧ lk (tb_L15 sq) 525 = (x_sa 526 sq, false) ∧ lk (tb_L15 sq) 526 = (x_al 527 0, false) ∧ lk (tb_L15 sq) 527 = (x_il 528 3, false) ∧ lk (tb_L15 sq) 528 = (x_c 529 (.int 2), false) ∧ lk (tb_L15 sq) 529 = (x_ii 530 (fun x y : Int32 => x + y), false) ∧ lk (tb_L15 sq) 530 = (x_sa 531 sq, false) ∧ lk (tb_L15 sq) 531 = (x_al 532 0, false) ∧ lk (tb_L15 sq) 532 = (x_il 533 3, false) ∧ lk (tb_L15 sq) 533 = (x_c 534 (.int 3), false) ∧ lk (tb_L15 sq) 534 = (x_ii 535 (fun x y : Int32 => x + y), false) ∧ lk (tb_L15 sq) 535 = (x_sa 536 sq, false) ∧ lk (tb_L15 sq) 536 = (x_cV 10 3 P_X10_traps 539, false) ∧ lk (tb_L15 sq) 539 = (x_ic 920 542 (fun x y : Int32 => x = y), false) ∧ lk (tb_L15 sq) 542 = (x_c 543 (.int 0), false) ∧ lk (tb_L15 sq) 543 = (x_rZ, false) ∧ lk (tb_L15 sq) 920 = (x_inc 923 3 4, true) := ⟨rfl, rfl, rfl, rfl, rfl, rfl, rfl, rfl, rfl, rfl, rfl, rfl, rfl, rfl, rfl, rfl, rfl, rfl, rfl, rfl, rfl, rfl, rfl, rfl, rfl, rfl, rfl, rfl, rfl, rfl, rfl, rfl, rfl, rfl, rfl, rfl, rfl, rfl⟩
set_option maxRecDepth 20000 in
theorem lc_15 {sq : Nat × (Nat → Int32)} {R : Option Value → Mem → Prop} {S : Sh} {I : MI} {L : Nat → Nat → Int64} {g : GS} {i : Nat} (h4 : i + 4 ≤ sq.1) (h2 : sq.1 ≤ 2048) (hC : CR S I L g) (hM : MR S I L g) (hO : GOk g) (hnx : ∀ I' L' g', CR S I' L' g' → MR S I' L' g' → GOk g' → J (mt_L_law sq) R 920 [some (.ref 9002), some (.ref 0), some (.ref 108), some (.int (nI i))] [] (S, I', L')) : J (mt_L_law sq) R 501 [some (.ref 9002), some (.ref 0), some (.ref 108), some (.int (nI i))] [] (S, I, L) := by
  have t0 : tO S 0 9 := hC.1.1.1
  have t8 : tO S 108 10 := hM.1.1
  have v1 : vp_in (nI (i + 1)) sq.1 := vp_in_nI (by omega) (by omega)
  have v2 : vp_in (nI (i + 2)) sq.1 := vp_in_nI (by omega) (by omega)
  have v3 : vp_in (nI (i + 3)) sq.1 := vp_in_nI (by omega) (by omega)
  refine J.of (tk_L15 sq) 200 fun ρ hρ => ?_
  simp only [hρ, x_c, x_il, x_ll, x_al, x_is, x_as, x_ls, x_inc, x_ii, x_iq, x_i1, x_l2, x_lq, x_lh, x_i2l, x_l2i, x_lcmp, x_dup, x_dup2, x_pop, x_if, x_ifn, x_ic, x_icn, x_go, x_sw, swc, x_l01, x_mx, x_gI, x_gL, x_gR, x_pI, x_pZ, x_pL, x_pR, x_ia, x_za, x_aa, x_ias, x_zas, x_aas, x_fac, x_fa, x_slen, x_sa, x_ac, x_oi, x_new, x_na, x_cS, x_cV, x_cI, x_rI, x_rZ, x_rL, x_r0, pa, short, oc, lg, lset, lset2, wide, cond_true, cond_false, true_and, and_true, ↓reduceIte, Bool.false_eq_true, true_or, or_true, lf_L15, t0, t8, P_X9_traps, P_X10_traps, Ans, Anm, nI_1, show (2 : Int32) = nI 2 by decide, show (3 : Int32) = nI 3 by decide, nI_add, eq_true v1, eq_true v2, eq_true v3, ncl (show i + 1 < 2 ^ 31 by omega), ncl (show i + 2 < 2 ^ 31 by omega), ncl (show i + 3 < 2 ^ 31 by omega), lg_cmp_eq, true_implies, not_true_eq_false, false_implies, not_false_eq_true]
  exact ⟨g, hC, hO, fun I1 L1 f1 l1 c1 => ⟨g, hM.f8 f1 l1, hO, fun I2 L2 f2 l2 c2 => ⟨fun _ => hnx I2 L2 _ (c1.i f2 (l2 0 (by omega))) c2 hO, fun h => absurd rfl h⟩⟩⟩
def il_L16 : List (Nat × Instr × Nat) := [(544, .aload_n 1, 1), (545, .aload_n 0, 1), (546, .iload_n 3, 1), (547, .iconst 1, 1), (548, .iadd, 1), (549, .iaload, 1), (550, .invokevirtual 81, 3), (553, .aload_n 2, 1), (554, .aload_n 0, 1), (555, .iload_n 3, 1), (556, .iconst 1, 1), (557, .iadd, 1), (558, .iaload, 1), (559, .invokevirtual 84, 3), (562, .if_icmp .eq 358, 3), (565, .iconst 0, 1), (566, .ireturn, 1), (920, .iinc 3 4, 3)]
set_option maxRecDepth 100000 in
theorem dl_L16 (sq : Nat × (Nat → Int32)) : ∀ q ∈ il_L16, decode (mt_L_law sq).1 q.1 = .ok q.2 := (by decide +kernel : ∀ q ∈ il_L16, decode cL_law q.1 = .ok q.2)
def tb_L16 (sq : Nat × (Nat → Int32)) : Tb := [(544, x_al 545 1, false),
  (545, x_al 546 0, false),
  (546, x_il 547 3, false),
  (547, x_c 548 (.int 1), false),
  (548, x_ii 549 (fun x y : Int32 => x + y), false),
  (549, x_sa 550 sq, false),
  (550, x_cV 9 1 P_X9_same 553, false),
  (553, x_al 554 2, false),
  (554, x_al 555 0, false),
  (555, x_il 556 3, false),
  (556, x_c 557 (.int 1), false),
  (557, x_ii 558 (fun x y : Int32 => x + y), false),
  (558, x_sa 559 sq, false),
  (559, x_cV 10 1 P_X10_same 562, false),
  (562, x_ic 920 565 (fun x y : Int32 => x = y), false),
  (565, x_c 566 (.int 0), false),
  (566, x_rZ, false),
  (920, x_inc 923 3 4, true)]
set_option maxRecDepth 100000 in
theorem tk_L16 (sq : Nat × (Nat → Int32)) : TbOk (mt_L_law sq) (tb_L16 sq) :=
  tkc (s_aload_n (at_ (dl_L16 sq) 0 (ins := .aload_n 1) rfl)) (
  tkc (s_aload_n (at_ (dl_L16 sq) 1 (ins := .aload_n 0) rfl)) (
  tkc (s_iload_n (at_ (dl_L16 sq) 2 (ins := .iload_n 3) rfl)) (
  tkc (s_iconst (at_ (dl_L16 sq) 3 (ins := .iconst 1) rfl) (by first | rfl | decide)) (
  tkc (s_iadd (at_ (dl_L16 sq) 4 (ins := .iadd) rfl)) (
  tkc (s_sa (at_ (dl_L16 sq) 5 (ins := .iaload) rfl) rfl) (
  tkc (s_cV ok_X9_same (at_ (dl_L16 sq) 6 (ins := .invokevirtual 81) rfl) (by decide) rfl (show Cond.methodLink RL 81 yX9_same ∈ tblG from (tg 565 (by decide +kernel) (by decide +kernel))) (tg 566 (by decide +kernel) (by decide +kernel)) (tg 567 (by decide +kernel) (by decide +kernel)) (tg 42 (by decide +kernel) (by decide +kernel)) (tg 568 (by decide +kernel) (by decide +kernel)) (⟨by decide, by decide, by decide +kernel⟩) (⟨(Nat.le_of_ble_eq_true rfl), (Nat.le_of_ble_eq_true rfl)⟩) rfl rfl) (
  tkc (s_aload_n (at_ (dl_L16 sq) 7 (ins := .aload_n 2) rfl)) (
  tkc (s_aload_n (at_ (dl_L16 sq) 8 (ins := .aload_n 0) rfl)) (
  tkc (s_iload_n (at_ (dl_L16 sq) 9 (ins := .iload_n 3) rfl)) (
  tkc (s_iconst (at_ (dl_L16 sq) 10 (ins := .iconst 1) rfl) (by first | rfl | decide)) (
  tkc (s_iadd (at_ (dl_L16 sq) 11 (ins := .iadd) rfl)) (
  tkc (s_sa (at_ (dl_L16 sq) 12 (ins := .iaload) rfl) rfl) (
  tkc (s_cV ok_X10_same (at_ (dl_L16 sq) 13 (ins := .invokevirtual 84) rfl) (by decide) rfl (show Cond.methodLink RL 84 yX10_same ∈ tblG from (tg 947 (by decide +kernel) (by decide +kernel))) (tg 948 (by decide +kernel) (by decide +kernel)) (tg 949 (by decide +kernel) (by decide +kernel)) (tg 51 (by decide +kernel) (by decide +kernel)) (tg 950 (by decide +kernel) (by decide +kernel)) (⟨by decide, by decide, by decide +kernel⟩) (⟨(Nat.le_of_ble_eq_true rfl), (Nat.le_of_ble_eq_true rfl)⟩) rfl rfl) (
  tkc (s_ic_eq (at_ (dl_L16 sq) 14 (ins := .if_icmp .eq 358) rfl) (by decide)) (
  tkc (s_iconst (at_ (dl_L16 sq) 15 (ins := .iconst 0) rfl) (by first | rfl | decide)) (
  tkc (s_rZ (at_ (dl_L16 sq) 16 (ins := .ireturn) rfl) rfl) (
  tkc (s_iinc (at_ (dl_L16 sq) 17 (ins := .iinc 3 4) rfl) (Nat.le_of_ble_eq_true rfl) (by first | rfl | decide)) ( tk0))))))))))))))))))
theorem lf_L16 (sq : Nat × (Nat → Int32)) : lk (tb_L16 sq) 544 = (x_al 545 1, false) ∧ lk (tb_L16 sq) 545 = (x_al 546 0, false) ∧ lk (tb_L16 sq) 546 = (x_il 547 3, false) ∧ lk (tb_L16 sq) 547 = (x_c 548 (.int 1), false) ∧ lk (tb_L16 sq) 548 = (x_ii 549 (fun x y : Int32 => x + y), false) ∧ lk (tb_L16 sq) 549 = (x_sa 550 sq, false) ∧ lk (tb_L16 sq) 550 = (x_cV 9 1 P_X9_same 553, false) ∧ lk (tb_L16 sq) 553 = (x_al 554 2, false) ∧ lk (tb_L16 sq) 554 = (x_al 555 0, false) ∧ lk (tb_L16 sq) 555 = (x_il 556 3, false) ∧ lk (tb_L16 sq) 556 = (x_c 557 (.int 1), false) ∧ lk (tb_L16 sq) 557 = (x_ii 558 (fun x y : Int32 => x + y), false) ∧ lk (tb_L16 sq) 558 = (x_sa 559 sq, false) ∧ lk (tb_L16 sq) 559 = (x_cV 10 1 P_X10_same 562, false) ∧ lk (tb_L16 sq) 562 = (x_ic 920 565 (fun x y : Int32 => x = y), false) ∧ lk (tb_L16 sq) 565 = (x_c 566 (.int 0), false) ∧ lk (tb_L16 sq) 566 = (x_rZ, false) ∧ lk (tb_L16 sq) 920 = (x_inc 923 3 4, true) := ⟨rfl, rfl, rfl, rfl, rfl, rfl, rfl, rfl, rfl, rfl, rfl, rfl, rfl, rfl, rfl, rfl, rfl, rfl⟩
set_option maxRecDepth 20000 in
theorem lc_16 {sq : Nat × (Nat → Int32)} {R : Option Value → Mem → Prop} {S : Sh} {I : MI} {L : Nat → Nat → Int64} {g : GS} {i : Nat} (h4 : i + 4 ≤ sq.1) (h2 : sq.1 ≤ 2048) (hC : CR S I L g) (hM : MR S I L g) (hO : GOk g) (hnx : ∀ I' L' g', CR S I' L' g' → MR S I' L' g' → GOk g' → J (mt_L_law sq) R 920 [some (.ref 9002), some (.ref 0), some (.ref 108), some (.int (nI i))] [] (S, I', L')) : J (mt_L_law sq) R 544 [some (.ref 9002), some (.ref 0), some (.ref 108), some (.int (nI i))] [] (S, I, L) := by
  have t0 : tO S 0 9 := hC.1.1.1
  have t8 : tO S 108 10 := hM.1.1
  have v1 : vp_in (nI (i + 1)) sq.1 := vp_in_nI (by omega) (by omega)
  have v2 : vp_in (nI (i + 2)) sq.1 := vp_in_nI (by omega) (by omega)
  have v3 : vp_in (nI (i + 3)) sq.1 := vp_in_nI (by omega) (by omega)
  refine J.of (tk_L16 sq) 200 fun ρ hρ => ?_
  simp only [hρ, x_c, x_il, x_ll, x_al, x_is, x_as, x_ls, x_inc, x_ii, x_iq, x_i1, x_l2, x_lq, x_lh, x_i2l, x_l2i, x_lcmp, x_dup, x_dup2, x_pop, x_if, x_ifn, x_ic, x_icn, x_go, x_sw, swc, x_l01, x_mx, x_gI, x_gL, x_gR, x_pI, x_pZ, x_pL, x_pR, x_ia, x_za, x_aa, x_ias, x_zas, x_aas, x_fac, x_fa, x_slen, x_sa, x_ac, x_oi, x_new, x_na, x_cS, x_cV, x_cI, x_rI, x_rZ, x_rL, x_r0, pa, short, oc, lg, lset, lset2, wide, cond_true, cond_false, true_and, and_true, ↓reduceIte, Bool.false_eq_true, true_or, or_true, lf_L16, t0, t8, P_X9_same, P_X10_same, Ans, Anm, nI_1, show (2 : Int32) = nI 2 by decide, show (3 : Int32) = nI 3 by decide, nI_add, eq_true v1, eq_true v2, eq_true v3, ncl (show i + 1 < 2 ^ 31 by omega), ncl (show i + 2 < 2 ^ 31 by omega), ncl (show i + 3 < 2 ^ 31 by omega), lg_cmp_eq, true_implies, not_true_eq_false, false_implies, not_false_eq_true]
  exact ⟨g, hC, hO, fun I1 L1 f1 l1 c1 => ⟨g, hM.f8 f1 l1, hO, fun I2 L2 f2 l2 c2 => ⟨fun _ => hnx I2 L2 _ (c1.i f2 (l2 0 (by omega))) c2 hO, fun h => absurd rfl h⟩⟩⟩
def il_L17 : List (Nat × Instr × Nat) := [(567, .aload_n 1, 1), (568, .aload_n 0, 1), (569, .iload_n 3, 1), (570, .iconst 1, 1), (571, .iadd, 1), (572, .iaload, 1), (573, .aload_n 0, 1), (574, .iload_n 3, 1), (575, .iconst 2, 1), (576, .iadd, 1), (577, .iaload, 1), (578, .i2l, 1), (579, .bipush 32, 2), (581, .lshl, 1), (582, .aload_n 0, 1), (583, .iload_n 3, 1), (584, .iconst 3, 1), (585, .iadd, 1), (586, .iaload, 1), (587, .i2l, 1), (588, .ldc2_w 85, 3), (591, .land, 1), (592, .lor, 1), (593, .invokevirtual 87, 3), (596, .aload_n 2, 1), (597, .aload_n 0, 1), (598, .iload_n 3, 1), (599, .iconst 1, 1), (600, .iadd, 1), (601, .iaload, 1), (602, .aload_n 0, 1), (603, .iload_n 3, 1), (604, .iconst 2, 1), (605, .iadd, 1), (606, .iaload, 1), (607, .i2l, 1), (608, .bipush 32, 2), (610, .lshl, 1), (611, .aload_n 0, 1), (612, .iload_n 3, 1), (613, .iconst 3, 1), (614, .iadd, 1), (615, .iaload, 1), (616, .i2l, 1), (617, .ldc2_w 85, 3), (620, .land, 1), (621, .lor, 1), (622, .invokevirtual 91, 3), (625, .if_icmp .eq 295, 3), (628, .iconst 0, 1), (629, .ireturn, 1), (920, .iinc 3 4, 3)]
set_option maxRecDepth 100000 in
theorem dl_L17 (sq : Nat × (Nat → Int32)) : ∀ q ∈ il_L17, decode (mt_L_law sq).1 q.1 = .ok q.2 := (by decide +kernel : ∀ q ∈ il_L17, decode cL_law q.1 = .ok q.2)
def tb_L17 (sq : Nat × (Nat → Int32)) : Tb := [(567, x_al 568 1, false),
  (568, x_al 569 0, false),
  (569, x_il 570 3, false),
  (570, x_c 571 (.int 1), false),
  (571, x_ii 572 (fun x y : Int32 => x + y), false),
  (572, x_sa 573 sq, false),
  (573, x_al 574 0, false),
  (574, x_il 575 3, false),
  (575, x_c 576 (.int 2), false),
  (576, x_ii 577 (fun x y : Int32 => x + y), false),
  (577, x_sa 578 sq, false),
  (578, x_i2l 579, false),
  (579, x_c 581 (.int 32), false),
  (581, x_lh 582 (fun (x : Int64) (y : Int32) => x <<< (y.toInt64 &&& 63)), false),
  (582, x_al 583 0, false),
  (583, x_il 584 3, false),
  (584, x_c 585 (.int 3), false),
  (585, x_ii 586 (fun x y : Int32 => x + y), false),
  (586, x_sa 587 sq, false),
  (587, x_i2l 588, false),
  (588, x_c 591 (.long 4294967295), false),
  (591, x_l2 592 (fun x y : Int64 => x &&& y), false),
  (592, x_l2 593 (fun x y : Int64 => x ||| y), false),
  (593, x_cV 9 2 P_X9_judge 596, false),
  (596, x_al 597 2, false),
  (597, x_al 598 0, false),
  (598, x_il 599 3, false),
  (599, x_c 600 (.int 1), false),
  (600, x_ii 601 (fun x y : Int32 => x + y), false),
  (601, x_sa 602 sq, false),
  (602, x_al 603 0, false),
  (603, x_il 604 3, false),
  (604, x_c 605 (.int 2), false),
  (605, x_ii 606 (fun x y : Int32 => x + y), false),
  (606, x_sa 607 sq, false),
  (607, x_i2l 608, false),
  (608, x_c 610 (.int 32), false),
  (610, x_lh 611 (fun (x : Int64) (y : Int32) => x <<< (y.toInt64 &&& 63)), false),
  (611, x_al 612 0, false),
  (612, x_il 613 3, false),
  (613, x_c 614 (.int 3), false),
  (614, x_ii 615 (fun x y : Int32 => x + y), false),
  (615, x_sa 616 sq, false),
  (616, x_i2l 617, false),
  (617, x_c 620 (.long 4294967295), false),
  (620, x_l2 621 (fun x y : Int64 => x &&& y), false),
  (621, x_l2 622 (fun x y : Int64 => x ||| y), false),
  (622, x_cV 10 2 P_X10_judge 625, false),
  (625, x_ic 920 628 (fun x y : Int32 => x = y), false),
  (628, x_c 629 (.int 0), false),
  (629, x_rZ, false),
  (920, x_inc 923 3 4, true)]
set_option maxRecDepth 100000 in
theorem tk_L17 (sq : Nat × (Nat → Int32)) : TbOk (mt_L_law sq) (tb_L17 sq) :=
  tkc (s_aload_n (at_ (dl_L17 sq) 0 (ins := .aload_n 1) rfl)) (
  tkc (s_aload_n (at_ (dl_L17 sq) 1 (ins := .aload_n 0) rfl)) (
  tkc (s_iload_n (at_ (dl_L17 sq) 2 (ins := .iload_n 3) rfl)) (
  tkc (s_iconst (at_ (dl_L17 sq) 3 (ins := .iconst 1) rfl) (by first | rfl | decide)) (
  tkc (s_iadd (at_ (dl_L17 sq) 4 (ins := .iadd) rfl)) (
  tkc (s_sa (at_ (dl_L17 sq) 5 (ins := .iaload) rfl) rfl) (
  tkc (s_aload_n (at_ (dl_L17 sq) 6 (ins := .aload_n 0) rfl)) (
  tkc (s_iload_n (at_ (dl_L17 sq) 7 (ins := .iload_n 3) rfl)) (
  tkc (s_iconst (at_ (dl_L17 sq) 8 (ins := .iconst 2) rfl) (by first | rfl | decide)) (
  tkc (s_iadd (at_ (dl_L17 sq) 9 (ins := .iadd) rfl)) (
  tkc (s_sa (at_ (dl_L17 sq) 10 (ins := .iaload) rfl) rfl) (
  tkc (s_i2l (at_ (dl_L17 sq) 11 (ins := .i2l) rfl)) (
  tkc (s_bipush (at_ (dl_L17 sq) 12 (ins := .bipush 32) rfl) (by first | rfl | decide)) (
  tkc (s_lshl (at_ (dl_L17 sq) 13 (ins := .lshl) rfl)) (
  tkc (s_aload_n (at_ (dl_L17 sq) 14 (ins := .aload_n 0) rfl)) (
  tkc (s_iload_n (at_ (dl_L17 sq) 15 (ins := .iload_n 3) rfl)) (
  tkc (s_iconst (at_ (dl_L17 sq) 16 (ins := .iconst 3) rfl) (by first | rfl | decide)) (
  tkc (s_iadd (at_ (dl_L17 sq) 17 (ins := .iadd) rfl)) (
  tkc (s_sa (at_ (dl_L17 sq) 18 (ins := .iaload) rfl) rfl) (
  tkc (s_i2l (at_ (dl_L17 sq) 19 (ins := .i2l) rfl)) (
  tkc (s_ldc2 (at_ (dl_L17 sq) 20 (ins := .ldc2_w 85) rfl) (show Cond.constantLong RL 85 4294967295 ∈ tblG from (tg 1018 (by decide +kernel) (by decide +kernel)))) (
  tkc (s_land (at_ (dl_L17 sq) 21 (ins := .land) rfl)) (
  tkc (s_lor (at_ (dl_L17 sq) 22 (ins := .lor) rfl)) (
  tkc (s_cV ok_X9_judge (at_ (dl_L17 sq) 23 (ins := .invokevirtual 87) rfl) (by decide) rfl (show Cond.methodLink RL 87 yX9_judge ∈ tblG from (tg 574 (by decide +kernel) (by decide +kernel))) (tg 575 (by decide +kernel) (by decide +kernel)) (tg 576 (by decide +kernel) (by decide +kernel)) (tg 42 (by decide +kernel) (by decide +kernel)) (tg 577 (by decide +kernel) (by decide +kernel)) (⟨by decide, by decide, by decide +kernel⟩) (⟨(Nat.le_of_ble_eq_true rfl), (Nat.le_of_ble_eq_true rfl)⟩) rfl rfl) (
  tkc (s_aload_n (at_ (dl_L17 sq) 24 (ins := .aload_n 2) rfl)) (
  tkc (s_aload_n (at_ (dl_L17 sq) 25 (ins := .aload_n 0) rfl)) (
  tkc (s_iload_n (at_ (dl_L17 sq) 26 (ins := .iload_n 3) rfl)) (
  tkc (s_iconst (at_ (dl_L17 sq) 27 (ins := .iconst 1) rfl) (by first | rfl | decide)) (
  tkc (s_iadd (at_ (dl_L17 sq) 28 (ins := .iadd) rfl)) (
  tkc (s_sa (at_ (dl_L17 sq) 29 (ins := .iaload) rfl) rfl) (
  tkc (s_aload_n (at_ (dl_L17 sq) 30 (ins := .aload_n 0) rfl)) (
  tkc (s_iload_n (at_ (dl_L17 sq) 31 (ins := .iload_n 3) rfl)) (
  tkc (s_iconst (at_ (dl_L17 sq) 32 (ins := .iconst 2) rfl) (by first | rfl | decide)) (
  tkc (s_iadd (at_ (dl_L17 sq) 33 (ins := .iadd) rfl)) (
  tkc (s_sa (at_ (dl_L17 sq) 34 (ins := .iaload) rfl) rfl) (
  tkc (s_i2l (at_ (dl_L17 sq) 35 (ins := .i2l) rfl)) (
  tkc (s_bipush (at_ (dl_L17 sq) 36 (ins := .bipush 32) rfl) (by first | rfl | decide)) (
  tkc (s_lshl (at_ (dl_L17 sq) 37 (ins := .lshl) rfl)) (
  tkc (s_aload_n (at_ (dl_L17 sq) 38 (ins := .aload_n 0) rfl)) (
  tkc (s_iload_n (at_ (dl_L17 sq) 39 (ins := .iload_n 3) rfl)) (
  tkc (s_iconst (at_ (dl_L17 sq) 40 (ins := .iconst 3) rfl) (by first | rfl | decide)) (
  tkc (s_iadd (at_ (dl_L17 sq) 41 (ins := .iadd) rfl)) (
  tkc (s_sa (at_ (dl_L17 sq) 42 (ins := .iaload) rfl) rfl) (
  tkc (s_i2l (at_ (dl_L17 sq) 43 (ins := .i2l) rfl)) (
  tkc (s_ldc2 (at_ (dl_L17 sq) 44 (ins := .ldc2_w 85) rfl) (show Cond.constantLong RL 85 4294967295 ∈ tblG from (tg 1018 (by decide +kernel) (by decide +kernel)))) (
  tkc (s_land (at_ (dl_L17 sq) 45 (ins := .land) rfl)) (
  tkc (s_lor (at_ (dl_L17 sq) 46 (ins := .lor) rfl)) (
  tkc (s_cV ok_X10_judge (at_ (dl_L17 sq) 47 (ins := .invokevirtual 91) rfl) (by decide) rfl (show Cond.methodLink RL 91 yX10_judge ∈ tblG from (tg 951 (by decide +kernel) (by decide +kernel))) (tg 952 (by decide +kernel) (by decide +kernel)) (tg 953 (by decide +kernel) (by decide +kernel)) (tg 51 (by decide +kernel) (by decide +kernel)) (tg 954 (by decide +kernel) (by decide +kernel)) (⟨by decide, by decide, by decide +kernel⟩) (⟨(Nat.le_of_ble_eq_true rfl), (Nat.le_of_ble_eq_true rfl)⟩) rfl rfl) (
  tkc (s_ic_eq (at_ (dl_L17 sq) 48 (ins := .if_icmp .eq 295) rfl) (by decide)) (
  tkc (s_iconst (at_ (dl_L17 sq) 49 (ins := .iconst 0) rfl) (by first | rfl | decide)) (
  tkc (s_rZ (at_ (dl_L17 sq) 50 (ins := .ireturn) rfl) rfl) (
  tkc (s_iinc (at_ (dl_L17 sq) 51 (ins := .iinc 3 4) rfl) (Nat.le_of_ble_eq_true rfl) (by first | rfl | decide)) ( tk0))))))))))))))))))))))))))))))))))))))))))))))))))))
theorem lf_L17 (sq : Nat × (Nat → Int32)) : lk (tb_L17 sq) 567 = (x_al 568 1, false) ∧ lk (tb_L17 sq) 568 = (x_al 569 0, false) ∧ lk (tb_L17 sq) 569 = (x_il 570 3, false) ∧ lk (tb_L17 sq) 570 = (x_c 571 (.int 1), false) ∧ lk (tb_L17 sq) 571 = (x_ii 572 (fun x y : Int32 => x + y), false) ∧ lk (tb_L17 sq) 572 = (x_sa 573 sq, false) ∧ lk (tb_L17 sq) 573 = (x_al 574 0, false) ∧ lk (tb_L17 sq) 574 = (x_il 575 3, false) ∧ lk (tb_L17 sq) 575 = (x_c 576 (.int 2), false) ∧ lk (tb_L17 sq) 576 = (x_ii 577 (fun x y : Int32 => x + y), false) ∧ lk (tb_L17 sq) 577 = (x_sa 578 sq, false) ∧ lk (tb_L17 sq) 578 = (x_i2l 579, false) ∧ lk (tb_L17 sq) 579 = (x_c 581 (.int 32), false) ∧ lk (tb_L17 sq) 581 = (x_lh 582 (fun (x : Int64) (y : Int32) => x <<< (y.toInt64 &&& 63)), false) ∧ lk (tb_L17 sq) 582 = (x_al 583 0, false) ∧ lk (tb_L17 sq) 583 = (x_il 584 3, false) ∧ lk (tb_L17 sq) 584 = (x_c 585 (.int 3), false) ∧ lk (tb_L17 sq) 585 = (x_ii 586 (fun x y : Int32 => x + y), false) ∧ lk (tb_L17 sq) 586 = (x_sa 587 sq, false) ∧ lk (tb_L17 sq) 587 = (x_i2l 588, false) ∧ lk (tb_L17 sq) 588 = (x_c 591 (.long 4294967295), false) ∧ lk (tb_L17 sq) 591 = (x_l2 592 (fun x y : Int64 => x &&& y), false) ∧ lk (tb_L17 sq) 592 = (x_l2 593 (fun x y : Int64 => x ||| y), false) ∧ lk (tb_L17 sq) 593 = (x_cV 9 2 P_X9_judge 596, false) ∧ lk (tb_L17 sq) 596 = (x_al 597 2, false) ∧ lk (tb_L17 sq) 597 = (x_al 598 0, false) ∧ lk (tb_L17 sq) 598 = (x_il 599 3, false) ∧ lk (tb_L17 sq) 599 = (x_c 600 (.int 1), false) ∧ lk (tb_L17 sq) 600 = (x_ii 601 (fun x y : Int32 => x + y), false) ∧ lk (tb_L17 sq) 601 = (x_sa 602 sq, false) ∧ lk (tb_L17 sq) 602 = (x_al 603 0, false) ∧ lk (tb_L17 sq) 603 = (x_il 604 3, false) ∧ lk (tb_L17 sq) 604 = (x_c 605 (.int 2), false) ∧ lk (tb_L17 sq) 605 = (x_ii 606 (fun x y : Int32 => x + y), false) ∧ lk (tb_L17 sq) 606 = (x_sa 607 sq, false) ∧ lk (tb_L17 sq) 607 = (x_i2l 608, false) ∧ lk (tb_L17 sq) 608 = (x_c 610 (.int 32), false) ∧ lk (tb_L17 sq) 610 = (x_lh 611 (fun (x : Int64) (y : Int32) => x <<< (y.toInt64 &&& 63)), false) ∧ lk (tb_L17 sq) 611 = (x_al 612 0, false) ∧ lk (tb_L17 sq) 612 = (x_il 613 3, false) ∧ lk (tb_L17 sq) 613 = (x_c 614 (.int 3), false) ∧ lk (tb_L17 sq) 614 = (x_ii 615 (fun x y : Int32 => x + y), false) ∧ lk (tb_L17 sq) 615 = (x_sa 616 sq, false) ∧ lk (tb_L17 sq) 616 = (x_i2l 617, false) ∧ lk (tb_L17 sq) 617 = (x_c 620 (.long 4294967295), false) ∧ lk (tb_L17 sq) 620 = (x_l2 621 (fun x y : Int64 => x &&& y), false) ∧ lk (tb_L17 sq) 621 = (x_l2 622 (fun x y : Int64 => x ||| y), false) ∧ lk (tb_L17 sq) 622 = (x_cV 10 2 P_X10_judge 625, false) ∧ lk (tb_L17 sq) 625 = (x_ic 920 628 (fun x y : Int32 => x = y), false) ∧ lk (tb_L17 sq) 628 = (x_c 629 (.int 0), false) ∧ lk (tb_L17 sq) 629 = (x_rZ, false) ∧ lk (tb_L17 sq) 920 = (x_inc 923 3 4, true) := ⟨rfl, rfl, rfl, rfl, rfl, rfl, rfl, rfl, rfl, rfl, rfl, rfl, rfl, rfl, rfl, rfl, rfl, rfl, rfl, rfl, rfl, rfl, rfl, rfl, rfl, rfl, rfl, rfl, rfl, rfl, rfl, rfl, rfl, rfl, rfl, rfl, rfl, rfl, rfl, rfl, rfl, rfl, rfl, rfl, rfl, rfl, rfl, rfl, rfl, rfl, rfl, rfl⟩
set_option maxRecDepth 20000 in
theorem lc_17 {sq : Nat × (Nat → Int32)} {R : Option Value → Mem → Prop} {S : Sh} {I : MI} {L : Nat → Nat → Int64} {g : GS} {i : Nat} (h4 : i + 4 ≤ sq.1) (h2 : sq.1 ≤ 2048) (hC : CR S I L g) (hM : MR S I L g) (hO : GOk g) (hnx : ∀ I' L' g', CR S I' L' g' → MR S I' L' g' → GOk g' → J (mt_L_law sq) R 920 [some (.ref 9002), some (.ref 0), some (.ref 108), some (.int (nI i))] [] (S, I', L')) : J (mt_L_law sq) R 567 [some (.ref 9002), some (.ref 0), some (.ref 108), some (.int (nI i))] [] (S, I, L) := by
  have t0 : tO S 0 9 := hC.1.1.1
  have t8 : tO S 108 10 := hM.1.1
  have v1 : vp_in (nI (i + 1)) sq.1 := vp_in_nI (by omega) (by omega)
  have v2 : vp_in (nI (i + 2)) sq.1 := vp_in_nI (by omega) (by omega)
  have v3 : vp_in (nI (i + 3)) sq.1 := vp_in_nI (by omega) (by omega)
  refine J.of (tk_L17 sq) 200 fun ρ hρ => ?_
  simp only [hρ, x_c, x_il, x_ll, x_al, x_is, x_as, x_ls, x_inc, x_ii, x_iq, x_i1, x_l2, x_lq, x_lh, x_i2l, x_l2i, x_lcmp, x_dup, x_dup2, x_pop, x_if, x_ifn, x_ic, x_icn, x_go, x_sw, swc, x_l01, x_mx, x_gI, x_gL, x_gR, x_pI, x_pZ, x_pL, x_pR, x_ia, x_za, x_aa, x_ias, x_zas, x_aas, x_fac, x_fa, x_slen, x_sa, x_ac, x_oi, x_new, x_na, x_cS, x_cV, x_cI, x_rI, x_rZ, x_rL, x_r0, pa, short, oc, lg, lset, lset2, wide, cond_true, cond_false, true_and, and_true, ↓reduceIte, Bool.false_eq_true, true_or, or_true, lf_L17, t0, t8, P_X9_judge, P_X10_judge, Ans, Anm, nI_1, show (2 : Int32) = nI 2 by decide, show (3 : Int32) = nI 3 by decide, nI_add, eq_true v1, eq_true v2, eq_true v3, ncl (show i + 1 < 2 ^ 31 by omega), ncl (show i + 2 < 2 ^ 31 by omega), ncl (show i + 3 < 2 ^ 31 by omega), lg_cmp_eq, true_implies, not_true_eq_false, false_implies, not_false_eq_true]
  exact ⟨g, hC, hO, fun I1 L1 f1 l1 c1 => ⟨g, hM.f8 f1 l1, hO, fun I2 L2 f2 l2 c2 => ⟨fun _ => hnx I2 L2 _ (c1.i f2 (l2 0 (by omega))) c2 hO, fun h => absurd rfl h⟩⟩⟩
def il_L18 : List (Nat × Instr × Nat) := [(630, .aload_n 1, 1), (631, .aload_n 0, 1), (632, .iload_n 3, 1), (633, .iconst 1, 1), (634, .iadd, 1), (635, .iaload, 1), (636, .aload_n 0, 1), (637, .iload_n 3, 1), (638, .iconst 2, 1), (639, .iadd, 1), (640, .iaload, 1), (641, .invokevirtual 92, 3), (644, .aload_n 2, 1), (645, .aload_n 0, 1), (646, .iload_n 3, 1), (647, .iconst 1, 1), (648, .iadd, 1), (649, .iaload, 1), (650, .aload_n 0, 1), (651, .iload_n 3, 1), (652, .iconst 2, 1), (653, .iadd, 1), (654, .iaload, 1), (655, .invokevirtual 95, 3), (658, .if_icmp .eq 262, 3), (661, .iconst 0, 1), (662, .ireturn, 1), (920, .iinc 3 4, 3)]
set_option maxRecDepth 100000 in
theorem dl_L18 (sq : Nat × (Nat → Int32)) : ∀ q ∈ il_L18, decode (mt_L_law sq).1 q.1 = .ok q.2 := (by decide +kernel : ∀ q ∈ il_L18, decode cL_law q.1 = .ok q.2)
def tb_L18 (sq : Nat × (Nat → Int32)) : Tb := [(630, x_al 631 1, false),
  (631, x_al 632 0, false),
  (632, x_il 633 3, false),
  (633, x_c 634 (.int 1), false),
  (634, x_ii 635 (fun x y : Int32 => x + y), false),
  (635, x_sa 636 sq, false),
  (636, x_al 637 0, false),
  (637, x_il 638 3, false),
  (638, x_c 639 (.int 2), false),
  (639, x_ii 640 (fun x y : Int32 => x + y), false),
  (640, x_sa 641 sq, false),
  (641, x_cV 9 2 P_X9_see 644, false),
  (644, x_al 645 2, false),
  (645, x_al 646 0, false),
  (646, x_il 647 3, false),
  (647, x_c 648 (.int 1), false),
  (648, x_ii 649 (fun x y : Int32 => x + y), false),
  (649, x_sa 650 sq, false),
  (650, x_al 651 0, false),
  (651, x_il 652 3, false),
  (652, x_c 653 (.int 2), false),
  (653, x_ii 654 (fun x y : Int32 => x + y), false),
  (654, x_sa 655 sq, false),
  (655, x_cV 10 2 P_X10_see 658, false),
  (658, x_ic 920 661 (fun x y : Int32 => x = y), false),
  (661, x_c 662 (.int 0), false),
  (662, x_rZ, false),
  (920, x_inc 923 3 4, true)]
set_option maxRecDepth 100000 in
theorem tk_L18 (sq : Nat × (Nat → Int32)) : TbOk (mt_L_law sq) (tb_L18 sq) :=
  tkc (s_aload_n (at_ (dl_L18 sq) 0 (ins := .aload_n 1) rfl)) (
  tkc (s_aload_n (at_ (dl_L18 sq) 1 (ins := .aload_n 0) rfl)) (
  tkc (s_iload_n (at_ (dl_L18 sq) 2 (ins := .iload_n 3) rfl)) (
  tkc (s_iconst (at_ (dl_L18 sq) 3 (ins := .iconst 1) rfl) (by first | rfl | decide)) (
  tkc (s_iadd (at_ (dl_L18 sq) 4 (ins := .iadd) rfl)) (
  tkc (s_sa (at_ (dl_L18 sq) 5 (ins := .iaload) rfl) rfl) (
  tkc (s_aload_n (at_ (dl_L18 sq) 6 (ins := .aload_n 0) rfl)) (
  tkc (s_iload_n (at_ (dl_L18 sq) 7 (ins := .iload_n 3) rfl)) (
  tkc (s_iconst (at_ (dl_L18 sq) 8 (ins := .iconst 2) rfl) (by first | rfl | decide)) (
  tkc (s_iadd (at_ (dl_L18 sq) 9 (ins := .iadd) rfl)) (
  tkc (s_sa (at_ (dl_L18 sq) 10 (ins := .iaload) rfl) rfl) (
  tkc (s_cV ok_X9_see (at_ (dl_L18 sq) 11 (ins := .invokevirtual 92) rfl) (by decide) rfl (show Cond.methodLink RL 92 yX9_see ∈ tblG from (tg 606 (by decide +kernel) (by decide +kernel))) (tg 607 (by decide +kernel) (by decide +kernel)) (tg 608 (by decide +kernel) (by decide +kernel)) (tg 42 (by decide +kernel) (by decide +kernel)) (tg 609 (by decide +kernel) (by decide +kernel)) (⟨by decide, by decide, by decide +kernel⟩) (⟨(Nat.le_of_ble_eq_true rfl), (Nat.le_of_ble_eq_true rfl)⟩) rfl rfl) (
  tkc (s_aload_n (at_ (dl_L18 sq) 12 (ins := .aload_n 2) rfl)) (
  tkc (s_aload_n (at_ (dl_L18 sq) 13 (ins := .aload_n 0) rfl)) (
  tkc (s_iload_n (at_ (dl_L18 sq) 14 (ins := .iload_n 3) rfl)) (
  tkc (s_iconst (at_ (dl_L18 sq) 15 (ins := .iconst 1) rfl) (by first | rfl | decide)) (
  tkc (s_iadd (at_ (dl_L18 sq) 16 (ins := .iadd) rfl)) (
  tkc (s_sa (at_ (dl_L18 sq) 17 (ins := .iaload) rfl) rfl) (
  tkc (s_aload_n (at_ (dl_L18 sq) 18 (ins := .aload_n 0) rfl)) (
  tkc (s_iload_n (at_ (dl_L18 sq) 19 (ins := .iload_n 3) rfl)) (
  tkc (s_iconst (at_ (dl_L18 sq) 20 (ins := .iconst 2) rfl) (by first | rfl | decide)) (
  tkc (s_iadd (at_ (dl_L18 sq) 21 (ins := .iadd) rfl)) (
  tkc (s_sa (at_ (dl_L18 sq) 22 (ins := .iaload) rfl) rfl) (
  tkc (s_cV ok_X10_see (at_ (dl_L18 sq) 23 (ins := .invokevirtual 95) rfl) (by decide) rfl (show Cond.methodLink RL 95 yX10_see ∈ tblG from (tg 964 (by decide +kernel) (by decide +kernel))) (tg 965 (by decide +kernel) (by decide +kernel)) (tg 966 (by decide +kernel) (by decide +kernel)) (tg 51 (by decide +kernel) (by decide +kernel)) (tg 967 (by decide +kernel) (by decide +kernel)) (⟨by decide, by decide, by decide +kernel⟩) (⟨(Nat.le_of_ble_eq_true rfl), (Nat.le_of_ble_eq_true rfl)⟩) rfl rfl) (
  tkc (s_ic_eq (at_ (dl_L18 sq) 24 (ins := .if_icmp .eq 262) rfl) (by decide)) (
  tkc (s_iconst (at_ (dl_L18 sq) 25 (ins := .iconst 0) rfl) (by first | rfl | decide)) (
  tkc (s_rZ (at_ (dl_L18 sq) 26 (ins := .ireturn) rfl) rfl) (
  tkc (s_iinc (at_ (dl_L18 sq) 27 (ins := .iinc 3 4) rfl) (Nat.le_of_ble_eq_true rfl) (by first | rfl | decide)) ( tk0))))))))))))))))))))))))))))
theorem lf_L18 (sq : Nat × (Nat → Int32)) : lk (tb_L18 sq) 630 = (x_al 631 1, false) ∧ lk (tb_L18 sq) 631 = (x_al 632 0, false) ∧ lk (tb_L18 sq) 632 = (x_il 633 3, false) ∧ lk (tb_L18 sq) 633 = (x_c 634 (.int 1), false) ∧ lk (tb_L18 sq) 634 = (x_ii 635 (fun x y : Int32 => x + y), false) ∧ lk (tb_L18 sq) 635 = (x_sa 636 sq, false) ∧ lk (tb_L18 sq) 636 = (x_al 637 0, false) ∧ lk (tb_L18 sq) 637 = (x_il 638 3, false) ∧ lk (tb_L18 sq) 638 = (x_c 639 (.int 2), false) ∧ lk (tb_L18 sq) 639 = (x_ii 640 (fun x y : Int32 => x + y), false) ∧ lk (tb_L18 sq) 640 = (x_sa 641 sq, false) ∧ lk (tb_L18 sq) 641 = (x_cV 9 2 P_X9_see 644, false) ∧ lk (tb_L18 sq) 644 = (x_al 645 2, false) ∧ lk (tb_L18 sq) 645 = (x_al 646 0, false) ∧ lk (tb_L18 sq) 646 = (x_il 647 3, false) ∧ lk (tb_L18 sq) 647 = (x_c 648 (.int 1), false) ∧ lk (tb_L18 sq) 648 = (x_ii 649 (fun x y : Int32 => x + y), false) ∧ lk (tb_L18 sq) 649 = (x_sa 650 sq, false) ∧ lk (tb_L18 sq) 650 = (x_al 651 0, false) ∧ lk (tb_L18 sq) 651 = (x_il 652 3, false) ∧ lk (tb_L18 sq) 652 = (x_c 653 (.int 2), false) ∧ lk (tb_L18 sq) 653 = (x_ii 654 (fun x y : Int32 => x + y), false) ∧ lk (tb_L18 sq) 654 = (x_sa 655 sq, false) ∧ lk (tb_L18 sq) 655 = (x_cV 10 2 P_X10_see 658, false) ∧ lk (tb_L18 sq) 658 = (x_ic 920 661 (fun x y : Int32 => x = y), false) ∧ lk (tb_L18 sq) 661 = (x_c 662 (.int 0), false) ∧ lk (tb_L18 sq) 662 = (x_rZ, false) ∧ lk (tb_L18 sq) 920 = (x_inc 923 3 4, true) := ⟨rfl, rfl, rfl, rfl, rfl, rfl, rfl, rfl, rfl, rfl, rfl, rfl, rfl, rfl, rfl, rfl, rfl, rfl, rfl, rfl, rfl, rfl, rfl, rfl, rfl, rfl, rfl, rfl⟩
set_option maxRecDepth 20000 in
theorem lc_18 {sq : Nat × (Nat → Int32)} {R : Option Value → Mem → Prop} {S : Sh} {I : MI} {L : Nat → Nat → Int64} {g : GS} {i : Nat} (h4 : i + 4 ≤ sq.1) (h2 : sq.1 ≤ 2048) (hC : CR S I L g) (hM : MR S I L g) (hO : GOk g) (hnx : ∀ I' L' g', CR S I' L' g' → MR S I' L' g' → GOk g' → J (mt_L_law sq) R 920 [some (.ref 9002), some (.ref 0), some (.ref 108), some (.int (nI i))] [] (S, I', L')) : J (mt_L_law sq) R 630 [some (.ref 9002), some (.ref 0), some (.ref 108), some (.int (nI i))] [] (S, I, L) := by
  have t0 : tO S 0 9 := hC.1.1.1
  have t8 : tO S 108 10 := hM.1.1
  have v1 : vp_in (nI (i + 1)) sq.1 := vp_in_nI (by omega) (by omega)
  have v2 : vp_in (nI (i + 2)) sq.1 := vp_in_nI (by omega) (by omega)
  have v3 : vp_in (nI (i + 3)) sq.1 := vp_in_nI (by omega) (by omega)
  refine J.of (tk_L18 sq) 200 fun ρ hρ => ?_
  simp only [hρ, x_c, x_il, x_ll, x_al, x_is, x_as, x_ls, x_inc, x_ii, x_iq, x_i1, x_l2, x_lq, x_lh, x_i2l, x_l2i, x_lcmp, x_dup, x_dup2, x_pop, x_if, x_ifn, x_ic, x_icn, x_go, x_sw, swc, x_l01, x_mx, x_gI, x_gL, x_gR, x_pI, x_pZ, x_pL, x_pR, x_ia, x_za, x_aa, x_ias, x_zas, x_aas, x_fac, x_fa, x_slen, x_sa, x_ac, x_oi, x_new, x_na, x_cS, x_cV, x_cI, x_rI, x_rZ, x_rL, x_r0, pa, short, oc, lg, lset, lset2, wide, cond_true, cond_false, true_and, and_true, ↓reduceIte, Bool.false_eq_true, true_or, or_true, lf_L18, t0, t8, P_X9_see, P_X10_see, Ans, Anm, nI_1, show (2 : Int32) = nI 2 by decide, show (3 : Int32) = nI 3 by decide, nI_add, eq_true v1, eq_true v2, eq_true v3, ncl (show i + 1 < 2 ^ 31 by omega), ncl (show i + 2 < 2 ^ 31 by omega), ncl (show i + 3 < 2 ^ 31 by omega), lg_cmp_eq, true_implies, not_true_eq_false, false_implies, not_false_eq_true]
  exact ⟨g, hC, hO, fun I1 L1 f1 l1 c1 => ⟨g, hM.f8 f1 l1, hO, fun I2 L2 f2 l2 c2 => ⟨fun _ => hnx I2 L2 _ (c1.i f2 (l2 0 (by omega))) c2 (kSee hO), fun h => absurd rfl h⟩⟩⟩
def il_L19 : List (Nat × Instr × Nat) := [(663, .aload_n 1, 1), (664, .invokevirtual 96, 3), (667, .aload_n 2, 1), (668, .invokevirtual 99, 3), (671, .if_icmp .eq 249, 3), (674, .iconst 0, 1), (675, .ireturn, 1), (920, .iinc 3 4, 3)]
set_option maxRecDepth 100000 in
theorem dl_L19 (sq : Nat × (Nat → Int32)) : ∀ q ∈ il_L19, decode (mt_L_law sq).1 q.1 = .ok q.2 := (by decide +kernel : ∀ q ∈ il_L19, decode cL_law q.1 = .ok q.2)
def tb_L19 (sq : Nat × (Nat → Int32)) : Tb := [(663, x_al 664 1, false),
  (664, x_cV 9 0 P_X9_unsee 667, false),
  (667, x_al 668 2, false),
  (668, x_cV 10 0 P_X10_unsee 671, false),
  (671, x_ic 920 674 (fun x y : Int32 => x = y), false),
  (674, x_c 675 (.int 0), false),
  (675, x_rZ, false),
  (920, x_inc 923 3 4, true)]
set_option maxRecDepth 100000 in
theorem tk_L19 (sq : Nat × (Nat → Int32)) : TbOk (mt_L_law sq) (tb_L19 sq) :=
  tkc (s_aload_n (at_ (dl_L19 sq) 0 (ins := .aload_n 1) rfl)) (
  tkc (s_cV ok_X9_unsee (at_ (dl_L19 sq) 1 (ins := .invokevirtual 96) rfl) (by decide) rfl (show Cond.methodLink RL 96 yX9_unsee ∈ tblG from (tg 614 (by decide +kernel) (by decide +kernel))) (tg 615 (by decide +kernel) (by decide +kernel)) (tg 616 (by decide +kernel) (by decide +kernel)) (tg 42 (by decide +kernel) (by decide +kernel)) (tg 617 (by decide +kernel) (by decide +kernel)) (⟨by decide, by decide, by decide +kernel⟩) (⟨(Nat.le_of_ble_eq_true rfl), (Nat.le_of_ble_eq_true rfl)⟩) rfl rfl) (
  tkc (s_aload_n (at_ (dl_L19 sq) 2 (ins := .aload_n 2) rfl)) (
  tkc (s_cV ok_X10_unsee (at_ (dl_L19 sq) 3 (ins := .invokevirtual 99) rfl) (by decide) rfl (show Cond.methodLink RL 99 yX10_unsee ∈ tblG from (tg 970 (by decide +kernel) (by decide +kernel))) (tg 971 (by decide +kernel) (by decide +kernel)) (tg 972 (by decide +kernel) (by decide +kernel)) (tg 51 (by decide +kernel) (by decide +kernel)) (tg 973 (by decide +kernel) (by decide +kernel)) (⟨by decide, by decide, by decide +kernel⟩) (⟨(Nat.le_of_ble_eq_true rfl), (Nat.le_of_ble_eq_true rfl)⟩) rfl rfl) (
  tkc (s_ic_eq (at_ (dl_L19 sq) 4 (ins := .if_icmp .eq 249) rfl) (by decide)) (
  tkc (s_iconst (at_ (dl_L19 sq) 5 (ins := .iconst 0) rfl) (by first | rfl | decide)) (
  tkc (s_rZ (at_ (dl_L19 sq) 6 (ins := .ireturn) rfl) rfl) (
  tkc (s_iinc (at_ (dl_L19 sq) 7 (ins := .iinc 3 4) rfl) (Nat.le_of_ble_eq_true rfl) (by first | rfl | decide)) ( tk0))))))))
theorem lf_L19 (sq : Nat × (Nat → Int32)) : lk (tb_L19 sq) 663 = (x_al 664 1, false) ∧ lk (tb_L19 sq) 664 = (x_cV 9 0 P_X9_unsee 667, false) ∧ lk (tb_L19 sq) 667 = (x_al 668 2, false) ∧ lk (tb_L19 sq) 668 = (x_cV 10 0 P_X10_unsee 671, false) ∧ lk (tb_L19 sq) 671 = (x_ic 920 674 (fun x y : Int32 => x = y), false) ∧ lk (tb_L19 sq) 674 = (x_c 675 (.int 0), false) ∧ lk (tb_L19 sq) 675 = (x_rZ, false) ∧ lk (tb_L19 sq) 920 = (x_inc 923 3 4, true) := ⟨rfl, rfl, rfl, rfl, rfl, rfl, rfl, rfl⟩
set_option maxRecDepth 20000 in
theorem lc_19 {sq : Nat × (Nat → Int32)} {R : Option Value → Mem → Prop} {S : Sh} {I : MI} {L : Nat → Nat → Int64} {g : GS} {i : Nat} (h4 : i + 4 ≤ sq.1) (h2 : sq.1 ≤ 2048) (hC : CR S I L g) (hM : MR S I L g) (hO : GOk g) (hnx : ∀ I' L' g', CR S I' L' g' → MR S I' L' g' → GOk g' → J (mt_L_law sq) R 920 [some (.ref 9002), some (.ref 0), some (.ref 108), some (.int (nI i))] [] (S, I', L')) : J (mt_L_law sq) R 663 [some (.ref 9002), some (.ref 0), some (.ref 108), some (.int (nI i))] [] (S, I, L) := by
  have t0 : tO S 0 9 := hC.1.1.1
  have t8 : tO S 108 10 := hM.1.1
  have v1 : vp_in (nI (i + 1)) sq.1 := vp_in_nI (by omega) (by omega)
  have v2 : vp_in (nI (i + 2)) sq.1 := vp_in_nI (by omega) (by omega)
  have v3 : vp_in (nI (i + 3)) sq.1 := vp_in_nI (by omega) (by omega)
  refine J.of (tk_L19 sq) 200 fun ρ hρ => ?_
  simp only [hρ, x_c, x_il, x_ll, x_al, x_is, x_as, x_ls, x_inc, x_ii, x_iq, x_i1, x_l2, x_lq, x_lh, x_i2l, x_l2i, x_lcmp, x_dup, x_dup2, x_pop, x_if, x_ifn, x_ic, x_icn, x_go, x_sw, swc, x_l01, x_mx, x_gI, x_gL, x_gR, x_pI, x_pZ, x_pL, x_pR, x_ia, x_za, x_aa, x_ias, x_zas, x_aas, x_fac, x_fa, x_slen, x_sa, x_ac, x_oi, x_new, x_na, x_cS, x_cV, x_cI, x_rI, x_rZ, x_rL, x_r0, pa, short, oc, lg, lset, lset2, wide, cond_true, cond_false, true_and, and_true, ↓reduceIte, Bool.false_eq_true, true_or, or_true, lf_L19, t0, t8, P_X9_unsee, P_X10_unsee, Ans, Anm, nI_1, show (2 : Int32) = nI 2 by decide, show (3 : Int32) = nI 3 by decide, nI_add, eq_true v1, eq_true v2, eq_true v3, ncl (show i + 1 < 2 ^ 31 by omega), ncl (show i + 2 < 2 ^ 31 by omega), ncl (show i + 3 < 2 ^ 31 by omega), lg_cmp_eq, true_implies, not_true_eq_false, false_implies, not_false_eq_true]
  exact ⟨g, hC, hO, fun I1 L1 f1 l1 c1 => ⟨g, hM.f8 f1 l1, hO, fun I2 L2 f2 l2 c2 => ⟨fun _ => hnx I2 L2 _ (c1.i f2 (l2 0 (by omega))) c2 (kUnsee hO), fun h => absurd rfl h⟩⟩⟩
def il_L20 : List (Nat × Instr × Nat) := [(676, .aload_n 1, 1), (677, .invokevirtual 100, 3), (680, .aload_n 2, 1), (681, .invokevirtual 103, 3), (684, .if_icmp .eq 236, 3), (687, .iconst 0, 1), (688, .ireturn, 1), (920, .iinc 3 4, 3)]
set_option maxRecDepth 100000 in
theorem dl_L20 (sq : Nat × (Nat → Int32)) : ∀ q ∈ il_L20, decode (mt_L_law sq).1 q.1 = .ok q.2 := (by decide +kernel : ∀ q ∈ il_L20, decode cL_law q.1 = .ok q.2)
def tb_L20 (sq : Nat × (Nat → Int32)) : Tb := [(676, x_al 677 1, false),
  (677, x_cV 9 0 P_X9_which 680, false),
  (680, x_al 681 2, false),
  (681, x_cV 10 0 P_X10_which 684, false),
  (684, x_ic 920 687 (fun x y : Int32 => x = y), false),
  (687, x_c 688 (.int 0), false),
  (688, x_rZ, false),
  (920, x_inc 923 3 4, true)]
set_option maxRecDepth 100000 in
theorem tk_L20 (sq : Nat × (Nat → Int32)) : TbOk (mt_L_law sq) (tb_L20 sq) :=
  tkc (s_aload_n (at_ (dl_L20 sq) 0 (ins := .aload_n 1) rfl)) (
  tkc (s_cV ok_X9_which (at_ (dl_L20 sq) 1 (ins := .invokevirtual 100) rfl) (by decide) rfl (show Cond.methodLink RL 100 yX9_which ∈ tblG from (tg 618 (by decide +kernel) (by decide +kernel))) (tg 619 (by decide +kernel) (by decide +kernel)) (tg 620 (by decide +kernel) (by decide +kernel)) (tg 42 (by decide +kernel) (by decide +kernel)) (tg 621 (by decide +kernel) (by decide +kernel)) (⟨by decide, by decide, by decide +kernel⟩) (⟨(Nat.le_of_ble_eq_true rfl), (Nat.le_of_ble_eq_true rfl)⟩) rfl rfl) (
  tkc (s_aload_n (at_ (dl_L20 sq) 2 (ins := .aload_n 2) rfl)) (
  tkc (s_cV ok_X10_which (at_ (dl_L20 sq) 3 (ins := .invokevirtual 103) rfl) (by decide) rfl (show Cond.methodLink RL 103 yX10_which ∈ tblG from (tg 974 (by decide +kernel) (by decide +kernel))) (tg 975 (by decide +kernel) (by decide +kernel)) (tg 976 (by decide +kernel) (by decide +kernel)) (tg 51 (by decide +kernel) (by decide +kernel)) (tg 977 (by decide +kernel) (by decide +kernel)) (⟨by decide, by decide, by decide +kernel⟩) (⟨(Nat.le_of_ble_eq_true rfl), (Nat.le_of_ble_eq_true rfl)⟩) rfl rfl) (
  tkc (s_ic_eq (at_ (dl_L20 sq) 4 (ins := .if_icmp .eq 236) rfl) (by decide)) (
  tkc (s_iconst (at_ (dl_L20 sq) 5 (ins := .iconst 0) rfl) (by first | rfl | decide)) (
  tkc (s_rZ (at_ (dl_L20 sq) 6 (ins := .ireturn) rfl) rfl) (
  tkc (s_iinc (at_ (dl_L20 sq) 7 (ins := .iinc 3 4) rfl) (Nat.le_of_ble_eq_true rfl) (by first | rfl | decide)) ( tk0))))))))
theorem lf_L20 (sq : Nat × (Nat → Int32)) : lk (tb_L20 sq) 676 = (x_al 677 1, false) ∧ lk (tb_L20 sq) 677 = (x_cV 9 0 P_X9_which 680, false) ∧ lk (tb_L20 sq) 680 = (x_al 681 2, false) ∧ lk (tb_L20 sq) 681 = (x_cV 10 0 P_X10_which 684, false) ∧ lk (tb_L20 sq) 684 = (x_ic 920 687 (fun x y : Int32 => x = y), false) ∧ lk (tb_L20 sq) 687 = (x_c 688 (.int 0), false) ∧ lk (tb_L20 sq) 688 = (x_rZ, false) ∧ lk (tb_L20 sq) 920 = (x_inc 923 3 4, true) := ⟨rfl, rfl, rfl, rfl, rfl, rfl, rfl, rfl⟩
set_option maxRecDepth 20000 in
theorem lc_20 {sq : Nat × (Nat → Int32)} {R : Option Value → Mem → Prop} {S : Sh} {I : MI} {L : Nat → Nat → Int64} {g : GS} {i : Nat} (h4 : i + 4 ≤ sq.1) (h2 : sq.1 ≤ 2048) (hC : CR S I L g) (hM : MR S I L g) (hO : GOk g) (hnx : ∀ I' L' g', CR S I' L' g' → MR S I' L' g' → GOk g' → J (mt_L_law sq) R 920 [some (.ref 9002), some (.ref 0), some (.ref 108), some (.int (nI i))] [] (S, I', L')) : J (mt_L_law sq) R 676 [some (.ref 9002), some (.ref 0), some (.ref 108), some (.int (nI i))] [] (S, I, L) := by
  have t0 : tO S 0 9 := hC.1.1.1
  have t8 : tO S 108 10 := hM.1.1
  have v1 : vp_in (nI (i + 1)) sq.1 := vp_in_nI (by omega) (by omega)
  have v2 : vp_in (nI (i + 2)) sq.1 := vp_in_nI (by omega) (by omega)
  have v3 : vp_in (nI (i + 3)) sq.1 := vp_in_nI (by omega) (by omega)
  refine J.of (tk_L20 sq) 200 fun ρ hρ => ?_
  simp only [hρ, x_c, x_il, x_ll, x_al, x_is, x_as, x_ls, x_inc, x_ii, x_iq, x_i1, x_l2, x_lq, x_lh, x_i2l, x_l2i, x_lcmp, x_dup, x_dup2, x_pop, x_if, x_ifn, x_ic, x_icn, x_go, x_sw, swc, x_l01, x_mx, x_gI, x_gL, x_gR, x_pI, x_pZ, x_pL, x_pR, x_ia, x_za, x_aa, x_ias, x_zas, x_aas, x_fac, x_fa, x_slen, x_sa, x_ac, x_oi, x_new, x_na, x_cS, x_cV, x_cI, x_rI, x_rZ, x_rL, x_r0, pa, short, oc, lg, lset, lset2, wide, cond_true, cond_false, true_and, and_true, ↓reduceIte, Bool.false_eq_true, true_or, or_true, lf_L20, t0, t8, P_X9_which, P_X10_which, Ans, Anm, nI_1, show (2 : Int32) = nI 2 by decide, show (3 : Int32) = nI 3 by decide, nI_add, eq_true v1, eq_true v2, eq_true v3, ncl (show i + 1 < 2 ^ 31 by omega), ncl (show i + 2 < 2 ^ 31 by omega), ncl (show i + 3 < 2 ^ 31 by omega), lg_cmp_eq, true_implies, not_true_eq_false, false_implies, not_false_eq_true]
  exact ⟨g, hC, hO, fun I1 L1 f1 l1 c1 => ⟨g, hM.f8 f1 l1, hO, fun I2 L2 f2 l2 c2 => ⟨fun _ => hnx I2 L2 _ (c1.i f2 (l2 0 (by omega))) c2 hO, fun h => absurd rfl h⟩⟩⟩
