/-! THE LAW: its loop, its beginning -/
def il_LH : List (Nat × Instr × Nat) := [(0, .new 7, 3), (3, .dup, 1), (4, .invokespecial 9, 3), (7, .astore_n 1, 1), (8, .new 10, 3), (11, .dup, 1), (12, .invokespecial 12, 3), (15, .astore_n 2, 1), (16, .iconst 0, 1), (17, .istore_n 3, 1), (18, .iload_n 3, 1), (19, .aload_n 0, 1), (20, .arraylength, 1), (21, .iconst 4, 1), (22, .isub, 1), (23, .if_icmp .gt 903, 3), (26, .aload_n 0, 1), (27, .iload_n 3, 1), (28, .iaload, 1), (29, .bipush 31, 2), (31, .iand, 1), (32, .tableswitch 888 0 26 #[124, 147, 160, 173, 186, 209, 242, 265, 298, 331, 344, 367, 400, 433, 456, 469, 512, 535, 598, 631, 644, 657, 706, 765, 819, 842, 865], 124), (156, .aload_n 1, 1), (179, .aload_n 1, 1), (192, .aload_n 1, 1), (205, .aload_n 1, 1), (218, .aload_n 1, 1), (241, .aload_n 1, 1), (274, .aload_n 1, 1), (297, .aload_n 1, 1), (330, .aload_n 1, 1), (363, .aload_n 1, 1), (376, .aload_n 1, 1), (399, .aload_n 1, 1), (432, .aload_n 1, 1), (465, .aload_n 1, 1), (488, .aload_n 1, 1), (501, .aload_n 1, 1), (544, .aload_n 1, 1), (567, .aload_n 1, 1), (630, .aload_n 1, 1), (663, .aload_n 1, 1), (676, .aload_n 1, 1), (689, .aload_n 1, 1), (738, .aload_n 1, 1), (797, .aload_n 1, 1), (851, .aload_n 1, 1), (874, .aload_n 1, 1), (897, .aload_n 1, 1), (920, .iinc 3 4, 3), (923, .goto (-905), 3), (926, .iconst 1, 1), (927, .ireturn, 1)]
set_option maxRecDepth 100000 in
theorem dl_LH (sq : Nat × (Nat → Int32)) : ∀ q ∈ il_LH, decode (mt_L_law sq).1 q.1 = .ok q.2 := (by decide +kernel : ∀ q ∈ il_LH, decode cL_law q.1 = .ok q.2)
def tb_LH (sq : Nat × (Nat → Int32)) : Tb := [(0, x_new 9 3 (600000, 7302250), false),
  (3, x_dup 4, false),
  (4, x_cI 0 P_X9_init 7 107 1702 (600000, 7302250), false),
  (7, x_as 8 1, false),
  (8, x_new 10 11 (600000, 7302250), true),
  (11, x_dup 12, false),
  (12, x_cI 0 P_X10_init 15 14 1633 (600000, 7302250), false),
  (15, x_as 16 2, false),
  (16, x_c 17 (.int 0), false),
  (17, x_is 18 3, false),
  (18, x_il 19 3, true),
  (19, x_al 20 0, false),
  (20, x_slen 21 sq, false),
  (21, x_c 22 (.int 4), false),
  (22, x_ii 23 (fun x y : Int32 => x - y), false),
  (23, x_ic 926 26 (fun x y : Int32 => y < x), false),
  (26, x_al 27 0, false),
  (27, x_il 28 3, false),
  (28, x_sa 29 sq, false),
  (29, x_c 31 (.int 31), false),
  (31, x_ii 32 (fun x y : Int32 => x &&& y), false),
  (32, x_sw 0 26 [156, 179, 192, 205, 218, 241, 274, 297, 330, 363, 376, 399, 432, 465, 488, 501, 544, 567, 630, 663, 676, 689, 738, 797, 851, 874, 897] 920, false),
  (156, x_al 157 1, true),
  (179, x_al 180 1, true),
  (192, x_al 193 1, true),
  (205, x_al 206 1, true),
  (218, x_al 219 1, true),
  (241, x_al 242 1, true),
  (274, x_al 275 1, true),
  (297, x_al 298 1, true),
  (330, x_al 331 1, true),
  (363, x_al 364 1, true),
  (376, x_al 377 1, true),
  (399, x_al 400 1, true),
  (432, x_al 433 1, true),
  (465, x_al 466 1, true),
  (488, x_al 489 1, true),
  (501, x_al 502 1, true),
  (544, x_al 545 1, true),
  (567, x_al 568 1, true),
  (630, x_al 631 1, true),
  (663, x_al 664 1, true),
  (676, x_al 677 1, true),
  (689, x_al 690 1, true),
  (738, x_al 739 1, true),
  (797, x_al 798 1, true),
  (851, x_al 852 1, true),
  (874, x_al 875 1, true),
  (897, x_al 898 1, true),
  (920, x_inc 923 3 4, true),
  (923, x_go 18, false),
  (926, x_c 927 (.int 1), false),
  (927, x_rZ, false)]
set_option maxRecDepth 100000 in
theorem tk_LH (sq : Nat × (Nat → Int32)) : TbOk (mt_L_law sq) (tb_LH sq) :=
  tkc (s_new (q := (0, 0)) (at_ (dl_LH sq) 0 (ins := .new 7) rfl) rfl (Prod.ext (Nat.zero_add 600000).symm (Nat.zero_add 7302250).symm) (show Cond.classLink RL 7 (RCl 9) ∈ tblG from (tg 56 (by decide +kernel) (by decide +kernel))) (tg 57 (by decide +kernel) (by decide +kernel)) (tg 42 (by decide +kernel) (by decide +kernel))) (
  tkc (s_dup (at_ (dl_LH sq) 1 (ins := .dup) rfl)) (
  tkc (s_cI (q := (0, 0)) ok_X9_init (at_ (dl_LH sq) 2 (ins := .invokespecial 9) rfl) rfl rfl (Prod.ext (Nat.zero_add 600000).symm (Nat.zero_add 7302250).symm) (show Cond.methodLink RL 9 yX9_init ∈ tblG from (tg 58 (by decide +kernel) (by decide +kernel))) (tg 59 (by decide +kernel) (by decide +kernel)) (tg 42 (by decide +kernel) (by decide +kernel)) (tg 60 (by decide +kernel) (by decide +kernel)) rfl (⟨by decide, by decide, by decide +kernel⟩) (⟨(Nat.le_of_ble_eq_true rfl), (Nat.le_of_ble_eq_true rfl)⟩) rfl rfl) (
  tkc (s_astore_n (at_ (dl_LH sq) 3 (ins := .astore_n 1) rfl) (Nat.le_of_ble_eq_true rfl)) (
  tkc (s_new (q := (0, 0)) (at_ (dl_LH sq) 4 (ins := .new 10) rfl) rfl (Prod.ext (Nat.zero_add 600000).symm (Nat.zero_add 7302250).symm) (show Cond.classLink RL 10 (RCl 10) ∈ tblG from (tg 686 (by decide +kernel) (by decide +kernel))) (tg 687 (by decide +kernel) (by decide +kernel)) (tg 51 (by decide +kernel) (by decide +kernel))) (
  tkc (s_dup (at_ (dl_LH sq) 5 (ins := .dup) rfl)) (
  tkc (s_cI (q := (0, 0)) ok_X10_init (at_ (dl_LH sq) 6 (ins := .invokespecial 12) rfl) rfl rfl (Prod.ext (Nat.zero_add 600000).symm (Nat.zero_add 7302250).symm) (show Cond.methodLink RL 12 yX10_init ∈ tblG from (tg 688 (by decide +kernel) (by decide +kernel))) (tg 689 (by decide +kernel) (by decide +kernel)) (tg 51 (by decide +kernel) (by decide +kernel)) (tg 690 (by decide +kernel) (by decide +kernel)) rfl (⟨by decide, by decide, by decide +kernel⟩) (⟨(Nat.le_of_ble_eq_true rfl), (Nat.le_of_ble_eq_true rfl)⟩) rfl rfl) (
  tkc (s_astore_n (at_ (dl_LH sq) 7 (ins := .astore_n 2) rfl) (Nat.le_of_ble_eq_true rfl)) (
  tkc (s_iconst (at_ (dl_LH sq) 8 (ins := .iconst 0) rfl) (by first | rfl | decide)) (
  tkc (s_istore_n (at_ (dl_LH sq) 9 (ins := .istore_n 3) rfl) (Nat.le_of_ble_eq_true rfl)) (
  tkc (s_iload_n (at_ (dl_LH sq) 10 (ins := .iload_n 3) rfl)) (
  tkc (s_aload_n (at_ (dl_LH sq) 11 (ins := .aload_n 0) rfl)) (
  tkc (s_slen (at_ (dl_LH sq) 12 (ins := .arraylength) rfl) rfl) (
  tkc (s_iconst (at_ (dl_LH sq) 13 (ins := .iconst 4) rfl) (by first | rfl | decide)) (
  tkc (s_isub (at_ (dl_LH sq) 14 (ins := .isub) rfl)) (
  tkc (s_ic_gt (at_ (dl_LH sq) 15 (ins := .if_icmp .gt 903) rfl) (by decide)) (
  tkc (s_aload_n (at_ (dl_LH sq) 16 (ins := .aload_n 0) rfl)) (
  tkc (s_iload_n (at_ (dl_LH sq) 17 (ins := .iload_n 3) rfl)) (
  tkc (s_sa (at_ (dl_LH sq) 18 (ins := .iaload) rfl) rfl) (
  tkc (s_bipush (at_ (dl_LH sq) 19 (ins := .bipush 31) rfl) (by first | rfl | decide)) (
  tkc (s_iand (at_ (dl_LH sq) 20 (ins := .iand) rfl)) (
  tkc (s_sw (at_ (dl_LH sq) 21 (ins := .tableswitch 888 0 26 #[124, 147, 160, 173, 186, 209, 242, 265, 298, 331, 344, 367, 400, 433, 456, 469, 512, 535, 598, 631, 644, 657, 706, 765, 819, 842, 865]) rfl) rfl (tsw [156, 179, 192, 205, 218, 241, 274, 297, 330, 363, 376, 399, 432, 465, 488, 501, 544, 567, 630, 663, 676, 689, 738, 797, 851, 874, 897] (by decide +kernel)) (by decide)) (
  tkc (s_aload_n (at_ (dl_LH sq) 22 (ins := .aload_n 1) rfl)) (
  tkc (s_aload_n (at_ (dl_LH sq) 23 (ins := .aload_n 1) rfl)) (
  tkc (s_aload_n (at_ (dl_LH sq) 24 (ins := .aload_n 1) rfl)) (
  tkc (s_aload_n (at_ (dl_LH sq) 25 (ins := .aload_n 1) rfl)) (
  tkc (s_aload_n (at_ (dl_LH sq) 26 (ins := .aload_n 1) rfl)) (
  tkc (s_aload_n (at_ (dl_LH sq) 27 (ins := .aload_n 1) rfl)) (
  tkc (s_aload_n (at_ (dl_LH sq) 28 (ins := .aload_n 1) rfl)) (
  tkc (s_aload_n (at_ (dl_LH sq) 29 (ins := .aload_n 1) rfl)) (
  tkc (s_aload_n (at_ (dl_LH sq) 30 (ins := .aload_n 1) rfl)) (
  tkc (s_aload_n (at_ (dl_LH sq) 31 (ins := .aload_n 1) rfl)) (
  tkc (s_aload_n (at_ (dl_LH sq) 32 (ins := .aload_n 1) rfl)) (
  tkc (s_aload_n (at_ (dl_LH sq) 33 (ins := .aload_n 1) rfl)) (
  tkc (s_aload_n (at_ (dl_LH sq) 34 (ins := .aload_n 1) rfl)) (
  tkc (s_aload_n (at_ (dl_LH sq) 35 (ins := .aload_n 1) rfl)) (
  tkc (s_aload_n (at_ (dl_LH sq) 36 (ins := .aload_n 1) rfl)) (
  tkc (s_aload_n (at_ (dl_LH sq) 37 (ins := .aload_n 1) rfl)) (
  tkc (s_aload_n (at_ (dl_LH sq) 38 (ins := .aload_n 1) rfl)) (
  tkc (s_aload_n (at_ (dl_LH sq) 39 (ins := .aload_n 1) rfl)) (
  tkc (s_aload_n (at_ (dl_LH sq) 40 (ins := .aload_n 1) rfl)) (
  tkc (s_aload_n (at_ (dl_LH sq) 41 (ins := .aload_n 1) rfl)) (
  tkc (s_aload_n (at_ (dl_LH sq) 42 (ins := .aload_n 1) rfl)) (
  tkc (s_aload_n (at_ (dl_LH sq) 43 (ins := .aload_n 1) rfl)) (
  tkc (s_aload_n (at_ (dl_LH sq) 44 (ins := .aload_n 1) rfl)) (
  tkc (s_aload_n (at_ (dl_LH sq) 45 (ins := .aload_n 1) rfl)) (
  tkc (s_aload_n (at_ (dl_LH sq) 46 (ins := .aload_n 1) rfl)) (
  tkc (s_aload_n (at_ (dl_LH sq) 47 (ins := .aload_n 1) rfl)) (
  tkc (s_aload_n (at_ (dl_LH sq) 48 (ins := .aload_n 1) rfl)) (
  tkc (s_iinc (at_ (dl_LH sq) 49 (ins := .iinc 3 4) rfl) (Nat.le_of_ble_eq_true rfl) (by first | rfl | decide)) (
  tkc (s_goto (at_ (dl_LH sq) 50 (ins := .goto (-905)) rfl) (by decide)) (
  tkc (s_iconst (at_ (dl_LH sq) 51 (ins := .iconst 1) rfl) (by first | rfl | decide)) (
  tkc (s_rZ (at_ (dl_LH sq) 52 (ins := .ireturn) rfl) rfl) ( tk0)))))))))))))))))))))))))))))))))))))))))))))))))))))
theorem lf_LH (sq : Nat × (Nat → Int32)) : lk (tb_LH sq) 0 = (x_new 9 3 (600000, 7302250), false) ∧ lk (tb_LH sq) 3 = (x_dup 4, false) ∧ lk (tb_LH sq) 4 = (x_cI 0 P_X9_init 7 107 1702 (600000, 7302250), false) ∧ lk (tb_LH sq) 7 = (x_as 8 1, false) ∧ lk (tb_LH sq) 8 = (x_new 10 11 (600000, 7302250), true) ∧ lk (tb_LH sq) 11 = (x_dup 12, false) ∧ lk (tb_LH sq) 12 = (x_cI 0 P_X10_init 15 14 1633 (600000, 7302250), false) ∧ lk (tb_LH sq) 15 = (x_as 16 2, false) ∧ lk (tb_LH sq) 16 = (x_c 17 (.int 0), false) ∧ lk (tb_LH sq) 17 = (x_is 18 3, false) ∧ lk (tb_LH sq) 18 = (x_il 19 3, true) ∧ lk (tb_LH sq) 19 = (x_al 20 0, false) ∧ lk (tb_LH sq) 20 = (x_slen 21 sq, false) ∧ lk (tb_LH sq) 21 = (x_c 22 (.int 4), false) ∧ lk (tb_LH sq) 22 = (x_ii 23 (fun x y : Int32 => x - y), false) ∧ lk (tb_LH sq) 23 = (x_ic 926 26 (fun x y : Int32 => y < x), false) ∧ lk (tb_LH sq) 26 = (x_al 27 0, false) ∧ lk (tb_LH sq) 27 = (x_il 28 3, false) ∧ lk (tb_LH sq) 28 = (x_sa 29 sq, false) ∧ lk (tb_LH sq) 29 = (x_c 31 (.int 31), false) ∧ lk (tb_LH sq) 31 = (x_ii 32 (fun x y : Int32 => x &&& y), false) ∧ lk (tb_LH sq) 32 = (x_sw 0 26 [156, 179, 192, 205, 218, 241, 274, 297, 330, 363, 376, 399, 432, 465, 488, 501, 544, 567, 630, 663, 676, 689, 738, 797, 851, 874, 897] 920, false) ∧ lk (tb_LH sq) 156 = (x_al 157 1, true) ∧ lk (tb_LH sq) 179 = (x_al 180 1, true) ∧ lk (tb_LH sq) 192 = (x_al 193 1, true) ∧ lk (tb_LH sq) 205 = (x_al 206 1, true) ∧ lk (tb_LH sq) 218 = (x_al 219 1, true) ∧ lk (tb_LH sq) 241 = (x_al 242 1, true) ∧ lk (tb_LH sq) 274 = (x_al 275 1, true) ∧ lk (tb_LH sq) 297 = (x_al 298 1, true) ∧ lk (tb_LH sq) 330 = (x_al 331 1, true) ∧ lk (tb_LH sq) 363 = (x_al 364 1, true) ∧ lk (tb_LH sq) 376 = (x_al 377 1, true) ∧ lk (tb_LH sq) 399 = (x_al 400 1, true) ∧ lk (tb_LH sq) 432 = (x_al 433 1, true) ∧ lk (tb_LH sq) 465 = (x_al 466 1, true) ∧ lk (tb_LH sq) 488 = (x_al 489 1, true) ∧ lk (tb_LH sq) 501 = (x_al 502 1, true) ∧ lk (tb_LH sq) 544 = (x_al 545 1, true) ∧ lk (tb_LH sq) 567 = (x_al 568 1, true) ∧ lk (tb_LH sq) 630 = (x_al 631 1, true) ∧ lk (tb_LH sq) 663 = (x_al 664 1, true) ∧ lk (tb_LH sq) 676 = (x_al 677 1, true) ∧ lk (tb_LH sq) 689 = (x_al 690 1, true) ∧ lk (tb_LH sq) 738 = (x_al 739 1, true) ∧ lk (tb_LH sq) 797 = (x_al 798 1, true) ∧ lk (tb_LH sq) 851 = (x_al 852 1, true) ∧ lk (tb_LH sq) 874 = (x_al 875 1, true) ∧ lk (tb_LH sq) 897 = (x_al 898 1, true) ∧ lk (tb_LH sq) 920 = (x_inc 923 3 4, true) ∧ lk (tb_LH sq) 923 = (x_go 18, false) ∧ lk (tb_LH sq) 926 = (x_c 927 (.int 1), false) ∧ lk (tb_LH sq) 927 = (x_rZ, false) := ⟨rfl, rfl, rfl, rfl, rfl, rfl, rfl, rfl, rfl, rfl, rfl, rfl, rfl, rfl, rfl, rfl, rfl, rfl, rfl, rfl, rfl, rfl, rfl, rfl, rfl, rfl, rfl, rfl, rfl, rfl, rfl, rfl, rfl, rfl, rfl, rfl, rfl, rfl, rfl, rfl, rfl, rfl, rfl, rfl, rfl, rfl, rfl, rfl, rfl, rfl, rfl, rfl, rfl⟩
theorem len4 {n i : Nat} (hn : n ≤ 2048) (hi : i ≤ 3000) : nI n - 4 < nI i ↔ n < i + 4 := by
  have h := pk_sub_toInt (a := n) (b := 4) (by omega) (by omega)
  rw [show (4 : Int32) = nI 4 by decide, Int32.lt_iff_toInt_lt, h, nI_toInt (by omega)]
  omega
set_option maxRecDepth 20000 in
theorem law_loop {sq : Nat × (Nat → Int32)} {R : Option Value → Mem → Prop} (h2 : sq.1 ≤ 2048) (hR : ∀ M, R (some (.int 1)) M) : ∀ n i S I L g, sq.1 < i + n → i ≤ 2100 → CR S I L g → MR S I L g → GOk g → J (mt_L_law sq) R 18 [some (.ref 9002), some (.ref 0), some (.ref 108), some (.int (nI i))] [] (S, I, L) := by
  intro n
  induction n with
  | zero =>
    intro i S I L g hn hi hC hM hO
    have hc : nI sq.1 - 4 < nI i ↔ True := by rw [len4 h2 (by omega)]; exact ⟨fun _ => trivial, fun _ => by omega⟩
    refine J.of (tk_LH sq) 200 fun ρ hρ => ?_
    simp only [hρ, x_c, x_il, x_ll, x_al, x_is, x_as, x_ls, x_inc, x_ii, x_iq, x_i1, x_l2, x_lq, x_lh, x_i2l, x_l2i, x_lcmp, x_dup, x_dup2, x_pop, x_if, x_ifn, x_ic, x_icn, x_go, x_sw, swc, x_l01, x_mx, x_gI, x_gL, x_gR, x_pI, x_pZ, x_pL, x_pR, x_ia, x_za, x_aa, x_ias, x_zas, x_aas, x_fac, x_fa, x_slen, x_sa, x_ac, x_oi, x_new, x_na, x_cS, x_cV, x_cI, x_rI, x_rZ, x_rL, x_r0, pa, short, oc, lg, lset, lset2, wide, cond_true, cond_false, true_and, and_true, ↓reduceIte, Bool.false_eq_true, true_or, or_true, lf_LH, hc, true_implies, not_true_eq_false, false_implies]
    exact hR _
  | succ n ih =>
    intro i S I L g hn hi hC hM hO
    by_cases h4 : i + 4 ≤ sq.1
    · have hc : nI sq.1 - 4 < nI i ↔ False := by rw [len4 h2 (by omega)]; exact ⟨fun _ => by omega, False.elim⟩
      have hnx : ∀ I' L' g', CR S I' L' g' → MR S I' L' g' → GOk g' → J (mt_L_law sq) R 920 [some (.ref 9002), some (.ref 0), some (.ref 108), some (.int (nI i))] [] (S, I', L') := fun I' L' g' c m o => by
        refine J.of (tk_LH sq) 200 fun ρ hρ => ?_
        simp only [hρ, x_c, x_il, x_ll, x_al, x_is, x_as, x_ls, x_inc, x_ii, x_iq, x_i1, x_l2, x_lq, x_lh, x_i2l, x_l2i, x_lcmp, x_dup, x_dup2, x_pop, x_if, x_ifn, x_ic, x_icn, x_go, x_sw, swc, x_l01, x_mx, x_gI, x_gL, x_gR, x_pI, x_pZ, x_pL, x_pR, x_ia, x_za, x_aa, x_ias, x_zas, x_aas, x_fac, x_fa, x_slen, x_sa, x_ac, x_oi, x_new, x_na, x_cS, x_cV, x_cI, x_rI, x_rZ, x_rL, x_r0, pa, short, oc, lg, lset, lset2, wide, cond_true, cond_false, true_and, and_true, ↓reduceIte, Bool.false_eq_true, true_or, or_true, lf_LH, show (4 : Int32) = nI 4 by decide, nI_add]
        exact ih (i + 4) S I' L' g' (by omega) (by omega) c m o
      have v0 : vp_in (nI i) sq.1 := vp_in_nI (by omega) (by omega)
      refine J.of (tk_LH sq) 200 fun ρ hρ => ?_
      simp only [hρ, x_c, x_il, x_ll, x_al, x_is, x_as, x_ls, x_inc, x_ii, x_iq, x_i1, x_l2, x_lq, x_lh, x_i2l, x_l2i, x_lcmp, x_dup, x_dup2, x_pop, x_if, x_ifn, x_ic, x_icn, x_go, x_sw, swc, x_l01, x_mx, x_gI, x_gL, x_gR, x_pI, x_pZ, x_pL, x_pR, x_ia, x_za, x_aa, x_ias, x_zas, x_aas, x_fac, x_fa, x_slen, x_sa, x_ac, x_oi, x_new, x_na, x_cS, x_cV, x_cI, x_rI, x_rZ, x_rL, x_r0, pa, short, oc, lg, lset, lset2, wide, cond_true, cond_false, true_and, and_true, ↓reduceIte, Bool.false_eq_true, true_or, or_true, lf_LH, hc, eq_true v0, ncl (show i < 2 ^ 31 by omega), true_implies, not_true_eq_false, false_implies, not_false_eq_true]
      exact ⟨⟨fun _ => lc_0 h4 h2 hC hM hO hnx, fun _ => lc_1 h4 h2 hC hM hO hnx, fun _ => lc_2 h4 h2 hC hM hO hnx, fun _ => lc_3 h4 h2 hC hM hO hnx, fun _ => lc_4 h4 h2 hC hM hO hnx, fun _ => lc_5 h4 h2 hC hM hO hnx, fun _ => lc_6 h4 h2 hC hM hO hnx, fun _ => lc_7 h4 h2 hC hM hO hnx, fun _ => lc_8 h4 h2 hC hM hO hnx, fun _ => lc_9 h4 h2 hC hM hO hnx, fun _ => lc_10 h4 h2 hC hM hO hnx, fun _ => lc_11 h4 h2 hC hM hO hnx, fun _ => lc_12 h4 h2 hC hM hO hnx, fun _ => lc_13 h4 h2 hC hM hO hnx, fun _ => lc_14 h4 h2 hC hM hO hnx, fun _ => lc_15 h4 h2 hC hM hO hnx, fun _ => lc_16 h4 h2 hC hM hO hnx, fun _ => lc_17 h4 h2 hC hM hO hnx, fun _ => lc_18 h4 h2 hC hM hO hnx, fun _ => lc_19 h4 h2 hC hM hO hnx, fun _ => lc_20 h4 h2 hC hM hO hnx, fun _ => lc_21 h4 h2 hC hM hO hnx, fun _ => lc_22 h4 h2 hC hM hO hnx, fun _ => lc_23 h4 h2 hC hM hO hnx, fun _ => lc_24 h4 h2 hC hM hO hnx, fun _ => lc_25 h4 h2 hC hM hO hnx, fun _ => lc_26 h4 h2 hC hM hO hnx⟩, fun _ => hnx I L g hC hM hO⟩
    · have hc : nI sq.1 - 4 < nI i ↔ True := by rw [len4 h2 (by omega)]; exact ⟨fun _ => trivial, fun _ => by omega⟩
      refine J.of (tk_LH sq) 200 fun ρ hρ => ?_
      simp only [hρ, x_c, x_il, x_ll, x_al, x_is, x_as, x_ls, x_inc, x_ii, x_iq, x_i1, x_l2, x_lq, x_lh, x_i2l, x_l2i, x_lcmp, x_dup, x_dup2, x_pop, x_if, x_ifn, x_ic, x_icn, x_go, x_sw, swc, x_l01, x_mx, x_gI, x_gL, x_gR, x_pI, x_pZ, x_pL, x_pR, x_ia, x_za, x_aa, x_ias, x_zas, x_aas, x_fac, x_fa, x_slen, x_sa, x_ac, x_oi, x_new, x_na, x_cS, x_cV, x_cI, x_rI, x_rZ, x_rL, x_r0, pa, short, oc, lg, lset, lset2, wide, cond_true, cond_false, true_and, and_true, ↓reduceIte, Bool.false_eq_true, true_or, or_true, lf_LH, hc, true_implies, not_true_eq_false, false_implies]
      exact hR _
set_option maxRecDepth 20000 in
theorem law_start {sq : Nat × (Nat → Int32)} {R : Option Value → Mem → Prop} (h2 : sq.1 ≤ 2048) (hR : ∀ M, R (some (.int 1)) M) : J (mt_L_law sq) R 0 [some (.ref 9002), none, none, none] [] ((0, 0, fun _ => (0, 0), fun _ _ => 9999), fun _ _ => 0, fun _ _ => 0) := by
  have st8 : ∀ M : Mem, M.1.1 = 108 → M.1.2.1 = 1713 → CR M.1 M.2.1 M.2.2 g0 → J (mt_L_law sq) R 8 [some (.ref 9002), some (.ref 0), none, none] [] M := by
    intro M q1 q2 hC
    obtain ⟨⟨n, s, kd, rf⟩, I2, L2⟩ := M
    replace q1 : n = 108 := q1
    subst q1
    replace q2 : s = 1713 := q2
    subst q2
    have nf : nfC 10 = 26 := rfl
    refine J.of (tk_LH sq) 200 fun ρ hρ => ?_
    simp only [hρ, x_c, x_il, x_ll, x_al, x_is, x_as, x_ls, x_inc, x_ii, x_iq, x_i1, x_l2, x_lq, x_lh, x_i2l, x_l2i, x_lcmp, x_dup, x_dup2, x_pop, x_if, x_ifn, x_ic, x_icn, x_go, x_sw, swc, x_l01, x_mx, x_gI, x_gL, x_gR, x_pI, x_pZ, x_pL, x_pR, x_ia, x_za, x_aa, x_ias, x_zas, x_aas, x_fac, x_fa, x_slen, x_sa, x_ac, x_oi, x_new, x_na, x_cS, x_cV, x_cI, x_rI, x_rZ, x_rL, x_r0, pa, short, oc, lg, lset, lset2, wide, cond_true, cond_false, true_and, and_true, ↓reduceIte, Bool.false_eq_true, true_or, or_true, lf_LH, P_X10_init]
    refine ⟨by decide, by decide, by decide, by decide, by decide, by decide, by decide, tO_nw (((108, 1713, kd, rf) : Sh), I2, L2) 10, fun j => by rw [mS_s], fun j => by rw [mS_s], fun M3 m1 m2 m3 m4 => ⟨m1, m2, ?_⟩⟩
    obtain ⟨S3, I3, L3⟩ := M3
    have hK := (Kp.nw (((108, 1713, kd, rf) : Sh), I2, L2) 10).trans m3
    have hG := hK.g (by rw [m1]; show 108 ≤ 123; omega)
    exact law_loop h2 hR (sq.1 + 1) 0 S3 I3 L3 g0 (by omega) (by omega) (hC.gr hG (fun q hq => (hK q hq).2.2.1) (hK 0 (by show 0 < 108; omega)).2.2.2) m4 g0_ok
  have nf : nfC 9 = 11 := rfl
  refine J.of (tk_LH sq) 200 fun ρ hρ => ?_
  simp only [hρ, x_c, x_il, x_ll, x_al, x_is, x_as, x_ls, x_inc, x_ii, x_iq, x_i1, x_l2, x_lq, x_lh, x_i2l, x_l2i, x_lcmp, x_dup, x_dup2, x_pop, x_if, x_ifn, x_ic, x_icn, x_go, x_sw, swc, x_l01, x_mx, x_gI, x_gL, x_gR, x_pI, x_pZ, x_pL, x_pR, x_ia, x_za, x_aa, x_ias, x_zas, x_aas, x_fac, x_fa, x_slen, x_sa, x_ac, x_oi, x_new, x_na, x_cS, x_cV, x_cI, x_rI, x_rZ, x_rL, x_r0, pa, short, oc, lg, lset, lset2, wide, cond_true, cond_false, true_and, and_true, ↓reduceIte, Bool.false_eq_true, true_or, or_true, lf_LH, P_X9_init]
  exact ⟨by decide, by decide, by decide, by decide, by decide, by decide, by decide, tO_nw (((0, 0, fun _ => (0, 0), fun _ _ => 9999) : Sh), (fun _ _ => 0), fun _ _ => 0) 9, fun M2 m1 m2 m3 => ⟨m1, m2, st8 M2 m1 m2 m3⟩⟩

