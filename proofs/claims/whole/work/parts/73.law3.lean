/-! THE LAW, case by case, on -/
def il_L21 : List (Nat × Instr × Nat) := [(689, .aload_n 1, 1), (690, .aload_n 0, 1), (691, .iload_n 3, 1), (692, .iconst 1, 1), (693, .iadd, 1), (694, .iaload, 1), (695, .aload_n 0, 1), (696, .iload_n 3, 1), (697, .iconst 2, 1), (698, .iadd, 1), (699, .iaload, 1), (700, .ifCond .eq 7, 3), (703, .iconst 1, 1), (704, .goto 4, 3), (707, .iconst 0, 1), (708, .invokevirtual 104, 3), (711, .aload_n 2, 1), (712, .aload_n 0, 1), (713, .iload_n 3, 1), (714, .iconst 1, 1), (715, .iadd, 1), (716, .iaload, 1), (717, .aload_n 0, 1), (718, .iload_n 3, 1), (719, .iconst 2, 1), (720, .iadd, 1), (721, .iaload, 1), (722, .ifCond .eq 7, 3), (725, .iconst 1, 1), (726, .goto 4, 3), (729, .iconst 0, 1), (730, .invokevirtual 108, 3), (733, .if_icmp .eq 187, 3), (736, .iconst 0, 1), (737, .ireturn, 1), (920, .iinc 3 4, 3)]
set_option maxRecDepth 100000 in
theorem dl_L21 (sq : Nat × (Nat → Int32)) : ∀ q ∈ il_L21, decode (mt_L_law sq).1 q.1 = .ok q.2 := (by decide +kernel : ∀ q ∈ il_L21, decode cL_law q.1 = .ok q.2)
def tb_L21 (sq : Nat × (Nat → Int32)) : Tb := [(689, x_al 690 1, false),
  (690, x_al 691 0, false),
  (691, x_il 692 3, false),
  (692, x_c 693 (.int 1), false),
  (693, x_ii 694 (fun x y : Int32 => x + y), false),
  (694, x_sa 695 sq, false),
  (695, x_al 696 0, false),
  (696, x_il 697 3, false),
  (697, x_c 698 (.int 2), false),
  (698, x_ii 699 (fun x y : Int32 => x + y), false),
  (699, x_sa 700 sq, false),
  (700, x_if 707 703 (fun x : Int32 => x = 0), false),
  (703, x_c 704 (.int 1), false),
  (704, x_go 708, false),
  (707, x_c 708 (.int 0), false),
  (708, x_cV 9 2 P_X9_share 711, false),
  (711, x_al 712 2, false),
  (712, x_al 713 0, false),
  (713, x_il 714 3, false),
  (714, x_c 715 (.int 1), false),
  (715, x_ii 716 (fun x y : Int32 => x + y), false),
  (716, x_sa 717 sq, false),
  (717, x_al 718 0, false),
  (718, x_il 719 3, false),
  (719, x_c 720 (.int 2), false),
  (720, x_ii 721 (fun x y : Int32 => x + y), false),
  (721, x_sa 722 sq, false),
  (722, x_if 729 725 (fun x : Int32 => x = 0), false),
  (725, x_c 726 (.int 1), false),
  (726, x_go 730, false),
  (729, x_c 730 (.int 0), false),
  (730, x_cV 10 2 P_X10_share 733, false),
  (733, x_ic 920 736 (fun x y : Int32 => x = y), false),
  (736, x_c 737 (.int 0), false),
  (737, x_rZ, false),
  (920, x_inc 923 3 4, true)]
set_option maxRecDepth 100000 in
theorem tk_L21 (sq : Nat × (Nat → Int32)) : TbOk (mt_L_law sq) (tb_L21 sq) :=
  tkc (s_aload_n (at_ (dl_L21 sq) 0 (ins := .aload_n 1) rfl)) (
  tkc (s_aload_n (at_ (dl_L21 sq) 1 (ins := .aload_n 0) rfl)) (
  tkc (s_iload_n (at_ (dl_L21 sq) 2 (ins := .iload_n 3) rfl)) (
  tkc (s_iconst (at_ (dl_L21 sq) 3 (ins := .iconst 1) rfl) (by first | rfl | decide)) (
  tkc (s_iadd (at_ (dl_L21 sq) 4 (ins := .iadd) rfl)) (
  tkc (s_sa (at_ (dl_L21 sq) 5 (ins := .iaload) rfl) rfl) (
  tkc (s_aload_n (at_ (dl_L21 sq) 6 (ins := .aload_n 0) rfl)) (
  tkc (s_iload_n (at_ (dl_L21 sq) 7 (ins := .iload_n 3) rfl)) (
  tkc (s_iconst (at_ (dl_L21 sq) 8 (ins := .iconst 2) rfl) (by first | rfl | decide)) (
  tkc (s_iadd (at_ (dl_L21 sq) 9 (ins := .iadd) rfl)) (
  tkc (s_sa (at_ (dl_L21 sq) 10 (ins := .iaload) rfl) rfl) (
  tkc (s_if_eq (at_ (dl_L21 sq) 11 (ins := .ifCond .eq 7) rfl) (by decide)) (
  tkc (s_iconst (at_ (dl_L21 sq) 12 (ins := .iconst 1) rfl) (by first | rfl | decide)) (
  tkc (s_goto (at_ (dl_L21 sq) 13 (ins := .goto 4) rfl) (by decide)) (
  tkc (s_iconst (at_ (dl_L21 sq) 14 (ins := .iconst 0) rfl) (by first | rfl | decide)) (
  tkc (s_cV ok_X9_share (at_ (dl_L21 sq) 15 (ins := .invokevirtual 104) rfl) (by decide) rfl (show Cond.methodLink RL 104 yX9_share ∈ tblG from (tg 640 (by decide +kernel) (by decide +kernel))) (tg 641 (by decide +kernel) (by decide +kernel)) (tg 642 (by decide +kernel) (by decide +kernel)) (tg 42 (by decide +kernel) (by decide +kernel)) (tg 643 (by decide +kernel) (by decide +kernel)) (⟨by decide, by decide, by decide +kernel⟩) (⟨(Nat.le_of_ble_eq_true rfl), (Nat.le_of_ble_eq_true rfl)⟩) rfl rfl) (
  tkc (s_aload_n (at_ (dl_L21 sq) 16 (ins := .aload_n 2) rfl)) (
  tkc (s_aload_n (at_ (dl_L21 sq) 17 (ins := .aload_n 0) rfl)) (
  tkc (s_iload_n (at_ (dl_L21 sq) 18 (ins := .iload_n 3) rfl)) (
  tkc (s_iconst (at_ (dl_L21 sq) 19 (ins := .iconst 1) rfl) (by first | rfl | decide)) (
  tkc (s_iadd (at_ (dl_L21 sq) 20 (ins := .iadd) rfl)) (
  tkc (s_sa (at_ (dl_L21 sq) 21 (ins := .iaload) rfl) rfl) (
  tkc (s_aload_n (at_ (dl_L21 sq) 22 (ins := .aload_n 0) rfl)) (
  tkc (s_iload_n (at_ (dl_L21 sq) 23 (ins := .iload_n 3) rfl)) (
  tkc (s_iconst (at_ (dl_L21 sq) 24 (ins := .iconst 2) rfl) (by first | rfl | decide)) (
  tkc (s_iadd (at_ (dl_L21 sq) 25 (ins := .iadd) rfl)) (
  tkc (s_sa (at_ (dl_L21 sq) 26 (ins := .iaload) rfl) rfl) (
  tkc (s_if_eq (at_ (dl_L21 sq) 27 (ins := .ifCond .eq 7) rfl) (by decide)) (
  tkc (s_iconst (at_ (dl_L21 sq) 28 (ins := .iconst 1) rfl) (by first | rfl | decide)) (
  tkc (s_goto (at_ (dl_L21 sq) 29 (ins := .goto 4) rfl) (by decide)) (
  tkc (s_iconst (at_ (dl_L21 sq) 30 (ins := .iconst 0) rfl) (by first | rfl | decide)) (
  tkc (s_cV ok_X10_share (at_ (dl_L21 sq) 31 (ins := .invokevirtual 108) rfl) (by decide) rfl (show Cond.methodLink RL 108 yX10_share ∈ tblG from (tg 982 (by decide +kernel) (by decide +kernel))) (tg 983 (by decide +kernel) (by decide +kernel)) (tg 984 (by decide +kernel) (by decide +kernel)) (tg 51 (by decide +kernel) (by decide +kernel)) (tg 985 (by decide +kernel) (by decide +kernel)) (⟨by decide, by decide, by decide +kernel⟩) (⟨(Nat.le_of_ble_eq_true rfl), (Nat.le_of_ble_eq_true rfl)⟩) rfl rfl) (
  tkc (s_ic_eq (at_ (dl_L21 sq) 32 (ins := .if_icmp .eq 187) rfl) (by decide)) (
  tkc (s_iconst (at_ (dl_L21 sq) 33 (ins := .iconst 0) rfl) (by first | rfl | decide)) (
  tkc (s_rZ (at_ (dl_L21 sq) 34 (ins := .ireturn) rfl) rfl) (
  tkc (s_iinc (at_ (dl_L21 sq) 35 (ins := .iinc 3 4) rfl) (Nat.le_of_ble_eq_true rfl) (by first | rfl | decide)) ( tk0))))))))))))))))))))))))))))))))))))
theorem lf_L21 (sq : Nat × (Nat → Int32)) : lk (tb_L21 sq) 689 = (x_al 690 1, false) ∧ lk (tb_L21 sq) 690 = (x_al 691 0, false) ∧ lk (tb_L21 sq) 691 = (x_il 692 3, false) ∧ lk (tb_L21 sq) 692 = (x_c 693 (.int 1), false) ∧ lk (tb_L21 sq) 693 = (x_ii 694 (fun x y : Int32 => x + y), false) ∧ lk (tb_L21 sq) 694 = (x_sa 695 sq, false) ∧ lk (tb_L21 sq) 695 = (x_al 696 0, false) ∧ lk (tb_L21 sq) 696 = (x_il 697 3, false) ∧ lk (tb_L21 sq) 697 = (x_c 698 (.int 2), false) ∧ lk (tb_L21 sq) 698 = (x_ii 699 (fun x y : Int32 => x + y), false) ∧ lk (tb_L21 sq) 699 = (x_sa 700 sq, false) ∧ lk (tb_L21 sq) 700 = (x_if 707 703 (fun x : Int32 => x = 0), false) ∧ lk (tb_L21 sq) 703 = (x_c 704 (.int 1), false) ∧ lk (tb_L21 sq) 704 = (x_go 708, false) ∧ lk (tb_L21 sq) 707 = (x_c 708 (.int 0), false) ∧ lk (tb_L21 sq) 708 = (x_cV 9 2 P_X9_share 711, false) ∧ lk (tb_L21 sq) 711 = (x_al 712 2, false) ∧ lk (tb_L21 sq) 712 = (x_al 713 0, false) ∧ lk (tb_L21 sq) 713 = (x_il 714 3, false) ∧ lk (tb_L21 sq) 714 = (x_c 715 (.int 1), false) ∧ lk (tb_L21 sq) 715 = (x_ii 716 (fun x y : Int32 => x + y), false) ∧ lk (tb_L21 sq) 716 = (x_sa 717 sq, false) ∧ lk (tb_L21 sq) 717 = (x_al 718 0, false) ∧ lk (tb_L21 sq) 718 = (x_il 719 3, false) ∧ lk (tb_L21 sq) 719 = (x_c 720 (.int 2), false) ∧ lk (tb_L21 sq) 720 = (x_ii 721 (fun x y : Int32 => x + y), false) ∧ lk (tb_L21 sq) 721 = (x_sa 722 sq, false) ∧ lk (tb_L21 sq) 722 = (x_if 729 725 (fun x : Int32 => x = 0), false) ∧ lk (tb_L21 sq) 725 = (x_c 726 (.int 1), false) ∧ lk (tb_L21 sq) 726 = (x_go 730, false) ∧ lk (tb_L21 sq) 729 = (x_c 730 (.int 0), false) ∧ lk (tb_L21 sq) 730 = (x_cV 10 2 P_X10_share 733, false) ∧ lk (tb_L21 sq) 733 = (x_ic 920 736 (fun x y : Int32 => x = y), false) ∧ lk (tb_L21 sq) 736 = (x_c 737 (.int 0), false) ∧ lk (tb_L21 sq) 737 = (x_rZ, false) ∧ lk (tb_L21 sq) 920 = (x_inc 923 3 4, true) := ⟨rfl, rfl, rfl, rfl, rfl, rfl, rfl, rfl, rfl, rfl, rfl, rfl, rfl, rfl, rfl, rfl, rfl, rfl, rfl, rfl, rfl, rfl, rfl, rfl, rfl, rfl, rfl, rfl, rfl, rfl, rfl, rfl, rfl, rfl, rfl, rfl⟩
set_option maxRecDepth 20000 in
theorem lc_21 {sq : Nat × (Nat → Int32)} {R : Option Value → Mem → Prop} {S : Sh} {I : MI} {L : Nat → Nat → Int64} {g : GS} {i : Nat} (h4 : i + 4 ≤ sq.1) (h2 : sq.1 ≤ 2048) (hC : CR S I L g) (hM : MR S I L g) (hO : GOk g) (hnx : ∀ I' L' g', CR S I' L' g' → MR S I' L' g' → GOk g' → J (mt_L_law sq) R 920 [some (.ref 9002), some (.ref 0), some (.ref 108), some (.int (nI i))] [] (S, I', L')) : J (mt_L_law sq) R 689 [some (.ref 9002), some (.ref 0), some (.ref 108), some (.int (nI i))] [] (S, I, L) := by
  have t0 : tO S 0 9 := hC.1.1.1
  have t8 : tO S 108 10 := hM.1.1
  have v1 : vp_in (nI (i + 1)) sq.1 := vp_in_nI (by omega) (by omega)
  have v2 : vp_in (nI (i + 2)) sq.1 := vp_in_nI (by omega) (by omega)
  have v3 : vp_in (nI (i + 3)) sq.1 := vp_in_nI (by omega) (by omega)
  by_cases hz : sq.2 (i + 2) = 0
  · refine J.of (tk_L21 sq) 200 fun ρ hρ => ?_
    simp only [hρ, x_c, x_il, x_ll, x_al, x_is, x_as, x_ls, x_inc, x_ii, x_iq, x_i1, x_l2, x_lq, x_lh, x_i2l, x_l2i, x_lcmp, x_dup, x_dup2, x_pop, x_if, x_ifn, x_ic, x_icn, x_go, x_sw, swc, x_l01, x_mx, x_gI, x_gL, x_gR, x_pI, x_pZ, x_pL, x_pR, x_ia, x_za, x_aa, x_ias, x_zas, x_aas, x_fac, x_fa, x_slen, x_sa, x_ac, x_oi, x_new, x_na, x_cS, x_cV, x_cI, x_rI, x_rZ, x_rL, x_r0, pa, short, oc, lg, lset, lset2, wide, cond_true, cond_false, true_and, and_true, ↓reduceIte, Bool.false_eq_true, true_or, or_true, lf_L21, t0, t8, P_X9_share, P_X10_share, Ans, Anm, nI_1, show (2 : Int32) = nI 2 by decide, show (3 : Int32) = nI 3 by decide, nI_add, eq_true v1, eq_true v2, eq_true v3, ncl (show i + 1 < 2 ^ 31 by omega), ncl (show i + 2 < 2 ^ 31 by omega), ncl (show i + 3 < 2 ^ 31 by omega), lg_cmp_eq, true_implies, not_true_eq_false, false_implies, not_false_eq_true, hz]
    exact ⟨g, hC, hO, fun I1 L1 f1 l1 c1 => ⟨g, hM.f8 f1 l1, hO, fun I2 L2 f2 l2 c2 => ⟨fun _ => hnx I2 L2 _ (c1.i f2 (l2 0 (by omega))) c2 hO, fun h => absurd rfl h⟩⟩⟩
  · refine J.of (tk_L21 sq) 200 fun ρ hρ => ?_
    simp only [hρ, x_c, x_il, x_ll, x_al, x_is, x_as, x_ls, x_inc, x_ii, x_iq, x_i1, x_l2, x_lq, x_lh, x_i2l, x_l2i, x_lcmp, x_dup, x_dup2, x_pop, x_if, x_ifn, x_ic, x_icn, x_go, x_sw, swc, x_l01, x_mx, x_gI, x_gL, x_gR, x_pI, x_pZ, x_pL, x_pR, x_ia, x_za, x_aa, x_ias, x_zas, x_aas, x_fac, x_fa, x_slen, x_sa, x_ac, x_oi, x_new, x_na, x_cS, x_cV, x_cI, x_rI, x_rZ, x_rL, x_r0, pa, short, oc, lg, lset, lset2, wide, cond_true, cond_false, true_and, and_true, ↓reduceIte, Bool.false_eq_true, true_or, or_true, lf_L21, t0, t8, P_X9_share, P_X10_share, Ans, Anm, nI_1, show (2 : Int32) = nI 2 by decide, show (3 : Int32) = nI 3 by decide, nI_add, eq_true v1, eq_true v2, eq_true v3, ncl (show i + 1 < 2 ^ 31 by omega), ncl (show i + 2 < 2 ^ 31 by omega), ncl (show i + 3 < 2 ^ 31 by omega), lg_cmp_eq, true_implies, not_true_eq_false, false_implies, not_false_eq_true, hz]
    exact ⟨g, hC, hO, fun I1 L1 f1 l1 c1 => ⟨g, hM.f8 f1 l1, hO, fun I2 L2 f2 l2 c2 => ⟨fun _ => hnx I2 L2 _ (c1.i f2 (l2 0 (by omega))) c2 hO, fun h => absurd rfl h⟩⟩⟩
def il_L22 : List (Nat × Instr × Nat) := [(738, .aload_n 1, 1), (739, .aload_n 0, 1), (740, .iload_n 3, 1), (741, .iconst 1, 1), (742, .iadd, 1), (743, .iaload, 1), (744, .aload_n 0, 1), (745, .iload_n 3, 1), (746, .iconst 2, 1), (747, .iadd, 1), (748, .iaload, 1), (749, .aload_n 0, 1), (750, .iload_n 3, 1), (751, .iconst 3, 1), (752, .iadd, 1), (753, .iaload, 1), (754, .ifCond .eq 7, 3), (757, .iconst 1, 1), (758, .goto 4, 3), (761, .iconst 0, 1), (762, .invokevirtual 109, 3), (765, .aload_n 2, 1), (766, .aload_n 0, 1), (767, .iload_n 3, 1), (768, .iconst 1, 1), (769, .iadd, 1), (770, .iaload, 1), (771, .aload_n 0, 1), (772, .iload_n 3, 1), (773, .iconst 2, 1), (774, .iadd, 1), (775, .iaload, 1), (776, .aload_n 0, 1), (777, .iload_n 3, 1), (778, .iconst 3, 1), (779, .iadd, 1), (780, .iaload, 1), (781, .ifCond .eq 7, 3), (784, .iconst 1, 1), (785, .goto 4, 3), (788, .iconst 0, 1), (789, .invokevirtual 113, 3), (792, .if_icmp .eq 128, 3), (795, .iconst 0, 1), (796, .ireturn, 1), (920, .iinc 3 4, 3)]
set_option maxRecDepth 100000 in
theorem dl_L22 (sq : Nat × (Nat → Int32)) : ∀ q ∈ il_L22, decode (mt_L_law sq).1 q.1 = .ok q.2 := (by decide +kernel : ∀ q ∈ il_L22, decode cL_law q.1 = .ok q.2)
def tb_L22 (sq : Nat × (Nat → Int32)) : Tb := [(738, x_al 739 1, false),
  (739, x_al 740 0, false),
  (740, x_il 741 3, false),
  (741, x_c 742 (.int 1), false),
  (742, x_ii 743 (fun x y : Int32 => x + y), false),
  (743, x_sa 744 sq, false),
  (744, x_al 745 0, false),
  (745, x_il 746 3, false),
  (746, x_c 747 (.int 2), false),
  (747, x_ii 748 (fun x y : Int32 => x + y), false),
  (748, x_sa 749 sq, false),
  (749, x_al 750 0, false),
  (750, x_il 751 3, false),
  (751, x_c 752 (.int 3), false),
  (752, x_ii 753 (fun x y : Int32 => x + y), false),
  (753, x_sa 754 sq, false),
  (754, x_if 761 757 (fun x : Int32 => x = 0), false),
  (757, x_c 758 (.int 1), false),
  (758, x_go 762, false),
  (761, x_c 762 (.int 0), false),
  (762, x_cV 9 3 P_X9_chance 765, false),
  (765, x_al 766 2, false),
  (766, x_al 767 0, false),
  (767, x_il 768 3, false),
  (768, x_c 769 (.int 1), false),
  (769, x_ii 770 (fun x y : Int32 => x + y), false),
  (770, x_sa 771 sq, false),
  (771, x_al 772 0, false),
  (772, x_il 773 3, false),
  (773, x_c 774 (.int 2), false),
  (774, x_ii 775 (fun x y : Int32 => x + y), false),
  (775, x_sa 776 sq, false),
  (776, x_al 777 0, false),
  (777, x_il 778 3, false),
  (778, x_c 779 (.int 3), false),
  (779, x_ii 780 (fun x y : Int32 => x + y), false),
  (780, x_sa 781 sq, false),
  (781, x_if 788 784 (fun x : Int32 => x = 0), false),
  (784, x_c 785 (.int 1), false),
  (785, x_go 789, false),
  (788, x_c 789 (.int 0), false),
  (789, x_cV 10 3 P_X10_chance 792, false),
  (792, x_ic 920 795 (fun x y : Int32 => x = y), false),
  (795, x_c 796 (.int 0), false),
  (796, x_rZ, false),
  (920, x_inc 923 3 4, true)]
set_option maxRecDepth 100000 in
theorem tk_L22 (sq : Nat × (Nat → Int32)) : TbOk (mt_L_law sq) (tb_L22 sq) :=
  tkc (s_aload_n (at_ (dl_L22 sq) 0 (ins := .aload_n 1) rfl)) (
  tkc (s_aload_n (at_ (dl_L22 sq) 1 (ins := .aload_n 0) rfl)) (
  tkc (s_iload_n (at_ (dl_L22 sq) 2 (ins := .iload_n 3) rfl)) (
  tkc (s_iconst (at_ (dl_L22 sq) 3 (ins := .iconst 1) rfl) (by first | rfl | decide)) (
  tkc (s_iadd (at_ (dl_L22 sq) 4 (ins := .iadd) rfl)) (
  tkc (s_sa (at_ (dl_L22 sq) 5 (ins := .iaload) rfl) rfl) (
  tkc (s_aload_n (at_ (dl_L22 sq) 6 (ins := .aload_n 0) rfl)) (
  tkc (s_iload_n (at_ (dl_L22 sq) 7 (ins := .iload_n 3) rfl)) (
  tkc (s_iconst (at_ (dl_L22 sq) 8 (ins := .iconst 2) rfl) (by first | rfl | decide)) (
  tkc (s_iadd (at_ (dl_L22 sq) 9 (ins := .iadd) rfl)) (
  tkc (s_sa (at_ (dl_L22 sq) 10 (ins := .iaload) rfl) rfl) (
  tkc (s_aload_n (at_ (dl_L22 sq) 11 (ins := .aload_n 0) rfl)) (
  tkc (s_iload_n (at_ (dl_L22 sq) 12 (ins := .iload_n 3) rfl)) (
  tkc (s_iconst (at_ (dl_L22 sq) 13 (ins := .iconst 3) rfl) (by first | rfl | decide)) (
  tkc (s_iadd (at_ (dl_L22 sq) 14 (ins := .iadd) rfl)) (
  tkc (s_sa (at_ (dl_L22 sq) 15 (ins := .iaload) rfl) rfl) (
  tkc (s_if_eq (at_ (dl_L22 sq) 16 (ins := .ifCond .eq 7) rfl) (by decide)) (
  tkc (s_iconst (at_ (dl_L22 sq) 17 (ins := .iconst 1) rfl) (by first | rfl | decide)) (
  tkc (s_goto (at_ (dl_L22 sq) 18 (ins := .goto 4) rfl) (by decide)) (
  tkc (s_iconst (at_ (dl_L22 sq) 19 (ins := .iconst 0) rfl) (by first | rfl | decide)) (
  tkc (s_cV ok_X9_chance (at_ (dl_L22 sq) 20 (ins := .invokevirtual 109) rfl) (by decide) rfl (show Cond.methodLink RL 109 yX9_chance ∈ tblG from (tg 657 (by decide +kernel) (by decide +kernel))) (tg 658 (by decide +kernel) (by decide +kernel)) (tg 659 (by decide +kernel) (by decide +kernel)) (tg 42 (by decide +kernel) (by decide +kernel)) (tg 660 (by decide +kernel) (by decide +kernel)) (⟨by decide, by decide, by decide +kernel⟩) (⟨(Nat.le_of_ble_eq_true rfl), (Nat.le_of_ble_eq_true rfl)⟩) rfl rfl) (
  tkc (s_aload_n (at_ (dl_L22 sq) 21 (ins := .aload_n 2) rfl)) (
  tkc (s_aload_n (at_ (dl_L22 sq) 22 (ins := .aload_n 0) rfl)) (
  tkc (s_iload_n (at_ (dl_L22 sq) 23 (ins := .iload_n 3) rfl)) (
  tkc (s_iconst (at_ (dl_L22 sq) 24 (ins := .iconst 1) rfl) (by first | rfl | decide)) (
  tkc (s_iadd (at_ (dl_L22 sq) 25 (ins := .iadd) rfl)) (
  tkc (s_sa (at_ (dl_L22 sq) 26 (ins := .iaload) rfl) rfl) (
  tkc (s_aload_n (at_ (dl_L22 sq) 27 (ins := .aload_n 0) rfl)) (
  tkc (s_iload_n (at_ (dl_L22 sq) 28 (ins := .iload_n 3) rfl)) (
  tkc (s_iconst (at_ (dl_L22 sq) 29 (ins := .iconst 2) rfl) (by first | rfl | decide)) (
  tkc (s_iadd (at_ (dl_L22 sq) 30 (ins := .iadd) rfl)) (
  tkc (s_sa (at_ (dl_L22 sq) 31 (ins := .iaload) rfl) rfl) (
  tkc (s_aload_n (at_ (dl_L22 sq) 32 (ins := .aload_n 0) rfl)) (
  tkc (s_iload_n (at_ (dl_L22 sq) 33 (ins := .iload_n 3) rfl)) (
  tkc (s_iconst (at_ (dl_L22 sq) 34 (ins := .iconst 3) rfl) (by first | rfl | decide)) (
  tkc (s_iadd (at_ (dl_L22 sq) 35 (ins := .iadd) rfl)) (
  tkc (s_sa (at_ (dl_L22 sq) 36 (ins := .iaload) rfl) rfl) (
  tkc (s_if_eq (at_ (dl_L22 sq) 37 (ins := .ifCond .eq 7) rfl) (by decide)) (
  tkc (s_iconst (at_ (dl_L22 sq) 38 (ins := .iconst 1) rfl) (by first | rfl | decide)) (
  tkc (s_goto (at_ (dl_L22 sq) 39 (ins := .goto 4) rfl) (by decide)) (
  tkc (s_iconst (at_ (dl_L22 sq) 40 (ins := .iconst 0) rfl) (by first | rfl | decide)) (
  tkc (s_cV ok_X10_chance (at_ (dl_L22 sq) 41 (ins := .invokevirtual 113) rfl) (by decide) rfl (show Cond.methodLink RL 113 yX10_chance ∈ tblG from (tg 992 (by decide +kernel) (by decide +kernel))) (tg 993 (by decide +kernel) (by decide +kernel)) (tg 994 (by decide +kernel) (by decide +kernel)) (tg 51 (by decide +kernel) (by decide +kernel)) (tg 995 (by decide +kernel) (by decide +kernel)) (⟨by decide, by decide, by decide +kernel⟩) (⟨(Nat.le_of_ble_eq_true rfl), (Nat.le_of_ble_eq_true rfl)⟩) rfl rfl) (
  tkc (s_ic_eq (at_ (dl_L22 sq) 42 (ins := .if_icmp .eq 128) rfl) (by decide)) (
  tkc (s_iconst (at_ (dl_L22 sq) 43 (ins := .iconst 0) rfl) (by first | rfl | decide)) (
  tkc (s_rZ (at_ (dl_L22 sq) 44 (ins := .ireturn) rfl) rfl) (
  tkc (s_iinc (at_ (dl_L22 sq) 45 (ins := .iinc 3 4) rfl) (Nat.le_of_ble_eq_true rfl) (by first | rfl | decide)) ( tk0))))))))))))))))))))))))))))))))))))))))))))))
theorem lf_L22 (sq : Nat × (Nat → Int32)) : lk (tb_L22 sq) 738 = (x_al 739 1, false) ∧ lk (tb_L22 sq) 739 = (x_al 740 0, false) ∧ lk (tb_L22 sq) 740 = (x_il 741 3, false) ∧ lk (tb_L22 sq) 741 = (x_c 742 (.int 1), false) ∧ lk (tb_L22 sq) 742 = (x_ii 743 (fun x y : Int32 => x + y), false) ∧ lk (tb_L22 sq) 743 = (x_sa 744 sq, false) ∧ lk (tb_L22 sq) 744 = (x_al 745 0, false) ∧ lk (tb_L22 sq) 745 = (x_il 746 3, false) ∧ lk (tb_L22 sq) 746 = (x_c 747 (.int 2), false) ∧ lk (tb_L22 sq) 747 = (x_ii 748 (fun x y : Int32 => x + y), false) ∧ lk (tb_L22 sq) 748 = (x_sa 749 sq, false) ∧ lk (tb_L22 sq) 749 = (x_al 750 0, false) ∧ lk (tb_L22 sq) 750 = (x_il 751 3, false) ∧ lk (tb_L22 sq) 751 = (x_c 752 (.int 3), false) ∧ lk (tb_L22 sq) 752 = (x_ii 753 (fun x y : Int32 => x + y), false) ∧ lk (tb_L22 sq) 753 = (x_sa 754 sq, false) ∧ lk (tb_L22 sq) 754 = (x_if 761 757 (fun x : Int32 => x = 0), false) ∧ lk (tb_L22 sq) 757 = (x_c 758 (.int 1), false) ∧ lk (tb_L22 sq) 758 = (x_go 762, false) ∧ lk (tb_L22 sq) 761 = (x_c 762 (.int 0), false) ∧ lk (tb_L22 sq) 762 = (x_cV 9 3 P_X9_chance 765, false) ∧ lk (tb_L22 sq) 765 = (x_al 766 2, false) ∧ lk (tb_L22 sq) 766 = (x_al 767 0, false) ∧ lk (tb_L22 sq) 767 = (x_il 768 3, false) ∧ lk (tb_L22 sq) 768 = (x_c 769 (.int 1), false) ∧ lk (tb_L22 sq) 769 = (x_ii 770 (fun x y : Int32 => x + y), false) ∧ lk (tb_L22 sq) 770 = (x_sa 771 sq, false) ∧ lk (tb_L22 sq) 771 = (x_al 772 0, false) ∧ lk (tb_L22 sq) 772 = (x_il 773 3, false) ∧ lk (tb_L22 sq) 773 = (x_c 774 (.int 2), false) ∧ lk (tb_L22 sq) 774 = (x_ii 775 (fun x y : Int32 => x + y), false) ∧ lk (tb_L22 sq) 775 = (x_sa 776 sq, false) ∧ lk (tb_L22 sq) 776 = (x_al 777 0, false) ∧ lk (tb_L22 sq) 777 = (x_il 778 3, false) ∧ lk (tb_L22 sq) 778 = (x_c 779 (.int 3), false) ∧ lk (tb_L22 sq) 779 = (x_ii 780 (fun x y : Int32 => x + y), false) ∧ lk (tb_L22 sq) 780 = (x_sa 781 sq, false) ∧ lk (tb_L22 sq) 781 = (x_if 788 784 (fun x : Int32 => x = 0), false) ∧ lk (tb_L22 sq) 784 = (x_c 785 (.int 1), false) ∧ lk (tb_L22 sq) 785 = (x_go 789, false) ∧ lk (tb_L22 sq) 788 = (x_c 789 (.int 0), false) ∧ lk (tb_L22 sq) 789 = (x_cV 10 3 P_X10_chance 792, false) ∧ lk (tb_L22 sq) 792 = (x_ic 920 795 (fun x y : Int32 => x = y), false) ∧ lk (tb_L22 sq) 795 = (x_c 796 (.int 0), false) ∧ lk (tb_L22 sq) 796 = (x_rZ, false) ∧ lk (tb_L22 sq) 920 = (x_inc 923 3 4, true) := ⟨rfl, rfl, rfl, rfl, rfl, rfl, rfl, rfl, rfl, rfl, rfl, rfl, rfl, rfl, rfl, rfl, rfl, rfl, rfl, rfl, rfl, rfl, rfl, rfl, rfl, rfl, rfl, rfl, rfl, rfl, rfl, rfl, rfl, rfl, rfl, rfl, rfl, rfl, rfl, rfl, rfl, rfl, rfl, rfl, rfl, rfl⟩
set_option maxRecDepth 20000 in
theorem lc_22 {sq : Nat × (Nat → Int32)} {R : Option Value → Mem → Prop} {S : Sh} {I : MI} {L : Nat → Nat → Int64} {g : GS} {i : Nat} (h4 : i + 4 ≤ sq.1) (h2 : sq.1 ≤ 2048) (hC : CR S I L g) (hM : MR S I L g) (hO : GOk g) (hnx : ∀ I' L' g', CR S I' L' g' → MR S I' L' g' → GOk g' → J (mt_L_law sq) R 920 [some (.ref 9002), some (.ref 0), some (.ref 108), some (.int (nI i))] [] (S, I', L')) : J (mt_L_law sq) R 738 [some (.ref 9002), some (.ref 0), some (.ref 108), some (.int (nI i))] [] (S, I, L) := by
  have t0 : tO S 0 9 := hC.1.1.1
  have t8 : tO S 108 10 := hM.1.1
  have v1 : vp_in (nI (i + 1)) sq.1 := vp_in_nI (by omega) (by omega)
  have v2 : vp_in (nI (i + 2)) sq.1 := vp_in_nI (by omega) (by omega)
  have v3 : vp_in (nI (i + 3)) sq.1 := vp_in_nI (by omega) (by omega)
  by_cases hz : sq.2 (i + 3) = 0
  · refine J.of (tk_L22 sq) 200 fun ρ hρ => ?_
    simp only [hρ, x_c, x_il, x_ll, x_al, x_is, x_as, x_ls, x_inc, x_ii, x_iq, x_i1, x_l2, x_lq, x_lh, x_i2l, x_l2i, x_lcmp, x_dup, x_dup2, x_pop, x_if, x_ifn, x_ic, x_icn, x_go, x_sw, swc, x_l01, x_mx, x_gI, x_gL, x_gR, x_pI, x_pZ, x_pL, x_pR, x_ia, x_za, x_aa, x_ias, x_zas, x_aas, x_fac, x_fa, x_slen, x_sa, x_ac, x_oi, x_new, x_na, x_cS, x_cV, x_cI, x_rI, x_rZ, x_rL, x_r0, pa, short, oc, lg, lset, lset2, wide, cond_true, cond_false, true_and, and_true, ↓reduceIte, Bool.false_eq_true, true_or, or_true, lf_L22, t0, t8, P_X9_chance, P_X10_chance, Ans, Anm, nI_1, show (2 : Int32) = nI 2 by decide, show (3 : Int32) = nI 3 by decide, nI_add, eq_true v1, eq_true v2, eq_true v3, ncl (show i + 1 < 2 ^ 31 by omega), ncl (show i + 2 < 2 ^ 31 by omega), ncl (show i + 3 < 2 ^ 31 by omega), lg_cmp_eq, true_implies, not_true_eq_false, false_implies, not_false_eq_true, hz]
    exact ⟨g, hC, hO, fun I1 L1 f1 l1 c1 => ⟨g, hM.f8 f1 l1, hO, fun I2 L2 f2 l2 c2 => ⟨fun _ => hnx I2 L2 _ (c1.i f2 (l2 0 (by omega))) c2 hO, fun h => absurd rfl h⟩⟩⟩
  · refine J.of (tk_L22 sq) 200 fun ρ hρ => ?_
    simp only [hρ, x_c, x_il, x_ll, x_al, x_is, x_as, x_ls, x_inc, x_ii, x_iq, x_i1, x_l2, x_lq, x_lh, x_i2l, x_l2i, x_lcmp, x_dup, x_dup2, x_pop, x_if, x_ifn, x_ic, x_icn, x_go, x_sw, swc, x_l01, x_mx, x_gI, x_gL, x_gR, x_pI, x_pZ, x_pL, x_pR, x_ia, x_za, x_aa, x_ias, x_zas, x_aas, x_fac, x_fa, x_slen, x_sa, x_ac, x_oi, x_new, x_na, x_cS, x_cV, x_cI, x_rI, x_rZ, x_rL, x_r0, pa, short, oc, lg, lset, lset2, wide, cond_true, cond_false, true_and, and_true, ↓reduceIte, Bool.false_eq_true, true_or, or_true, lf_L22, t0, t8, P_X9_chance, P_X10_chance, Ans, Anm, nI_1, show (2 : Int32) = nI 2 by decide, show (3 : Int32) = nI 3 by decide, nI_add, eq_true v1, eq_true v2, eq_true v3, ncl (show i + 1 < 2 ^ 31 by omega), ncl (show i + 2 < 2 ^ 31 by omega), ncl (show i + 3 < 2 ^ 31 by omega), lg_cmp_eq, true_implies, not_true_eq_false, false_implies, not_false_eq_true, hz]
    exact ⟨g, hC, hO, fun I1 L1 f1 l1 c1 => ⟨g, hM.f8 f1 l1, hO, fun I2 L2 f2 l2 c2 => ⟨fun _ => hnx I2 L2 _ (c1.i f2 (l2 0 (by omega))) c2 hO, fun h => absurd rfl h⟩⟩⟩
def il_L23 : List (Nat × Instr × Nat) := [(797, .aload_n 1, 1), (798, .aload_n 0, 1), (799, .iload_n 3, 1), (800, .iconst 1, 1), (801, .iadd, 1), (802, .iaload, 1), (803, .i2l, 1), (804, .bipush 32, 2), (806, .lshl, 1), (807, .aload_n 0, 1), (808, .iload_n 3, 1), (809, .iconst 2, 1), (810, .iadd, 1), (811, .iaload, 1), (812, .i2l, 1), (813, .ldc2_w 85, 3), (816, .land, 1), (817, .lor, 1), (818, .invokevirtual 114, 3), (821, .aload_n 2, 1), (822, .aload_n 0, 1), (823, .iload_n 3, 1), (824, .iconst 1, 1), (825, .iadd, 1), (826, .iaload, 1), (827, .i2l, 1), (828, .bipush 32, 2), (830, .lshl, 1), (831, .aload_n 0, 1), (832, .iload_n 3, 1), (833, .iconst 2, 1), (834, .iadd, 1), (835, .iaload, 1), (836, .i2l, 1), (837, .ldc2_w 85, 3), (840, .land, 1), (841, .lor, 1), (842, .invokevirtual 118, 3), (845, .lcmp, 1), (846, .ifCond .eq 74, 3), (849, .iconst 0, 1), (850, .ireturn, 1), (920, .iinc 3 4, 3)]
set_option maxRecDepth 100000 in
theorem dl_L23 (sq : Nat × (Nat → Int32)) : ∀ q ∈ il_L23, decode (mt_L_law sq).1 q.1 = .ok q.2 := (by decide +kernel : ∀ q ∈ il_L23, decode cL_law q.1 = .ok q.2)
def tb_L23 (sq : Nat × (Nat → Int32)) : Tb := [(797, x_al 798 1, false),
  (798, x_al 799 0, false),
  (799, x_il 800 3, false),
  (800, x_c 801 (.int 1), false),
  (801, x_ii 802 (fun x y : Int32 => x + y), false),
  (802, x_sa 803 sq, false),
  (803, x_i2l 804, false),
  (804, x_c 806 (.int 32), false),
  (806, x_lh 807 (fun (x : Int64) (y : Int32) => x <<< (y.toInt64 &&& 63)), false),
  (807, x_al 808 0, false),
  (808, x_il 809 3, false),
  (809, x_c 810 (.int 2), false),
  (810, x_ii 811 (fun x y : Int32 => x + y), false),
  (811, x_sa 812 sq, false),
  (812, x_i2l 813, false),
  (813, x_c 816 (.long 4294967295), false),
  (816, x_l2 817 (fun x y : Int64 => x &&& y), false),
  (817, x_l2 818 (fun x y : Int64 => x ||| y), false),
  (818, x_cV 9 1 P_X9_seed 821, false),
  (821, x_al 822 2, false),
  (822, x_al 823 0, false),
  (823, x_il 824 3, false),
  (824, x_c 825 (.int 1), false),
  (825, x_ii 826 (fun x y : Int32 => x + y), false),
  (826, x_sa 827 sq, false),
  (827, x_i2l 828, false),
  (828, x_c 830 (.int 32), false),
  (830, x_lh 831 (fun (x : Int64) (y : Int32) => x <<< (y.toInt64 &&& 63)), false),
  (831, x_al 832 0, false),
  (832, x_il 833 3, false),
  (833, x_c 834 (.int 2), false),
  (834, x_ii 835 (fun x y : Int32 => x + y), false),
  (835, x_sa 836 sq, false),
  (836, x_i2l 837, false),
  (837, x_c 840 (.long 4294967295), false),
  (840, x_l2 841 (fun x y : Int64 => x &&& y), false),
  (841, x_l2 842 (fun x y : Int64 => x ||| y), false),
  (842, x_cV 10 1 P_X10_seed 845, false),
  (845, x_lcmp 846, false),
  (846, x_if 920 849 (fun x : Int32 => x = 0), false),
  (849, x_c 850 (.int 0), false),
  (850, x_rZ, false),
  (920, x_inc 923 3 4, true)]
set_option maxRecDepth 100000 in
theorem tk_L23 (sq : Nat × (Nat → Int32)) : TbOk (mt_L_law sq) (tb_L23 sq) :=
  tkc (s_aload_n (at_ (dl_L23 sq) 0 (ins := .aload_n 1) rfl)) (
  tkc (s_aload_n (at_ (dl_L23 sq) 1 (ins := .aload_n 0) rfl)) (
  tkc (s_iload_n (at_ (dl_L23 sq) 2 (ins := .iload_n 3) rfl)) (
  tkc (s_iconst (at_ (dl_L23 sq) 3 (ins := .iconst 1) rfl) (by first | rfl | decide)) (
  tkc (s_iadd (at_ (dl_L23 sq) 4 (ins := .iadd) rfl)) (
  tkc (s_sa (at_ (dl_L23 sq) 5 (ins := .iaload) rfl) rfl) (
  tkc (s_i2l (at_ (dl_L23 sq) 6 (ins := .i2l) rfl)) (
  tkc (s_bipush (at_ (dl_L23 sq) 7 (ins := .bipush 32) rfl) (by first | rfl | decide)) (
  tkc (s_lshl (at_ (dl_L23 sq) 8 (ins := .lshl) rfl)) (
  tkc (s_aload_n (at_ (dl_L23 sq) 9 (ins := .aload_n 0) rfl)) (
  tkc (s_iload_n (at_ (dl_L23 sq) 10 (ins := .iload_n 3) rfl)) (
  tkc (s_iconst (at_ (dl_L23 sq) 11 (ins := .iconst 2) rfl) (by first | rfl | decide)) (
  tkc (s_iadd (at_ (dl_L23 sq) 12 (ins := .iadd) rfl)) (
  tkc (s_sa (at_ (dl_L23 sq) 13 (ins := .iaload) rfl) rfl) (
  tkc (s_i2l (at_ (dl_L23 sq) 14 (ins := .i2l) rfl)) (
  tkc (s_ldc2 (at_ (dl_L23 sq) 15 (ins := .ldc2_w 85) rfl) (show Cond.constantLong RL 85 4294967295 ∈ tblG from (tg 1018 (by decide +kernel) (by decide +kernel)))) (
  tkc (s_land (at_ (dl_L23 sq) 16 (ins := .land) rfl)) (
  tkc (s_lor (at_ (dl_L23 sq) 17 (ins := .lor) rfl)) (
  tkc (s_cV ok_X9_seed (at_ (dl_L23 sq) 18 (ins := .invokevirtual 114) rfl) (by decide) rfl (show Cond.methodLink RL 114 yX9_seed ∈ tblG from (tg 668 (by decide +kernel) (by decide +kernel))) (tg 669 (by decide +kernel) (by decide +kernel)) (tg 670 (by decide +kernel) (by decide +kernel)) (tg 42 (by decide +kernel) (by decide +kernel)) (tg 671 (by decide +kernel) (by decide +kernel)) (⟨by decide, by decide, by decide +kernel⟩) (⟨(Nat.le_of_ble_eq_true rfl), (Nat.le_of_ble_eq_true rfl)⟩) rfl rfl) (
  tkc (s_aload_n (at_ (dl_L23 sq) 19 (ins := .aload_n 2) rfl)) (
  tkc (s_aload_n (at_ (dl_L23 sq) 20 (ins := .aload_n 0) rfl)) (
  tkc (s_iload_n (at_ (dl_L23 sq) 21 (ins := .iload_n 3) rfl)) (
  tkc (s_iconst (at_ (dl_L23 sq) 22 (ins := .iconst 1) rfl) (by first | rfl | decide)) (
  tkc (s_iadd (at_ (dl_L23 sq) 23 (ins := .iadd) rfl)) (
  tkc (s_sa (at_ (dl_L23 sq) 24 (ins := .iaload) rfl) rfl) (
  tkc (s_i2l (at_ (dl_L23 sq) 25 (ins := .i2l) rfl)) (
  tkc (s_bipush (at_ (dl_L23 sq) 26 (ins := .bipush 32) rfl) (by first | rfl | decide)) (
  tkc (s_lshl (at_ (dl_L23 sq) 27 (ins := .lshl) rfl)) (
  tkc (s_aload_n (at_ (dl_L23 sq) 28 (ins := .aload_n 0) rfl)) (
  tkc (s_iload_n (at_ (dl_L23 sq) 29 (ins := .iload_n 3) rfl)) (
  tkc (s_iconst (at_ (dl_L23 sq) 30 (ins := .iconst 2) rfl) (by first | rfl | decide)) (
  tkc (s_iadd (at_ (dl_L23 sq) 31 (ins := .iadd) rfl)) (
  tkc (s_sa (at_ (dl_L23 sq) 32 (ins := .iaload) rfl) rfl) (
  tkc (s_i2l (at_ (dl_L23 sq) 33 (ins := .i2l) rfl)) (
  tkc (s_ldc2 (at_ (dl_L23 sq) 34 (ins := .ldc2_w 85) rfl) (show Cond.constantLong RL 85 4294967295 ∈ tblG from (tg 1018 (by decide +kernel) (by decide +kernel)))) (
  tkc (s_land (at_ (dl_L23 sq) 35 (ins := .land) rfl)) (
  tkc (s_lor (at_ (dl_L23 sq) 36 (ins := .lor) rfl)) (
  tkc (s_cV ok_X10_seed (at_ (dl_L23 sq) 37 (ins := .invokevirtual 118) rfl) (by decide) rfl (show Cond.methodLink RL 118 yX10_seed ∈ tblG from (tg 1000 (by decide +kernel) (by decide +kernel))) (tg 1001 (by decide +kernel) (by decide +kernel)) (tg 1002 (by decide +kernel) (by decide +kernel)) (tg 51 (by decide +kernel) (by decide +kernel)) (tg 1003 (by decide +kernel) (by decide +kernel)) (⟨by decide, by decide, by decide +kernel⟩) (⟨(Nat.le_of_ble_eq_true rfl), (Nat.le_of_ble_eq_true rfl)⟩) rfl rfl) (
  tkc (s_lcmp (at_ (dl_L23 sq) 38 (ins := .lcmp) rfl)) (
  tkc (s_if_eq (at_ (dl_L23 sq) 39 (ins := .ifCond .eq 74) rfl) (by decide)) (
  tkc (s_iconst (at_ (dl_L23 sq) 40 (ins := .iconst 0) rfl) (by first | rfl | decide)) (
  tkc (s_rZ (at_ (dl_L23 sq) 41 (ins := .ireturn) rfl) rfl) (
  tkc (s_iinc (at_ (dl_L23 sq) 42 (ins := .iinc 3 4) rfl) (Nat.le_of_ble_eq_true rfl) (by first | rfl | decide)) ( tk0)))))))))))))))))))))))))))))))))))))))))))
theorem lf_L23 (sq : Nat × (Nat → Int32)) : lk (tb_L23 sq) 797 = (x_al 798 1, false) ∧ lk (tb_L23 sq) 798 = (x_al 799 0, false) ∧ lk (tb_L23 sq) 799 = (x_il 800 3, false) ∧ lk (tb_L23 sq) 800 = (x_c 801 (.int 1), false) ∧ lk (tb_L23 sq) 801 = (x_ii 802 (fun x y : Int32 => x + y), false) ∧ lk (tb_L23 sq) 802 = (x_sa 803 sq, false) ∧ lk (tb_L23 sq) 803 = (x_i2l 804, false) ∧ lk (tb_L23 sq) 804 = (x_c 806 (.int 32), false) ∧ lk (tb_L23 sq) 806 = (x_lh 807 (fun (x : Int64) (y : Int32) => x <<< (y.toInt64 &&& 63)), false) ∧ lk (tb_L23 sq) 807 = (x_al 808 0, false) ∧ lk (tb_L23 sq) 808 = (x_il 809 3, false) ∧ lk (tb_L23 sq) 809 = (x_c 810 (.int 2), false) ∧ lk (tb_L23 sq) 810 = (x_ii 811 (fun x y : Int32 => x + y), false) ∧ lk (tb_L23 sq) 811 = (x_sa 812 sq, false) ∧ lk (tb_L23 sq) 812 = (x_i2l 813, false) ∧ lk (tb_L23 sq) 813 = (x_c 816 (.long 4294967295), false) ∧ lk (tb_L23 sq) 816 = (x_l2 817 (fun x y : Int64 => x &&& y), false) ∧ lk (tb_L23 sq) 817 = (x_l2 818 (fun x y : Int64 => x ||| y), false) ∧ lk (tb_L23 sq) 818 = (x_cV 9 1 P_X9_seed 821, false) ∧ lk (tb_L23 sq) 821 = (x_al 822 2, false) ∧ lk (tb_L23 sq) 822 = (x_al 823 0, false) ∧ lk (tb_L23 sq) 823 = (x_il 824 3, false) ∧ lk (tb_L23 sq) 824 = (x_c 825 (.int 1), false) ∧ lk (tb_L23 sq) 825 = (x_ii 826 (fun x y : Int32 => x + y), false) ∧ lk (tb_L23 sq) 826 = (x_sa 827 sq, false) ∧ lk (tb_L23 sq) 827 = (x_i2l 828, false) ∧ lk (tb_L23 sq) 828 = (x_c 830 (.int 32), false) ∧ lk (tb_L23 sq) 830 = (x_lh 831 (fun (x : Int64) (y : Int32) => x <<< (y.toInt64 &&& 63)), false) ∧ lk (tb_L23 sq) 831 = (x_al 832 0, false) ∧ lk (tb_L23 sq) 832 = (x_il 833 3, false) ∧ lk (tb_L23 sq) 833 = (x_c 834 (.int 2), false) ∧ lk (tb_L23 sq) 834 = (x_ii 835 (fun x y : Int32 => x + y), false) ∧ lk (tb_L23 sq) 835 = (x_sa 836 sq, false) ∧ lk (tb_L23 sq) 836 = (x_i2l 837, false) ∧ lk (tb_L23 sq) 837 = (x_c 840 (.long 4294967295), false) ∧ lk (tb_L23 sq) 840 = (x_l2 841 (fun x y : Int64 => x &&& y), false) ∧ lk (tb_L23 sq) 841 = (x_l2 842 (fun x y : Int64 => x ||| y), false) ∧ lk (tb_L23 sq) 842 = (x_cV 10 1 P_X10_seed 845, false) ∧ lk (tb_L23 sq) 845 = (x_lcmp 846, false) ∧ lk (tb_L23 sq) 846 = (x_if 920 849 (fun x : Int32 => x = 0), false) ∧ lk (tb_L23 sq) 849 = (x_c 850 (.int 0), false) ∧ lk (tb_L23 sq) 850 = (x_rZ, false) ∧ lk (tb_L23 sq) 920 = (x_inc 923 3 4, true) := ⟨rfl, rfl, rfl, rfl, rfl, rfl, rfl, rfl, rfl, rfl, rfl, rfl, rfl, rfl, rfl, rfl, rfl, rfl, rfl, rfl, rfl, rfl, rfl, rfl, rfl, rfl, rfl, rfl, rfl, rfl, rfl, rfl, rfl, rfl, rfl, rfl, rfl, rfl, rfl, rfl, rfl, rfl, rfl⟩
set_option maxRecDepth 20000 in
theorem lc_23 {sq : Nat × (Nat → Int32)} {R : Option Value → Mem → Prop} {S : Sh} {I : MI} {L : Nat → Nat → Int64} {g : GS} {i : Nat} (h4 : i + 4 ≤ sq.1) (h2 : sq.1 ≤ 2048) (hC : CR S I L g) (hM : MR S I L g) (hO : GOk g) (hnx : ∀ I' L' g', CR S I' L' g' → MR S I' L' g' → GOk g' → J (mt_L_law sq) R 920 [some (.ref 9002), some (.ref 0), some (.ref 108), some (.int (nI i))] [] (S, I', L')) : J (mt_L_law sq) R 797 [some (.ref 9002), some (.ref 0), some (.ref 108), some (.int (nI i))] [] (S, I, L) := by
  have t0 : tO S 0 9 := hC.1.1.1
  have t8 : tO S 108 10 := hM.1.1
  have v1 : vp_in (nI (i + 1)) sq.1 := vp_in_nI (by omega) (by omega)
  have v2 : vp_in (nI (i + 2)) sq.1 := vp_in_nI (by omega) (by omega)
  have v3 : vp_in (nI (i + 3)) sq.1 := vp_in_nI (by omega) (by omega)
  refine J.of (tk_L23 sq) 200 fun ρ hρ => ?_
  simp only [hρ, x_c, x_il, x_ll, x_al, x_is, x_as, x_ls, x_inc, x_ii, x_iq, x_i1, x_l2, x_lq, x_lh, x_i2l, x_l2i, x_lcmp, x_dup, x_dup2, x_pop, x_if, x_ifn, x_ic, x_icn, x_go, x_sw, swc, x_l01, x_mx, x_gI, x_gL, x_gR, x_pI, x_pZ, x_pL, x_pR, x_ia, x_za, x_aa, x_ias, x_zas, x_aas, x_fac, x_fa, x_slen, x_sa, x_ac, x_oi, x_new, x_na, x_cS, x_cV, x_cI, x_rI, x_rZ, x_rL, x_r0, pa, short, oc, lg, lset, lset2, wide, cond_true, cond_false, true_and, and_true, ↓reduceIte, Bool.false_eq_true, true_or, or_true, lf_L23, t0, t8, P_X9_seed, P_X10_seed, Ans, Anm, nI_1, show (2 : Int32) = nI 2 by decide, show (3 : Int32) = nI 3 by decide, nI_add, eq_true v1, eq_true v2, eq_true v3, ncl (show i + 1 < 2 ^ 31 by omega), ncl (show i + 2 < 2 ^ 31 by omega), ncl (show i + 3 < 2 ^ 31 by omega), lg_cmp_eq, true_implies, not_true_eq_false, false_implies, not_false_eq_true]
  exact ⟨g, hC, fun L1 l1 c1 => ⟨g, hM.f8 (fun _ _ => rfl) l1, fun L2 l2 c2 => ⟨fun _ => hnx _ L2 _ (c1.i (fun _ _ => rfl) (l2 0 (by omega))) c2 hO, fun h => absurd rfl h⟩⟩⟩
def il_L24 : List (Nat × Instr × Nat) := [(851, .aload_n 1, 1), (852, .aload_n 0, 1), (853, .iload_n 3, 1), (854, .iconst 1, 1), (855, .iadd, 1), (856, .iaload, 1), (857, .invokevirtual 119, 3), (860, .aload_n 2, 1), (861, .aload_n 0, 1), (862, .iload_n 3, 1), (863, .iconst 1, 1), (864, .iadd, 1), (865, .iaload, 1), (866, .invokevirtual 122, 3), (869, .if_icmp .eq 51, 3), (872, .iconst 0, 1), (873, .ireturn, 1), (920, .iinc 3 4, 3)]
set_option maxRecDepth 100000 in
theorem dl_L24 (sq : Nat × (Nat → Int32)) : ∀ q ∈ il_L24, decode (mt_L_law sq).1 q.1 = .ok q.2 := (by decide +kernel : ∀ q ∈ il_L24, decode cL_law q.1 = .ok q.2)
def tb_L24 (sq : Nat × (Nat → Int32)) : Tb := [(851, x_al 852 1, false),
  (852, x_al 853 0, false),
  (853, x_il 854 3, false),
  (854, x_c 855 (.int 1), false),
  (855, x_ii 856 (fun x y : Int32 => x + y), false),
  (856, x_sa 857 sq, false),
  (857, x_cV 9 1 P_X9_drawn 860, false),
  (860, x_al 861 2, false),
  (861, x_al 862 0, false),
  (862, x_il 863 3, false),
  (863, x_c 864 (.int 1), false),
  (864, x_ii 865 (fun x y : Int32 => x + y), false),
  (865, x_sa 866 sq, false),
  (866, x_cV 10 1 P_X10_drawn 869, false),
  (869, x_ic 920 872 (fun x y : Int32 => x = y), false),
  (872, x_c 873 (.int 0), false),
  (873, x_rZ, false),
  (920, x_inc 923 3 4, true)]
set_option maxRecDepth 100000 in
theorem tk_L24 (sq : Nat × (Nat → Int32)) : TbOk (mt_L_law sq) (tb_L24 sq) :=
  tkc (s_aload_n (at_ (dl_L24 sq) 0 (ins := .aload_n 1) rfl)) (
  tkc (s_aload_n (at_ (dl_L24 sq) 1 (ins := .aload_n 0) rfl)) (
  tkc (s_iload_n (at_ (dl_L24 sq) 2 (ins := .iload_n 3) rfl)) (
  tkc (s_iconst (at_ (dl_L24 sq) 3 (ins := .iconst 1) rfl) (by first | rfl | decide)) (
  tkc (s_iadd (at_ (dl_L24 sq) 4 (ins := .iadd) rfl)) (
  tkc (s_sa (at_ (dl_L24 sq) 5 (ins := .iaload) rfl) rfl) (
  tkc (s_cV ok_X9_drawn (at_ (dl_L24 sq) 6 (ins := .invokevirtual 119) rfl) (by decide) rfl (show Cond.methodLink RL 119 yX9_drawn ∈ tblG from (tg 672 (by decide +kernel) (by decide +kernel))) (tg 673 (by decide +kernel) (by decide +kernel)) (tg 674 (by decide +kernel) (by decide +kernel)) (tg 42 (by decide +kernel) (by decide +kernel)) (tg 675 (by decide +kernel) (by decide +kernel)) (⟨by decide, by decide, by decide +kernel⟩) (⟨(Nat.le_of_ble_eq_true rfl), (Nat.le_of_ble_eq_true rfl)⟩) rfl rfl) (
  tkc (s_aload_n (at_ (dl_L24 sq) 7 (ins := .aload_n 2) rfl)) (
  tkc (s_aload_n (at_ (dl_L24 sq) 8 (ins := .aload_n 0) rfl)) (
  tkc (s_iload_n (at_ (dl_L24 sq) 9 (ins := .iload_n 3) rfl)) (
  tkc (s_iconst (at_ (dl_L24 sq) 10 (ins := .iconst 1) rfl) (by first | rfl | decide)) (
  tkc (s_iadd (at_ (dl_L24 sq) 11 (ins := .iadd) rfl)) (
  tkc (s_sa (at_ (dl_L24 sq) 12 (ins := .iaload) rfl) rfl) (
  tkc (s_cV ok_X10_drawn (at_ (dl_L24 sq) 13 (ins := .invokevirtual 122) rfl) (by decide) rfl (show Cond.methodLink RL 122 yX10_drawn ∈ tblG from (tg 1004 (by decide +kernel) (by decide +kernel))) (tg 1005 (by decide +kernel) (by decide +kernel)) (tg 1006 (by decide +kernel) (by decide +kernel)) (tg 51 (by decide +kernel) (by decide +kernel)) (tg 1007 (by decide +kernel) (by decide +kernel)) (⟨by decide, by decide, by decide +kernel⟩) (⟨(Nat.le_of_ble_eq_true rfl), (Nat.le_of_ble_eq_true rfl)⟩) rfl rfl) (
  tkc (s_ic_eq (at_ (dl_L24 sq) 14 (ins := .if_icmp .eq 51) rfl) (by decide)) (
  tkc (s_iconst (at_ (dl_L24 sq) 15 (ins := .iconst 0) rfl) (by first | rfl | decide)) (
  tkc (s_rZ (at_ (dl_L24 sq) 16 (ins := .ireturn) rfl) rfl) (
  tkc (s_iinc (at_ (dl_L24 sq) 17 (ins := .iinc 3 4) rfl) (Nat.le_of_ble_eq_true rfl) (by first | rfl | decide)) ( tk0))))))))))))))))))
theorem lf_L24 (sq : Nat × (Nat → Int32)) : lk (tb_L24 sq) 851 = (x_al 852 1, false) ∧ lk (tb_L24 sq) 852 = (x_al 853 0, false) ∧ lk (tb_L24 sq) 853 = (x_il 854 3, false) ∧ lk (tb_L24 sq) 854 = (x_c 855 (.int 1), false) ∧ lk (tb_L24 sq) 855 = (x_ii 856 (fun x y : Int32 => x + y), false) ∧ lk (tb_L24 sq) 856 = (x_sa 857 sq, false) ∧ lk (tb_L24 sq) 857 = (x_cV 9 1 P_X9_drawn 860, false) ∧ lk (tb_L24 sq) 860 = (x_al 861 2, false) ∧ lk (tb_L24 sq) 861 = (x_al 862 0, false) ∧ lk (tb_L24 sq) 862 = (x_il 863 3, false) ∧ lk (tb_L24 sq) 863 = (x_c 864 (.int 1), false) ∧ lk (tb_L24 sq) 864 = (x_ii 865 (fun x y : Int32 => x + y), false) ∧ lk (tb_L24 sq) 865 = (x_sa 866 sq, false) ∧ lk (tb_L24 sq) 866 = (x_cV 10 1 P_X10_drawn 869, false) ∧ lk (tb_L24 sq) 869 = (x_ic 920 872 (fun x y : Int32 => x = y), false) ∧ lk (tb_L24 sq) 872 = (x_c 873 (.int 0), false) ∧ lk (tb_L24 sq) 873 = (x_rZ, false) ∧ lk (tb_L24 sq) 920 = (x_inc 923 3 4, true) := ⟨rfl, rfl, rfl, rfl, rfl, rfl, rfl, rfl, rfl, rfl, rfl, rfl, rfl, rfl, rfl, rfl, rfl, rfl⟩
set_option maxRecDepth 20000 in
theorem lc_24 {sq : Nat × (Nat → Int32)} {R : Option Value → Mem → Prop} {S : Sh} {I : MI} {L : Nat → Nat → Int64} {g : GS} {i : Nat} (h4 : i + 4 ≤ sq.1) (h2 : sq.1 ≤ 2048) (hC : CR S I L g) (hM : MR S I L g) (hO : GOk g) (hnx : ∀ I' L' g', CR S I' L' g' → MR S I' L' g' → GOk g' → J (mt_L_law sq) R 920 [some (.ref 9002), some (.ref 0), some (.ref 108), some (.int (nI i))] [] (S, I', L')) : J (mt_L_law sq) R 851 [some (.ref 9002), some (.ref 0), some (.ref 108), some (.int (nI i))] [] (S, I, L) := by
  have t0 : tO S 0 9 := hC.1.1.1
  have t8 : tO S 108 10 := hM.1.1
  have v1 : vp_in (nI (i + 1)) sq.1 := vp_in_nI (by omega) (by omega)
  have v2 : vp_in (nI (i + 2)) sq.1 := vp_in_nI (by omega) (by omega)
  have v3 : vp_in (nI (i + 3)) sq.1 := vp_in_nI (by omega) (by omega)
  refine J.of (tk_L24 sq) 200 fun ρ hρ => ?_
  simp only [hρ, x_c, x_il, x_ll, x_al, x_is, x_as, x_ls, x_inc, x_ii, x_iq, x_i1, x_l2, x_lq, x_lh, x_i2l, x_l2i, x_lcmp, x_dup, x_dup2, x_pop, x_if, x_ifn, x_ic, x_icn, x_go, x_sw, swc, x_l01, x_mx, x_gI, x_gL, x_gR, x_pI, x_pZ, x_pL, x_pR, x_ia, x_za, x_aa, x_ias, x_zas, x_aas, x_fac, x_fa, x_slen, x_sa, x_ac, x_oi, x_new, x_na, x_cS, x_cV, x_cI, x_rI, x_rZ, x_rL, x_r0, pa, short, oc, lg, lset, lset2, wide, cond_true, cond_false, true_and, and_true, ↓reduceIte, Bool.false_eq_true, true_or, or_true, lf_L24, t0, t8, P_X9_drawn, P_X10_drawn, Ans, Anm, nI_1, show (2 : Int32) = nI 2 by decide, show (3 : Int32) = nI 3 by decide, nI_add, eq_true v1, eq_true v2, eq_true v3, ncl (show i + 1 < 2 ^ 31 by omega), ncl (show i + 2 < 2 ^ 31 by omega), ncl (show i + 3 < 2 ^ 31 by omega), lg_cmp_eq, true_implies, not_true_eq_false, false_implies, not_false_eq_true]
  exact ⟨g, hC, hO, fun I1 L1 f1 l1 c1 => ⟨g, hM.f8 f1 l1, hO, fun I2 L2 f2 l2 c2 => ⟨fun _ => hnx I2 L2 _ (c1.i f2 (l2 0 (by omega))) c2 (kDrawn hO), fun h => absurd rfl h⟩⟩⟩
def il_L25 : List (Nat × Instr × Nat) := [(874, .aload_n 1, 1), (875, .aload_n 0, 1), (876, .iload_n 3, 1), (877, .iconst 1, 1), (878, .iadd, 1), (879, .iaload, 1), (880, .invokevirtual 123, 3), (883, .aload_n 2, 1), (884, .aload_n 0, 1), (885, .iload_n 3, 1), (886, .iconst 1, 1), (887, .iadd, 1), (888, .iaload, 1), (889, .invokevirtual 126, 3), (892, .if_icmp .eq 28, 3), (895, .iconst 0, 1), (896, .ireturn, 1), (920, .iinc 3 4, 3)]
set_option maxRecDepth 100000 in
theorem dl_L25 (sq : Nat × (Nat → Int32)) : ∀ q ∈ il_L25, decode (mt_L_law sq).1 q.1 = .ok q.2 := (by decide +kernel : ∀ q ∈ il_L25, decode cL_law q.1 = .ok q.2)
def tb_L25 (sq : Nat × (Nat → Int32)) : Tb := [(874, x_al 875 1, false),
  (875, x_al 876 0, false),
  (876, x_il 877 3, false),
  (877, x_c 878 (.int 1), false),
  (878, x_ii 879 (fun x y : Int32 => x + y), false),
  (879, x_sa 880 sq, false),
  (880, x_cV 9 1 P_X9_keep 883, false),
  (883, x_al 884 2, false),
  (884, x_al 885 0, false),
  (885, x_il 886 3, false),
  (886, x_c 887 (.int 1), false),
  (887, x_ii 888 (fun x y : Int32 => x + y), false),
  (888, x_sa 889 sq, false),
  (889, x_cV 10 1 P_X10_keep 892, false),
  (892, x_ic 920 895 (fun x y : Int32 => x = y), false),
  (895, x_c 896 (.int 0), false),
  (896, x_rZ, false),
  (920, x_inc 923 3 4, true)]
set_option maxRecDepth 100000 in
theorem tk_L25 (sq : Nat × (Nat → Int32)) : TbOk (mt_L_law sq) (tb_L25 sq) :=
  tkc (s_aload_n (at_ (dl_L25 sq) 0 (ins := .aload_n 1) rfl)) (
  tkc (s_aload_n (at_ (dl_L25 sq) 1 (ins := .aload_n 0) rfl)) (
  tkc (s_iload_n (at_ (dl_L25 sq) 2 (ins := .iload_n 3) rfl)) (
  tkc (s_iconst (at_ (dl_L25 sq) 3 (ins := .iconst 1) rfl) (by first | rfl | decide)) (
  tkc (s_iadd (at_ (dl_L25 sq) 4 (ins := .iadd) rfl)) (
  tkc (s_sa (at_ (dl_L25 sq) 5 (ins := .iaload) rfl) rfl) (
  tkc (s_cV ok_X9_keep (at_ (dl_L25 sq) 6 (ins := .invokevirtual 123) rfl) (by decide) rfl (show Cond.methodLink RL 123 yX9_keep ∈ tblG from (tg 678 (by decide +kernel) (by decide +kernel))) (tg 679 (by decide +kernel) (by decide +kernel)) (tg 680 (by decide +kernel) (by decide +kernel)) (tg 42 (by decide +kernel) (by decide +kernel)) (tg 681 (by decide +kernel) (by decide +kernel)) (⟨by decide, by decide, by decide +kernel⟩) (⟨(Nat.le_of_ble_eq_true rfl), (Nat.le_of_ble_eq_true rfl)⟩) rfl rfl) (
  tkc (s_aload_n (at_ (dl_L25 sq) 7 (ins := .aload_n 2) rfl)) (
  tkc (s_aload_n (at_ (dl_L25 sq) 8 (ins := .aload_n 0) rfl)) (
  tkc (s_iload_n (at_ (dl_L25 sq) 9 (ins := .iload_n 3) rfl)) (
  tkc (s_iconst (at_ (dl_L25 sq) 10 (ins := .iconst 1) rfl) (by first | rfl | decide)) (
  tkc (s_iadd (at_ (dl_L25 sq) 11 (ins := .iadd) rfl)) (
  tkc (s_sa (at_ (dl_L25 sq) 12 (ins := .iaload) rfl) rfl) (
  tkc (s_cV ok_X10_keep (at_ (dl_L25 sq) 13 (ins := .invokevirtual 126) rfl) (by decide) rfl (show Cond.methodLink RL 126 yX10_keep ∈ tblG from (tg 1010 (by decide +kernel) (by decide +kernel))) (tg 1011 (by decide +kernel) (by decide +kernel)) (tg 1012 (by decide +kernel) (by decide +kernel)) (tg 51 (by decide +kernel) (by decide +kernel)) (tg 1013 (by decide +kernel) (by decide +kernel)) (⟨by decide, by decide, by decide +kernel⟩) (⟨(Nat.le_of_ble_eq_true rfl), (Nat.le_of_ble_eq_true rfl)⟩) rfl rfl) (
  tkc (s_ic_eq (at_ (dl_L25 sq) 14 (ins := .if_icmp .eq 28) rfl) (by decide)) (
  tkc (s_iconst (at_ (dl_L25 sq) 15 (ins := .iconst 0) rfl) (by first | rfl | decide)) (
  tkc (s_rZ (at_ (dl_L25 sq) 16 (ins := .ireturn) rfl) rfl) (
  tkc (s_iinc (at_ (dl_L25 sq) 17 (ins := .iinc 3 4) rfl) (Nat.le_of_ble_eq_true rfl) (by first | rfl | decide)) ( tk0))))))))))))))))))
theorem lf_L25 (sq : Nat × (Nat → Int32)) : lk (tb_L25 sq) 874 = (x_al 875 1, false) ∧ lk (tb_L25 sq) 875 = (x_al 876 0, false) ∧ lk (tb_L25 sq) 876 = (x_il 877 3, false) ∧ lk (tb_L25 sq) 877 = (x_c 878 (.int 1), false) ∧ lk (tb_L25 sq) 878 = (x_ii 879 (fun x y : Int32 => x + y), false) ∧ lk (tb_L25 sq) 879 = (x_sa 880 sq, false) ∧ lk (tb_L25 sq) 880 = (x_cV 9 1 P_X9_keep 883, false) ∧ lk (tb_L25 sq) 883 = (x_al 884 2, false) ∧ lk (tb_L25 sq) 884 = (x_al 885 0, false) ∧ lk (tb_L25 sq) 885 = (x_il 886 3, false) ∧ lk (tb_L25 sq) 886 = (x_c 887 (.int 1), false) ∧ lk (tb_L25 sq) 887 = (x_ii 888 (fun x y : Int32 => x + y), false) ∧ lk (tb_L25 sq) 888 = (x_sa 889 sq, false) ∧ lk (tb_L25 sq) 889 = (x_cV 10 1 P_X10_keep 892, false) ∧ lk (tb_L25 sq) 892 = (x_ic 920 895 (fun x y : Int32 => x = y), false) ∧ lk (tb_L25 sq) 895 = (x_c 896 (.int 0), false) ∧ lk (tb_L25 sq) 896 = (x_rZ, false) ∧ lk (tb_L25 sq) 920 = (x_inc 923 3 4, true) := ⟨rfl, rfl, rfl, rfl, rfl, rfl, rfl, rfl, rfl, rfl, rfl, rfl, rfl, rfl, rfl, rfl, rfl, rfl⟩
set_option maxRecDepth 20000 in
theorem lc_25 {sq : Nat × (Nat → Int32)} {R : Option Value → Mem → Prop} {S : Sh} {I : MI} {L : Nat → Nat → Int64} {g : GS} {i : Nat} (h4 : i + 4 ≤ sq.1) (h2 : sq.1 ≤ 2048) (hC : CR S I L g) (hM : MR S I L g) (hO : GOk g) (hnx : ∀ I' L' g', CR S I' L' g' → MR S I' L' g' → GOk g' → J (mt_L_law sq) R 920 [some (.ref 9002), some (.ref 0), some (.ref 108), some (.int (nI i))] [] (S, I', L')) : J (mt_L_law sq) R 874 [some (.ref 9002), some (.ref 0), some (.ref 108), some (.int (nI i))] [] (S, I, L) := by
  have t0 : tO S 0 9 := hC.1.1.1
  have t8 : tO S 108 10 := hM.1.1
  have v1 : vp_in (nI (i + 1)) sq.1 := vp_in_nI (by omega) (by omega)
  have v2 : vp_in (nI (i + 2)) sq.1 := vp_in_nI (by omega) (by omega)
  have v3 : vp_in (nI (i + 3)) sq.1 := vp_in_nI (by omega) (by omega)
  refine J.of (tk_L25 sq) 200 fun ρ hρ => ?_
  simp only [hρ, x_c, x_il, x_ll, x_al, x_is, x_as, x_ls, x_inc, x_ii, x_iq, x_i1, x_l2, x_lq, x_lh, x_i2l, x_l2i, x_lcmp, x_dup, x_dup2, x_pop, x_if, x_ifn, x_ic, x_icn, x_go, x_sw, swc, x_l01, x_mx, x_gI, x_gL, x_gR, x_pI, x_pZ, x_pL, x_pR, x_ia, x_za, x_aa, x_ias, x_zas, x_aas, x_fac, x_fa, x_slen, x_sa, x_ac, x_oi, x_new, x_na, x_cS, x_cV, x_cI, x_rI, x_rZ, x_rL, x_r0, pa, short, oc, lg, lset, lset2, wide, cond_true, cond_false, true_and, and_true, ↓reduceIte, Bool.false_eq_true, true_or, or_true, lf_L25, t0, t8, P_X9_keep, P_X10_keep, Ans, Anm, nI_1, show (2 : Int32) = nI 2 by decide, show (3 : Int32) = nI 3 by decide, nI_add, eq_true v1, eq_true v2, eq_true v3, ncl (show i + 1 < 2 ^ 31 by omega), ncl (show i + 2 < 2 ^ 31 by omega), ncl (show i + 3 < 2 ^ 31 by omega), lg_cmp_eq, true_implies, not_true_eq_false, false_implies, not_false_eq_true]
  exact ⟨g, hC, hO, fun I1 L1 f1 l1 c1 => ⟨g, hM.f8 f1 l1, hO, fun I2 L2 f2 l2 c2 => ⟨fun _ => hnx I2 L2 _ (c1.i f2 (l2 0 (by omega))) c2 (kKeep hO), fun h => absurd rfl h⟩⟩⟩
def il_L26 : List (Nat × Instr × Nat) := [(897, .aload_n 1, 1), (898, .aload_n 0, 1), (899, .iload_n 3, 1), (900, .iconst 1, 1), (901, .iadd, 1), (902, .iaload, 1), (903, .invokevirtual 127, 3), (906, .aload_n 2, 1), (907, .aload_n 0, 1), (908, .iload_n 3, 1), (909, .iconst 1, 1), (910, .iadd, 1), (911, .iaload, 1), (912, .invokevirtual 130, 3), (915, .if_icmp .eq 5, 3), (918, .iconst 0, 1), (919, .ireturn, 1), (920, .iinc 3 4, 3)]
set_option maxRecDepth 100000 in
theorem dl_L26 (sq : Nat × (Nat → Int32)) : ∀ q ∈ il_L26, decode (mt_L_law sq).1 q.1 = .ok q.2 := (by decide +kernel : ∀ q ∈ il_L26, decode cL_law q.1 = .ok q.2)
def tb_L26 (sq : Nat × (Nat → Int32)) : Tb := [(897, x_al 898 1, false),
  (898, x_al 899 0, false),
  (899, x_il 900 3, false),
  (900, x_c 901 (.int 1), false),
  (901, x_ii 902 (fun x y : Int32 => x + y), false),
  (902, x_sa 903 sq, false),
  (903, x_cV 9 1 P_X9_again 906, false),
  (906, x_al 907 2, false),
  (907, x_al 908 0, false),
  (908, x_il 909 3, false),
  (909, x_c 910 (.int 1), false),
  (910, x_ii 911 (fun x y : Int32 => x + y), false),
  (911, x_sa 912 sq, false),
  (912, x_cV 10 1 P_X10_again 915, false),
  (915, x_ic 920 918 (fun x y : Int32 => x = y), false),
  (918, x_c 919 (.int 0), false),
  (919, x_rZ, false),
  (920, x_inc 923 3 4, true)]
set_option maxRecDepth 100000 in
theorem tk_L26 (sq : Nat × (Nat → Int32)) : TbOk (mt_L_law sq) (tb_L26 sq) :=
  tkc (s_aload_n (at_ (dl_L26 sq) 0 (ins := .aload_n 1) rfl)) (
  tkc (s_aload_n (at_ (dl_L26 sq) 1 (ins := .aload_n 0) rfl)) (
  tkc (s_iload_n (at_ (dl_L26 sq) 2 (ins := .iload_n 3) rfl)) (
  tkc (s_iconst (at_ (dl_L26 sq) 3 (ins := .iconst 1) rfl) (by first | rfl | decide)) (
  tkc (s_iadd (at_ (dl_L26 sq) 4 (ins := .iadd) rfl)) (
  tkc (s_sa (at_ (dl_L26 sq) 5 (ins := .iaload) rfl) rfl) (
  tkc (s_cV ok_X9_again (at_ (dl_L26 sq) 6 (ins := .invokevirtual 127) rfl) (by decide) rfl (show Cond.methodLink RL 127 yX9_again ∈ tblG from (tg 682 (by decide +kernel) (by decide +kernel))) (tg 683 (by decide +kernel) (by decide +kernel)) (tg 684 (by decide +kernel) (by decide +kernel)) (tg 42 (by decide +kernel) (by decide +kernel)) (tg 685 (by decide +kernel) (by decide +kernel)) (⟨by decide, by decide, by decide +kernel⟩) (⟨(Nat.le_of_ble_eq_true rfl), (Nat.le_of_ble_eq_true rfl)⟩) rfl rfl) (
  tkc (s_aload_n (at_ (dl_L26 sq) 7 (ins := .aload_n 2) rfl)) (
  tkc (s_aload_n (at_ (dl_L26 sq) 8 (ins := .aload_n 0) rfl)) (
  tkc (s_iload_n (at_ (dl_L26 sq) 9 (ins := .iload_n 3) rfl)) (
  tkc (s_iconst (at_ (dl_L26 sq) 10 (ins := .iconst 1) rfl) (by first | rfl | decide)) (
  tkc (s_iadd (at_ (dl_L26 sq) 11 (ins := .iadd) rfl)) (
  tkc (s_sa (at_ (dl_L26 sq) 12 (ins := .iaload) rfl) rfl) (
  tkc (s_cV ok_X10_again (at_ (dl_L26 sq) 13 (ins := .invokevirtual 130) rfl) (by decide) rfl (show Cond.methodLink RL 130 yX10_again ∈ tblG from (tg 1014 (by decide +kernel) (by decide +kernel))) (tg 1015 (by decide +kernel) (by decide +kernel)) (tg 1016 (by decide +kernel) (by decide +kernel)) (tg 51 (by decide +kernel) (by decide +kernel)) (tg 1017 (by decide +kernel) (by decide +kernel)) (⟨by decide, by decide, by decide +kernel⟩) (⟨(Nat.le_of_ble_eq_true rfl), (Nat.le_of_ble_eq_true rfl)⟩) rfl rfl) (
  tkc (s_ic_eq (at_ (dl_L26 sq) 14 (ins := .if_icmp .eq 5) rfl) (by decide)) (
  tkc (s_iconst (at_ (dl_L26 sq) 15 (ins := .iconst 0) rfl) (by first | rfl | decide)) (
  tkc (s_rZ (at_ (dl_L26 sq) 16 (ins := .ireturn) rfl) rfl) (
  tkc (s_iinc (at_ (dl_L26 sq) 17 (ins := .iinc 3 4) rfl) (Nat.le_of_ble_eq_true rfl) (by first | rfl | decide)) ( tk0))))))))))))))))))
theorem lf_L26 (sq : Nat × (Nat → Int32)) : lk (tb_L26 sq) 897 = (x_al 898 1, false) ∧ lk (tb_L26 sq) 898 = (x_al 899 0, false) ∧ lk (tb_L26 sq) 899 = (x_il 900 3, false) ∧ lk (tb_L26 sq) 900 = (x_c 901 (.int 1), false) ∧ lk (tb_L26 sq) 901 = (x_ii 902 (fun x y : Int32 => x + y), false) ∧ lk (tb_L26 sq) 902 = (x_sa 903 sq, false) ∧ lk (tb_L26 sq) 903 = (x_cV 9 1 P_X9_again 906, false) ∧ lk (tb_L26 sq) 906 = (x_al 907 2, false) ∧ lk (tb_L26 sq) 907 = (x_al 908 0, false) ∧ lk (tb_L26 sq) 908 = (x_il 909 3, false) ∧ lk (tb_L26 sq) 909 = (x_c 910 (.int 1), false) ∧ lk (tb_L26 sq) 910 = (x_ii 911 (fun x y : Int32 => x + y), false) ∧ lk (tb_L26 sq) 911 = (x_sa 912 sq, false) ∧ lk (tb_L26 sq) 912 = (x_cV 10 1 P_X10_again 915, false) ∧ lk (tb_L26 sq) 915 = (x_ic 920 918 (fun x y : Int32 => x = y), false) ∧ lk (tb_L26 sq) 918 = (x_c 919 (.int 0), false) ∧ lk (tb_L26 sq) 919 = (x_rZ, false) ∧ lk (tb_L26 sq) 920 = (x_inc 923 3 4, true) := ⟨rfl, rfl, rfl, rfl, rfl, rfl, rfl, rfl, rfl, rfl, rfl, rfl, rfl, rfl, rfl, rfl, rfl, rfl⟩
set_option maxRecDepth 20000 in
theorem lc_26 {sq : Nat × (Nat → Int32)} {R : Option Value → Mem → Prop} {S : Sh} {I : MI} {L : Nat → Nat → Int64} {g : GS} {i : Nat} (h4 : i + 4 ≤ sq.1) (h2 : sq.1 ≤ 2048) (hC : CR S I L g) (hM : MR S I L g) (hO : GOk g) (hnx : ∀ I' L' g', CR S I' L' g' → MR S I' L' g' → GOk g' → J (mt_L_law sq) R 920 [some (.ref 9002), some (.ref 0), some (.ref 108), some (.int (nI i))] [] (S, I', L')) : J (mt_L_law sq) R 897 [some (.ref 9002), some (.ref 0), some (.ref 108), some (.int (nI i))] [] (S, I, L) := by
  have t0 : tO S 0 9 := hC.1.1.1
  have t8 : tO S 108 10 := hM.1.1
  have v1 : vp_in (nI (i + 1)) sq.1 := vp_in_nI (by omega) (by omega)
  have v2 : vp_in (nI (i + 2)) sq.1 := vp_in_nI (by omega) (by omega)
  have v3 : vp_in (nI (i + 3)) sq.1 := vp_in_nI (by omega) (by omega)
  refine J.of (tk_L26 sq) 200 fun ρ hρ => ?_
  simp only [hρ, x_c, x_il, x_ll, x_al, x_is, x_as, x_ls, x_inc, x_ii, x_iq, x_i1, x_l2, x_lq, x_lh, x_i2l, x_l2i, x_lcmp, x_dup, x_dup2, x_pop, x_if, x_ifn, x_ic, x_icn, x_go, x_sw, swc, x_l01, x_mx, x_gI, x_gL, x_gR, x_pI, x_pZ, x_pL, x_pR, x_ia, x_za, x_aa, x_ias, x_zas, x_aas, x_fac, x_fa, x_slen, x_sa, x_ac, x_oi, x_new, x_na, x_cS, x_cV, x_cI, x_rI, x_rZ, x_rL, x_r0, pa, short, oc, lg, lset, lset2, wide, cond_true, cond_false, true_and, and_true, ↓reduceIte, Bool.false_eq_true, true_or, or_true, lf_L26, t0, t8, P_X9_again, P_X10_again, Ans, Anm, nI_1, show (2 : Int32) = nI 2 by decide, show (3 : Int32) = nI 3 by decide, nI_add, eq_true v1, eq_true v2, eq_true v3, ncl (show i + 1 < 2 ^ 31 by omega), ncl (show i + 2 < 2 ^ 31 by omega), ncl (show i + 3 < 2 ^ 31 by omega), lg_cmp_eq, true_implies, not_true_eq_false, false_implies, not_false_eq_true]
  exact ⟨g, hC, hO, fun I1 L1 f1 l1 c1 => ⟨g, hM.f8 f1 l1, hO, fun I2 L2 f2 l2 c2 => ⟨fun _ => hnx I2 L2 _ (c1.i f2 (l2 0 (by omega))) c2 (kAgain hO), fun h => absurd rfl h⟩⟩⟩
