/-! ABOUT of the model -/
def il_X10_about : List (Nat × Instr × Nat) := [(0, .iload_n 1, 1), (1, .tableswitch 205 0 16 #[83, 88, 93, 101, 109, 118, 127, 144, 149, 156, 170, 175, 180, 185, 190, 195, 200], 83), (84, .aload_n 0, 1), (85, .getfield 53, 3), (88, .ireturn, 1), (89, .aload_n 0, 1), (90, .getfield 64, 3), (93, .ireturn, 1), (94, .aload_n 0, 1), (95, .getfield 13, 3), (98, .bipush 78, 2), (100, .iaload, 1), (101, .ireturn, 1), (102, .aload_n 0, 1), (103, .getfield 13, 3), (106, .bipush 79, 2), (108, .iaload, 1), (109, .ireturn, 1), (110, .aload_n 0, 1), (111, .aload_n 0, 1), (112, .getfield 13, 3), (115, .invokevirtual 118, 3), (118, .ireturn, 1), (119, .aload_n 0, 1), (120, .aload_n 0, 1), (121, .getfield 13, 3), (124, .invokevirtual 130, 3), (127, .ireturn, 1), (128, .aload_n 0, 1), (129, .aload_n 0, 1), (130, .getfield 13, 3), (133, .invokevirtual 130, 3), (136, .ifCond .ne 7, 3), (139, .iconst 1, 1), (140, .goto 4, 3), (143, .iconst 0, 1), (144, .ireturn, 1), (145, .aload_n 0, 1), (146, .invokevirtual 147, 3), (149, .ireturn, 1), (150, .aload_n 0, 1), (151, .bipush 63, 2), (153, .invokevirtual 150, 3), (156, .ireturn, 1), (157, .iconst 1, 1), (158, .aload_n 0, 1), (159, .getfield 53, 3), (162, .aload_n 0, 1), (163, .bipush 63, 2), (165, .invokevirtual 150, 3), (168, .isub, 1), (169, .ishl, 1), (170, .ireturn, 1), (171, .aload_n 0, 1), (172, .invokevirtual 153, 3), (175, .ireturn, 1), (176, .aload_n 0, 1), (177, .invokevirtual 156, 3), (180, .ireturn, 1), (181, .aload_n 0, 1), (182, .invokevirtual 159, 3), (185, .ireturn, 1), (186, .aload_n 0, 1), (187, .invokevirtual 162, 3), (190, .ireturn, 1), (191, .aload_n 0, 1), (192, .getfield 99, 3), (195, .ireturn, 1), (196, .aload_n 0, 1), (197, .getfield 165, 3), (200, .ireturn, 1), (201, .aload_n 0, 1), (202, .getfield 69, 3), (205, .ireturn, 1), (206, .bipush (-2), 2), (208, .ireturn, 1)]
def mt_X10_about : Mt := (cX10_about, RX10, 2, (some .int), ({ frames := 5, cells := 0, slots := 0, locals := 117 } : Room), false, none, none)
set_option maxRecDepth 100000 in
theorem dl_X10_about : ∀ q ∈ il_X10_about, decode (mt_X10_about).1 q.1 = .ok q.2 := by decide +kernel
def tb_X10_about : Tb := [(0, x_il 1 1, false),
  (1, x_sw 0 16 [84, 89, 94, 102, 110, 119, 128, 145, 150, 157, 171, 176, 181, 186, 191, 196, 201] 206, false),
  (84, x_al 85 0, false),
  (85, x_gI 10 2 88, false),
  (88, x_rI, false),
  (89, x_al 90 0, false),
  (90, x_gI 10 3 93, false),
  (93, x_rI, false),
  (94, x_al 95 0, false),
  (95, x_gR 10 4 98, false),
  (98, x_c 100 (.int 78), false),
  (100, x_ia 101, false),
  (101, x_rI, false),
  (102, x_al 103 0, false),
  (103, x_gR 10 4 106, false),
  (106, x_c 108 (.int 79), false),
  (108, x_ia 109, false),
  (109, x_rI, false),
  (110, x_al 111 0, false),
  (111, x_al 112 0, false),
  (112, x_gR 10 4 115, false),
  (115, x_cV 10 1 P_X10_wordOf 118, false),
  (118, x_rI, false),
  (119, x_al 120 0, false),
  (120, x_al 121 0, false),
  (121, x_gR 10 4 124, false),
  (124, x_cV 10 1 P_X10_openOf 127, false),
  (127, x_rI, false),
  (128, x_al 129 0, false),
  (129, x_al 130 0, false),
  (130, x_gR 10 4 133, false),
  (133, x_cV 10 1 P_X10_openOf 136, false),
  (136, x_ifn 143 139 (fun x : Int32 => x = 0), false),
  (139, x_c 140 (.int 1), false),
  (140, x_go 144, false),
  (143, x_c 144 (.int 0), false),
  (144, x_rI, false),
  (145, x_al 146 0, false),
  (146, x_cV 10 0 P_X10_ring 149, false),
  (149, x_rI, false),
  (150, x_al 151 0, false),
  (151, x_c 153 (.int 63), false),
  (153, x_cV 10 1 P_X10_rankBy 156, false),
  (156, x_rI, false),
  (157, x_c 158 (.int 1), false),
  (158, x_al 159 0, false),
  (159, x_gI 10 2 162, false),
  (162, x_al 163 0, false),
  (163, x_c 165 (.int 63), false),
  (165, x_cV 10 1 P_X10_rankBy 168, false),
  (168, x_ii 169 (fun x y : Int32 => x - y), false),
  (169, x_ii 170 (fun x y : Int32 => x <<< (y &&& 31)), false),
  (170, x_rI, false),
  (171, x_al 172 0, false),
  (172, x_cV 10 0 P_X10_distance 175, false),
  (175, x_rI, false),
  (176, x_al 177 0, false),
  (177, x_cV 10 0 P_X10_needs 180, false),
  (180, x_rI, false),
  (181, x_al 182 0, false),
  (182, x_cV 10 0 P_X10_ends 185, false),
  (185, x_rI, false),
  (186, x_al 187 0, false),
  (187, x_cV 10 0 P_X10_best 190, false),
  (190, x_rI, false),
  (191, x_al 192 0, false),
  (192, x_gI 10 7 195, false),
  (195, x_rI, false),
  (196, x_al 197 0, false),
  (197, x_gI 10 13 200, false),
  (200, x_rI, false),
  (201, x_al 202 0, false),
  (202, x_gI 10 1 205, false),
  (205, x_rI, false),
  (206, x_c 208 (.int (-2)), false),
  (208, x_rI, false)]
set_option maxRecDepth 100000 in
theorem tk_X10_about : TbOk (mt_X10_about) (tb_X10_about) :=
  tkc (s_iload_n (at_ dl_X10_about 0 (ins := .iload_n 1) rfl)) (
  tkc (s_sw (at_ dl_X10_about 1 (ins := .tableswitch 205 0 16 #[83, 88, 93, 101, 109, 118, 127, 144, 149, 156, 170, 175, 180, 185, 190, 195, 200]) rfl) rfl (tsw [84, 89, 94, 102, 110, 119, 128, 145, 150, 157, 171, 176, 181, 186, 191, 196, 201] (by decide +kernel)) (by decide)) (
  tkc (s_aload_n (at_ dl_X10_about 2 (ins := .aload_n 0) rfl)) (
  tkc (s_gI (at_ dl_X10_about 3 (ins := .getfield 53) rfl) (by decide) (by decide) (by decide) (tg 698 (by decide +kernel) (by decide +kernel))) (
  tkc (s_rI (at_ dl_X10_about 4 (ins := .ireturn) rfl) rfl) (
  tkc (s_aload_n (at_ dl_X10_about 5 (ins := .aload_n 0) rfl)) (
  tkc (s_gI (at_ dl_X10_about 6 (ins := .getfield 64) rfl) (by decide) (by decide) (by decide) (tg 699 (by decide +kernel) (by decide +kernel))) (
  tkc (s_rI (at_ dl_X10_about 7 (ins := .ireturn) rfl) rfl) (
  tkc (s_aload_n (at_ dl_X10_about 8 (ins := .aload_n 0) rfl)) (
  tkc (s_gR (at_ dl_X10_about 9 (ins := .getfield 13) rfl) (by decide) (by decide) (by decide) (tg 700 (by decide +kernel) (by decide +kernel))) (
  tkc (s_bipush (at_ dl_X10_about 10 (ins := .bipush 78) rfl) (by first | rfl | decide)) (
  tkc (s_ia (at_ dl_X10_about 11 (ins := .iaload) rfl)) (
  tkc (s_rI (at_ dl_X10_about 12 (ins := .ireturn) rfl) rfl) (
  tkc (s_aload_n (at_ dl_X10_about 13 (ins := .aload_n 0) rfl)) (
  tkc (s_gR (at_ dl_X10_about 14 (ins := .getfield 13) rfl) (by decide) (by decide) (by decide) (tg 700 (by decide +kernel) (by decide +kernel))) (
  tkc (s_bipush (at_ dl_X10_about 15 (ins := .bipush 79) rfl) (by first | rfl | decide)) (
  tkc (s_ia (at_ dl_X10_about 16 (ins := .iaload) rfl)) (
  tkc (s_rI (at_ dl_X10_about 17 (ins := .ireturn) rfl) rfl) (
  tkc (s_aload_n (at_ dl_X10_about 18 (ins := .aload_n 0) rfl)) (
  tkc (s_aload_n (at_ dl_X10_about 19 (ins := .aload_n 0) rfl)) (
  tkc (s_gR (at_ dl_X10_about 20 (ins := .getfield 13) rfl) (by decide) (by decide) (by decide) (tg 700 (by decide +kernel) (by decide +kernel))) (
  tkc (s_cV ok_X10_wordOf (at_ dl_X10_about 21 (ins := .invokevirtual 118) rfl) (by decide) rfl (tg 809 (by decide +kernel) (by decide +kernel)) (tg 811 (by decide +kernel) (by decide +kernel)) (tg 21 (by decide +kernel) (by decide +kernel)) (tg 51 (by decide +kernel) (by decide +kernel)) (tg 812 (by decide +kernel) (by decide +kernel)) (⟨by decide, by decide, by decide +kernel⟩) (⟨by decide, by decide⟩) rfl rfl) (
  tkc (s_rI (at_ dl_X10_about 22 (ins := .ireturn) rfl) rfl) (
  tkc (s_aload_n (at_ dl_X10_about 23 (ins := .aload_n 0) rfl)) (
  tkc (s_aload_n (at_ dl_X10_about 24 (ins := .aload_n 0) rfl)) (
  tkc (s_gR (at_ dl_X10_about 25 (ins := .getfield 13) rfl) (by decide) (by decide) (by decide) (tg 700 (by decide +kernel) (by decide +kernel))) (
  tkc (s_cV ok_X10_openOf (at_ dl_X10_about 26 (ins := .invokevirtual 130) rfl) (by decide) rfl (tg 813 (by decide +kernel) (by decide +kernel)) (tg 815 (by decide +kernel) (by decide +kernel)) (tg 22 (by decide +kernel) (by decide +kernel)) (tg 51 (by decide +kernel) (by decide +kernel)) (tg 816 (by decide +kernel) (by decide +kernel)) (⟨by decide, by decide, by decide +kernel⟩) (⟨by decide, by decide⟩) rfl rfl) (
  tkc (s_rI (at_ dl_X10_about 27 (ins := .ireturn) rfl) rfl) (
  tkc (s_aload_n (at_ dl_X10_about 28 (ins := .aload_n 0) rfl)) (
  tkc (s_aload_n (at_ dl_X10_about 29 (ins := .aload_n 0) rfl)) (
  tkc (s_gR (at_ dl_X10_about 30 (ins := .getfield 13) rfl) (by decide) (by decide) (by decide) (tg 700 (by decide +kernel) (by decide +kernel))) (
  tkc (s_cV ok_X10_openOf (at_ dl_X10_about 31 (ins := .invokevirtual 130) rfl) (by decide) rfl (tg 813 (by decide +kernel) (by decide +kernel)) (tg 815 (by decide +kernel) (by decide +kernel)) (tg 22 (by decide +kernel) (by decide +kernel)) (tg 51 (by decide +kernel) (by decide +kernel)) (tg 816 (by decide +kernel) (by decide +kernel)) (⟨by decide, by decide, by decide +kernel⟩) (⟨by decide, by decide⟩) rfl rfl) (
  tkc (s_if_ne (at_ dl_X10_about 32 (ins := .ifCond .ne 7) rfl) (by decide)) (
  tkc (s_iconst (at_ dl_X10_about 33 (ins := .iconst 1) rfl) (by first | rfl | decide)) (
  tkc (s_goto (at_ dl_X10_about 34 (ins := .goto 4) rfl) (by decide)) (
  tkc (s_iconst (at_ dl_X10_about 35 (ins := .iconst 0) rfl) (by first | rfl | decide)) (
  tkc (s_rI (at_ dl_X10_about 36 (ins := .ireturn) rfl) rfl) (
  tkc (s_aload_n (at_ dl_X10_about 37 (ins := .aload_n 0) rfl)) (
  tkc (s_cV ok_X10_ring (at_ dl_X10_about 38 (ins := .invokevirtual 147) rfl) (by decide) rfl (tg 824 (by decide +kernel) (by decide +kernel)) (tg 826 (by decide +kernel) (by decide +kernel)) (tg 24 (by decide +kernel) (by decide +kernel)) (tg 51 (by decide +kernel) (by decide +kernel)) (tg 827 (by decide +kernel) (by decide +kernel)) (⟨by decide, by decide, by decide +kernel⟩) (⟨by decide, by decide⟩) rfl rfl) (
  tkc (s_rI (at_ dl_X10_about 39 (ins := .ireturn) rfl) rfl) (
  tkc (s_aload_n (at_ dl_X10_about 40 (ins := .aload_n 0) rfl)) (
  tkc (s_bipush (at_ dl_X10_about 41 (ins := .bipush 63) rfl) (by first | rfl | decide)) (
  tkc (s_cV ok_X10_rankBy (at_ dl_X10_about 42 (ins := .invokevirtual 150) rfl) (by decide) rfl (tg 835 (by decide +kernel) (by decide +kernel)) (tg 837 (by decide +kernel) (by decide +kernel)) (tg 26 (by decide +kernel) (by decide +kernel)) (tg 51 (by decide +kernel) (by decide +kernel)) (tg 838 (by decide +kernel) (by decide +kernel)) (⟨by decide, by decide, by decide +kernel⟩) (⟨by decide, by decide⟩) rfl rfl) (
  tkc (s_rI (at_ dl_X10_about 43 (ins := .ireturn) rfl) rfl) (
  tkc (s_iconst (at_ dl_X10_about 44 (ins := .iconst 1) rfl) (by first | rfl | decide)) (
  tkc (s_aload_n (at_ dl_X10_about 45 (ins := .aload_n 0) rfl)) (
  tkc (s_gI (at_ dl_X10_about 46 (ins := .getfield 53) rfl) (by decide) (by decide) (by decide) (tg 698 (by decide +kernel) (by decide +kernel))) (
  tkc (s_aload_n (at_ dl_X10_about 47 (ins := .aload_n 0) rfl)) (
  tkc (s_bipush (at_ dl_X10_about 48 (ins := .bipush 63) rfl) (by first | rfl | decide)) (
  tkc (s_cV ok_X10_rankBy (at_ dl_X10_about 49 (ins := .invokevirtual 150) rfl) (by decide) rfl (tg 835 (by decide +kernel) (by decide +kernel)) (tg 837 (by decide +kernel) (by decide +kernel)) (tg 26 (by decide +kernel) (by decide +kernel)) (tg 51 (by decide +kernel) (by decide +kernel)) (tg 838 (by decide +kernel) (by decide +kernel)) (⟨by decide, by decide, by decide +kernel⟩) (⟨by decide, by decide⟩) rfl rfl) (
  tkc (s_isub (at_ dl_X10_about 50 (ins := .isub) rfl)) (
  tkc (s_ishl (at_ dl_X10_about 51 (ins := .ishl) rfl)) (
  tkc (s_rI (at_ dl_X10_about 52 (ins := .ireturn) rfl) rfl) (
  tkc (s_aload_n (at_ dl_X10_about 53 (ins := .aload_n 0) rfl)) (
  tkc (s_cV ok_X10_distance (at_ dl_X10_about 54 (ins := .invokevirtual 153) rfl) (by decide) rfl (tg 839 (by decide +kernel) (by decide +kernel)) (tg 841 (by decide +kernel) (by decide +kernel)) (tg 27 (by decide +kernel) (by decide +kernel)) (tg 51 (by decide +kernel) (by decide +kernel)) (tg 842 (by decide +kernel) (by decide +kernel)) (⟨by decide, by decide, by decide +kernel⟩) (⟨by decide, by decide⟩) rfl rfl) (
  tkc (s_rI (at_ dl_X10_about 55 (ins := .ireturn) rfl) rfl) (
  tkc (s_aload_n (at_ dl_X10_about 56 (ins := .aload_n 0) rfl)) (
  tkc (s_cV ok_X10_needs (at_ dl_X10_about 57 (ins := .invokevirtual 156) rfl) (by decide) rfl (tg 843 (by decide +kernel) (by decide +kernel)) (tg 845 (by decide +kernel) (by decide +kernel)) (tg 28 (by decide +kernel) (by decide +kernel)) (tg 51 (by decide +kernel) (by decide +kernel)) (tg 846 (by decide +kernel) (by decide +kernel)) (⟨by decide, by decide, by decide +kernel⟩) (⟨by decide, by decide⟩) rfl rfl) (
  tkc (s_rI (at_ dl_X10_about 58 (ins := .ireturn) rfl) rfl) (
  tkc (s_aload_n (at_ dl_X10_about 59 (ins := .aload_n 0) rfl)) (
  tkc (s_cV ok_X10_ends (at_ dl_X10_about 60 (ins := .invokevirtual 159) rfl) (by decide) rfl (tg 868 (by decide +kernel) (by decide +kernel)) (tg 870 (by decide +kernel) (by decide +kernel)) (tg 32 (by decide +kernel) (by decide +kernel)) (tg 51 (by decide +kernel) (by decide +kernel)) (tg 871 (by decide +kernel) (by decide +kernel)) (⟨by decide, by decide, by decide +kernel⟩) (⟨by decide, by decide⟩) rfl rfl) (
  tkc (s_rI (at_ dl_X10_about 61 (ins := .ireturn) rfl) rfl) (
  tkc (s_aload_n (at_ dl_X10_about 62 (ins := .aload_n 0) rfl)) (
  tkc (s_cV ok_X10_best (at_ dl_X10_about 63 (ins := .invokevirtual 162) rfl) (by decide) rfl (tg 872 (by decide +kernel) (by decide +kernel)) (tg 874 (by decide +kernel) (by decide +kernel)) (tg 33 (by decide +kernel) (by decide +kernel)) (tg 51 (by decide +kernel) (by decide +kernel)) (tg 875 (by decide +kernel) (by decide +kernel)) (⟨by decide, by decide, by decide +kernel⟩) (⟨by decide, by decide⟩) rfl rfl) (
  tkc (s_rI (at_ dl_X10_about 64 (ins := .ireturn) rfl) rfl) (
  tkc (s_aload_n (at_ dl_X10_about 65 (ins := .aload_n 0) rfl)) (
  tkc (s_gI (at_ dl_X10_about 66 (ins := .getfield 99) rfl) (by decide) (by decide) (by decide) (tg 703 (by decide +kernel) (by decide +kernel))) (
  tkc (s_rI (at_ dl_X10_about 67 (ins := .ireturn) rfl) rfl) (
  tkc (s_aload_n (at_ dl_X10_about 68 (ins := .aload_n 0) rfl)) (
  tkc (s_gI (at_ dl_X10_about 69 (ins := .getfield 165) rfl) (by decide) (by decide) (by decide) (tg 709 (by decide +kernel) (by decide +kernel))) (
  tkc (s_rI (at_ dl_X10_about 70 (ins := .ireturn) rfl) rfl) (
  tkc (s_aload_n (at_ dl_X10_about 71 (ins := .aload_n 0) rfl)) (
  tkc (s_gI (at_ dl_X10_about 72 (ins := .getfield 69) rfl) (by decide) (by decide) (by decide) (tg 697 (by decide +kernel) (by decide +kernel))) (
  tkc (s_rI (at_ dl_X10_about 73 (ins := .ireturn) rfl) rfl) (
  tkc (s_bipush (at_ dl_X10_about 74 (ins := .bipush (-2)) rfl) (by first | rfl | decide)) (
  tkc (s_rI (at_ dl_X10_about 75 (ins := .ireturn) rfl) rfl) ( tk0))))))))))))))))))))))))))))))))))))))))))))))))))))))))))))))))))))))))))))
theorem lf_X10_about : lk (tb_X10_about) 0 = (x_il 1 1, false) ∧ lk (tb_X10_about) 1 = (x_sw 0 16 [84, 89, 94, 102, 110, 119, 128, 145, 150, 157, 171, 176, 181, 186, 191, 196, 201] 206, false) ∧ lk (tb_X10_about) 84 = (x_al 85 0, false) ∧ lk (tb_X10_about) 85 = (x_gI 10 2 88, false) ∧ lk (tb_X10_about) 88 = (x_rI, false) ∧ lk (tb_X10_about) 89 = (x_al 90 0, false) ∧ lk (tb_X10_about) 90 = (x_gI 10 3 93, false) ∧ lk (tb_X10_about) 93 = (x_rI, false) ∧ lk (tb_X10_about) 94 = (x_al 95 0, false) ∧ lk (tb_X10_about) 95 = (x_gR 10 4 98, false) ∧ lk (tb_X10_about) 98 = (x_c 100 (.int 78), false) ∧ lk (tb_X10_about) 100 = (x_ia 101, false) ∧ lk (tb_X10_about) 101 = (x_rI, false) ∧ lk (tb_X10_about) 102 = (x_al 103 0, false) ∧ lk (tb_X10_about) 103 = (x_gR 10 4 106, false) ∧ lk (tb_X10_about) 106 = (x_c 108 (.int 79), false) ∧ lk (tb_X10_about) 108 = (x_ia 109, false) ∧ lk (tb_X10_about) 109 = (x_rI, false) ∧ lk (tb_X10_about) 110 = (x_al 111 0, false) ∧ lk (tb_X10_about) 111 = (x_al 112 0, false) ∧ lk (tb_X10_about) 112 = (x_gR 10 4 115, false) ∧ lk (tb_X10_about) 115 = (x_cV 10 1 P_X10_wordOf 118, false) ∧ lk (tb_X10_about) 118 = (x_rI, false) ∧ lk (tb_X10_about) 119 = (x_al 120 0, false) ∧ lk (tb_X10_about) 120 = (x_al 121 0, false) ∧ lk (tb_X10_about) 121 = (x_gR 10 4 124, false) ∧ lk (tb_X10_about) 124 = (x_cV 10 1 P_X10_openOf 127, false) ∧ lk (tb_X10_about) 127 = (x_rI, false) ∧ lk (tb_X10_about) 128 = (x_al 129 0, false) ∧ lk (tb_X10_about) 129 = (x_al 130 0, false) ∧ lk (tb_X10_about) 130 = (x_gR 10 4 133, false) ∧ lk (tb_X10_about) 133 = (x_cV 10 1 P_X10_openOf 136, false) ∧ lk (tb_X10_about) 136 = (x_ifn 143 139 (fun x : Int32 => x = 0), false) ∧ lk (tb_X10_about) 139 = (x_c 140 (.int 1), false) ∧ lk (tb_X10_about) 140 = (x_go 144, false) ∧ lk (tb_X10_about) 143 = (x_c 144 (.int 0), false) ∧ lk (tb_X10_about) 144 = (x_rI, false) ∧ lk (tb_X10_about) 145 = (x_al 146 0, false) ∧ lk (tb_X10_about) 146 = (x_cV 10 0 P_X10_ring 149, false) ∧ lk (tb_X10_about) 149 = (x_rI, false) ∧ lk (tb_X10_about) 150 = (x_al 151 0, false) ∧ lk (tb_X10_about) 151 = (x_c 153 (.int 63), false) ∧ lk (tb_X10_about) 153 = (x_cV 10 1 P_X10_rankBy 156, false) ∧ lk (tb_X10_about) 156 = (x_rI, false) ∧ lk (tb_X10_about) 157 = (x_c 158 (.int 1), false) ∧ lk (tb_X10_about) 158 = (x_al 159 0, false) ∧ lk (tb_X10_about) 159 = (x_gI 10 2 162, false) ∧ lk (tb_X10_about) 162 = (x_al 163 0, false) ∧ lk (tb_X10_about) 163 = (x_c 165 (.int 63), false) ∧ lk (tb_X10_about) 165 = (x_cV 10 1 P_X10_rankBy 168, false) ∧ lk (tb_X10_about) 168 = (x_ii 169 (fun x y : Int32 => x - y), false) ∧ lk (tb_X10_about) 169 = (x_ii 170 (fun x y : Int32 => x <<< (y &&& 31)), false) ∧ lk (tb_X10_about) 170 = (x_rI, false) ∧ lk (tb_X10_about) 171 = (x_al 172 0, false) ∧ lk (tb_X10_about) 172 = (x_cV 10 0 P_X10_distance 175, false) ∧ lk (tb_X10_about) 175 = (x_rI, false) ∧ lk (tb_X10_about) 176 = (x_al 177 0, false) ∧ lk (tb_X10_about) 177 = (x_cV 10 0 P_X10_needs 180, false) ∧ lk (tb_X10_about) 180 = (x_rI, false) ∧ lk (tb_X10_about) 181 = (x_al 182 0, false) ∧ lk (tb_X10_about) 182 = (x_cV 10 0 P_X10_ends 185, false) ∧ lk (tb_X10_about) 185 = (x_rI, false) ∧ lk (tb_X10_about) 186 = (x_al 187 0, false) ∧ lk (tb_X10_about) 187 = (x_cV 10 0 P_X10_best 190, false) ∧ lk (tb_X10_about) 190 = (x_rI, false) ∧ lk (tb_X10_about) 191 = (x_al 192 0, false) ∧ lk (tb_X10_about) 192 = (x_gI 10 7 195, false) ∧ lk (tb_X10_about) 195 = (x_rI, false) ∧ lk (tb_X10_about) 196 = (x_al 197 0, false) ∧ lk (tb_X10_about) 197 = (x_gI 10 13 200, false) ∧ lk (tb_X10_about) 200 = (x_rI, false) ∧ lk (tb_X10_about) 201 = (x_al 202 0, false) ∧ lk (tb_X10_about) 202 = (x_gI 10 1 205, false) ∧ lk (tb_X10_about) 205 = (x_rI, false) ∧ lk (tb_X10_about) 206 = (x_c 208 (.int (-2)), false) ∧ lk (tb_X10_about) 208 = (x_rI, false) := ⟨rfl, rfl, rfl, rfl, rfl, rfl, rfl, rfl, rfl, rfl, rfl, rfl, rfl, rfl, rfl, rfl, rfl, rfl, rfl, rfl, rfl, rfl, rfl, rfl, rfl, rfl, rfl, rfl, rfl, rfl, rfl, rfl, rfl, rfl, rfl, rfl, rfl, rfl, rfl, rfl, rfl, rfl, rfl, rfl, rfl, rfl, rfl, rfl, rfl, rfl, rfl, rfl, rfl, rfl, rfl, rfl, rfl, rfl, rfl, rfl, rfl, rfl, rfl, rfl, rfl, rfl, rfl, rfl, rfl, rfl, rfl, rfl, rfl, rfl, rfl, rfl⟩
def P_X10_about : PTT := fun as M R => match as with
  | [.ref k, .int w] => k = 108 ∧ ∃ g, MR M.1 M.2.1 M.2.2 g ∧ GOk g ∧ Anm M R (gAbout g w) g
  | _ => False
set_option maxRecDepth 20000 in
theorem ok_X10_about : Ok yX10_about mt_X10_about P_X10_about := by
  refine Ok.of (by decide) rfl rfl rfl rfl fun av ⟨S, I, L⟩ R hP => ?_
  unfold P_X10_about at hP
  split at hP
  case h_2 => exact hP.elim
  rename_i k w
  obtain ⟨k, rfl⟩ : ∃ q : Nat, q = k := ⟨k, rfl⟩
  refine ⟨by simp [ent, wide, mt_X10_about], ?_⟩
  show J mt_X10_about R 0 [some (.ref k), some (.int w)] [] (S, I, L)
  try dsimp only at hP
  obtain ⟨rfl, g, hc, ho, hA⟩ := hP
  obtain ⟨h1, h2, h3, h4, h5, h6, h7, h8, h9⟩ := id hc
  have hok := ho.2.1
  have hm := ho.2.1.1
  have hms := hc.ms ho
  have e78n : (78 : Int32).toNatClampNeg = 78 := by decide
  have v78 : vp_in 78 80 := vp_in_nI (n := 78) (by omega) (by omega)
  have e79n : (79 : Int32).toNatClampNeg = 79 := by decide
  have v79 : vp_in 79 80 := vp_in_nI (n := 79) (by omega) (by omega)
  have e78 : I 110 78 = aO (gA g) := h4.2.2.2.2.1
  have e79 : I 110 79 = aR (gA g) := h4.2.2.2.2.2
  have hol : opA (gA g) < 64 := opB_lt hm.2.2
  have hfin : ∀ (j : Nat) I' v, frM I I' → w.toInt = (j : Int) → j < 17 → (abL g).getD j (-2) = v → R (some (.int v)) (S, I', L) := fun j I' v hf hw hj hv => by
    have : gAbout g w = v := by rw [gAbout, if_neg (by omega), hw, Int.toNat_natCast]; exact hv
    rw [this] at hA
    exact hA.q hc hf
  have hid := frM.refl I
  have f119 : ∀ I' : MI, (∀ q, q ≠ 119 → I' q = I q) → frM I I' := fun I' hf => ⟨fun q a b c => hf q (by omega), fun j _ => by rw [hf 108 (by omega)]⟩
  have f121 : ∀ I' : MI, (∀ q, q ≠ 121 → I' q = I q) → frM I I' := fun I' hf => ⟨fun q a b c => hf q (by omega), fun j _ => by rw [hf 108 (by omega)]⟩
  refine J.of tk_X10_about 200 fun ρ hρ => ?_
  simp only [hρ, x_c, x_il, x_ll, x_al, x_is, x_as, x_ls, x_inc, x_ii, x_iq, x_i1, x_l2, x_lq, x_lh, x_i2l, x_l2i, x_lcmp, x_dup, x_dup2, x_pop, x_if, x_ifn, x_ic, x_icn, x_go, x_sw, swc, x_l01, x_mx, x_gI, x_gL, x_gR, x_pI, x_pZ, x_pL, x_pR, x_ia, x_za, x_aa, x_ias, x_zas, x_aas, x_fac, x_fa, x_slen, x_sa, x_ac, x_oi, x_new, x_na, x_cS, x_cV, x_cI, x_rI, x_rZ, x_rL, x_r0, pa, short, oc, lg, lset, lset2, wide, cond_true, cond_false, true_and, and_true, ↓reduceIte, Bool.false_eq_true, true_or, or_true, lf_X10_about, h1, h1.f, h3.1, h3.2, h2.1, h5.1, h7.1, e78n, e79n, eq_true v78, eq_true v79, e78, e79, P_X10_wordOf, P_X10_openOf, P_X10_ring, P_X10_rankBy, P_X10_distance, P_X10_needs, P_X10_ends, P_X10_best]
  refine ⟨⟨?_, ?_, ?_, ?_, ?_, ?_, ?_, ?_, ?_, ?_, ?_, ?_, ?_, ?_, ?_, ?_, ?_⟩, ?_⟩
  · exact fun h => hfin 0 I _ hid (by omega) (by omega) rfl
  · exact fun h => hfin 1 I _ hid (by omega) (by omega) rfl
  · exact fun h => hfin 2 I _ hid (by omega) (by omega) rfl
  · exact fun h => hfin 3 I _ hid (by omega) (by omega) rfl
  · exact fun h => ⟨gA g, hms, hfin 4 I _ hid (by omega) (by omega) rfl⟩
  · exact fun h => ⟨gA g, hms, hfin 5 I _ hid (by omega) (by omega) rfl⟩
  · refine fun h => ⟨gA g, hms, ?_⟩
    rw [nI_z (by omega)]
    exact ⟨fun h0 => hfin 6 I _ hid (by omega) (by omega) (bB_f (by simpa using h0)), fun h0 => hfin 6 I _ hid (by omega) (by omega) (bB_t (by simpa using h0))⟩
  · exact fun h => ⟨gA g, hms, fun I' hf => hfin 7 I' _ (f121 I' hf) (by omega) (by omega) rfl⟩
  · exact fun h => ⟨63, gA g, rfl, by omega, hms, fun I' hf => hfin 8 I' _ (f119 I' hf) (by omega) (by omega) rfl⟩
  · exact fun h => ⟨63, gA g, rfl, by omega, hms, fun I' hf => hfin 9 I' _ (f119 I' hf) (by omega) (by omega) rfl⟩
  · exact fun h => ⟨gA g, hms, hfin 10 I _ hid (by omega) (by omega) rfl⟩
  · exact fun h => ⟨gA g, id, h4, hok, rfl, rfl, h9.O hm.2.2, fun I' hf => hfin 11 I' _ hf.M (by omega) (by omega) rfl⟩
  · exact fun h => ⟨gA g, id, h4, hok, rfl, rfl, h9.O hm.2.2, fun I' hf => hfin 12 I' _ hf.M (by omega) (by omega) rfl⟩
  · exact fun h => ⟨gA g, h4, hok, rfl, rfl, h9.O hm.2.2, fun I' hf => hfin 13 I' _ hf.M (by omega) (by omega) rfl⟩
  · exact fun h => hfin 14 I _ hid (by omega) (by omega) rfl
  · exact fun h => hfin 15 I _ hid (by omega) (by omega) rfl
  · exact fun h => hfin 16 I _ hid (by omega) (by omega) rfl
  · intro h
    have : gAbout g w = -2 := by rw [gAbout, if_pos (by omega)]
    rw [this] at hA
    exact hA.s hc
/-! what every call keeps -/
theorem remG_ok {g : GS} (h : GOk g) : GOk (remG g) := by
  obtain ⟨h1, h2, ⟨h3, h4⟩, h5, h6⟩ := h
  refine ⟨h1, h2, ⟨?_, fun j hj => ?_⟩, h5, h6⟩
  · show (if gC g < 14 then gC g + 1 else 14) ≤ 14
    split <;> omega
  · replace hj : j < (if gC g < 14 then gC g + 1 else 14) := hj
    show AOk (if j = 0 then gA g else gH g (j - 1)) ∧ sz (if j = 0 then gA g else gH g (j - 1)) (gA g)
    by_cases q : j = 0
    · rw [if_pos q]; exact ⟨h2, rfl, rfl⟩
    · rw [if_neg q]
      refine h4 (j - 1) ?_
      split at hj <;> omega
theorem GA_ok {g : GS} {a : AS} (h : GOk g) (ha : AOk a) (hz : sz a (gA g)) : GOk (GA g a) := by
  obtain ⟨h1, h2, ⟨h3, h4⟩, h5, h6⟩ := h
  exact ⟨h1, ha, ⟨h3, fun j hj => ⟨(h4 j hj).1, (h4 j hj).2.1.trans hz.1.symm, (h4 j hj).2.2.trans hz.2.symm⟩⟩, fun i hi hk => ⟨(h5 i hi hk).1, (h5 i hi hk).2.1.trans hz.1.symm, (h5 i hi hk).2.2.trans hz.2.symm⟩, h6⟩
theorem kWrite {g : GS} {x : Int32} (h : GOk g) : GOk (gWrite g x).2 := by
  unfold gWrite
  split
  · exact h
  · next q =>
    split
    · exact h
    · next q2 =>
      refine ⟨⟨by have := h.1.1; show gL g + 1 ≤ 70; omega, fun j hj => ?_⟩, h.2⟩
      replace hj : j < gL g + 1 := hj
      show va_up (gT g) (gL g) (tn x) j < 256
      unfold va_up
      split
      · have q1 : ¬ x < 0 := fun z => q (.inl z)
        have q2' : x ≤ 255 := Classical.byContradiction fun z => q (.inr z)
        obtain ⟨r, hr, rfl⟩ := nI_of q1
        rw [show (255 : Int32) = nI 255 by decide, nI_leI hr (by omega)] at q2'
        rw [tn_nI (by omega)]; omega
      · exact h.1.2 j (by omega)
theorem kWipe {g : GS} (h : GOk g) : GOk (gWipe g).2 := ⟨⟨Nat.zero_le _, fun j hj => absurd hj (Nat.not_lt_zero j)⟩, h.2⟩
theorem kCode {g : GS} (h : GOk g) : GOk (gCode g).2 := by
  unfold gCode
  split
  · next q =>
    obtain ⟨t1, t2⟩ := gFlt_ok h q
    exact ⟨h.1, codeA_ok t1 t2, ⟨Nat.zero_le _, fun j hj => absurd hj (Nat.not_lt_zero j)⟩, fun i _ hk => absurd hk Bool.false_ne_true, h.2.2.2.2⟩
  · exact h
theorem kLevel {g : GS} {b v : Int32} (h : GOk g) : GOk (gLevel g b v).2 := by
  unfold gLevel
  split
  · exact h
  · split
    · exact h
    · next q =>
      refine GA_ok (remG_ok h) (lvA_ok h.2.1 ?_) ⟨rfl, rfl⟩
      have q1 : ¬ v < -31 := fun z => q (.inl z)
      have q2 : v ≤ 31 := Classical.byContradiction fun z => q (.inr z)
      rw [Int32.lt_iff_toInt_lt, show (-31 : Int32).toInt = -31 by decide] at q1
      rw [Int32.le_iff_toInt_le, show (31 : Int32).toInt = 31 by decide] at q2
      exact ⟨by omega, by omega⟩
theorem kBegin {g : GS} (h : GOk g) : GOk (gBegin g).2 := GA_ok (remG_ok h) (begA_ok h.2.1) ⟨rfl, rfl⟩
theorem kRound {g : GS} {x : Int32} (h : GOk g) : GOk (gRound g x).2 := by
  unfold gRound
  split
  · exact h
  · exact GA_ok (remG_ok h) (itA_ok h.2.1) ⟨rfl, rfl⟩
theorem kPut {g : GS} {c b : Int32} (h : GOk g) : GOk (gPut g c b).2 := by
  unfold gPut
  split
  · exact h
  · next q =>
    have q' := Classical.not_not.mp q
    obtain ⟨i, hi, rfl⟩ := hC.i q'.1 h
    obtain ⟨j, hj, rfl⟩ := hB.i q'.2 h
    have hm := h.2.1.1
    rw [tn_nI (n := i) (by omega), tn_nI (n := j) (by omega)]
    exact GA_ok (remG_ok h) (putA_ok h.2.1 hi hj) ⟨rfl, rfl⟩
theorem grA_ok {j : Nat} : ∀ {l : Nat} {a : AS}, AOk a → j < aN a → AOk (grA j l a) ∧ sz (grA j l a) a
  | 0, a, h, _ => ⟨h, rfl, rfl⟩
  | l + 1, a, h, hj => by
    obtain ⟨k1, k2, k3⟩ := gpA_ok (c := cgA a j) h hj
    obtain ⟨i1, i2⟩ := grA_ok (l := l) k1 (by rw [k2]; exact hj)
    exact ⟨i1, i2.1.trans k2, i2.2.trans k3⟩
theorem kGrow {g : GS} {b d : Int32} (h : GOk g) : GOk (gGrow g b d).2 := by
  unfold gGrow
  split
  · exact h
  · next q =>
    split
    · exact h
    · obtain ⟨j, hj, rfl⟩ := hB.i (Classical.not_not.mp q) h
      have hm := h.2.1.1
      rw [tn_nI (n := j) (by omega)]
      have := grA_ok (l := tn d - ones9 (coF (aV (gA g)) (aM (gA g)) j)) h.2.1 hj
      exact GA_ok (remG_ok h) this.1 this.2
theorem kOffset {g : GS} {v : Int32} (h : GOk g) : GOk (gOffset g v).2 := by
  unfold gOffset
  split
  · exact h
  · next q =>
    have q1 : ¬ v < 0 := fun z => q (.inl z)
    have q2 : v ≤ 9 := Classical.byContradiction fun z => q (.inr z)
    obtain ⟨r, hr, rfl⟩ := le10 q1 (Int32.le_trans q2 (by decide))
    rw [show (9 : Int32) = nI 9 by decide, nI_leI (by omega) (by omega)] at q2
    exact GA_ok (remG_ok h) ⟨h.2.1.1, h.2.1.2.1, ⟨r, q2, rfl⟩, h.2.1.2.2.2.1, h.2.1.2.2.2.2⟩ ⟨rfl, rfl⟩
theorem kUndo {g : GS} (h : GOk g) : GOk (gUndo g).2 := by
  unfold gUndo
  split
  · exact h
  · next q =>
    have h0 := h.2.2.1.2 0 (by omega)
    have hG := GA_ok h h0.1 h0.2
    obtain ⟨h1, h2, ⟨h3, h4⟩, h5, h6⟩ := hG
    refine ⟨h1, h2, ⟨by show gC g - 1 ≤ 14; have : gC g ≤ 14 := h3; omega, fun j hj => ?_⟩, h5, h6⟩
    replace hj : j < gC g - 1 := hj
    exact h4 (j + 1) (by show j + 1 < gC g; omega)
theorem kSee {g : GS} {n v : Int32} (h : GOk g) : GOk (gSee g n v).2 := by
  unfold gSee
  split
  · exact h
  · next q =>
    split
    · exact h
    · refine ⟨h.1, h.2.1, h.2.2.1, h.2.2.2.1, by have := h.2.2.2.2.1; show gN g + 1 ≤ 6; omega, fun i hi => ?_⟩
      replace hi : i < gN g + 1 := hi
      show tn (upd (gB g) (gN g) n i) ≤ 20
      rw [upd_app]
      split
      · have q1 : ¬ n < 0 := fun z => q (.inl (.inl z))
        have q2 : n ≤ 20 := Int32.not_lt.mp fun z => q (.inl (.inr z))
        obtain ⟨r, hr, rfl⟩ := nI_of q1
        rw [show (20 : Int32) = nI 20 by decide, nI_leI hr (by omega)] at q2
        rw [tn_nI (by omega)]; exact q2
      · exact h.2.2.2.2.2 i (by omega)
theorem kUnsee {g : GS} (h : GOk g) : GOk (gUnsee g).2 := ⟨h.1, h.2.1, h.2.2.1, h.2.2.2.1, Nat.zero_le _, fun i hi => absurd hi (Nat.not_lt_zero i)⟩
theorem kDrawn {g : GS} {m : Int32} (h : GOk g) : GOk (gDrawn g m).2 := by
  unfold gDrawn
  split
  · exact h
  · exact h
theorem kKeep {g : GS} {x : Int32} (h : GOk g) : GOk (gKeep g x).2 := by
  unfold gKeep
  split
  · exact h
  · refine ⟨h.1, h.2.1, h.2.2.1, fun i hi hk => ?_, h.2.2.2.2⟩
    replace hk : (if i = tn x then true else gK g i) = true := hk
    show AOk (if i = tn x then gA g else gS g i) ∧ sz (if i = tn x then gA g else gS g i) (gA g)
    by_cases q : i = tn x
    · rw [if_pos q]; exact ⟨h.2.1, rfl, rfl⟩
    · rw [if_neg q] at hk ⊢; exact h.2.2.2.1 i hi hk
theorem kAgain {g : GS} {x : Int32} (h : GOk g) : GOk (gAgain g x).2 := by
  unfold gAgain
  split
  · exact h
  · next q =>
    split
    · exact h
    · next q2 =>
      have q1 : ¬ x < 0 := fun z => q (.inl z)
      have q3 : x < 2 := Classical.byContradiction fun z => q (.inr z)
      obtain ⟨i, hi, rfl⟩ := ix2 q1 q3
      rw [tn_nI (n := i) (by omega)] at q2 ⊢
      have hs := h.2.2.2.1 i hi (Classical.not_not.mp q2)
      have hG := GA_ok h hs.1 hs.2
      exact ⟨hG.1, hG.2.1, ⟨Nat.zero_le _, fun j hj => absurd hj (Nat.not_lt_zero j)⟩, hG.2.2.2⟩
