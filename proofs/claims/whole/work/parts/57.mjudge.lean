/-! JUDGE of the model -/
theorem bB_1 {b : Bool} : bB b = 1 ↔ b = true := by cases b <;> decide
theorem doJ_sz {a : AS} {w : Nat} : sz (doJ a w).2 a := by
  unfold doJ
  split
  · exact ⟨rfl, rfl⟩
  split
  · split <;> exact ⟨rfl, rfl⟩
  split
  · split <;> exact ⟨rfl, rfl⟩
  split
  · exact ⟨rfl, rfl⟩
  split
  · exact ⟨rfl, rfl⟩
  split
  · exact ⟨rfl, rfl⟩
  split
  · split <;> exact ⟨rfl, rfl⟩
  · exact ⟨rfl, rfl⟩
def il_X10_judged : List (Nat × Instr × Nat) := [(0, .iload_n 2, 1), (1, .ifCond .ne 11, 3), (4, .iload_n 3, 1), (5, .ifCond .ne 7, 3), (8, .iconst 1, 1), (9, .goto 4, 3), (12, .iconst 0, 1), (13, .istore 4, 2), (15, .iload_n 1, 1), (16, .tableswitch 253 1 7 #[44, 83, 98, 127, 171, 193, 237], 44), (60, .iconst 0, 1), (61, .istore 5, 2), (63, .iload 5, 2), (65, .bipush 10, 2), (67, .iload_n 2, 1), (68, .imul, 1), (69, .iload_n 3, 1), (70, .iadd, 1), (71, .if_icmp .ge 17, 3), (74, .aload_n 0, 1), (75, .aload_n 0, 1), (76, .getfield 16, 3), (79, .invokevirtual 133, 3), (82, .iinc 5 1, 3), (85, .goto (-22), 3), (88, .iload 4, 2), (90, .ifCond .ne 7, 3), (93, .iconst 1, 1), (94, .goto 4, 3), (97, .iconst 0, 1), (98, .ireturn, 1), (99, .iload 4, 2), (101, .ifCond .eq 10, 3), (104, .aload_n 0, 1), (105, .getfield 16, 3), (108, .invokestatic 126, 3), (111, .iload 4, 2), (113, .ireturn, 1), (114, .aload_n 0, 1), (115, .iload_n 2, 1), (116, .invokevirtual 174, 3), (119, .ifCond .eq 11, 3), (122, .aload_n 0, 1), (123, .iload_n 3, 1), (124, .invokevirtual 168, 3), (127, .ifCond .ne 5, 3), (130, .iconst 0, 1), (131, .ireturn, 1), (132, .aload_n 0, 1), (133, .getfield 16, 3), (136, .iload_n 2, 1), (137, .iload_n 3, 1), (138, .invokestatic 189, 3), (141, .iconst 1, 1), (142, .ireturn, 1), (143, .aload_n 0, 1), (144, .iload_n 2, 1), (145, .invokevirtual 168, 3), (148, .ifCond .eq 37, 3), (151, .iload_n 3, 1), (152, .iconst 2, 1), (153, .if_icmp .ge 32, 3), (156, .aload_n 0, 1), (157, .aload_n 0, 1), (158, .getfield 16, 3), (161, .invokevirtual 118, 3), (164, .iload_n 2, 1), (165, .invokestatic 102, 3), (168, .iload_n 3, 1), (169, .iconst 1, 1), (170, .if_icmp .ne 7, 3), (173, .iconst 1, 1), (174, .goto 4, 3), (177, .iconst 0, 1), (178, .if_icmp .ne 7, 3), (181, .iconst 1, 1), (182, .goto 4, 3), (185, .iconst 0, 1), (186, .ireturn, 1), (187, .iload 4, 2), (189, .ifCond .eq 18, 3), (192, .aload_n 0, 1), (193, .aload_n 0, 1), (194, .getfield 16, 3), (197, .invokevirtual 130, 3), (200, .ifCond .ne 7, 3), (203, .iconst 1, 1), (204, .goto 4, 3), (207, .iconst 0, 1), (208, .ireturn, 1), (209, .aload_n 0, 1), (210, .iload_n 2, 1), (211, .invokevirtual 174, 3), (214, .ifCond .eq 37, 3), (217, .iload_n 3, 1), (218, .iconst 2, 1), (219, .if_icmp .ge 32, 3), (222, .aload_n 0, 1), (223, .aload_n 0, 1), (224, .getfield 16, 3), (227, .invokevirtual 130, 3), (230, .iload_n 2, 1), (231, .invokestatic 102, 3), (234, .iload_n 3, 1), (235, .iconst 1, 1), (236, .if_icmp .ne 7, 3), (239, .iconst 1, 1), (240, .goto 4, 3), (243, .iconst 0, 1), (244, .if_icmp .ne 7, 3), (247, .iconst 1, 1), (248, .goto 4, 3), (251, .iconst 0, 1), (252, .ireturn, 1), (253, .iload_n 2, 1), (254, .ifCond .eq 5, 3), (257, .iconst 0, 1), (258, .ireturn, 1), (259, .aload_n 0, 1), (260, .getfield 16, 3), (263, .bipush 78, 2), (265, .iload_n 3, 1), (266, .iastore, 1), (267, .iconst 1, 1), (268, .ireturn, 1), (269, .iconst 0, 1), (270, .ireturn, 1)]
def mt_X10_judged : Mt := (cX10_judged, RX10, 6, (some .boolean), ({ frames := 3, cells := 0, slots := 0, locals := 72 } : Room), false, none, none)
set_option maxRecDepth 100000 in
theorem dl_X10_judged : ∀ q ∈ il_X10_judged, decode (mt_X10_judged).1 q.1 = .ok q.2 := by decide +kernel
def tb_X10_judged : Tb := [(0, x_il 1 2, false),
  (1, x_ifn 12 4 (fun x : Int32 => x = 0), false),
  (4, x_il 5 3, false),
  (5, x_ifn 12 8 (fun x : Int32 => x = 0), false),
  (8, x_c 9 (.int 1), false),
  (9, x_go 13, false),
  (12, x_c 13 (.int 0), false),
  (13, x_is 15 4, false),
  (15, x_il 16 1, true),
  (16, x_sw 1 7 [60, 99, 114, 143, 187, 209, 253] 269, false),
  (60, x_c 61 (.int 0), false),
  (61, x_is 63 5, false),
  (63, x_il 65 5, true),
  (65, x_c 67 (.int 10), false),
  (67, x_il 68 2, false),
  (68, x_ii 69 (fun x y : Int32 => x * y), false),
  (69, x_il 70 3, false),
  (70, x_ii 71 (fun x y : Int32 => x + y), false),
  (71, x_ic 88 74 (fun x y : Int32 => y ≤ x), false),
  (74, x_al 75 0, false),
  (75, x_al 76 0, false),
  (76, x_gR 10 5 79, false),
  (79, x_cV 10 1 P_X10_goOn 82, false),
  (82, x_inc 85 5 1, false),
  (85, x_go 63, false),
  (88, x_il 90 4, false),
  (90, x_ifn 97 93 (fun x : Int32 => x = 0), false),
  (93, x_c 94 (.int 1), false),
  (94, x_go 98, false),
  (97, x_c 98 (.int 0), false),
  (98, x_rZ, false),
  (99, x_il 101 4, false),
  (101, x_if 111 104 (fun x : Int32 => x = 0), false),
  (104, x_al 105 0, false),
  (105, x_gR 10 5 108, false),
  (108, x_cS 1 P_X10_beginOn 111, false),
  (111, x_il 113 4, false),
  (113, x_rZ, false),
  (114, x_al 115 0, false),
  (115, x_il 116 2, false),
  (116, x_cV 10 1 P_X10_isCheck 119, false),
  (119, x_if 130 122 (fun x : Int32 => x = 0), false),
  (122, x_al 123 0, false),
  (123, x_il 124 3, false),
  (124, x_cV 10 1 P_X10_isBit 127, false),
  (127, x_ifn 132 130 (fun x : Int32 => x = 0), false),
  (130, x_c 131 (.int 0), false),
  (131, x_rZ, false),
  (132, x_al 133 0, false),
  (133, x_gR 10 5 136, false),
  (136, x_il 137 2, false),
  (137, x_il 138 3, false),
  (138, x_cS 3 P_X10_putOn 141, false),
  (141, x_c 142 (.int 1), false),
  (142, x_rZ, false),
  (143, x_al 144 0, false),
  (144, x_il 145 2, false),
  (145, x_cV 10 1 P_X10_isBit 148, false),
  (148, x_if 185 151 (fun x : Int32 => x = 0), false),
  (151, x_il 152 3, false),
  (152, x_c 153 (.int 2), false),
  (153, x_ic 185 156 (fun x y : Int32 => y ≤ x), false),
  (156, x_al 157 0, false),
  (157, x_al 158 0, false),
  (158, x_gR 10 5 161, false),
  (161, x_cV 10 1 P_X10_wordOf 164, false),
  (164, x_il 165 2, false),
  (165, x_cS 2 P_X10_has 168, false),
  (168, x_il 169 3, false),
  (169, x_c 170 (.int 1), false),
  (170, x_icn 177 173 (fun x y : Int32 => x = y), false),
  (173, x_c 174 (.int 1), false),
  (174, x_go 178, false),
  (177, x_c 178 (.int 0), false),
  (178, x_icn 185 181 (fun x y : Int32 => x = y), false),
  (181, x_c 182 (.int 1), false),
  (182, x_go 186, false),
  (185, x_c 186 (.int 0), false),
  (186, x_rZ, false),
  (187, x_il 189 4, false),
  (189, x_if 207 192 (fun x : Int32 => x = 0), false),
  (192, x_al 193 0, false),
  (193, x_al 194 0, false),
  (194, x_gR 10 5 197, false),
  (197, x_cV 10 1 P_X10_openOf 200, false),
  (200, x_ifn 207 203 (fun x : Int32 => x = 0), false),
  (203, x_c 204 (.int 1), false),
  (204, x_go 208, false),
  (207, x_c 208 (.int 0), false),
  (208, x_rZ, false),
  (209, x_al 210 0, false),
  (210, x_il 211 2, false),
  (211, x_cV 10 1 P_X10_isCheck 214, false),
  (214, x_if 251 217 (fun x : Int32 => x = 0), false),
  (217, x_il 218 3, false),
  (218, x_c 219 (.int 2), false),
  (219, x_ic 251 222 (fun x y : Int32 => y ≤ x), false),
  (222, x_al 223 0, false),
  (223, x_al 224 0, false),
  (224, x_gR 10 5 227, false),
  (227, x_cV 10 1 P_X10_openOf 230, false),
  (230, x_il 231 2, false),
  (231, x_cS 2 P_X10_has 234, false),
  (234, x_il 235 3, false),
  (235, x_c 236 (.int 1), false),
  (236, x_icn 243 239 (fun x y : Int32 => x = y), false),
  (239, x_c 240 (.int 1), false),
  (240, x_go 244, false),
  (243, x_c 244 (.int 0), false),
  (244, x_icn 251 247 (fun x y : Int32 => x = y), false),
  (247, x_c 248 (.int 1), false),
  (248, x_go 252, false),
  (251, x_c 252 (.int 0), false),
  (252, x_rZ, false),
  (253, x_il 254 2, false),
  (254, x_if 259 257 (fun x : Int32 => x = 0), false),
  (257, x_c 258 (.int 0), false),
  (258, x_rZ, false),
  (259, x_al 260 0, false),
  (260, x_gR 10 5 263, false),
  (263, x_c 265 (.int 78), false),
  (265, x_il 266 3, false),
  (266, x_ias 267, false),
  (267, x_c 268 (.int 1), false),
  (268, x_rZ, false),
  (269, x_c 270 (.int 0), false),
  (270, x_rZ, false)]
set_option maxRecDepth 100000 in
theorem tk_X10_judged : TbOk (mt_X10_judged) (tb_X10_judged) :=
  tkc (s_iload_n (at_ dl_X10_judged 0 (ins := .iload_n 2) rfl)) (
  tkc (s_if_ne (at_ dl_X10_judged 1 (ins := .ifCond .ne 11) rfl) (by decide)) (
  tkc (s_iload_n (at_ dl_X10_judged 2 (ins := .iload_n 3) rfl)) (
  tkc (s_if_ne (at_ dl_X10_judged 3 (ins := .ifCond .ne 7) rfl) (by decide)) (
  tkc (s_iconst (at_ dl_X10_judged 4 (ins := .iconst 1) rfl) (by first | rfl | decide)) (
  tkc (s_goto (at_ dl_X10_judged 5 (ins := .goto 4) rfl) (by decide)) (
  tkc (s_iconst (at_ dl_X10_judged 6 (ins := .iconst 0) rfl) (by first | rfl | decide)) (
  tkc (s_istore (at_ dl_X10_judged 7 (ins := .istore 4) rfl) (by decide)) (
  tkc (s_iload_n (at_ dl_X10_judged 8 (ins := .iload_n 1) rfl)) (
  tkc (s_sw (at_ dl_X10_judged 9 (ins := .tableswitch 253 1 7 #[44, 83, 98, 127, 171, 193, 237]) rfl) rfl (tsw [60, 99, 114, 143, 187, 209, 253] (by decide +kernel)) (by decide)) (
  tkc (s_iconst (at_ dl_X10_judged 10 (ins := .iconst 0) rfl) (by first | rfl | decide)) (
  tkc (s_istore (at_ dl_X10_judged 11 (ins := .istore 5) rfl) (by decide)) (
  tkc (s_iload (at_ dl_X10_judged 12 (ins := .iload 5) rfl)) (
  tkc (s_bipush (at_ dl_X10_judged 13 (ins := .bipush 10) rfl) (by first | rfl | decide)) (
  tkc (s_iload_n (at_ dl_X10_judged 14 (ins := .iload_n 2) rfl)) (
  tkc (s_imul (at_ dl_X10_judged 15 (ins := .imul) rfl)) (
  tkc (s_iload_n (at_ dl_X10_judged 16 (ins := .iload_n 3) rfl)) (
  tkc (s_iadd (at_ dl_X10_judged 17 (ins := .iadd) rfl)) (
  tkc (s_ic_ge (at_ dl_X10_judged 18 (ins := .if_icmp .ge 17) rfl) (by decide)) (
  tkc (s_aload_n (at_ dl_X10_judged 19 (ins := .aload_n 0) rfl)) (
  tkc (s_aload_n (at_ dl_X10_judged 20 (ins := .aload_n 0) rfl)) (
  tkc (s_gR (at_ dl_X10_judged 21 (ins := .getfield 16) rfl) (by decide) (by decide) (by decide) (tg 701 (by decide +kernel) (by decide +kernel))) (
  tkc (s_cV ok_X10_goOn (at_ dl_X10_judged 22 (ins := .invokevirtual 133) rfl) (by decide) rfl (tg 857 (by decide +kernel) (by decide +kernel)) (tg 859 (by decide +kernel) (by decide +kernel)) (tg 30 (by decide +kernel) (by decide +kernel)) (tg 51 (by decide +kernel) (by decide +kernel)) (tg 860 (by decide +kernel) (by decide +kernel)) (⟨by decide, by decide, by decide +kernel⟩) (⟨by decide, by decide⟩) rfl rfl) (
  tkc (s_iinc (at_ dl_X10_judged 23 (ins := .iinc 5 1) rfl) (by decide) (by first | rfl | decide)) (
  tkc (s_goto (at_ dl_X10_judged 24 (ins := .goto (-22)) rfl) (by decide)) (
  tkc (s_iload (at_ dl_X10_judged 25 (ins := .iload 4) rfl)) (
  tkc (s_if_ne (at_ dl_X10_judged 26 (ins := .ifCond .ne 7) rfl) (by decide)) (
  tkc (s_iconst (at_ dl_X10_judged 27 (ins := .iconst 1) rfl) (by first | rfl | decide)) (
  tkc (s_goto (at_ dl_X10_judged 28 (ins := .goto 4) rfl) (by decide)) (
  tkc (s_iconst (at_ dl_X10_judged 29 (ins := .iconst 0) rfl) (by first | rfl | decide)) (
  tkc (s_rZ (at_ dl_X10_judged 30 (ins := .ireturn) rfl) rfl) (
  tkc (s_iload (at_ dl_X10_judged 31 (ins := .iload 4) rfl)) (
  tkc (s_if_eq (at_ dl_X10_judged 32 (ins := .ifCond .eq 10) rfl) (by decide)) (
  tkc (s_aload_n (at_ dl_X10_judged 33 (ins := .aload_n 0) rfl)) (
  tkc (s_gR (at_ dl_X10_judged 34 (ins := .getfield 16) rfl) (by decide) (by decide) (by decide) (tg 701 (by decide +kernel) (by decide +kernel))) (
  tkc (s_cS ok_X10_beginOn (at_ dl_X10_judged 35 (ins := .invokestatic 126) rfl) (tg 854 (by decide +kernel) (by decide +kernel)) (tg 855 (by decide +kernel) (by decide +kernel)) (tg 51 (by decide +kernel) (by decide +kernel)) (tg 856 (by decide +kernel) (by decide +kernel)) (⟨by decide, by decide, by decide +kernel⟩) (⟨by decide, by decide⟩) rfl rfl) (
  tkc (s_iload (at_ dl_X10_judged 36 (ins := .iload 4) rfl)) (
  tkc (s_rZ (at_ dl_X10_judged 37 (ins := .ireturn) rfl) rfl) (
  tkc (s_aload_n (at_ dl_X10_judged 38 (ins := .aload_n 0) rfl)) (
  tkc (s_iload_n (at_ dl_X10_judged 39 (ins := .iload_n 2) rfl)) (
  tkc (s_cV ok_X10_isCheck (at_ dl_X10_judged 40 (ins := .invokevirtual 174) rfl) (by decide) rfl (tg 892 (by decide +kernel) (by decide +kernel)) (tg 894 (by decide +kernel) (by decide +kernel)) (tg 36 (by decide +kernel) (by decide +kernel)) (tg 51 (by decide +kernel) (by decide +kernel)) (tg 895 (by decide +kernel) (by decide +kernel)) (⟨by decide, by decide, by decide +kernel⟩) (⟨by decide, by decide⟩) rfl rfl) (
  tkc (s_if_eq (at_ dl_X10_judged 41 (ins := .ifCond .eq 11) rfl) (by decide)) (
  tkc (s_aload_n (at_ dl_X10_judged 42 (ins := .aload_n 0) rfl)) (
  tkc (s_iload_n (at_ dl_X10_judged 43 (ins := .iload_n 3) rfl)) (
  tkc (s_cV ok_X10_isBit (at_ dl_X10_judged 44 (ins := .invokevirtual 168) rfl) (by decide) rfl (tg 880 (by decide +kernel) (by decide +kernel)) (tg 882 (by decide +kernel) (by decide +kernel)) (tg 34 (by decide +kernel) (by decide +kernel)) (tg 51 (by decide +kernel) (by decide +kernel)) (tg 883 (by decide +kernel) (by decide +kernel)) (⟨by decide, by decide, by decide +kernel⟩) (⟨by decide, by decide⟩) rfl rfl) (
  tkc (s_if_ne (at_ dl_X10_judged 45 (ins := .ifCond .ne 5) rfl) (by decide)) (
  tkc (s_iconst (at_ dl_X10_judged 46 (ins := .iconst 0) rfl) (by first | rfl | decide)) (
  tkc (s_rZ (at_ dl_X10_judged 47 (ins := .ireturn) rfl) rfl) (
  tkc (s_aload_n (at_ dl_X10_judged 48 (ins := .aload_n 0) rfl)) (
  tkc (s_gR (at_ dl_X10_judged 49 (ins := .getfield 16) rfl) (by decide) (by decide) (by decide) (tg 701 (by decide +kernel) (by decide +kernel))) (
  tkc (s_iload_n (at_ dl_X10_judged 50 (ins := .iload_n 2) rfl)) (
  tkc (s_iload_n (at_ dl_X10_judged 51 (ins := .iload_n 3) rfl)) (
  tkc (s_cS ok_X10_putOn (at_ dl_X10_judged 52 (ins := .invokestatic 189) rfl) (tg 923 (by decide +kernel) (by decide +kernel)) (tg 924 (by decide +kernel) (by decide +kernel)) (tg 51 (by decide +kernel) (by decide +kernel)) (tg 925 (by decide +kernel) (by decide +kernel)) (⟨by decide, by decide, by decide +kernel⟩) (⟨by decide, by decide⟩) rfl rfl) (
  tkc (s_iconst (at_ dl_X10_judged 53 (ins := .iconst 1) rfl) (by first | rfl | decide)) (
  tkc (s_rZ (at_ dl_X10_judged 54 (ins := .ireturn) rfl) rfl) (
  tkc (s_aload_n (at_ dl_X10_judged 55 (ins := .aload_n 0) rfl)) (
  tkc (s_iload_n (at_ dl_X10_judged 56 (ins := .iload_n 2) rfl)) (
  tkc (s_cV ok_X10_isBit (at_ dl_X10_judged 57 (ins := .invokevirtual 168) rfl) (by decide) rfl (tg 880 (by decide +kernel) (by decide +kernel)) (tg 882 (by decide +kernel) (by decide +kernel)) (tg 34 (by decide +kernel) (by decide +kernel)) (tg 51 (by decide +kernel) (by decide +kernel)) (tg 883 (by decide +kernel) (by decide +kernel)) (⟨by decide, by decide, by decide +kernel⟩) (⟨by decide, by decide⟩) rfl rfl) (
  tkc (s_if_eq (at_ dl_X10_judged 58 (ins := .ifCond .eq 37) rfl) (by decide)) (
  tkc (s_iload_n (at_ dl_X10_judged 59 (ins := .iload_n 3) rfl)) (
  tkc (s_iconst (at_ dl_X10_judged 60 (ins := .iconst 2) rfl) (by first | rfl | decide)) (
  tkc (s_ic_ge (at_ dl_X10_judged 61 (ins := .if_icmp .ge 32) rfl) (by decide)) (
  tkc (s_aload_n (at_ dl_X10_judged 62 (ins := .aload_n 0) rfl)) (
  tkc (s_aload_n (at_ dl_X10_judged 63 (ins := .aload_n 0) rfl)) (
  tkc (s_gR (at_ dl_X10_judged 64 (ins := .getfield 16) rfl) (by decide) (by decide) (by decide) (tg 701 (by decide +kernel) (by decide +kernel))) (
  tkc (s_cV ok_X10_wordOf (at_ dl_X10_judged 65 (ins := .invokevirtual 118) rfl) (by decide) rfl (tg 809 (by decide +kernel) (by decide +kernel)) (tg 811 (by decide +kernel) (by decide +kernel)) (tg 21 (by decide +kernel) (by decide +kernel)) (tg 51 (by decide +kernel) (by decide +kernel)) (tg 812 (by decide +kernel) (by decide +kernel)) (⟨by decide, by decide, by decide +kernel⟩) (⟨by decide, by decide⟩) rfl rfl) (
  tkc (s_iload_n (at_ dl_X10_judged 66 (ins := .iload_n 2) rfl)) (
  tkc (s_cS ok_X10_has (at_ dl_X10_judged 67 (ins := .invokestatic 102) rfl) (tg 828 (by decide +kernel) (by decide +kernel)) (tg 829 (by decide +kernel) (by decide +kernel)) (tg 51 (by decide +kernel) (by decide +kernel)) (tg 830 (by decide +kernel) (by decide +kernel)) (⟨by decide, by decide, by decide +kernel⟩) (⟨by decide, by decide⟩) rfl rfl) (
  tkc (s_iload_n (at_ dl_X10_judged 68 (ins := .iload_n 3) rfl)) (
  tkc (s_iconst (at_ dl_X10_judged 69 (ins := .iconst 1) rfl) (by first | rfl | decide)) (
  tkc (s_ic_ne (at_ dl_X10_judged 70 (ins := .if_icmp .ne 7) rfl) (by decide)) (
  tkc (s_iconst (at_ dl_X10_judged 71 (ins := .iconst 1) rfl) (by first | rfl | decide)) (
  tkc (s_goto (at_ dl_X10_judged 72 (ins := .goto 4) rfl) (by decide)) (
  tkc (s_iconst (at_ dl_X10_judged 73 (ins := .iconst 0) rfl) (by first | rfl | decide)) (
  tkc (s_ic_ne (at_ dl_X10_judged 74 (ins := .if_icmp .ne 7) rfl) (by decide)) (
  tkc (s_iconst (at_ dl_X10_judged 75 (ins := .iconst 1) rfl) (by first | rfl | decide)) (
  tkc (s_goto (at_ dl_X10_judged 76 (ins := .goto 4) rfl) (by decide)) (
  tkc (s_iconst (at_ dl_X10_judged 77 (ins := .iconst 0) rfl) (by first | rfl | decide)) (
  tkc (s_rZ (at_ dl_X10_judged 78 (ins := .ireturn) rfl) rfl) (
  tkc (s_iload (at_ dl_X10_judged 79 (ins := .iload 4) rfl)) (
  tkc (s_if_eq (at_ dl_X10_judged 80 (ins := .ifCond .eq 18) rfl) (by decide)) (
  tkc (s_aload_n (at_ dl_X10_judged 81 (ins := .aload_n 0) rfl)) (
  tkc (s_aload_n (at_ dl_X10_judged 82 (ins := .aload_n 0) rfl)) (
  tkc (s_gR (at_ dl_X10_judged 83 (ins := .getfield 16) rfl) (by decide) (by decide) (by decide) (tg 701 (by decide +kernel) (by decide +kernel))) (
  tkc (s_cV ok_X10_openOf (at_ dl_X10_judged 84 (ins := .invokevirtual 130) rfl) (by decide) rfl (tg 813 (by decide +kernel) (by decide +kernel)) (tg 815 (by decide +kernel) (by decide +kernel)) (tg 22 (by decide +kernel) (by decide +kernel)) (tg 51 (by decide +kernel) (by decide +kernel)) (tg 816 (by decide +kernel) (by decide +kernel)) (⟨by decide, by decide, by decide +kernel⟩) (⟨by decide, by decide⟩) rfl rfl) (
  tkc (s_if_ne (at_ dl_X10_judged 85 (ins := .ifCond .ne 7) rfl) (by decide)) (
  tkc (s_iconst (at_ dl_X10_judged 86 (ins := .iconst 1) rfl) (by first | rfl | decide)) (
  tkc (s_goto (at_ dl_X10_judged 87 (ins := .goto 4) rfl) (by decide)) (
  tkc (s_iconst (at_ dl_X10_judged 88 (ins := .iconst 0) rfl) (by first | rfl | decide)) (
  tkc (s_rZ (at_ dl_X10_judged 89 (ins := .ireturn) rfl) rfl) (
  tkc (s_aload_n (at_ dl_X10_judged 90 (ins := .aload_n 0) rfl)) (
  tkc (s_iload_n (at_ dl_X10_judged 91 (ins := .iload_n 2) rfl)) (
  tkc (s_cV ok_X10_isCheck (at_ dl_X10_judged 92 (ins := .invokevirtual 174) rfl) (by decide) rfl (tg 892 (by decide +kernel) (by decide +kernel)) (tg 894 (by decide +kernel) (by decide +kernel)) (tg 36 (by decide +kernel) (by decide +kernel)) (tg 51 (by decide +kernel) (by decide +kernel)) (tg 895 (by decide +kernel) (by decide +kernel)) (⟨by decide, by decide, by decide +kernel⟩) (⟨by decide, by decide⟩) rfl rfl) (
  tkc (s_if_eq (at_ dl_X10_judged 93 (ins := .ifCond .eq 37) rfl) (by decide)) (
  tkc (s_iload_n (at_ dl_X10_judged 94 (ins := .iload_n 3) rfl)) (
  tkc (s_iconst (at_ dl_X10_judged 95 (ins := .iconst 2) rfl) (by first | rfl | decide)) (
  tkc (s_ic_ge (at_ dl_X10_judged 96 (ins := .if_icmp .ge 32) rfl) (by decide)) (
  tkc (s_aload_n (at_ dl_X10_judged 97 (ins := .aload_n 0) rfl)) (
  tkc (s_aload_n (at_ dl_X10_judged 98 (ins := .aload_n 0) rfl)) (
  tkc (s_gR (at_ dl_X10_judged 99 (ins := .getfield 16) rfl) (by decide) (by decide) (by decide) (tg 701 (by decide +kernel) (by decide +kernel))) (
  tkc (s_cV ok_X10_openOf (at_ dl_X10_judged 100 (ins := .invokevirtual 130) rfl) (by decide) rfl (tg 813 (by decide +kernel) (by decide +kernel)) (tg 815 (by decide +kernel) (by decide +kernel)) (tg 22 (by decide +kernel) (by decide +kernel)) (tg 51 (by decide +kernel) (by decide +kernel)) (tg 816 (by decide +kernel) (by decide +kernel)) (⟨by decide, by decide, by decide +kernel⟩) (⟨by decide, by decide⟩) rfl rfl) (
  tkc (s_iload_n (at_ dl_X10_judged 101 (ins := .iload_n 2) rfl)) (
  tkc (s_cS ok_X10_has (at_ dl_X10_judged 102 (ins := .invokestatic 102) rfl) (tg 828 (by decide +kernel) (by decide +kernel)) (tg 829 (by decide +kernel) (by decide +kernel)) (tg 51 (by decide +kernel) (by decide +kernel)) (tg 830 (by decide +kernel) (by decide +kernel)) (⟨by decide, by decide, by decide +kernel⟩) (⟨by decide, by decide⟩) rfl rfl) (
  tkc (s_iload_n (at_ dl_X10_judged 103 (ins := .iload_n 3) rfl)) (
  tkc (s_iconst (at_ dl_X10_judged 104 (ins := .iconst 1) rfl) (by first | rfl | decide)) (
  tkc (s_ic_ne (at_ dl_X10_judged 105 (ins := .if_icmp .ne 7) rfl) (by decide)) (
  tkc (s_iconst (at_ dl_X10_judged 106 (ins := .iconst 1) rfl) (by first | rfl | decide)) (
  tkc (s_goto (at_ dl_X10_judged 107 (ins := .goto 4) rfl) (by decide)) (
  tkc (s_iconst (at_ dl_X10_judged 108 (ins := .iconst 0) rfl) (by first | rfl | decide)) (
  tkc (s_ic_ne (at_ dl_X10_judged 109 (ins := .if_icmp .ne 7) rfl) (by decide)) (
  tkc (s_iconst (at_ dl_X10_judged 110 (ins := .iconst 1) rfl) (by first | rfl | decide)) (
  tkc (s_goto (at_ dl_X10_judged 111 (ins := .goto 4) rfl) (by decide)) (
  tkc (s_iconst (at_ dl_X10_judged 112 (ins := .iconst 0) rfl) (by first | rfl | decide)) (
  tkc (s_rZ (at_ dl_X10_judged 113 (ins := .ireturn) rfl) rfl) (
  tkc (s_iload_n (at_ dl_X10_judged 114 (ins := .iload_n 2) rfl)) (
  tkc (s_if_eq (at_ dl_X10_judged 115 (ins := .ifCond .eq 5) rfl) (by decide)) (
  tkc (s_iconst (at_ dl_X10_judged 116 (ins := .iconst 0) rfl) (by first | rfl | decide)) (
  tkc (s_rZ (at_ dl_X10_judged 117 (ins := .ireturn) rfl) rfl) (
  tkc (s_aload_n (at_ dl_X10_judged 118 (ins := .aload_n 0) rfl)) (
  tkc (s_gR (at_ dl_X10_judged 119 (ins := .getfield 16) rfl) (by decide) (by decide) (by decide) (tg 701 (by decide +kernel) (by decide +kernel))) (
  tkc (s_bipush (at_ dl_X10_judged 120 (ins := .bipush 78) rfl) (by first | rfl | decide)) (
  tkc (s_iload_n (at_ dl_X10_judged 121 (ins := .iload_n 3) rfl)) (
  tkc (s_ias (at_ dl_X10_judged 122 (ins := .iastore) rfl)) (
  tkc (s_iconst (at_ dl_X10_judged 123 (ins := .iconst 1) rfl) (by first | rfl | decide)) (
  tkc (s_rZ (at_ dl_X10_judged 124 (ins := .ireturn) rfl) rfl) (
  tkc (s_iconst (at_ dl_X10_judged 125 (ins := .iconst 0) rfl) (by first | rfl | decide)) (
  tkc (s_rZ (at_ dl_X10_judged 126 (ins := .ireturn) rfl) rfl) ( tk0)))))))))))))))))))))))))))))))))))))))))))))))))))))))))))))))))))))))))))))))))))))))))))))))))))))))))))))))))))))))))))))))
set_option maxRecDepth 100000 in
theorem lf_X10_judged : lk (tb_X10_judged) 0 = (x_il 1 2, false) ∧ lk (tb_X10_judged) 1 = (x_ifn 12 4 (fun x : Int32 => x = 0), false) ∧ lk (tb_X10_judged) 4 = (x_il 5 3, false) ∧ lk (tb_X10_judged) 5 = (x_ifn 12 8 (fun x : Int32 => x = 0), false) ∧ lk (tb_X10_judged) 8 = (x_c 9 (.int 1), false) ∧ lk (tb_X10_judged) 9 = (x_go 13, false) ∧ lk (tb_X10_judged) 12 = (x_c 13 (.int 0), false) ∧ lk (tb_X10_judged) 13 = (x_is 15 4, false) ∧ lk (tb_X10_judged) 15 = (x_il 16 1, true) ∧ lk (tb_X10_judged) 16 = (x_sw 1 7 [60, 99, 114, 143, 187, 209, 253] 269, false) ∧ lk (tb_X10_judged) 60 = (x_c 61 (.int 0), false) ∧ lk (tb_X10_judged) 61 = (x_is 63 5, false) ∧ lk (tb_X10_judged) 63 = (x_il 65 5, true) ∧ lk (tb_X10_judged) 65 = (x_c 67 (.int 10), false) ∧ lk (tb_X10_judged) 67 = (x_il 68 2, false) ∧ lk (tb_X10_judged) 68 = (x_ii 69 (fun x y : Int32 => x * y), false) ∧ lk (tb_X10_judged) 69 = (x_il 70 3, false) ∧ lk (tb_X10_judged) 70 = (x_ii 71 (fun x y : Int32 => x + y), false) ∧ lk (tb_X10_judged) 71 = (x_ic 88 74 (fun x y : Int32 => y ≤ x), false) ∧ lk (tb_X10_judged) 74 = (x_al 75 0, false) ∧ lk (tb_X10_judged) 75 = (x_al 76 0, false) ∧ lk (tb_X10_judged) 76 = (x_gR 10 5 79, false) ∧ lk (tb_X10_judged) 79 = (x_cV 10 1 P_X10_goOn 82, false) ∧ lk (tb_X10_judged) 82 = (x_inc 85 5 1, false) ∧ lk (tb_X10_judged) 85 = (x_go 63, false) ∧ lk (tb_X10_judged) 88 = (x_il 90 4, false) ∧ lk (tb_X10_judged) 90 = (x_ifn 97 93 (fun x : Int32 => x = 0), false) ∧ lk (tb_X10_judged) 93 = (x_c 94 (.int 1), false) ∧ lk (tb_X10_judged) 94 = (x_go 98, false) ∧ lk (tb_X10_judged) 97 = (x_c 98 (.int 0), false) ∧ lk (tb_X10_judged) 98 = (x_rZ, false) ∧ lk (tb_X10_judged) 99 = (x_il 101 4, false) ∧ lk (tb_X10_judged) 101 = (x_if 111 104 (fun x : Int32 => x = 0), false) ∧ lk (tb_X10_judged) 104 = (x_al 105 0, false) ∧ lk (tb_X10_judged) 105 = (x_gR 10 5 108, false) ∧ lk (tb_X10_judged) 108 = (x_cS 1 P_X10_beginOn 111, false) ∧ lk (tb_X10_judged) 111 = (x_il 113 4, false) ∧ lk (tb_X10_judged) 113 = (x_rZ, false) ∧ lk (tb_X10_judged) 114 = (x_al 115 0, false) ∧ lk (tb_X10_judged) 115 = (x_il 116 2, false) ∧ lk (tb_X10_judged) 116 = (x_cV 10 1 P_X10_isCheck 119, false) ∧ lk (tb_X10_judged) 119 = (x_if 130 122 (fun x : Int32 => x = 0), false) ∧ lk (tb_X10_judged) 122 = (x_al 123 0, false) ∧ lk (tb_X10_judged) 123 = (x_il 124 3, false) ∧ lk (tb_X10_judged) 124 = (x_cV 10 1 P_X10_isBit 127, false) ∧ lk (tb_X10_judged) 127 = (x_ifn 132 130 (fun x : Int32 => x = 0), false) ∧ lk (tb_X10_judged) 130 = (x_c 131 (.int 0), false) ∧ lk (tb_X10_judged) 131 = (x_rZ, false) ∧ lk (tb_X10_judged) 132 = (x_al 133 0, false) ∧ lk (tb_X10_judged) 133 = (x_gR 10 5 136, false) ∧ lk (tb_X10_judged) 136 = (x_il 137 2, false) ∧ lk (tb_X10_judged) 137 = (x_il 138 3, false) ∧ lk (tb_X10_judged) 138 = (x_cS 3 P_X10_putOn 141, false) ∧ lk (tb_X10_judged) 141 = (x_c 142 (.int 1), false) ∧ lk (tb_X10_judged) 142 = (x_rZ, false) ∧ lk (tb_X10_judged) 143 = (x_al 144 0, false) ∧ lk (tb_X10_judged) 144 = (x_il 145 2, false) ∧ lk (tb_X10_judged) 145 = (x_cV 10 1 P_X10_isBit 148, false) ∧ lk (tb_X10_judged) 148 = (x_if 185 151 (fun x : Int32 => x = 0), false) ∧ lk (tb_X10_judged) 151 = (x_il 152 3, false) ∧ lk (tb_X10_judged) 152 = (x_c 153 (.int 2), false) ∧ lk (tb_X10_judged) 153 = (x_ic 185 156 (fun x y : Int32 => y ≤ x), false) ∧ lk (tb_X10_judged) 156 = (x_al 157 0, false) ∧ lk (tb_X10_judged) 157 = (x_al 158 0, false) ∧ lk (tb_X10_judged) 158 = (x_gR 10 5 161, false) ∧ lk (tb_X10_judged) 161 = (x_cV 10 1 P_X10_wordOf 164, false) ∧ lk (tb_X10_judged) 164 = (x_il 165 2, false) ∧ lk (tb_X10_judged) 165 = (x_cS 2 P_X10_has 168, false) ∧ lk (tb_X10_judged) 168 = (x_il 169 3, false) ∧ lk (tb_X10_judged) 169 = (x_c 170 (.int 1), false) ∧ lk (tb_X10_judged) 170 = (x_icn 177 173 (fun x y : Int32 => x = y), false) ∧ lk (tb_X10_judged) 173 = (x_c 174 (.int 1), false) ∧ lk (tb_X10_judged) 174 = (x_go 178, false) ∧ lk (tb_X10_judged) 177 = (x_c 178 (.int 0), false) ∧ lk (tb_X10_judged) 178 = (x_icn 185 181 (fun x y : Int32 => x = y), false) ∧ lk (tb_X10_judged) 181 = (x_c 182 (.int 1), false) ∧ lk (tb_X10_judged) 182 = (x_go 186, false) ∧ lk (tb_X10_judged) 185 = (x_c 186 (.int 0), false) ∧ lk (tb_X10_judged) 186 = (x_rZ, false) ∧ lk (tb_X10_judged) 187 = (x_il 189 4, false) ∧ lk (tb_X10_judged) 189 = (x_if 207 192 (fun x : Int32 => x = 0), false) ∧ lk (tb_X10_judged) 192 = (x_al 193 0, false) ∧ lk (tb_X10_judged) 193 = (x_al 194 0, false) ∧ lk (tb_X10_judged) 194 = (x_gR 10 5 197, false) ∧ lk (tb_X10_judged) 197 = (x_cV 10 1 P_X10_openOf 200, false) ∧ lk (tb_X10_judged) 200 = (x_ifn 207 203 (fun x : Int32 => x = 0), false) ∧ lk (tb_X10_judged) 203 = (x_c 204 (.int 1), false) ∧ lk (tb_X10_judged) 204 = (x_go 208, false) ∧ lk (tb_X10_judged) 207 = (x_c 208 (.int 0), false) ∧ lk (tb_X10_judged) 208 = (x_rZ, false) ∧ lk (tb_X10_judged) 209 = (x_al 210 0, false) ∧ lk (tb_X10_judged) 210 = (x_il 211 2, false) ∧ lk (tb_X10_judged) 211 = (x_cV 10 1 P_X10_isCheck 214, false) ∧ lk (tb_X10_judged) 214 = (x_if 251 217 (fun x : Int32 => x = 0), false) ∧ lk (tb_X10_judged) 217 = (x_il 218 3, false) ∧ lk (tb_X10_judged) 218 = (x_c 219 (.int 2), false) ∧ lk (tb_X10_judged) 219 = (x_ic 251 222 (fun x y : Int32 => y ≤ x), false) ∧ lk (tb_X10_judged) 222 = (x_al 223 0, false) ∧ lk (tb_X10_judged) 223 = (x_al 224 0, false) ∧ lk (tb_X10_judged) 224 = (x_gR 10 5 227, false) ∧ lk (tb_X10_judged) 227 = (x_cV 10 1 P_X10_openOf 230, false) ∧ lk (tb_X10_judged) 230 = (x_il 231 2, false) ∧ lk (tb_X10_judged) 231 = (x_cS 2 P_X10_has 234, false) ∧ lk (tb_X10_judged) 234 = (x_il 235 3, false) ∧ lk (tb_X10_judged) 235 = (x_c 236 (.int 1), false) ∧ lk (tb_X10_judged) 236 = (x_icn 243 239 (fun x y : Int32 => x = y), false) ∧ lk (tb_X10_judged) 239 = (x_c 240 (.int 1), false) ∧ lk (tb_X10_judged) 240 = (x_go 244, false) ∧ lk (tb_X10_judged) 243 = (x_c 244 (.int 0), false) ∧ lk (tb_X10_judged) 244 = (x_icn 251 247 (fun x y : Int32 => x = y), false) ∧ lk (tb_X10_judged) 247 = (x_c 248 (.int 1), false) ∧ lk (tb_X10_judged) 248 = (x_go 252, false) ∧ lk (tb_X10_judged) 251 = (x_c 252 (.int 0), false) ∧ lk (tb_X10_judged) 252 = (x_rZ, false) ∧ lk (tb_X10_judged) 253 = (x_il 254 2, false) ∧ lk (tb_X10_judged) 254 = (x_if 259 257 (fun x : Int32 => x = 0), false) ∧ lk (tb_X10_judged) 257 = (x_c 258 (.int 0), false) ∧ lk (tb_X10_judged) 258 = (x_rZ, false) ∧ lk (tb_X10_judged) 259 = (x_al 260 0, false) ∧ lk (tb_X10_judged) 260 = (x_gR 10 5 263, false) ∧ lk (tb_X10_judged) 263 = (x_c 265 (.int 78), false) ∧ lk (tb_X10_judged) 265 = (x_il 266 3, false) ∧ lk (tb_X10_judged) 266 = (x_ias 267, false) ∧ lk (tb_X10_judged) 267 = (x_c 268 (.int 1), false) ∧ lk (tb_X10_judged) 268 = (x_rZ, false) ∧ lk (tb_X10_judged) 269 = (x_c 270 (.int 0), false) ∧ lk (tb_X10_judged) 270 = (x_rZ, false) := ⟨rfl, rfl, rfl, rfl, rfl, rfl, rfl, rfl, rfl, rfl, rfl, rfl, rfl, rfl, rfl, rfl, rfl, rfl, rfl, rfl, rfl, rfl, rfl, rfl, rfl, rfl, rfl, rfl, rfl, rfl, rfl, rfl, rfl, rfl, rfl, rfl, rfl, rfl, rfl, rfl, rfl, rfl, rfl, rfl, rfl, rfl, rfl, rfl, rfl, rfl, rfl, rfl, rfl, rfl, rfl, rfl, rfl, rfl, rfl, rfl, rfl, rfl, rfl, rfl, rfl, rfl, rfl, rfl, rfl, rfl, rfl, rfl, rfl, rfl, rfl, rfl, rfl, rfl, rfl, rfl, rfl, rfl, rfl, rfl, rfl, rfl, rfl, rfl, rfl, rfl, rfl, rfl, rfl, rfl, rfl, rfl, rfl, rfl, rfl, rfl, rfl, rfl, rfl, rfl, rfl, rfl, rfl, rfl, rfl, rfl, rfl, rfl, rfl, rfl, rfl, rfl, rfl, rfl, rfl, rfl, rfl, rfl, rfl, rfl, rfl, rfl, rfl⟩
def P_X10_judged : PTT := fun as M R => match as with
  | [.ref k, .int x, .int y, .int z] => k = 108 ∧ IsMo M.1 ∧ ∃ w a, w < 1000 ∧ x = nI (w / 100) ∧ y = nI (w / 10 % 10) ∧ z = nI (w % 10) ∧ RW (M.2.1 111) 0 a ∧ AOk a ∧ M.2.1 108 2 = nI (aN a) ∧ M.2.1 108 3 = nI (aM a) ∧ OrdN M.2.1 ∧ ∀ I', frK 111 M.2.1 I' → RW (I' 111) 0 (doJ a w).2 → R (some (.int (bB (doJ a w).1))) (M.1, I', M.2.2)
  | _ => False
set_option maxRecDepth 20000 in
theorem ok_X10_judged : Ok yX10_judged mt_X10_judged P_X10_judged := by
  refine Ok.of (by decide) rfl rfl rfl rfl fun av ⟨S, I, L⟩ R hP => ?_
  unfold P_X10_judged at hP
  split at hP
  case h_2 => exact hP.elim
  rename_i k x y z
  obtain ⟨k, rfl⟩ : ∃ q : Nat, q = k := ⟨k, rfl⟩
  refine ⟨by simp [ent, wide, mt_X10_judged], ?_⟩
  show J mt_X10_judged R 0 [some (.ref k), some (.int x), some (.int y), some (.int z), none, none] [] (S, I, L)
  try dsimp only at hP
  obtain ⟨rfl, h1, w, a, hw, rfl, rfl, rfl, hr, ha, en, em, hor, hR⟩ := hP
  have hn9 := ha.1
  have hms : MS S I 111 a := MS.of h1 (Or.inr rfl) hr ha en em
  have z1 : nI (w / 10 % 10) = 0 ↔ w / 10 % 10 = 0 := nI_z (by omega)
  have z2 : nI (w % 10) = 0 ↔ w % 10 = 0 := nI_z (by omega)
  have z3 : nI (w % 10) = 1 ↔ w % 10 = 1 := by rw [one_nI]; exact nI_eq (by omega) (by omega)
  have f6 : (nI (w / 100)).toInt = ((w / 100 : Nat) : Int) := nI_toInt (by omega)
  have e2 : (2 : Int32) ≤ nI (w % 10) ↔ 2 ≤ w % 10 := by rw [show (2 : Int32) = nI 2 by decide]; exact nI_leI (by omega) (by omega)
  have c1 : (¬ nI (w / 10 % 10) < 0 ∧ ¬ nI (aN a) ≤ nI (w / 10 % 10)) ↔ w / 10 % 10 < aN a := in_lt (by omega) (by omega)
  have c2 : (¬ nI (w / 10 % 10) < 0 ∧ ¬ nI (aM a) ≤ nI (w / 10 % 10)) ↔ w / 10 % 10 < aM a := in_lt (by omega) (by omega)
  have c3 : (¬ nI (w % 10) < 0 ∧ ¬ nI (aN a) ≤ nI (w % 10)) ↔ w % 10 < aN a := in_lt (by omega) (by omega)
  have hwl : wdA a < 512 := wdF_lt _ hn9.2.1
  have hol : opA a < 64 := opB_lt hn9.2.2
  have e78 : (78 : Int32).toNatClampNeg = 78 := by decide
  have v78 : vp_in 78 80 := vp_in_nI (n := 78) (by omega) (by omega)
  have fr0 : frK 111 I I := fun _ _ _ => rfl
  have fin2 : ∀ I' v b a', frK 111 I I' → RW (I' 111) 0 a' → doJ a w = (b, a') → bB b = v → R (some (.int v)) (S, I', L) := fun I' v b a' g1 g2 g3 g4 => by
    have := hR I' g1 (by rw [g3]; exact g2)
    rw [g3] at this
    rw [← g4]; exact this
  have bd : ∀ (q : Prop) [Decidable q], ¬ q → bB (decide q) = 0 := fun q _ h => by rw [decide_eq_false h]; rfl
  have bt : ∀ (q : Prop) [Decidable q], q → bB (decide q) = 1 := fun q _ h => by rw [decide_eq_true h]; rfl
  have key : ∀ bare : Bool, (bare = true ↔ (w / 10 % 10 = 0 ∧ w % 10 = 0)) → J mt_X10_judged R 15 [some (.ref 108), some (.int (nI (w / 100))), some (.int (nI (w / 10 % 10))), some (.int (nI (w % 10))), some (.int (bB bare)), none] [] (S, I, L) := by
    intro bare hb
    refine J.of tk_X10_judged 200 fun ρ hρ => ?_
    simp only [hρ, x_c, x_il, x_ll, x_al, x_is, x_as, x_ls, x_inc, x_ii, x_iq, x_i1, x_l2, x_lq, x_lh, x_i2l, x_l2i, x_lcmp, x_dup, x_dup2, x_pop, x_if, x_ifn, x_ic, x_icn, x_go, x_sw, swc, x_l01, x_mx, x_gI, x_gL, x_gR, x_pI, x_pZ, x_pL, x_pR, x_ia, x_za, x_aa, x_ias, x_zas, x_aas, x_fac, x_fa, x_slen, x_sa, x_ac, x_oi, x_new, x_na, x_cS, x_cV, x_cI, x_rI, x_rZ, x_rL, x_r0, pa, short, oc, lg, lset, lset2, wide, cond_true, cond_false, true_and, and_true, ↓reduceIte, Bool.false_eq_true, true_or, or_true, lf_X10_judged, h1, h1.f, f6, z1, z3, e2, e78, eq_true v78, P_X10_isBit, P_X10_isCheck, P_X10_beginOn, P_X10_putOn, P_X10_wordOf, P_X10_openOf, P_X10_has, bB_0, bB_1, bI_0, Classical.not_not]
    refine ⟨⟨fun h => ?_, fun h => ?_, fun h => ?_, fun h => ?_, fun h => ?_, fun h => ?_, fun h => ?_⟩, fun h => ?_⟩
    · have hh : w / 100 = 1 := by omega
      have e := doJ_1 (a := a) hh
      have f7 : nI 10 * nI (w / 10 % 10) + nI (w % 10) = nI (10 * (w / 10 % 10) + w % 10) := by rw [pk_mul, nI_add]
      refine up (P := fun i => ∀ I', frK 111 I I' → RW (I' 111) 0 (itA i a) → J mt_X10_judged R 63 [some (.ref 108), some (.int (nI (w / 100))), some (.int (nI (w / 10 % 10))), some (.int (nI (w % 10))), some (.int (bB bare)), some (.int (nI i))] [] (S, I', L)) (n := 10 * (w / 10 % 10) + w % 10) (fun i hi ih I' hf hr' => ?_) 0 (Nat.zero_le _) I fr0 (by rw [itA_0]; exact hr)
      have e108 : I' 108 = I 108 := hf 108 (by omega) (by omega)
      have e117 : I' 117 = I 117 := hf 117 (by omega) (by omega)
      by_cases hlt : i < 10 * (w / 10 % 10) + w % 10
      · refine J.of tk_X10_judged 200 fun ρ hρ => ?_
        simp only [hρ, x_c, x_il, x_ll, x_al, x_is, x_as, x_ls, x_inc, x_ii, x_iq, x_i1, x_l2, x_lq, x_lh, x_i2l, x_l2i, x_lcmp, x_dup, x_dup2, x_pop, x_if, x_ifn, x_ic, x_icn, x_go, x_sw, swc, x_l01, x_mx, x_gI, x_gL, x_gR, x_pI, x_pZ, x_pL, x_pR, x_ia, x_za, x_aa, x_ias, x_zas, x_aas, x_fac, x_fa, x_slen, x_sa, x_ac, x_oi, x_new, x_na, x_cS, x_cV, x_cI, x_rI, x_rZ, x_rL, x_r0, pa, short, oc, lg, lset, lset2, wide, cond_true, cond_false, true_and, and_true, ↓reduceIte, Bool.false_eq_true, true_or, or_true, lf_X10_judged, h1, h1.f, e108, nI10, f7, nI_leI (show 10 * (w / 10 % 10) + w % 10 < 2 ^ 31 by omega) (show i < 2 ^ 31 by omega), P_X10_goOn, nI_1]
        refine ⟨fun h => absurd h (by omega), fun _ => ⟨Or.inr rfl, itA i a, id, hr', itA_ok ha, en, em, fun j hj => by rw [e117]; exact hor.O hn9.2.2 j hj, fun I2 hf2 hr2 => ih hlt I2 (hf.trans hf2) (by rw [itA_s]; exact hr2)⟩⟩
      · have hi' : i = 10 * (w / 10 % 10) + w % 10 := by omega
        refine J.of tk_X10_judged 200 fun ρ hρ => ?_
        simp only [hρ, x_c, x_il, x_ll, x_al, x_is, x_as, x_ls, x_inc, x_ii, x_iq, x_i1, x_l2, x_lq, x_lh, x_i2l, x_l2i, x_lcmp, x_dup, x_dup2, x_pop, x_if, x_ifn, x_ic, x_icn, x_go, x_sw, swc, x_l01, x_mx, x_gI, x_gL, x_gR, x_pI, x_pZ, x_pL, x_pR, x_ia, x_za, x_aa, x_ias, x_zas, x_aas, x_fac, x_fa, x_slen, x_sa, x_ac, x_oi, x_new, x_na, x_cS, x_cV, x_cI, x_rI, x_rZ, x_rL, x_r0, pa, short, oc, lg, lset, lset2, wide, cond_true, cond_false, true_and, and_true, ↓reduceIte, Bool.false_eq_true, true_or, or_true, lf_X10_judged, nI10, f7, nI_leI (show 10 * (w / 10 % 10) + w % 10 < 2 ^ 31 by omega) (show i < 2 ^ 31 by omega), bB_0, Classical.not_not]
        rw [hi'] at hr'
        refine ⟨fun _ => ⟨fun q => fin2 I' 0 _ _ hf hr' e (bd _ (fun z => z (by have := hb.mp q; omega))), fun q => fin2 I' 1 _ _ hf hr' e (bt _ (fun z => q (hb.mpr (by omega))))⟩, fun h => absurd h (by omega)⟩
    · have hh : w / 100 = 2 := by omega
      refine ⟨fun q => ⟨Or.inl q, fin2 I _ false a fr0 hr (by unfold doJ; rw [if_neg (by omega), if_pos hh, if_neg (fun z => q (hb.mpr z))]) (bB_f q).symm⟩, fun q => ⟨Or.inr q, fin2 _ _ true (begA a) (fun x x1 x2 => mS_n x1) (by rw [mS_s]; exact hr.bg hn9.2.2) (by unfold doJ; rw [if_neg (by omega), if_pos hh, if_pos (hb.mp q)]) (bB_t q).symm⟩⟩
    · have hh : w / 100 = 3 := by omega
      have hno : ¬ (w / 10 % 10 < aM a ∧ w % 10 < aN a) → R (some (.int 0)) (S, I, L) := fun q => fin2 I 0 false a fr0 hr (by unfold doJ; rw [if_neg (by omega), if_neg (by omega), if_pos hh, if_neg q]) rfl
      refine ⟨aM a, by omega, em, ?_⟩
      rw [c2]
      refine ⟨fun q => hno (fun z => q z.1), fun q => ⟨aN a, by omega, en, ?_⟩⟩
      rw [c3]
      refine ⟨fun q2 => ⟨_, _, by omega, by omega, rfl, rfl, ?_⟩, fun q2 => hno (fun z => q2 z.2)⟩
      exact fin2 _ 1 true (putA a (w / 10 % 10) (w % 10)) (fun x x1 x2 => mS_n x1) (by rw [mS_s]; exact hr.pt ha q q2) (by unfold doJ; rw [if_neg (by omega), if_neg (by omega), if_pos hh, if_pos ⟨q, q2⟩]) rfl
    · have hh : w / 100 = 4 := by omega
      have e := doJ_4 (a := a) hh
      refine ⟨aN a, by omega, en, ?_⟩
      rw [c1]
      refine ⟨fun q => fin2 I 0 _ a fr0 hr e (bd _ (fun z => q z.1)), fun q => ⟨fun q2 => fin2 I 0 _ a fr0 hr e (bd _ (fun z => by have := z.2; split at this <;> omega)), fun q2 => ⟨a, hms, _, _, rfl, by omega, rfl, by omega, ?_⟩⟩⟩
      refine ⟨fun h3 => ⟨fun h4 => fin2 I 0 _ a fr0 hr e (bd _ (fun z => h3 (by have := z.2; rwa [if_pos h4] at this))), fun h4 => fin2 I 1 _ a fr0 hr e (bt _ ⟨q, by rw [if_neg h4]; omega⟩)⟩, fun h3 => ⟨fun h4 => fin2 I 0 _ a fr0 hr e (bd _ (fun z => by have := z.2; rw [if_neg h4] at this; omega)), fun h4 => fin2 I 1 _ a fr0 hr e (bt _ ⟨q, by rw [if_pos h4]; exact h3⟩)⟩⟩
    · have hh : w / 100 = 5 := by omega
      have e := doJ_5 (a := a) hh
      refine ⟨fun q => fin2 I 0 _ a fr0 hr e (bd _ (fun z => q (hb.mpr z.1))), fun q => ⟨a, hms, ?_⟩⟩
      rw [nI_z (by omega)]
      exact ⟨fun q2 => fin2 I 0 _ a fr0 hr e (bd _ (fun z => q2 z.2)), fun q2 => fin2 I 1 _ a fr0 hr e (bt _ ⟨hb.mp q, q2⟩)⟩
    · have hh : w / 100 = 6 := by omega
      have e := doJ_6 (a := a) hh
      refine ⟨aM a, by omega, em, ?_⟩
      rw [c2]
      refine ⟨fun q => fin2 I 0 _ a fr0 hr e (bd _ (fun z => q z.1)), fun q => ⟨fun q2 => fin2 I 0 _ a fr0 hr e (bd _ (fun z => by have := z.2; split at this <;> omega)), fun q2 => ⟨a, hms, _, _, rfl, by omega, rfl, by omega, ?_⟩⟩⟩
      refine ⟨fun h3 => ⟨fun h4 => fin2 I 0 _ a fr0 hr e (bd _ (fun z => h3 (by have := z.2; rwa [if_pos h4] at this))), fun h4 => fin2 I 1 _ a fr0 hr e (bt _ ⟨q, by rw [if_neg h4]; omega⟩)⟩, fun h3 => ⟨fun h4 => fin2 I 0 _ a fr0 hr e (bd _ (fun z => by have := z.2; rw [if_neg h4] at this; omega)), fun h4 => fin2 I 1 _ a fr0 hr e (bt _ ⟨q, by rw [if_pos h4]; exact h3⟩)⟩⟩
    · have hh : w / 100 = 7 := by omega
      refine ⟨fun q => fin2 _ 1 true (ofA a (nI (w % 10))) (fun x x1 x2 => mS_n x1) (by rw [mS_s]; exact hr.of hn9.2.2) (by unfold doJ; rw [if_neg (by omega), if_neg (by omega), if_neg (by omega), if_neg (by omega), if_neg (by omega), if_neg (by omega), if_pos hh, if_pos q]; rfl) rfl, fun q => fin2 I 0 false a fr0 hr (by unfold doJ; rw [if_neg (by omega), if_neg (by omega), if_neg (by omega), if_neg (by omega), if_neg (by omega), if_neg (by omega), if_pos hh, if_neg q]) rfl⟩
    · exact fin2 I 0 false a fr0 hr (by unfold doJ; rw [if_neg (by omega), if_neg (by omega), if_neg (by omega), if_neg (by omega), if_neg (by omega), if_neg (by omega), if_neg (by omega)]) rfl
  refine J.of tk_X10_judged 200 fun ρ hρ => ?_
  simp only [hρ, x_c, x_il, x_ll, x_al, x_is, x_as, x_ls, x_inc, x_ii, x_iq, x_i1, x_l2, x_lq, x_lh, x_i2l, x_l2i, x_lcmp, x_dup, x_dup2, x_pop, x_if, x_ifn, x_ic, x_icn, x_go, x_sw, swc, x_l01, x_mx, x_gI, x_gL, x_gR, x_pI, x_pZ, x_pL, x_pR, x_ia, x_za, x_aa, x_ias, x_zas, x_aas, x_fac, x_fa, x_slen, x_sa, x_ac, x_oi, x_new, x_na, x_cS, x_cV, x_cI, x_rI, x_rZ, x_rL, x_r0, pa, short, oc, lg, lset, lset2, wide, cond_true, cond_false, true_and, and_true, ↓reduceIte, Bool.false_eq_true, true_or, or_true, lf_X10_judged, z1, z2]
  refine ⟨fun q => key false (by simp; omega), fun q => ⟨fun q2 => key false (by simp; omega), fun q2 => key true (by simp; omega)⟩⟩
def il_X10_thousands : List (Nat × Instr × Nat) := [(0, .lconst 1, 1), (1, .lstore_n 1, 1), (2, .iconst 0, 1), (3, .istore_n 3, 1), (4, .iload_n 3, 1), (5, .iload_n 0, 1), (6, .if_icmp .ge 15, 3), (9, .lload_n 1, 1), (10, .ldc2_w 198, 3), (13, .lmul, 1), (14, .lstore_n 1, 1), (15, .iinc 3 1, 3), (18, .goto (-14), 3), (21, .lload_n 1, 1), (22, .lreturn, 1)]
def mt_X10_thousands : Mt := (cX10_thousands, RX10, 4, (some .long), ({ frames := 0, cells := 0, slots := 0, locals := 0 } : Room), false, none, none)
set_option maxRecDepth 100000 in
theorem dl_X10_thousands : ∀ q ∈ il_X10_thousands, decode (mt_X10_thousands).1 q.1 = .ok q.2 := by decide +kernel
def tb_X10_thousands : Tb := [(0, x_c 1 (.long 1), false),
  (1, x_ls 2 1, false),
  (2, x_c 3 (.int 0), false),
  (3, x_is 4 3, false),
  (4, x_il 5 3, true),
  (5, x_il 6 0, false),
  (6, x_ic 21 9 (fun x y : Int32 => y ≤ x), false),
  (9, x_ll 10 1, false),
  (10, x_c 13 (.long 1000), false),
  (13, x_l2 14 (fun x y : Int64 => x * y), false),
  (14, x_ls 15 1, false),
  (15, x_inc 18 3 1, false),
  (18, x_go 4, false),
  (21, x_ll 22 1, false),
  (22, x_rL, false)]
set_option maxRecDepth 100000 in
theorem tk_X10_thousands : TbOk (mt_X10_thousands) (tb_X10_thousands) :=
  tkc (s_lconst (at_ dl_X10_thousands 0 (ins := .lconst 1) rfl) (by first | rfl | decide)) (
  tkc (s_lstore_n (at_ dl_X10_thousands 1 (ins := .lstore_n 1) rfl) (by decide)) (
  tkc (s_iconst (at_ dl_X10_thousands 2 (ins := .iconst 0) rfl) (by first | rfl | decide)) (
  tkc (s_istore_n (at_ dl_X10_thousands 3 (ins := .istore_n 3) rfl) (by decide)) (
  tkc (s_iload_n (at_ dl_X10_thousands 4 (ins := .iload_n 3) rfl)) (
  tkc (s_iload_n (at_ dl_X10_thousands 5 (ins := .iload_n 0) rfl)) (
  tkc (s_ic_ge (at_ dl_X10_thousands 6 (ins := .if_icmp .ge 15) rfl) (by decide)) (
  tkc (s_lload_n (at_ dl_X10_thousands 7 (ins := .lload_n 1) rfl)) (
  tkc (s_ldc2 (at_ dl_X10_thousands 8 (ins := .ldc2_w 198) rfl) (tg 959 (by decide +kernel) (by decide +kernel))) (
  tkc (s_lmul (at_ dl_X10_thousands 9 (ins := .lmul) rfl)) (
  tkc (s_lstore_n (at_ dl_X10_thousands 10 (ins := .lstore_n 1) rfl) (by decide)) (
  tkc (s_iinc (at_ dl_X10_thousands 11 (ins := .iinc 3 1) rfl) (by decide) (by first | rfl | decide)) (
  tkc (s_goto (at_ dl_X10_thousands 12 (ins := .goto (-14)) rfl) (by decide)) (
  tkc (s_lload_n (at_ dl_X10_thousands 13 (ins := .lload_n 1) rfl)) (
  tkc (s_rL (at_ dl_X10_thousands 14 (ins := .lreturn) rfl) rfl) ( tk0)))))))))))))))
theorem lf_X10_thousands : lk (tb_X10_thousands) 0 = (x_c 1 (.long 1), false) ∧ lk (tb_X10_thousands) 1 = (x_ls 2 1, false) ∧ lk (tb_X10_thousands) 2 = (x_c 3 (.int 0), false) ∧ lk (tb_X10_thousands) 3 = (x_is 4 3, false) ∧ lk (tb_X10_thousands) 4 = (x_il 5 3, true) ∧ lk (tb_X10_thousands) 5 = (x_il 6 0, false) ∧ lk (tb_X10_thousands) 6 = (x_ic 21 9 (fun x y : Int32 => y ≤ x), false) ∧ lk (tb_X10_thousands) 9 = (x_ll 10 1, false) ∧ lk (tb_X10_thousands) 10 = (x_c 13 (.long 1000), false) ∧ lk (tb_X10_thousands) 13 = (x_l2 14 (fun x y : Int64 => x * y), false) ∧ lk (tb_X10_thousands) 14 = (x_ls 15 1, false) ∧ lk (tb_X10_thousands) 15 = (x_inc 18 3 1, false) ∧ lk (tb_X10_thousands) 18 = (x_go 4, false) ∧ lk (tb_X10_thousands) 21 = (x_ll 22 1, false) ∧ lk (tb_X10_thousands) 22 = (x_rL, false) := ⟨rfl, rfl, rfl, rfl, rfl, rfl, rfl, rfl, rfl, rfl, rfl, rfl, rfl, rfl, rfl⟩
def P_X10_thousands : PTT := fun as M R => match as with
  | [.int x] => ∃ n, n ≤ 4 ∧ x = nI n ∧ R (some (.long (lN (1000 ^ n)))) M
  | _ => False
set_option maxRecDepth 20000 in
theorem ok_X10_thousands : Ok yX10_thousands mt_X10_thousands P_X10_thousands := by
  refine Ok.of (by decide) rfl rfl rfl rfl fun av ⟨S, I, L⟩ R hP => ?_
  unfold P_X10_thousands at hP
  split at hP
  case h_2 => exact hP.elim
  rename_i x
  refine ⟨by simp [ent, wide, mt_X10_thousands], ?_⟩
  show J mt_X10_thousands R 0 [some (.int x), none, none, none] [] (S, I, L)
  try dsimp only at hP
  obtain ⟨n, hn, rfl, hR⟩ := hP
  have key := up (P := fun i => J mt_X10_thousands R 4 [some (.int (nI n)), some (.long (lN (1000 ^ i))), none, some (.int (nI i))] [] (S, I, L)) (n := n) (fun i hi ih => ?_) 0 (Nat.zero_le _)
  · refine J.of tk_X10_thousands 200 fun ρ hρ => ?_
    simp only [hρ, x_c, x_il, x_ll, x_al, x_is, x_as, x_ls, x_inc, x_ii, x_iq, x_i1, x_l2, x_lq, x_lh, x_i2l, x_l2i, x_lcmp, x_dup, x_dup2, x_pop, x_if, x_ifn, x_ic, x_icn, x_go, x_sw, swc, x_l01, x_mx, x_gI, x_gL, x_gR, x_pI, x_pZ, x_pL, x_pR, x_ia, x_za, x_aa, x_ias, x_zas, x_aas, x_fac, x_fa, x_slen, x_sa, x_ac, x_oi, x_new, x_na, x_cS, x_cV, x_cI, x_rI, x_rZ, x_rL, x_r0, pa, short, oc, lg, lset, lset2, wide, cond_true, cond_false, true_and, and_true, ↓reduceIte, Bool.false_eq_true, true_or, or_true, lf_X10_thousands]
    exact key
  refine J.of tk_X10_thousands 200 fun ρ hρ => ?_
  simp only [hρ, x_c, x_il, x_ll, x_al, x_is, x_as, x_ls, x_inc, x_ii, x_iq, x_i1, x_l2, x_lq, x_lh, x_i2l, x_l2i, x_lcmp, x_dup, x_dup2, x_pop, x_if, x_ifn, x_ic, x_icn, x_go, x_sw, swc, x_l01, x_mx, x_gI, x_gL, x_gR, x_pI, x_pZ, x_pL, x_pR, x_ia, x_za, x_aa, x_ias, x_zas, x_aas, x_fac, x_fa, x_slen, x_sa, x_ac, x_oi, x_new, x_na, x_cS, x_cV, x_cI, x_rI, x_rZ, x_rL, x_r0, pa, short, oc, lg, lset, lset2, wide, cond_true, cond_false, true_and, and_true, ↓reduceIte, Bool.false_eq_true, true_or, or_true, lf_X10_thousands, nI_leI (show n < 2 ^ 31 by omega) (show i < 2 ^ 31 by omega), k1000, lN_mul, nI_1]
  refine ⟨fun h => ?_, fun h => ?_⟩
  · have : i = n := by omega
    subst this
    exact hR
  · rw [← Nat.pow_succ]
    exact ih (by omega)
theorem p1000 {n : Nat} (h : n ≤ 4) : 0 < 1000 ^ n ∧ 1000 ^ n < 2 ^ 63 := by
  rcases (show n = 0 ∨ n = 1 ∨ n = 2 ∨ n = 3 ∨ n = 4 by omega) with rfl | rfl | rfl | rfl | rfl <;> decide
def il_X10_judge : List (Nat × Instr × Nat) := [(0, .iload_n 1, 1), (1, .i2l, 1), (2, .lconst 1, 1), (3, .ldc2_w 200, 3), (6, .invokestatic 60, 3), (9, .ifCond .eq 17, 3), (12, .lload_n 2, 1), (13, .lconst 0, 1), (14, .iload_n 1, 1), (15, .invokestatic 202, 3), (18, .lconst 1, 1), (19, .lsub, 1), (20, .invokestatic 60, 3), (23, .ifCond .ne 6, 3), (26, .bipush (-2), 2), (28, .ireturn, 1), (29, .aload_n 0, 1), (30, .getfield 13, 3), (33, .aload_n 0, 1), (34, .getfield 16, 3), (37, .invokestatic 136, 3), (40, .iconst 0, 1), (41, .istore 4, 2), (43, .iload 4, 2), (45, .iload_n 1, 1), (46, .if_icmp .ge 55, 3), (49, .lload_n 2, 1), (50, .iload_n 1, 1), (51, .iconst 1, 1), (52, .isub, 1), (53, .iload 4, 2), (55, .isub, 1), (56, .invokestatic 202, 3), (59, .ldiv, 1), (60, .ldc2_w 198, 3), (63, .lrem, 1), (64, .l2i, 1), (65, .istore 5, 2), (67, .aload_n 0, 1), (68, .iload 5, 2), (70, .bipush 100, 2), (72, .idiv, 1), (73, .iload 5, 2), (75, .bipush 10, 2), (77, .idiv, 1), (78, .bipush 10, 2), (80, .irem, 1), (81, .iload 5, 2), (83, .bipush 10, 2), (85, .irem, 1), (86, .invokevirtual 206, 3), (89, .ifCond .ne 6, 3), (92, .iload 4, 2), (94, .ireturn, 1), (95, .iinc 4 1, 3), (98, .goto (-55), 3), (101, .bipush (-9), 2), (103, .ireturn, 1)]
def mt_X10_judge : Mt := (cX10_judge, RX10, 6, (some .int), ({ frames := 4, cells := 0, slots := 0, locals := 97 } : Room), false, none, none)
set_option maxRecDepth 100000 in
theorem dl_X10_judge : ∀ q ∈ il_X10_judge, decode (mt_X10_judge).1 q.1 = .ok q.2 := by decide +kernel
def tb_X10_judge : Tb := [(0, x_il 1 1, false),
  (1, x_i2l 2, false),
  (2, x_c 3 (.long 1), false),
  (3, x_c 6 (.long 4), false),
  (6, x_cS 3 P_X10_in 9, false),
  (9, x_if 26 12 (fun x : Int32 => x = 0), false),
  (12, x_ll 13 2, false),
  (13, x_c 14 (.long 0), false),
  (14, x_il 15 1, false),
  (15, x_cS 1 P_X10_thousands 18, false),
  (18, x_c 19 (.long 1), false),
  (19, x_l2 20 (fun x y : Int64 => x - y), false),
  (20, x_cS 3 P_X10_in 23, false),
  (23, x_ifn 29 26 (fun x : Int32 => x = 0), false),
  (26, x_c 28 (.int (-2)), false),
  (28, x_rI, false),
  (29, x_al 30 0, false),
  (30, x_gR 10 4 33, false),
  (33, x_al 34 0, false),
  (34, x_gR 10 5 37, false),
  (37, x_cS 2 P_X10_copy 40, false),
  (40, x_c 41 (.int 0), false),
  (41, x_is 43 4, false),
  (43, x_il 45 4, true),
  (45, x_il 46 1, false),
  (46, x_ic 101 49 (fun x y : Int32 => y ≤ x), false),
  (49, x_ll 50 2, false),
  (50, x_il 51 1, false),
  (51, x_c 52 (.int 1), false),
  (52, x_ii 53 (fun x y : Int32 => x - y), false),
  (53, x_il 55 4, false),
  (55, x_ii 56 (fun x y : Int32 => x - y), false),
  (56, x_cS 1 P_X10_thousands 59, false),
  (59, x_lq 60 (fun x y : Int64 => x / y), false),
  (60, x_c 63 (.long 1000), false),
  (63, x_lq 64 (fun x y : Int64 => x - x / y * y), false),
  (64, x_l2i 65, false),
  (65, x_is 67 5, false),
  (67, x_al 68 0, false),
  (68, x_il 70 5, false),
  (70, x_c 72 (.int 100), false),
  (72, x_iq 73 (fun x y : Int32 => x / y), false),
  (73, x_il 75 5, false),
  (75, x_c 77 (.int 10), false),
  (77, x_iq 78 (fun x y : Int32 => x / y), false),
  (78, x_c 80 (.int 10), false),
  (80, x_iq 81 (fun x y : Int32 => x - x / y * y), false),
  (81, x_il 83 5, false),
  (83, x_c 85 (.int 10), false),
  (85, x_iq 86 (fun x y : Int32 => x - x / y * y), false),
  (86, x_cV 10 3 P_X10_judged 89, false),
  (89, x_ifn 95 92 (fun x : Int32 => x = 0), false),
  (92, x_il 94 4, false),
  (94, x_rI, false),
  (95, x_inc 98 4 1, false),
  (98, x_go 43, false),
  (101, x_c 103 (.int (-9)), false),
  (103, x_rI, false)]
set_option maxRecDepth 100000 in
theorem tk_X10_judge : TbOk (mt_X10_judge) (tb_X10_judge) :=
  tkc (s_iload_n (at_ dl_X10_judge 0 (ins := .iload_n 1) rfl)) (
  tkc (s_i2l (at_ dl_X10_judge 1 (ins := .i2l) rfl)) (
  tkc (s_lconst (at_ dl_X10_judge 2 (ins := .lconst 1) rfl) (by first | rfl | decide)) (
  tkc (s_ldc2 (at_ dl_X10_judge 3 (ins := .ldc2_w 200) rfl) (tg 955 (by decide +kernel) (by decide +kernel))) (
  tkc (s_cS ok_X10_in (at_ dl_X10_judge 4 (ins := .invokestatic 60) rfl) (tg 780 (by decide +kernel) (by decide +kernel)) (tg 781 (by decide +kernel) (by decide +kernel)) (tg 51 (by decide +kernel) (by decide +kernel)) (tg 782 (by decide +kernel) (by decide +kernel)) (⟨by decide, by decide, by decide +kernel⟩) (⟨by decide, by decide⟩) rfl rfl) (
  tkc (s_if_eq (at_ dl_X10_judge 5 (ins := .ifCond .eq 17) rfl) (by decide)) (
  tkc (s_lload_n (at_ dl_X10_judge 6 (ins := .lload_n 2) rfl)) (
  tkc (s_lconst (at_ dl_X10_judge 7 (ins := .lconst 0) rfl) (by first | rfl | decide)) (
  tkc (s_iload_n (at_ dl_X10_judge 8 (ins := .iload_n 1) rfl)) (
  tkc (s_cS ok_X10_thousands (at_ dl_X10_judge 9 (ins := .invokestatic 202) rfl) (tg 956 (by decide +kernel) (by decide +kernel)) (tg 957 (by decide +kernel) (by decide +kernel)) (tg 51 (by decide +kernel) (by decide +kernel)) (tg 958 (by decide +kernel) (by decide +kernel)) (⟨by decide, by decide, by decide +kernel⟩) (⟨by decide, by decide⟩) rfl rfl) (
  tkc (s_lconst (at_ dl_X10_judge 10 (ins := .lconst 1) rfl) (by first | rfl | decide)) (
  tkc (s_lsub (at_ dl_X10_judge 11 (ins := .lsub) rfl)) (
  tkc (s_cS ok_X10_in (at_ dl_X10_judge 12 (ins := .invokestatic 60) rfl) (tg 780 (by decide +kernel) (by decide +kernel)) (tg 781 (by decide +kernel) (by decide +kernel)) (tg 51 (by decide +kernel) (by decide +kernel)) (tg 782 (by decide +kernel) (by decide +kernel)) (⟨by decide, by decide, by decide +kernel⟩) (⟨by decide, by decide⟩) rfl rfl) (
  tkc (s_if_ne (at_ dl_X10_judge 13 (ins := .ifCond .ne 6) rfl) (by decide)) (
  tkc (s_bipush (at_ dl_X10_judge 14 (ins := .bipush (-2)) rfl) (by first | rfl | decide)) (
  tkc (s_rI (at_ dl_X10_judge 15 (ins := .ireturn) rfl) rfl) (
  tkc (s_aload_n (at_ dl_X10_judge 16 (ins := .aload_n 0) rfl)) (
  tkc (s_gR (at_ dl_X10_judge 17 (ins := .getfield 13) rfl) (by decide) (by decide) (by decide) (tg 700 (by decide +kernel) (by decide +kernel))) (
  tkc (s_aload_n (at_ dl_X10_judge 18 (ins := .aload_n 0) rfl)) (
  tkc (s_gR (at_ dl_X10_judge 19 (ins := .getfield 16) rfl) (by decide) (by decide) (by decide) (tg 701 (by decide +kernel) (by decide +kernel))) (
  tkc (s_cS ok_X10_copy (at_ dl_X10_judge 20 (ins := .invokestatic 136) rfl) (tg 847 (by decide +kernel) (by decide +kernel)) (tg 848 (by decide +kernel) (by decide +kernel)) (tg 51 (by decide +kernel) (by decide +kernel)) (tg 849 (by decide +kernel) (by decide +kernel)) (⟨by decide, by decide, by decide +kernel⟩) (⟨by decide, by decide⟩) rfl rfl) (
  tkc (s_iconst (at_ dl_X10_judge 21 (ins := .iconst 0) rfl) (by first | rfl | decide)) (
  tkc (s_istore (at_ dl_X10_judge 22 (ins := .istore 4) rfl) (by decide)) (
  tkc (s_iload (at_ dl_X10_judge 23 (ins := .iload 4) rfl)) (
  tkc (s_iload_n (at_ dl_X10_judge 24 (ins := .iload_n 1) rfl)) (
  tkc (s_ic_ge (at_ dl_X10_judge 25 (ins := .if_icmp .ge 55) rfl) (by decide)) (
  tkc (s_lload_n (at_ dl_X10_judge 26 (ins := .lload_n 2) rfl)) (
  tkc (s_iload_n (at_ dl_X10_judge 27 (ins := .iload_n 1) rfl)) (
  tkc (s_iconst (at_ dl_X10_judge 28 (ins := .iconst 1) rfl) (by first | rfl | decide)) (
  tkc (s_isub (at_ dl_X10_judge 29 (ins := .isub) rfl)) (
  tkc (s_iload (at_ dl_X10_judge 30 (ins := .iload 4) rfl)) (
  tkc (s_isub (at_ dl_X10_judge 31 (ins := .isub) rfl)) (
  tkc (s_cS ok_X10_thousands (at_ dl_X10_judge 32 (ins := .invokestatic 202) rfl) (tg 956 (by decide +kernel) (by decide +kernel)) (tg 957 (by decide +kernel) (by decide +kernel)) (tg 51 (by decide +kernel) (by decide +kernel)) (tg 958 (by decide +kernel) (by decide +kernel)) (⟨by decide, by decide, by decide +kernel⟩) (⟨by decide, by decide⟩) rfl rfl) (
  tkc (s_ldiv (at_ dl_X10_judge 33 (ins := .ldiv) rfl)) (
  tkc (s_ldc2 (at_ dl_X10_judge 34 (ins := .ldc2_w 198) rfl) (tg 959 (by decide +kernel) (by decide +kernel))) (
  tkc (s_lrem (at_ dl_X10_judge 35 (ins := .lrem) rfl)) (
  tkc (s_l2i (at_ dl_X10_judge 36 (ins := .l2i) rfl)) (
  tkc (s_istore (at_ dl_X10_judge 37 (ins := .istore 5) rfl) (by decide)) (
  tkc (s_aload_n (at_ dl_X10_judge 38 (ins := .aload_n 0) rfl)) (
  tkc (s_iload (at_ dl_X10_judge 39 (ins := .iload 5) rfl)) (
  tkc (s_bipush (at_ dl_X10_judge 40 (ins := .bipush 100) rfl) (by first | rfl | decide)) (
  tkc (s_idiv (at_ dl_X10_judge 41 (ins := .idiv) rfl)) (
  tkc (s_iload (at_ dl_X10_judge 42 (ins := .iload 5) rfl)) (
  tkc (s_bipush (at_ dl_X10_judge 43 (ins := .bipush 10) rfl) (by first | rfl | decide)) (
  tkc (s_idiv (at_ dl_X10_judge 44 (ins := .idiv) rfl)) (
  tkc (s_bipush (at_ dl_X10_judge 45 (ins := .bipush 10) rfl) (by first | rfl | decide)) (
  tkc (s_irem (at_ dl_X10_judge 46 (ins := .irem) rfl)) (
  tkc (s_iload (at_ dl_X10_judge 47 (ins := .iload 5) rfl)) (
  tkc (s_bipush (at_ dl_X10_judge 48 (ins := .bipush 10) rfl) (by first | rfl | decide)) (
  tkc (s_irem (at_ dl_X10_judge 49 (ins := .irem) rfl)) (
  tkc (s_cV ok_X10_judged (at_ dl_X10_judge 50 (ins := .invokevirtual 206) rfl) (by decide) rfl (tg 960 (by decide +kernel) (by decide +kernel)) (tg 962 (by decide +kernel) (by decide +kernel)) (tg 39 (by decide +kernel) (by decide +kernel)) (tg 51 (by decide +kernel) (by decide +kernel)) (tg 963 (by decide +kernel) (by decide +kernel)) (⟨by decide, by decide, by decide +kernel⟩) (⟨by decide, by decide⟩) rfl rfl) (
  tkc (s_if_ne (at_ dl_X10_judge 51 (ins := .ifCond .ne 6) rfl) (by decide)) (
  tkc (s_iload (at_ dl_X10_judge 52 (ins := .iload 4) rfl)) (
  tkc (s_rI (at_ dl_X10_judge 53 (ins := .ireturn) rfl) rfl) (
  tkc (s_iinc (at_ dl_X10_judge 54 (ins := .iinc 4 1) rfl) (by decide) (by first | rfl | decide)) (
  tkc (s_goto (at_ dl_X10_judge 55 (ins := .goto (-55)) rfl) (by decide)) (
  tkc (s_bipush (at_ dl_X10_judge 56 (ins := .bipush (-9)) rfl) (by first | rfl | decide)) (
  tkc (s_rI (at_ dl_X10_judge 57 (ins := .ireturn) rfl) rfl) ( tk0))))))))))))))))))))))))))))))))))))))))))))))))))))))))))
theorem lf_X10_judge : lk (tb_X10_judge) 0 = (x_il 1 1, false) ∧ lk (tb_X10_judge) 1 = (x_i2l 2, false) ∧ lk (tb_X10_judge) 2 = (x_c 3 (.long 1), false) ∧ lk (tb_X10_judge) 3 = (x_c 6 (.long 4), false) ∧ lk (tb_X10_judge) 6 = (x_cS 3 P_X10_in 9, false) ∧ lk (tb_X10_judge) 9 = (x_if 26 12 (fun x : Int32 => x = 0), false) ∧ lk (tb_X10_judge) 12 = (x_ll 13 2, false) ∧ lk (tb_X10_judge) 13 = (x_c 14 (.long 0), false) ∧ lk (tb_X10_judge) 14 = (x_il 15 1, false) ∧ lk (tb_X10_judge) 15 = (x_cS 1 P_X10_thousands 18, false) ∧ lk (tb_X10_judge) 18 = (x_c 19 (.long 1), false) ∧ lk (tb_X10_judge) 19 = (x_l2 20 (fun x y : Int64 => x - y), false) ∧ lk (tb_X10_judge) 20 = (x_cS 3 P_X10_in 23, false) ∧ lk (tb_X10_judge) 23 = (x_ifn 29 26 (fun x : Int32 => x = 0), false) ∧ lk (tb_X10_judge) 26 = (x_c 28 (.int (-2)), false) ∧ lk (tb_X10_judge) 28 = (x_rI, false) ∧ lk (tb_X10_judge) 29 = (x_al 30 0, false) ∧ lk (tb_X10_judge) 30 = (x_gR 10 4 33, false) ∧ lk (tb_X10_judge) 33 = (x_al 34 0, false) ∧ lk (tb_X10_judge) 34 = (x_gR 10 5 37, false) ∧ lk (tb_X10_judge) 37 = (x_cS 2 P_X10_copy 40, false) ∧ lk (tb_X10_judge) 40 = (x_c 41 (.int 0), false) ∧ lk (tb_X10_judge) 41 = (x_is 43 4, false) ∧ lk (tb_X10_judge) 43 = (x_il 45 4, true) ∧ lk (tb_X10_judge) 45 = (x_il 46 1, false) ∧ lk (tb_X10_judge) 46 = (x_ic 101 49 (fun x y : Int32 => y ≤ x), false) ∧ lk (tb_X10_judge) 49 = (x_ll 50 2, false) ∧ lk (tb_X10_judge) 50 = (x_il 51 1, false) ∧ lk (tb_X10_judge) 51 = (x_c 52 (.int 1), false) ∧ lk (tb_X10_judge) 52 = (x_ii 53 (fun x y : Int32 => x - y), false) ∧ lk (tb_X10_judge) 53 = (x_il 55 4, false) ∧ lk (tb_X10_judge) 55 = (x_ii 56 (fun x y : Int32 => x - y), false) ∧ lk (tb_X10_judge) 56 = (x_cS 1 P_X10_thousands 59, false) ∧ lk (tb_X10_judge) 59 = (x_lq 60 (fun x y : Int64 => x / y), false) ∧ lk (tb_X10_judge) 60 = (x_c 63 (.long 1000), false) ∧ lk (tb_X10_judge) 63 = (x_lq 64 (fun x y : Int64 => x - x / y * y), false) ∧ lk (tb_X10_judge) 64 = (x_l2i 65, false) ∧ lk (tb_X10_judge) 65 = (x_is 67 5, false) ∧ lk (tb_X10_judge) 67 = (x_al 68 0, false) ∧ lk (tb_X10_judge) 68 = (x_il 70 5, false) ∧ lk (tb_X10_judge) 70 = (x_c 72 (.int 100), false) ∧ lk (tb_X10_judge) 72 = (x_iq 73 (fun x y : Int32 => x / y), false) ∧ lk (tb_X10_judge) 73 = (x_il 75 5, false) ∧ lk (tb_X10_judge) 75 = (x_c 77 (.int 10), false) ∧ lk (tb_X10_judge) 77 = (x_iq 78 (fun x y : Int32 => x / y), false) ∧ lk (tb_X10_judge) 78 = (x_c 80 (.int 10), false) ∧ lk (tb_X10_judge) 80 = (x_iq 81 (fun x y : Int32 => x - x / y * y), false) ∧ lk (tb_X10_judge) 81 = (x_il 83 5, false) ∧ lk (tb_X10_judge) 83 = (x_c 85 (.int 10), false) ∧ lk (tb_X10_judge) 85 = (x_iq 86 (fun x y : Int32 => x - x / y * y), false) ∧ lk (tb_X10_judge) 86 = (x_cV 10 3 P_X10_judged 89, false) ∧ lk (tb_X10_judge) 89 = (x_ifn 95 92 (fun x : Int32 => x = 0), false) ∧ lk (tb_X10_judge) 92 = (x_il 94 4, false) ∧ lk (tb_X10_judge) 94 = (x_rI, false) ∧ lk (tb_X10_judge) 95 = (x_inc 98 4 1, false) ∧ lk (tb_X10_judge) 98 = (x_go 43, false) ∧ lk (tb_X10_judge) 101 = (x_c 103 (.int (-9)), false) ∧ lk (tb_X10_judge) 103 = (x_rI, false) := ⟨rfl, rfl, rfl, rfl, rfl, rfl, rfl, rfl, rfl, rfl, rfl, rfl, rfl, rfl, rfl, rfl, rfl, rfl, rfl, rfl, rfl, rfl, rfl, rfl, rfl, rfl, rfl, rfl, rfl, rfl, rfl, rfl, rfl, rfl, rfl, rfl, rfl, rfl, rfl, rfl, rfl, rfl, rfl, rfl, rfl, rfl, rfl, rfl, rfl, rfl, rfl, rfl, rfl, rfl, rfl, rfl, rfl, rfl⟩
def P_X10_judge : PTT := fun as M R => match as with
  | [.ref k, .int n, .long x] => k = 108 ∧ ∃ g, MR M.1 M.2.1 M.2.2 g ∧ GOk g ∧ Anm M R (gJudge g n x) g
  | _ => False
set_option maxRecDepth 20000 in
theorem ok_X10_judge : Ok yX10_judge mt_X10_judge P_X10_judge := by
  refine Ok.of (by decide) rfl rfl rfl rfl fun av ⟨S, I, L⟩ R hP => ?_
  unfold P_X10_judge at hP
  split at hP
  case h_2 => exact hP.elim
  rename_i k n x
  obtain ⟨k, rfl⟩ : ∃ q : Nat, q = k := ⟨k, rfl⟩
  refine ⟨by simp [ent, wide, mt_X10_judge], ?_⟩
  show J mt_X10_judge R 0 [some (.ref k), some (.int n), some (.long x), none, none, none] [] (S, I, L)
  try dsimp only at hP
  obtain ⟨rfl, g, hc, ho, hA⟩ := hP
  obtain ⟨h1, h2, h3, h4, h5, h6, h7, h8, h9⟩ := id hc
  have hok := ho.2.1
  have hm := ho.2.1.1
  have hfin : ∀ v I', gJudge g n x = v → frK 111 I I' → R (some (.int v)) (S, I', L) := fun v I' hv hf => (hv ▸ hA).q hc hf.M
  have hbad : ((n < 1 ∨ 4 < n) ∨ x < 0 ∨ ¬ lB x / 1000 ^ tn n = 0) → R (some (.int (-2))) (S, I, L) := fun h => hfin _ I (if_pos h) (fun _ _ _ => rfl)
  have i1 : (¬ n.toInt64 < (1 : Int64) ∧ ¬ (4 : Int64) < n.toInt64) ↔ (¬ n < 1 ∧ n ≤ 4) := and_congr (loL (by decide)) (inL (by decide))
  refine J.of tk_X10_judge 200 fun ρ hρ => ?_
  simp only [hρ, x_c, x_il, x_ll, x_al, x_is, x_as, x_ls, x_inc, x_ii, x_iq, x_i1, x_l2, x_lq, x_lh, x_i2l, x_l2i, x_lcmp, x_dup, x_dup2, x_pop, x_if, x_ifn, x_ic, x_icn, x_go, x_sw, swc, x_l01, x_mx, x_gI, x_gL, x_gR, x_pI, x_pZ, x_pL, x_pR, x_ia, x_za, x_aa, x_ias, x_zas, x_aas, x_fac, x_fa, x_slen, x_sa, x_ac, x_oi, x_new, x_na, x_cS, x_cV, x_cI, x_rI, x_rZ, x_rL, x_r0, pa, short, oc, lg, lset, lset2, wide, cond_true, cond_false, true_and, and_true, ↓reduceIte, Bool.false_eq_true, true_or, or_true, lf_X10_judge, h1, h1.f, P_X10_in, P_X10_thousands, P_X10_copy, i1, bI_0, Classical.not_not]
  refine ⟨fun h => hbad (.inl (Classical.byContradiction fun q => h ⟨fun r => q (.inl r), Int32.not_lt.mp fun r => q (.inr r)⟩)), fun h => ?_⟩
  obtain ⟨d, hd1, hd4, rfl⟩ : ∃ d, 1 ≤ d ∧ d ≤ 4 ∧ n = nI d := by
    obtain ⟨d, a1, a2, rfl⟩ := le99 h.1 (Int32.le_trans h.2 (by decide))
    refine ⟨d, a1, ?_, rfl⟩
    have := h.2
    rw [show (4 : Int32) = nI 4 by decide, nI_leI (by omega) (by omega)] at this
    exact this
  have hpd := p1000 hd4
  refine ⟨d, hd4, rfl, ?_⟩
  have ht : tn (nI d) = d := tn_nI (by omega)
  by_cases hx0 : x < 0
  · exact ⟨fun q => absurd hx0 q.1, fun _ => hbad (.inr (.inl hx0))⟩
  obtain ⟨r, hr, rfl⟩ := pk_lOf hx0
  have hl : lB (lN r) = r := lB_lN hr
  have es : lN (1000 ^ d) - 1 = lN (1000 ^ d - 1) := by rw [show (1 : Int64) = lN 1 by decide]; exact lN_sub (by omega)
  have hdv : r / 1000 ^ d = 0 ↔ r < 1000 ^ d := by rw [Nat.div_eq_zero_iff]; omega
  rw [es, pk_lLT (by omega) hr]
  refine ⟨fun q => ?_, fun q => hbad (.inr (.inr (by rw [hl, ht, hdv]; exact fun z => q ⟨hx0, by omega⟩)))⟩
  have hrd : r < 1000 ^ d := by have := q.2; omega
  have hg : gJudge g (nI d) (lN r) = jdS r d d (gA g) := by
    rw [gJudge, hl, ht, if_neg]
    rintro (q | q | q)
    · exact q.elim h.1 (Int32.not_lt.mpr h.2)
    · exact hx0 q
    · exact q (hdv.mpr hrd)
  have key : ∀ l a I', l ≤ d → frK 111 I I' → RW (I' 111) 0 a → AOk a → sz a (gA g) → jdS r d l a = jdS r d d (gA g) → J mt_X10_judge R 43 [some (.ref 108), some (.int (nI d)), some (.long (lN r)), none, some (.int (nI (d - l))), none] [] (S, I', L) := by
    intro l
    induction l with
    | zero =>
      intro a I' hl hf hs ha hz he
      refine J.of tk_X10_judge 200 fun ρ hρ => ?_
      simp only [hρ, x_c, x_il, x_ll, x_al, x_is, x_as, x_ls, x_inc, x_ii, x_iq, x_i1, x_l2, x_lq, x_lh, x_i2l, x_l2i, x_lcmp, x_dup, x_dup2, x_pop, x_if, x_ifn, x_ic, x_icn, x_go, x_sw, swc, x_l01, x_mx, x_gI, x_gL, x_gR, x_pI, x_pZ, x_pL, x_pR, x_ia, x_za, x_aa, x_ias, x_zas, x_aas, x_fac, x_fa, x_slen, x_sa, x_ac, x_oi, x_new, x_na, x_cS, x_cV, x_cI, x_rI, x_rZ, x_rL, x_r0, pa, short, oc, lg, lset, lset2, wide, cond_true, cond_false, true_and, and_true, ↓reduceIte, Bool.false_eq_true, true_or, or_true, lf_X10_judge, Nat.sub_zero, nI_leI (show d < 2 ^ 31 by omega) (show d < 2 ^ 31 by omega), Nat.le_refl, true_implies, not_true_eq_false, false_implies]
      exact hfin _ I' (show gJudge g (nI d) (lN r) = -9 by rw [hg, ← he, jdS]) hf
    | succ l ih =>
      intro a I' hl hf hs ha hz he
      have es : nI d - 1 - nI (d - (l + 1)) = nI l := by rw [nI_m1 (by omega), nI_sub (by omega)]; congr 1; omega
      have hpl := p1000 (show l ≤ 4 by omega)
      have hq : r / 1000 ^ l < 2 ^ 63 := Nat.lt_of_le_of_lt (Nat.div_le_self _ _) hr
      have ed : lN r / lN (1000 ^ l) = lN (r / 1000 ^ l) := pk_lDiv hr hpl.1 hpl.2
      have er : lN (r / 1000 ^ l) - lN (r / 1000 ^ l) / lN 1000 * lN 1000 = lN (r / 1000 ^ l % 1000) := pk_lRem hq (by omega) (by omega)
      have hz0 : ¬ lN (1000 ^ l) = 0 := fun q => by have := (lN_z hpl.2).mp q; omega
      have h1k : r / 1000 ^ l % 1000 < 1000 := Nat.mod_lt _ (by omega)
      have e108 : I' 108 = I 108 := hf 108 (by omega) (by omega)
      have e117 : I' 117 = I 117 := hf 117 (by omega) (by omega)
      refine J.of tk_X10_judge 200 fun ρ hρ => ?_
      simp only [hρ, x_c, x_il, x_ll, x_al, x_is, x_as, x_ls, x_inc, x_ii, x_iq, x_i1, x_l2, x_lq, x_lh, x_i2l, x_l2i, x_lcmp, x_dup, x_dup2, x_pop, x_if, x_ifn, x_ic, x_icn, x_go, x_sw, swc, x_l01, x_mx, x_gI, x_gL, x_gR, x_pI, x_pZ, x_pL, x_pR, x_ia, x_za, x_aa, x_ias, x_zas, x_aas, x_fac, x_fa, x_slen, x_sa, x_ac, x_oi, x_new, x_na, x_cS, x_cV, x_cI, x_rI, x_rZ, x_rL, x_r0, pa, short, oc, lg, lset, lset2, wide, cond_true, cond_false, true_and, and_true, ↓reduceIte, Bool.false_eq_true, true_or, or_true, lf_X10_judge, h1, h1.f, P_X10_thousands, P_X10_judged, es, k1000, k1000n, nI_leI (show d < 2 ^ 31 by omega) (show d - (l + 1) < 2 ^ 31 by omega), nI_1, Classical.not_not, not_false_eq_true, nI10, ten0, nI100, h100]
      refine ⟨fun h => absurd h (by omega), fun _ => ⟨l, by omega, rfl, hz0, ?_⟩⟩
      rw [ed, er, lN_i]
      revert he h1k
      simp only [jdS]
      generalize r / 1000 ^ l % 1000 = w
      intro he h1k
      have f1 : nI w / nI 10 = nI (w / 10) := pk_div (by omega) (by omega) (by omega)
      have f3 : nI (w / 10) - nI (w / 10) / nI 10 * nI 10 = nI (w / 10 % 10) := pk_rem (by omega) (by omega) (by omega)
      have f4 : nI w - nI w / nI 10 * nI 10 = nI (w % 10) := pk_rem (by omega) (by omega) (by omega)
      have f5 : nI w / nI 100 = nI (w / 100) := pk_div (by omega) (by omega) (by omega)
      refine ⟨w, a, h1k, f5, by rw [f1, f3], f4, hs, ha, by rw [e108, hz.1]; exact h3.1, by rw [e108, hz.2]; exact h3.2, by unfold OrdN; rw [e117]; exact h9, fun I2 hf2 hs2 => ?_⟩
      rw [bB_0]
      refine ⟨fun h => ?_, fun h => ?_⟩
      · rw [Classical.not_not] at h
        rw [if_pos h] at he
        have hz2 := doJ_sz (a := a) (w := w)
        have := ih _ I2 (by omega) (hf.trans hf2) hs2 (doJ_ok ha) ⟨hz2.1.trans hz.1, hz2.2.trans hz.2⟩ he
        rw [show d - (l + 1) + 1 = d - l by omega]
        exact J.weak (by simp [lsub]) this
      · rw [if_neg h] at he
        exact hfin _ I2 (by rw [hg, ← he]) (hf.trans hf2)
  have := key d (gA g) (mS I 111 (cpy (I 110) (I 111) 80)) (Nat.le_refl d) cp_fr (by rw [mS_s]; exact h4.cp hm.2.2) hok ⟨rfl, rfl⟩ rfl
  rw [Nat.sub_self] at this
  exact this
