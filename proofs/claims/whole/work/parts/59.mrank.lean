/-! RANK of the model -/
theorem ins_z {B : Nat → Nat} : ∀ d, ins d B 0 = (false, B)
  | 0 => rfl
  | d + 1 => by simp only [ins, Nat.zero_testBit, Bool.false_eq_true, if_false]; exact ins_z d
def il_X10_rankBy : List (Nat × Instr × Nat) := [(0, .iconst 0, 1), (1, .istore_n 2, 1), (2, .iload_n 2, 1), (3, .bipush 9, 2), (5, .if_icmp .ge 16, 3), (8, .aload_n 0, 1), (9, .getfield 41, 3), (12, .iload_n 2, 1), (13, .iconst 0, 1), (14, .iastore, 1), (15, .iinc 2 1, 3), (18, .goto (-16), 3), (21, .iconst 0, 1), (22, .istore_n 2, 1), (23, .iconst 0, 1), (24, .istore_n 3, 1), (25, .iload_n 3, 1), (26, .aload_n 0, 1), (27, .getfield 64, 3), (30, .if_icmp .ge 112, 3), (33, .iload_n 1, 1), (34, .iload_n 3, 1), (35, .invokestatic 102, 3), (38, .ifCond .eq 15, 3), (41, .aload_n 0, 1), (42, .getfield 13, 3), (45, .bipush 18, 2), (47, .iload_n 3, 1), (48, .iadd, 1), (49, .iaload, 1), (50, .goto 4, 3), (53, .iconst 0, 1), (54, .istore 4, 2), (56, .bipush 8, 2), (58, .istore 5, 2), (60, .iload 5, 2), (62, .ifCond .lt 74, 3), (65, .iload 4, 2), (67, .ifCond .eq 69, 3), (70, .iload 4, 2), (72, .iload 5, 2), (74, .invokestatic 102, 3), (77, .ifCond .eq 28, 3), (80, .aload_n 0, 1), (81, .getfield 41, 3), (84, .iload 5, 2), (86, .iaload, 1), (87, .ifCond .eq 18, 3), (90, .iload 4, 2), (92, .aload_n 0, 1), (93, .getfield 41, 3), (96, .iload 5, 2), (98, .iaload, 1), (99, .ixor, 1), (100, .istore 4, 2), (102, .goto 28, 3), (105, .iload 4, 2), (107, .iload 5, 2), (109, .invokestatic 102, 3), (112, .ifCond .eq 18, 3), (115, .aload_n 0, 1), (116, .getfield 41, 3), (119, .iload 5, 2), (121, .iload 4, 2), (123, .iastore, 1), (124, .iinc 2 1, 3), (127, .iconst 0, 1), (128, .istore 4, 2), (130, .iinc 5 (-1), 3), (133, .goto (-73), 3), (136, .iinc 3 1, 3), (139, .goto (-114), 3), (142, .iload_n 2, 1), (143, .ireturn, 1)]
def mt_X10_rankBy : Mt := (cX10_rankBy, RX10, 6, (some .int), ({ frames := 1, cells := 0, slots := 0, locals := 21 } : Room), false, none, none)
set_option maxRecDepth 100000 in
theorem dl_X10_rankBy : ∀ q ∈ il_X10_rankBy, decode (mt_X10_rankBy).1 q.1 = .ok q.2 := by decide +kernel
def tb_X10_rankBy : Tb := [(0, x_c 1 (.int 0), false),
  (1, x_is 2 2, false),
  (2, x_il 3 2, true),
  (3, x_c 5 (.int 9), false),
  (5, x_ic 21 8 (fun x y : Int32 => y ≤ x), false),
  (8, x_al 9 0, false),
  (9, x_gR 10 17 12, false),
  (12, x_il 13 2, false),
  (13, x_c 14 (.int 0), false),
  (14, x_ias 15, false),
  (15, x_inc 18 2 1, false),
  (18, x_go 2, false),
  (21, x_c 22 (.int 0), false),
  (22, x_is 23 2, false),
  (23, x_c 24 (.int 0), false),
  (24, x_is 25 3, false),
  (25, x_il 26 3, true),
  (26, x_al 27 0, false),
  (27, x_gI 10 3 30, false),
  (30, x_ic 142 33 (fun x y : Int32 => y ≤ x), false),
  (33, x_il 34 1, false),
  (34, x_il 35 3, false),
  (35, x_cS 2 P_X10_has 38, false),
  (38, x_if 53 41 (fun x : Int32 => x = 0), false),
  (41, x_al 42 0, false),
  (42, x_gR 10 4 45, false),
  (45, x_c 47 (.int 18), false),
  (47, x_il 48 3, false),
  (48, x_ii 49 (fun x y : Int32 => x + y), false),
  (49, x_ia 50, false),
  (50, x_go 54, false),
  (53, x_c 54 (.int 0), false),
  (54, x_is 56 4, false),
  (56, x_c 58 (.int 8), false),
  (58, x_is 60 5, false),
  (60, x_il 62 5, true),
  (62, x_if 136 65 (fun x : Int32 => x < 0), false),
  (65, x_il 67 4, false),
  (67, x_if 136 70 (fun x : Int32 => x = 0), false),
  (70, x_il 72 4, false),
  (72, x_il 74 5, false),
  (74, x_cS 2 P_X10_has 77, false),
  (77, x_if 105 80 (fun x : Int32 => x = 0), false),
  (80, x_al 81 0, false),
  (81, x_gR 10 17 84, false),
  (84, x_il 86 5, false),
  (86, x_ia 87, false),
  (87, x_if 105 90 (fun x : Int32 => x = 0), false),
  (90, x_il 92 4, false),
  (92, x_al 93 0, false),
  (93, x_gR 10 17 96, false),
  (96, x_il 98 5, false),
  (98, x_ia 99, false),
  (99, x_ii 100 (fun x y : Int32 => x ^^^ y), false),
  (100, x_is 102 4, false),
  (102, x_go 130, false),
  (105, x_il 107 4, false),
  (107, x_il 109 5, false),
  (109, x_cS 2 P_X10_has 112, false),
  (112, x_if 130 115 (fun x : Int32 => x = 0), false),
  (115, x_al 116 0, false),
  (116, x_gR 10 17 119, false),
  (119, x_il 121 5, false),
  (121, x_il 123 4, false),
  (123, x_ias 124, false),
  (124, x_inc 127 2 1, false),
  (127, x_c 128 (.int 0), false),
  (128, x_is 130 4, false),
  (130, x_inc 133 5 (-1), false),
  (133, x_go 60, false),
  (136, x_inc 139 3 1, false),
  (139, x_go 25, false),
  (142, x_il 143 2, false),
  (143, x_rI, false)]
set_option maxRecDepth 100000 in
theorem tk_X10_rankBy : TbOk (mt_X10_rankBy) (tb_X10_rankBy) :=
  tkc (s_iconst (at_ dl_X10_rankBy 0 (ins := .iconst 0) rfl) (by first | rfl | decide)) (
  tkc (s_istore_n (at_ dl_X10_rankBy 1 (ins := .istore_n 2) rfl) (by decide)) (
  tkc (s_iload_n (at_ dl_X10_rankBy 2 (ins := .iload_n 2) rfl)) (
  tkc (s_bipush (at_ dl_X10_rankBy 3 (ins := .bipush 9) rfl) (by first | rfl | decide)) (
  tkc (s_ic_ge (at_ dl_X10_rankBy 4 (ins := .if_icmp .ge 16) rfl) (by decide)) (
  tkc (s_aload_n (at_ dl_X10_rankBy 5 (ins := .aload_n 0) rfl)) (
  tkc (s_gR (at_ dl_X10_rankBy 6 (ins := .getfield 41) rfl) (by decide) (by decide) (by decide) (tg 713 (by decide +kernel) (by decide +kernel))) (
  tkc (s_iload_n (at_ dl_X10_rankBy 7 (ins := .iload_n 2) rfl)) (
  tkc (s_iconst (at_ dl_X10_rankBy 8 (ins := .iconst 0) rfl) (by first | rfl | decide)) (
  tkc (s_ias (at_ dl_X10_rankBy 9 (ins := .iastore) rfl)) (
  tkc (s_iinc (at_ dl_X10_rankBy 10 (ins := .iinc 2 1) rfl) (by decide) (by first | rfl | decide)) (
  tkc (s_goto (at_ dl_X10_rankBy 11 (ins := .goto (-16)) rfl) (by decide)) (
  tkc (s_iconst (at_ dl_X10_rankBy 12 (ins := .iconst 0) rfl) (by first | rfl | decide)) (
  tkc (s_istore_n (at_ dl_X10_rankBy 13 (ins := .istore_n 2) rfl) (by decide)) (
  tkc (s_iconst (at_ dl_X10_rankBy 14 (ins := .iconst 0) rfl) (by first | rfl | decide)) (
  tkc (s_istore_n (at_ dl_X10_rankBy 15 (ins := .istore_n 3) rfl) (by decide)) (
  tkc (s_iload_n (at_ dl_X10_rankBy 16 (ins := .iload_n 3) rfl)) (
  tkc (s_aload_n (at_ dl_X10_rankBy 17 (ins := .aload_n 0) rfl)) (
  tkc (s_gI (at_ dl_X10_rankBy 18 (ins := .getfield 64) rfl) (by decide) (by decide) (by decide) (tg 699 (by decide +kernel) (by decide +kernel))) (
  tkc (s_ic_ge (at_ dl_X10_rankBy 19 (ins := .if_icmp .ge 112) rfl) (by decide)) (
  tkc (s_iload_n (at_ dl_X10_rankBy 20 (ins := .iload_n 1) rfl)) (
  tkc (s_iload_n (at_ dl_X10_rankBy 21 (ins := .iload_n 3) rfl)) (
  tkc (s_cS ok_X10_has (at_ dl_X10_rankBy 22 (ins := .invokestatic 102) rfl) (tg 828 (by decide +kernel) (by decide +kernel)) (tg 829 (by decide +kernel) (by decide +kernel)) (tg 51 (by decide +kernel) (by decide +kernel)) (tg 830 (by decide +kernel) (by decide +kernel)) (⟨by decide, by decide, by decide +kernel⟩) (⟨by decide, by decide⟩) rfl rfl) (
  tkc (s_if_eq (at_ dl_X10_rankBy 23 (ins := .ifCond .eq 15) rfl) (by decide)) (
  tkc (s_aload_n (at_ dl_X10_rankBy 24 (ins := .aload_n 0) rfl)) (
  tkc (s_gR (at_ dl_X10_rankBy 25 (ins := .getfield 13) rfl) (by decide) (by decide) (by decide) (tg 700 (by decide +kernel) (by decide +kernel))) (
  tkc (s_bipush (at_ dl_X10_rankBy 26 (ins := .bipush 18) rfl) (by first | rfl | decide)) (
  tkc (s_iload_n (at_ dl_X10_rankBy 27 (ins := .iload_n 3) rfl)) (
  tkc (s_iadd (at_ dl_X10_rankBy 28 (ins := .iadd) rfl)) (
  tkc (s_ia (at_ dl_X10_rankBy 29 (ins := .iaload) rfl)) (
  tkc (s_goto (at_ dl_X10_rankBy 30 (ins := .goto 4) rfl) (by decide)) (
  tkc (s_iconst (at_ dl_X10_rankBy 31 (ins := .iconst 0) rfl) (by first | rfl | decide)) (
  tkc (s_istore (at_ dl_X10_rankBy 32 (ins := .istore 4) rfl) (by decide)) (
  tkc (s_bipush (at_ dl_X10_rankBy 33 (ins := .bipush 8) rfl) (by first | rfl | decide)) (
  tkc (s_istore (at_ dl_X10_rankBy 34 (ins := .istore 5) rfl) (by decide)) (
  tkc (s_iload (at_ dl_X10_rankBy 35 (ins := .iload 5) rfl)) (
  tkc (s_if_lt (at_ dl_X10_rankBy 36 (ins := .ifCond .lt 74) rfl) (by decide)) (
  tkc (s_iload (at_ dl_X10_rankBy 37 (ins := .iload 4) rfl)) (
  tkc (s_if_eq (at_ dl_X10_rankBy 38 (ins := .ifCond .eq 69) rfl) (by decide)) (
  tkc (s_iload (at_ dl_X10_rankBy 39 (ins := .iload 4) rfl)) (
  tkc (s_iload (at_ dl_X10_rankBy 40 (ins := .iload 5) rfl)) (
  tkc (s_cS ok_X10_has (at_ dl_X10_rankBy 41 (ins := .invokestatic 102) rfl) (tg 828 (by decide +kernel) (by decide +kernel)) (tg 829 (by decide +kernel) (by decide +kernel)) (tg 51 (by decide +kernel) (by decide +kernel)) (tg 830 (by decide +kernel) (by decide +kernel)) (⟨by decide, by decide, by decide +kernel⟩) (⟨by decide, by decide⟩) rfl rfl) (
  tkc (s_if_eq (at_ dl_X10_rankBy 42 (ins := .ifCond .eq 28) rfl) (by decide)) (
  tkc (s_aload_n (at_ dl_X10_rankBy 43 (ins := .aload_n 0) rfl)) (
  tkc (s_gR (at_ dl_X10_rankBy 44 (ins := .getfield 41) rfl) (by decide) (by decide) (by decide) (tg 713 (by decide +kernel) (by decide +kernel))) (
  tkc (s_iload (at_ dl_X10_rankBy 45 (ins := .iload 5) rfl)) (
  tkc (s_ia (at_ dl_X10_rankBy 46 (ins := .iaload) rfl)) (
  tkc (s_if_eq (at_ dl_X10_rankBy 47 (ins := .ifCond .eq 18) rfl) (by decide)) (
  tkc (s_iload (at_ dl_X10_rankBy 48 (ins := .iload 4) rfl)) (
  tkc (s_aload_n (at_ dl_X10_rankBy 49 (ins := .aload_n 0) rfl)) (
  tkc (s_gR (at_ dl_X10_rankBy 50 (ins := .getfield 41) rfl) (by decide) (by decide) (by decide) (tg 713 (by decide +kernel) (by decide +kernel))) (
  tkc (s_iload (at_ dl_X10_rankBy 51 (ins := .iload 5) rfl)) (
  tkc (s_ia (at_ dl_X10_rankBy 52 (ins := .iaload) rfl)) (
  tkc (s_ixor (at_ dl_X10_rankBy 53 (ins := .ixor) rfl)) (
  tkc (s_istore (at_ dl_X10_rankBy 54 (ins := .istore 4) rfl) (by decide)) (
  tkc (s_goto (at_ dl_X10_rankBy 55 (ins := .goto 28) rfl) (by decide)) (
  tkc (s_iload (at_ dl_X10_rankBy 56 (ins := .iload 4) rfl)) (
  tkc (s_iload (at_ dl_X10_rankBy 57 (ins := .iload 5) rfl)) (
  tkc (s_cS ok_X10_has (at_ dl_X10_rankBy 58 (ins := .invokestatic 102) rfl) (tg 828 (by decide +kernel) (by decide +kernel)) (tg 829 (by decide +kernel) (by decide +kernel)) (tg 51 (by decide +kernel) (by decide +kernel)) (tg 830 (by decide +kernel) (by decide +kernel)) (⟨by decide, by decide, by decide +kernel⟩) (⟨by decide, by decide⟩) rfl rfl) (
  tkc (s_if_eq (at_ dl_X10_rankBy 59 (ins := .ifCond .eq 18) rfl) (by decide)) (
  tkc (s_aload_n (at_ dl_X10_rankBy 60 (ins := .aload_n 0) rfl)) (
  tkc (s_gR (at_ dl_X10_rankBy 61 (ins := .getfield 41) rfl) (by decide) (by decide) (by decide) (tg 713 (by decide +kernel) (by decide +kernel))) (
  tkc (s_iload (at_ dl_X10_rankBy 62 (ins := .iload 5) rfl)) (
  tkc (s_iload (at_ dl_X10_rankBy 63 (ins := .iload 4) rfl)) (
  tkc (s_ias (at_ dl_X10_rankBy 64 (ins := .iastore) rfl)) (
  tkc (s_iinc (at_ dl_X10_rankBy 65 (ins := .iinc 2 1) rfl) (by decide) (by first | rfl | decide)) (
  tkc (s_iconst (at_ dl_X10_rankBy 66 (ins := .iconst 0) rfl) (by first | rfl | decide)) (
  tkc (s_istore (at_ dl_X10_rankBy 67 (ins := .istore 4) rfl) (by decide)) (
  tkc (s_iinc (at_ dl_X10_rankBy 68 (ins := .iinc 5 (-1)) rfl) (by decide) (by first | rfl | decide)) (
  tkc (s_goto (at_ dl_X10_rankBy 69 (ins := .goto (-73)) rfl) (by decide)) (
  tkc (s_iinc (at_ dl_X10_rankBy 70 (ins := .iinc 3 1) rfl) (by decide) (by first | rfl | decide)) (
  tkc (s_goto (at_ dl_X10_rankBy 71 (ins := .goto (-114)) rfl) (by decide)) (
  tkc (s_iload_n (at_ dl_X10_rankBy 72 (ins := .iload_n 2) rfl)) (
  tkc (s_rI (at_ dl_X10_rankBy 73 (ins := .ireturn) rfl) rfl) ( tk0))))))))))))))))))))))))))))))))))))))))))))))))))))))))))))))))))))))))))
theorem lf_X10_rankBy : lk (tb_X10_rankBy) 0 = (x_c 1 (.int 0), false) ∧ lk (tb_X10_rankBy) 1 = (x_is 2 2, false) ∧ lk (tb_X10_rankBy) 2 = (x_il 3 2, true) ∧ lk (tb_X10_rankBy) 3 = (x_c 5 (.int 9), false) ∧ lk (tb_X10_rankBy) 5 = (x_ic 21 8 (fun x y : Int32 => y ≤ x), false) ∧ lk (tb_X10_rankBy) 8 = (x_al 9 0, false) ∧ lk (tb_X10_rankBy) 9 = (x_gR 10 17 12, false) ∧ lk (tb_X10_rankBy) 12 = (x_il 13 2, false) ∧ lk (tb_X10_rankBy) 13 = (x_c 14 (.int 0), false) ∧ lk (tb_X10_rankBy) 14 = (x_ias 15, false) ∧ lk (tb_X10_rankBy) 15 = (x_inc 18 2 1, false) ∧ lk (tb_X10_rankBy) 18 = (x_go 2, false) ∧ lk (tb_X10_rankBy) 21 = (x_c 22 (.int 0), false) ∧ lk (tb_X10_rankBy) 22 = (x_is 23 2, false) ∧ lk (tb_X10_rankBy) 23 = (x_c 24 (.int 0), false) ∧ lk (tb_X10_rankBy) 24 = (x_is 25 3, false) ∧ lk (tb_X10_rankBy) 25 = (x_il 26 3, true) ∧ lk (tb_X10_rankBy) 26 = (x_al 27 0, false) ∧ lk (tb_X10_rankBy) 27 = (x_gI 10 3 30, false) ∧ lk (tb_X10_rankBy) 30 = (x_ic 142 33 (fun x y : Int32 => y ≤ x), false) ∧ lk (tb_X10_rankBy) 33 = (x_il 34 1, false) ∧ lk (tb_X10_rankBy) 34 = (x_il 35 3, false) ∧ lk (tb_X10_rankBy) 35 = (x_cS 2 P_X10_has 38, false) ∧ lk (tb_X10_rankBy) 38 = (x_if 53 41 (fun x : Int32 => x = 0), false) ∧ lk (tb_X10_rankBy) 41 = (x_al 42 0, false) ∧ lk (tb_X10_rankBy) 42 = (x_gR 10 4 45, false) ∧ lk (tb_X10_rankBy) 45 = (x_c 47 (.int 18), false) ∧ lk (tb_X10_rankBy) 47 = (x_il 48 3, false) ∧ lk (tb_X10_rankBy) 48 = (x_ii 49 (fun x y : Int32 => x + y), false) ∧ lk (tb_X10_rankBy) 49 = (x_ia 50, false) ∧ lk (tb_X10_rankBy) 50 = (x_go 54, false) ∧ lk (tb_X10_rankBy) 53 = (x_c 54 (.int 0), false) ∧ lk (tb_X10_rankBy) 54 = (x_is 56 4, false) ∧ lk (tb_X10_rankBy) 56 = (x_c 58 (.int 8), false) ∧ lk (tb_X10_rankBy) 58 = (x_is 60 5, false) ∧ lk (tb_X10_rankBy) 60 = (x_il 62 5, true) ∧ lk (tb_X10_rankBy) 62 = (x_if 136 65 (fun x : Int32 => x < 0), false) ∧ lk (tb_X10_rankBy) 65 = (x_il 67 4, false) ∧ lk (tb_X10_rankBy) 67 = (x_if 136 70 (fun x : Int32 => x = 0), false) ∧ lk (tb_X10_rankBy) 70 = (x_il 72 4, false) ∧ lk (tb_X10_rankBy) 72 = (x_il 74 5, false) ∧ lk (tb_X10_rankBy) 74 = (x_cS 2 P_X10_has 77, false) ∧ lk (tb_X10_rankBy) 77 = (x_if 105 80 (fun x : Int32 => x = 0), false) ∧ lk (tb_X10_rankBy) 80 = (x_al 81 0, false) ∧ lk (tb_X10_rankBy) 81 = (x_gR 10 17 84, false) ∧ lk (tb_X10_rankBy) 84 = (x_il 86 5, false) ∧ lk (tb_X10_rankBy) 86 = (x_ia 87, false) ∧ lk (tb_X10_rankBy) 87 = (x_if 105 90 (fun x : Int32 => x = 0), false) ∧ lk (tb_X10_rankBy) 90 = (x_il 92 4, false) ∧ lk (tb_X10_rankBy) 92 = (x_al 93 0, false) ∧ lk (tb_X10_rankBy) 93 = (x_gR 10 17 96, false) ∧ lk (tb_X10_rankBy) 96 = (x_il 98 5, false) ∧ lk (tb_X10_rankBy) 98 = (x_ia 99, false) ∧ lk (tb_X10_rankBy) 99 = (x_ii 100 (fun x y : Int32 => x ^^^ y), false) ∧ lk (tb_X10_rankBy) 100 = (x_is 102 4, false) ∧ lk (tb_X10_rankBy) 102 = (x_go 130, false) ∧ lk (tb_X10_rankBy) 105 = (x_il 107 4, false) ∧ lk (tb_X10_rankBy) 107 = (x_il 109 5, false) ∧ lk (tb_X10_rankBy) 109 = (x_cS 2 P_X10_has 112, false) ∧ lk (tb_X10_rankBy) 112 = (x_if 130 115 (fun x : Int32 => x = 0), false) ∧ lk (tb_X10_rankBy) 115 = (x_al 116 0, false) ∧ lk (tb_X10_rankBy) 116 = (x_gR 10 17 119, false) ∧ lk (tb_X10_rankBy) 119 = (x_il 121 5, false) ∧ lk (tb_X10_rankBy) 121 = (x_il 123 4, false) ∧ lk (tb_X10_rankBy) 123 = (x_ias 124, false) ∧ lk (tb_X10_rankBy) 124 = (x_inc 127 2 1, false) ∧ lk (tb_X10_rankBy) 127 = (x_c 128 (.int 0), false) ∧ lk (tb_X10_rankBy) 128 = (x_is 130 4, false) ∧ lk (tb_X10_rankBy) 130 = (x_inc 133 5 (-1), false) ∧ lk (tb_X10_rankBy) 133 = (x_go 60, false) ∧ lk (tb_X10_rankBy) 136 = (x_inc 139 3 1, false) ∧ lk (tb_X10_rankBy) 139 = (x_go 25, false) ∧ lk (tb_X10_rankBy) 142 = (x_il 143 2, false) ∧ lk (tb_X10_rankBy) 143 = (x_rI, false) := ⟨rfl, rfl, rfl, rfl, rfl, rfl, rfl, rfl, rfl, rfl, rfl, rfl, rfl, rfl, rfl, rfl, rfl, rfl, rfl, rfl, rfl, rfl, rfl, rfl, rfl, rfl, rfl, rfl, rfl, rfl, rfl, rfl, rfl, rfl, rfl, rfl, rfl, rfl, rfl, rfl, rfl, rfl, rfl, rfl, rfl, rfl, rfl, rfl, rfl, rfl, rfl, rfl, rfl, rfl, rfl, rfl, rfl, rfl, rfl, rfl, rfl, rfl, rfl, rfl, rfl, rfl, rfl, rfl, rfl, rfl, rfl, rfl, rfl, rfl⟩
def P_X10_rankBy : PTT := fun as M R => match as with
  | [.ref k, .int x] => k = 108 ∧ IsMo M.1 ∧ ∃ s a, x = nI s ∧ s < 512 ∧ MS M.1 M.2.1 110 a ∧ ∀ I', (∀ q, q ≠ 119 → I' q = M.2.1 q) → R (some (.int (nI (rkA a s)))) (M.1, I', M.2.2)
  | _ => False
set_option maxRecDepth 20000 in
theorem ok_X10_rankBy : Ok yX10_rankBy mt_X10_rankBy P_X10_rankBy := by
  refine Ok.of (by decide) rfl rfl rfl rfl fun av ⟨S, I, L⟩ R hP => ?_
  unfold P_X10_rankBy at hP
  split at hP
  case h_2 => exact hP.elim
  rename_i k x
  obtain ⟨k, rfl⟩ : ∃ q : Nat, q = k := ⟨k, rfl⟩
  refine ⟨by simp [ent, wide, mt_X10_rankBy], ?_⟩
  show J mt_X10_rankBy R 0 [some (.ref k), some (.int x), none, none, none, none] [] (S, I, L)
  try dsimp only at hP
  obtain ⟨rfl, h1, s, a, rfl, hs, ⟨m1, hr, ha, en, em⟩, hR⟩ := hP
  have hm := ha.1
  have e108 : ∀ F, mS I 119 F 108 = I 108 := fun F => mS_n (by omega)
  have e110 : ∀ F, mS I 119 F 110 = I 110 := fun F => mS_n (by omega)
  have hn0 : nI 0 - 1 < 0 ↔ True := by decide
  have main := up (P := fun c => ∀ F, (∀ b, b < 9 → F b = nI ((rkS (aV a) s c).2 b)) → J mt_X10_rankBy R 25 [some (.ref 108), some (.int (nI s)), some (.int (nI (rkS (aV a) s c).1)), some (.int (nI c)), none, none] [] (S, mS I 119 F, L)) (n := aM a) (fun c hc ih F hF => ?_) 0 (Nat.zero_le _)
  · have key := up (P := fun i => J mt_X10_rankBy R 2 [some (.ref 108), some (.int (nI s)), some (.int (nI i)), none, none, none] [] (S, mS I 119 (zr (I 119) i), L)) (n := 9) (fun i hi ih => ?_) 0 (Nat.zero_le _)
    · rw [zr_0, mS_id] at key
      refine J.of tk_X10_rankBy 200 fun ρ hρ => ?_
      simp only [hρ, x_c, x_il, x_ll, x_al, x_is, x_as, x_ls, x_inc, x_ii, x_iq, x_i1, x_l2, x_lq, x_lh, x_i2l, x_l2i, x_lcmp, x_dup, x_dup2, x_pop, x_if, x_ifn, x_ic, x_icn, x_go, x_sw, swc, x_l01, x_mx, x_gI, x_gL, x_gR, x_pI, x_pZ, x_pL, x_pR, x_ia, x_za, x_aa, x_ias, x_zas, x_aas, x_fac, x_fa, x_slen, x_sa, x_ac, x_oi, x_new, x_na, x_cS, x_cV, x_cI, x_rI, x_rZ, x_rL, x_r0, pa, short, oc, lg, lset, lset2, wide, cond_true, cond_false, true_and, and_true, ↓reduceIte, Bool.false_eq_true, true_or, or_true, lf_X10_rankBy]
      exact key
    by_cases hlt : i < 9
    · refine J.of tk_X10_rankBy 200 fun ρ hρ => ?_
      simp only [hρ, x_c, x_il, x_ll, x_al, x_is, x_as, x_ls, x_inc, x_ii, x_iq, x_i1, x_l2, x_lq, x_lh, x_i2l, x_l2i, x_lcmp, x_dup, x_dup2, x_pop, x_if, x_ifn, x_ic, x_icn, x_go, x_sw, swc, x_l01, x_mx, x_gI, x_gL, x_gR, x_pI, x_pZ, x_pL, x_pR, x_ia, x_za, x_aa, x_ias, x_zas, x_aas, x_fac, x_fa, x_slen, x_sa, x_ac, x_oi, x_new, x_na, x_cS, x_cV, x_cI, x_rI, x_rZ, x_rL, x_r0, pa, short, oc, lg, lset, lset2, wide, cond_true, cond_false, true_and, and_true, ↓reduceIte, Bool.false_eq_true, true_or, or_true, lf_X10_rankBy, h1.f, e108, nI9, nI_leI (show 9 < 2 ^ 31 by omega) (show i < 2 ^ 31 by omega), ncl (show i < 2 ^ 31 by omega), nI_1, mS_s, mS_ss, zr_s]
      exact ⟨fun h => absurd h (by omega), fun _ => ⟨vp_in_nI (by omega) (by omega), ih hlt⟩⟩
    · have : i = 9 := by omega
      subst this
      refine J.of tk_X10_rankBy 200 fun ρ hρ => ?_
      simp only [hρ, x_c, x_il, x_ll, x_al, x_is, x_as, x_ls, x_inc, x_ii, x_iq, x_i1, x_l2, x_lq, x_lh, x_i2l, x_l2i, x_lcmp, x_dup, x_dup2, x_pop, x_if, x_ifn, x_ic, x_icn, x_go, x_sw, swc, x_l01, x_mx, x_gI, x_gL, x_gR, x_pI, x_pZ, x_pL, x_pR, x_ia, x_za, x_aa, x_ias, x_zas, x_aas, x_fac, x_fa, x_slen, x_sa, x_ac, x_oi, x_new, x_na, x_cS, x_cV, x_cI, x_rI, x_rZ, x_rL, x_r0, pa, short, oc, lg, lset, lset2, wide, cond_true, cond_false, true_and, and_true, ↓reduceIte, Bool.false_eq_true, true_or, or_true, lf_X10_rankBy, nI9, nI_leI (show 9 < 2 ^ 31 by omega) (show 9 < 2 ^ 31 by omega), Nat.le_refl, true_implies, not_true_eq_false, false_implies]
      exact main (zr (I 119) 9) (fun b hb => by rw [zr_in hb]; rfl)
  by_cases hlt : c < aM a
  · have hB : ∀ b, b < 9 → (rkS (aV a) s c).2 b < 512 := rkS_lt (fun i hi => ha.v (by omega))
    have hv := ha.v hlt
    have done : ∀ d rk F', d ≤ 9 → rk = (rkS (aV a) s (c + 1)).1 → (∀ b, b < 9 → F' b = nI ((rkS (aV a) s (c + 1)).2 b)) → J mt_X10_rankBy R 60 [some (.ref 108), some (.int (nI s)), some (.int (nI rk)), some (.int (nI c)), some (.int (nI 0)), some (.int (nI d - 1))] [] (S, mS I 119 F', L) := fun d rk F' hd hrk hF' => by
      have := ih hlt F' hF'
      rw [← hrk] at this
      refine J.of tk_X10_rankBy 200 fun ρ hρ => ?_
      simp only [hρ, x_c, x_il, x_ll, x_al, x_is, x_as, x_ls, x_inc, x_ii, x_iq, x_i1, x_l2, x_lq, x_lh, x_i2l, x_l2i, x_lcmp, x_dup, x_dup2, x_pop, x_if, x_ifn, x_ic, x_icn, x_go, x_sw, swc, x_l01, x_mx, x_gI, x_gL, x_gR, x_pI, x_pZ, x_pL, x_pR, x_ia, x_za, x_aa, x_ias, x_zas, x_aas, x_fac, x_fa, x_slen, x_sa, x_ac, x_oi, x_new, x_na, x_cS, x_cV, x_cI, x_rI, x_rZ, x_rL, x_r0, pa, short, oc, lg, lset, lset2, wide, cond_true, cond_false, true_and, and_true, ↓reduceIte, Bool.false_eq_true, true_or, or_true, lf_X10_rankBy, show nI 0 = 0 by decide, nI_1, true_implies, not_true_eq_false, false_implies]
      exact ⟨fun _ => J.weak (by simp [lsub]) this, fun _ => J.weak (by simp [lsub]) this⟩
    by_cases hsc : s.testBit c = true
    · obtain ⟨T, hT⟩ : ∃ T, T = ins 9 (rkS (aV a) s c).2 (aV a c) := ⟨_, rfl⟩
      have e1 : rkS (aV a) s (c + 1) = ((rkS (aV a) s c).1 + (if T.1 = true then 1 else 0), T.2) := by rw [rkS, if_pos hsc, hT]
      have inner : ∀ d z, d ≤ 9 → z < 512 → ins d (rkS (aV a) s c).2 z = T → J mt_X10_rankBy R 60 [some (.ref 108), some (.int (nI s)), some (.int (nI (rkS (aV a) s c).1)), some (.int (nI c)), some (.int (nI z)), some (.int (nI d - 1))] [] (S, mS I 119 F, L) := by
        intro d
        induction d with
        | zero =>
          intro z _ hz he
          have := ih hlt F (by rw [e1, ← he]; exact hF)
          rw [e1, ← he] at this
          refine J.of tk_X10_rankBy 200 fun ρ hρ => ?_
          simp only [hρ, x_c, x_il, x_ll, x_al, x_is, x_as, x_ls, x_inc, x_ii, x_iq, x_i1, x_l2, x_lq, x_lh, x_i2l, x_l2i, x_lcmp, x_dup, x_dup2, x_pop, x_if, x_ifn, x_ic, x_icn, x_go, x_sw, swc, x_l01, x_mx, x_gI, x_gL, x_gR, x_pI, x_pZ, x_pL, x_pR, x_ia, x_za, x_aa, x_ias, x_zas, x_aas, x_fac, x_fa, x_slen, x_sa, x_ac, x_oi, x_new, x_na, x_cS, x_cV, x_cI, x_rI, x_rZ, x_rL, x_r0, pa, short, oc, lg, lset, lset2, wide, cond_true, cond_false, true_and, and_true, ↓reduceIte, Bool.false_eq_true, true_or, or_true, lf_X10_rankBy, hn0, nI_1, true_implies, not_true_eq_false, false_implies]
          exact J.weak (by simp [lsub, ins]) this
        | succ d ihd =>
          intro z hd hz he
          by_cases hz0 : z = 0
          · subst hz0
            rw [ins_z] at he
            exact done (d + 1) _ F hd (by rw [e1, ← he]; rfl) (by rw [e1, ← he]; exact hF)
          · have hn : nI d < 0 ↔ False := ⟨fun h => nI_pos (by omega) h, False.elim⟩
            have hmm : nI d + -1 = nI d - 1 := by rw [Int32.sub_eq_add_neg]
            have hzz : nI z = 0 ↔ False := by rw [nI_z (by omega)]; exact ⟨hz0, False.elim⟩
            have hvp : vp_in (nI d) 9 := vp_in_nI (by omega) (by omega)
            have hBd := hB d (by omega)
            have hb0 : nI ((rkS (aV a) s c).2 d) = 0 ↔ (rkS (aV a) s c).2 d = 0 := nI_z (by omega)
            have eF : F d = nI ((rkS (aV a) s c).2 d) := hF d (by omega)
            have hxr : z ^^^ (rkS (aV a) s c).2 d < 512 := xor512 hz hBd
            simp only [ins] at he
            refine J.of tk_X10_rankBy 200 fun ρ hρ => ?_
            simp only [hρ, x_c, x_il, x_ll, x_al, x_is, x_as, x_ls, x_inc, x_ii, x_iq, x_i1, x_l2, x_lq, x_lh, x_i2l, x_l2i, x_lcmp, x_dup, x_dup2, x_pop, x_if, x_ifn, x_ic, x_icn, x_go, x_sw, swc, x_l01, x_mx, x_gI, x_gL, x_gR, x_pI, x_pZ, x_pL, x_pR, x_ia, x_za, x_aa, x_ias, x_zas, x_aas, x_fac, x_fa, x_slen, x_sa, x_ac, x_oi, x_new, x_na, x_cS, x_cV, x_cI, x_rI, x_rZ, x_rL, x_r0, pa, short, oc, lg, lset, lset2, wide, cond_true, cond_false, true_and, and_true, ↓reduceIte, Bool.false_eq_true, true_or, or_true, lf_X10_rankBy, h1.f, e108, nI_pred, hn, hmm, hzz, P_X10_has, bB_0, eq_true hvp, ncl (show d < 2 ^ 31 by omega), mS_s, mS_ss, eF, hb0, nI_xor, nI_1, true_implies, not_true_eq_false, false_implies, not_false_eq_true, Classical.not_not]
            refine ⟨z, d, rfl, by omega, rfl, by omega, fun q => ⟨z, d, rfl, by omega, rfl, by omega, fun _ => ihd z (by omega) hz (by rw [← he, if_neg q]), fun q2 => absurd q2 q⟩, fun q => ⟨fun q2 => ⟨z, d, rfl, by omega, rfl, by omega, fun q3 => absurd q q3, fun _ => ?_⟩, fun q2 => ihd _ (by omega) hxr (by rw [← he, if_pos q, if_neg q2])⟩⟩
            rw [if_pos q, if_pos q2] at he
            refine done d _ _ (by omega) (by rw [e1, ← he]; rfl) (fun b hb => ?_)
            rw [e1, ← he, upd_app]
            simp only [va_up]
            split
            · rfl
            · exact hF b hb
      refine J.of tk_X10_rankBy 200 fun ρ hρ => ?_
      simp only [hρ, x_c, x_il, x_ll, x_al, x_is, x_as, x_ls, x_inc, x_ii, x_iq, x_i1, x_l2, x_lq, x_lh, x_i2l, x_l2i, x_lcmp, x_dup, x_dup2, x_pop, x_if, x_ifn, x_ic, x_icn, x_go, x_sw, swc, x_l01, x_mx, x_gI, x_gL, x_gR, x_pI, x_pZ, x_pL, x_pR, x_ia, x_za, x_aa, x_ias, x_zas, x_aas, x_fac, x_fa, x_slen, x_sa, x_ac, x_oi, x_new, x_na, x_cS, x_cV, x_cI, x_rI, x_rZ, x_rL, x_r0, pa, short, oc, lg, lset, lset2, wide, cond_true, cond_false, true_and, and_true, ↓reduceIte, Bool.false_eq_true, true_or, or_true, lf_X10_rankBy, h1.f, e108, e110, em, nI_leI (show aM a < 2 ^ 31 by omega) (show c < 2 ^ 31 by omega), P_X10_has, bB_0, show (18 : Int32) = nI 18 by decide, nI_add, ncl (show 18 + c < 2 ^ 31 by omega), hr.v hlt, Classical.not_not]
      refine ⟨fun h => absurd h (by omega), fun _ => ⟨s, c, rfl, by omega, rfl, by omega, fun q => absurd hsc q, fun _ => ⟨vp_in_nI (by omega) (by omega), ?_⟩⟩⟩
      exact inner 9 (aV a c) (Nat.le_refl 9) hv hT.symm
    · have e1 : rkS (aV a) s (c + 1) = rkS (aV a) s c := by rw [rkS, if_neg hsc]
      refine J.of tk_X10_rankBy 200 fun ρ hρ => ?_
      simp only [hρ, x_c, x_il, x_ll, x_al, x_is, x_as, x_ls, x_inc, x_ii, x_iq, x_i1, x_l2, x_lq, x_lh, x_i2l, x_l2i, x_lcmp, x_dup, x_dup2, x_pop, x_if, x_ifn, x_ic, x_icn, x_go, x_sw, swc, x_l01, x_mx, x_gI, x_gL, x_gR, x_pI, x_pZ, x_pL, x_pR, x_ia, x_za, x_aa, x_ias, x_zas, x_aas, x_fac, x_fa, x_slen, x_sa, x_ac, x_oi, x_new, x_na, x_cS, x_cV, x_cI, x_rI, x_rZ, x_rL, x_r0, pa, short, oc, lg, lset, lset2, wide, cond_true, cond_false, true_and, and_true, ↓reduceIte, Bool.false_eq_true, true_or, or_true, lf_X10_rankBy, h1.f, e108, e110, em, nI_leI (show aM a < 2 ^ 31 by omega) (show c < 2 ^ 31 by omega), P_X10_has, bB_0, Classical.not_not]
      refine ⟨fun h => absurd h (by omega), fun _ => ⟨s, c, rfl, by omega, rfl, by omega, fun _ => ?_, fun q => absurd q hsc⟩⟩
      exact done 9 _ F (Nat.le_refl 9) (by rw [e1]) (by rw [e1]; exact hF)
  · have : c = aM a := by omega
    subst this
    refine J.of tk_X10_rankBy 200 fun ρ hρ => ?_
    simp only [hρ, x_c, x_il, x_ll, x_al, x_is, x_as, x_ls, x_inc, x_ii, x_iq, x_i1, x_l2, x_lq, x_lh, x_i2l, x_l2i, x_lcmp, x_dup, x_dup2, x_pop, x_if, x_ifn, x_ic, x_icn, x_go, x_sw, swc, x_l01, x_mx, x_gI, x_gL, x_gR, x_pI, x_pZ, x_pL, x_pR, x_ia, x_za, x_aa, x_ias, x_zas, x_aas, x_fac, x_fa, x_slen, x_sa, x_ac, x_oi, x_new, x_na, x_cS, x_cV, x_cI, x_rI, x_rZ, x_rL, x_r0, pa, short, oc, lg, lset, lset2, wide, cond_true, cond_false, true_and, and_true, ↓reduceIte, Bool.false_eq_true, true_or, or_true, lf_X10_rankBy, h1.f, e108, em, nI_leI (show aM a < 2 ^ 31 by omega) (show aM a < 2 ^ 31 by omega), Nat.le_refl, true_implies, not_true_eq_false, false_implies]
    exact hR _ (fun q hq => mS_n hq)
