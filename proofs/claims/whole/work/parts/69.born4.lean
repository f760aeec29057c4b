/-! CONSTRUCTOR of the model -/
def il_X10_init : List (Nat × Instr × Nat) := [(0, .aload_n 0, 1), (1, .invokespecial 1, 3), (4, .aload_n 0, 1), (5, .bipush 70, 2), (7, .newarray .int, 2), (9, .putfield 7, 3), (12, .aload_n 0, 1), (13, .bipush 80, 2), (15, .newarray .int, 2), (17, .putfield 13, 3), (20, .aload_n 0, 1), (21, .bipush 80, 2), (23, .newarray .int, 2), (25, .putfield 16, 3), (28, .aload_n 0, 1), (29, .sipush 1120, 3), (32, .newarray .int, 2), (34, .putfield 19, 3), (37, .aload_n 0, 1), (38, .sipush 160, 3), (41, .newarray .int, 2), (43, .putfield 22, 3), (46, .aload_n 0, 1), (47, .iconst 2, 1), (48, .newarray .boolean, 2), (50, .putfield 25, 3), (53, .aload_n 0, 1), (54, .bipush 6, 2), (56, .newarray .int, 2), (58, .putfield 29, 3), (61, .aload_n 0, 1), (62, .bipush 6, 2), (64, .newarray .int, 2), (66, .putfield 32, 3), (69, .aload_n 0, 1), (70, .bipush 6, 2), (72, .newarray .int, 2), (74, .putfield 35, 3), (77, .aload_n 0, 1), (78, .bipush 9, 2), (80, .newarray .int, 2), (82, .putfield 38, 3), (85, .aload_n 0, 1), (86, .bipush 9, 2), (88, .newarray .int, 2), (90, .putfield 41, 3), (93, .aload_n 0, 1), (94, .bipush 64, 2), (96, .newarray .int, 2), (98, .putfield 44, 3), (101, .aload_n 0, 1), (102, .bipush 15, 2), (104, .newarray .int, 2), (106, .putfield 47, 3), (109, .aload_n 0, 1), (110, .bipush 6, 2), (112, .newarray .int, 2), (114, .putfield 50, 3), (117, .aload_n 0, 1), (118, .iconst 2, 1), (119, .putfield 53, 3), (122, .aload_n 0, 1), (123, .invokevirtual 57, 3), (126, .return_, 1)]
def mt_X10_init (n0 s0 : Nat) : Mt := (cX10_init, RX10, 1, none, ({ frames := 1, cells := 14, slots := 1633, locals := 21 } : Room), true, none, some (n0, s0))
set_option maxRecDepth 100000 in
theorem dl_X10_init (n0 s0 : Nat) : ∀ q ∈ il_X10_init, decode (mt_X10_init n0 s0).1 q.1 = .ok q.2 := (by decide +kernel : ∀ q ∈ il_X10_init, decode cX10_init q.1 = .ok q.2)
def tb_X10_init (n0 s0 : Nat) : Tb := [(0, x_al 1 0, false),
  (1, x_o2 4, false),
  (4, x_al 5 0, true),
  (5, x_c 7 (.int 70), false),
  (7, x_na 1 9 (n0 + 14, s0 + 1633), false),
  (9, x_pR 10 0 12, false),
  (12, x_al 13 0, true),
  (13, x_c 15 (.int 80), false),
  (15, x_na 1 17 (n0 + 14, s0 + 1633), false),
  (17, x_pR 10 4 20, false),
  (20, x_al 21 0, true),
  (21, x_c 23 (.int 80), false),
  (23, x_na 1 25 (n0 + 14, s0 + 1633), false),
  (25, x_pR 10 5 28, false),
  (28, x_al 29 0, true),
  (29, x_c 32 (.int 1120), false),
  (32, x_na 1 34 (n0 + 14, s0 + 1633), false),
  (34, x_pR 10 6 37, false),
  (37, x_al 38 0, true),
  (38, x_c 41 (.int 160), false),
  (41, x_na 1 43 (n0 + 14, s0 + 1633), false),
  (43, x_pR 10 9 46, false),
  (46, x_al 47 0, true),
  (47, x_c 48 (.int 2), false),
  (48, x_na 2 50 (n0 + 14, s0 + 1633), false),
  (50, x_pR 10 10 53, false),
  (53, x_al 54 0, true),
  (54, x_c 56 (.int 6), false),
  (56, x_na 1 58 (n0 + 14, s0 + 1633), false),
  (58, x_pR 10 11 61, false),
  (61, x_al 62 0, true),
  (62, x_c 64 (.int 6), false),
  (64, x_na 1 66 (n0 + 14, s0 + 1633), false),
  (66, x_pR 10 12 69, false),
  (69, x_al 70 0, true),
  (70, x_c 72 (.int 6), false),
  (72, x_na 1 74 (n0 + 14, s0 + 1633), false),
  (74, x_pR 10 15 77, false),
  (77, x_al 78 0, true),
  (78, x_c 80 (.int 9), false),
  (80, x_na 1 82 (n0 + 14, s0 + 1633), false),
  (82, x_pR 10 16 85, false),
  (85, x_al 86 0, true),
  (86, x_c 88 (.int 9), false),
  (88, x_na 1 90 (n0 + 14, s0 + 1633), false),
  (90, x_pR 10 17 93, false),
  (93, x_al 94 0, true),
  (94, x_c 96 (.int 64), false),
  (96, x_na 1 98 (n0 + 14, s0 + 1633), false),
  (98, x_pR 10 18 101, false),
  (101, x_al 102 0, true),
  (102, x_c 104 (.int 15), false),
  (104, x_na 1 106 (n0 + 14, s0 + 1633), false),
  (106, x_pR 10 19 109, false),
  (109, x_al 110 0, true),
  (110, x_c 112 (.int 6), false),
  (112, x_na 1 114 (n0 + 14, s0 + 1633), false),
  (114, x_pR 10 23 117, false),
  (117, x_al 118 0, true),
  (118, x_c 119 (.int 2), false),
  (119, x_pI 10 2 122, false),
  (122, x_al 123 0, false),
  (123, x_cV 10 0 P_X10_layOrder 126, false),
  (126, x_r0, false)]
set_option maxRecDepth 100000 in
theorem tk_X10_init (n0 s0 : Nat) : TbOk (mt_X10_init n0 s0) (tb_X10_init n0 s0) :=
  tkc (s_aload_n (at_ (dl_X10_init n0 s0) 0 (ins := .aload_n 0) rfl)) (
  tkc (s_o2 (at_ (dl_X10_init n0 s0) 1 (ins := .invokespecial 1) rfl) (show Cond.methodLink RX10 1 Lib.objectInit ∈ tblG from (tg 691 (by decide +kernel) (by decide +kernel))) (Nat.le_of_ble_eq_true rfl) (Nat.le_of_ble_eq_true rfl)) (
  tkc (s_aload_n (at_ (dl_X10_init n0 s0) 2 (ins := .aload_n 0) rfl)) (
  tkc (s_bipush (at_ (dl_X10_init n0 s0) 3 (ins := .bipush 70) rfl) (by first | rfl | decide)) (
  tkc (s_na1 (q := (n0, s0)) (at_ (dl_X10_init n0 s0) 4 (ins := .newarray .int) rfl) rfl rfl (tg 102 (by decide +kernel) (by decide +kernel))) (
  tkc (s_pR (at_ (dl_X10_init n0 s0) 5 (ins := .putfield 7) rfl) (by decide) (by decide) (by decide) (by decide) rfl rfl (show Cond.fieldLink RX10 7 (TCl 10 0).1 (TCl 10 0).2.1 (TCl 10 0).2.2.1 ∈ tblG from (tg 696 (by decide +kernel) (by decide +kernel)))) (
  tkc (s_aload_n (at_ (dl_X10_init n0 s0) 6 (ins := .aload_n 0) rfl)) (
  tkc (s_bipush (at_ (dl_X10_init n0 s0) 7 (ins := .bipush 80) rfl) (by first | rfl | decide)) (
  tkc (s_na1 (q := (n0, s0)) (at_ (dl_X10_init n0 s0) 8 (ins := .newarray .int) rfl) rfl rfl (tg 102 (by decide +kernel) (by decide +kernel))) (
  tkc (s_pR (at_ (dl_X10_init n0 s0) 9 (ins := .putfield 13) rfl) (by decide) (by decide) (by decide) (by decide) rfl rfl (show Cond.fieldLink RX10 13 (TCl 10 4).1 (TCl 10 4).2.1 (TCl 10 4).2.2.1 ∈ tblG from (tg 700 (by decide +kernel) (by decide +kernel)))) (
  tkc (s_aload_n (at_ (dl_X10_init n0 s0) 10 (ins := .aload_n 0) rfl)) (
  tkc (s_bipush (at_ (dl_X10_init n0 s0) 11 (ins := .bipush 80) rfl) (by first | rfl | decide)) (
  tkc (s_na1 (q := (n0, s0)) (at_ (dl_X10_init n0 s0) 12 (ins := .newarray .int) rfl) rfl rfl (tg 102 (by decide +kernel) (by decide +kernel))) (
  tkc (s_pR (at_ (dl_X10_init n0 s0) 13 (ins := .putfield 16) rfl) (by decide) (by decide) (by decide) (by decide) rfl rfl (show Cond.fieldLink RX10 16 (TCl 10 5).1 (TCl 10 5).2.1 (TCl 10 5).2.2.1 ∈ tblG from (tg 701 (by decide +kernel) (by decide +kernel)))) (
  tkc (s_aload_n (at_ (dl_X10_init n0 s0) 14 (ins := .aload_n 0) rfl)) (
  tkc (s_sipush (at_ (dl_X10_init n0 s0) 15 (ins := .sipush 1120) rfl) (by first | rfl | decide)) (
  tkc (s_na1 (q := (n0, s0)) (at_ (dl_X10_init n0 s0) 16 (ins := .newarray .int) rfl) rfl rfl (tg 102 (by decide +kernel) (by decide +kernel))) (
  tkc (s_pR (at_ (dl_X10_init n0 s0) 17 (ins := .putfield 19) rfl) (by decide) (by decide) (by decide) (by decide) rfl rfl (show Cond.fieldLink RX10 19 (TCl 10 6).1 (TCl 10 6).2.1 (TCl 10 6).2.2.1 ∈ tblG from (tg 702 (by decide +kernel) (by decide +kernel)))) (
  tkc (s_aload_n (at_ (dl_X10_init n0 s0) 18 (ins := .aload_n 0) rfl)) (
  tkc (s_sipush (at_ (dl_X10_init n0 s0) 19 (ins := .sipush 160) rfl) (by first | rfl | decide)) (
  tkc (s_na1 (q := (n0, s0)) (at_ (dl_X10_init n0 s0) 20 (ins := .newarray .int) rfl) rfl rfl (tg 102 (by decide +kernel) (by decide +kernel))) (
  tkc (s_pR (at_ (dl_X10_init n0 s0) 21 (ins := .putfield 22) rfl) (by decide) (by decide) (by decide) (by decide) rfl rfl (show Cond.fieldLink RX10 22 (TCl 10 9).1 (TCl 10 9).2.1 (TCl 10 9).2.2.1 ∈ tblG from (tg 705 (by decide +kernel) (by decide +kernel)))) (
  tkc (s_aload_n (at_ (dl_X10_init n0 s0) 22 (ins := .aload_n 0) rfl)) (
  tkc (s_iconst (at_ (dl_X10_init n0 s0) 23 (ins := .iconst 2) rfl) (by first | rfl | decide)) (
  tkc (s_na2 (q := (n0, s0)) (at_ (dl_X10_init n0 s0) 24 (ins := .newarray .boolean) rfl) rfl rfl (tg 288 (by decide +kernel) (by decide +kernel))) (
  tkc (s_pR (at_ (dl_X10_init n0 s0) 25 (ins := .putfield 25) rfl) (by decide) (by decide) (by decide) (by decide) rfl rfl (show Cond.fieldLink RX10 25 (TCl 10 10).1 (TCl 10 10).2.1 (TCl 10 10).2.2.1 ∈ tblG from (tg 706 (by decide +kernel) (by decide +kernel)))) (
  tkc (s_aload_n (at_ (dl_X10_init n0 s0) 26 (ins := .aload_n 0) rfl)) (
  tkc (s_bipush (at_ (dl_X10_init n0 s0) 27 (ins := .bipush 6) rfl) (by first | rfl | decide)) (
  tkc (s_na1 (q := (n0, s0)) (at_ (dl_X10_init n0 s0) 28 (ins := .newarray .int) rfl) rfl rfl (tg 102 (by decide +kernel) (by decide +kernel))) (
  tkc (s_pR (at_ (dl_X10_init n0 s0) 29 (ins := .putfield 29) rfl) (by decide) (by decide) (by decide) (by decide) rfl rfl (show Cond.fieldLink RX10 29 (TCl 10 11).1 (TCl 10 11).2.1 (TCl 10 11).2.2.1 ∈ tblG from (tg 707 (by decide +kernel) (by decide +kernel)))) (
  tkc (s_aload_n (at_ (dl_X10_init n0 s0) 30 (ins := .aload_n 0) rfl)) (
  tkc (s_bipush (at_ (dl_X10_init n0 s0) 31 (ins := .bipush 6) rfl) (by first | rfl | decide)) (
  tkc (s_na1 (q := (n0, s0)) (at_ (dl_X10_init n0 s0) 32 (ins := .newarray .int) rfl) rfl rfl (tg 102 (by decide +kernel) (by decide +kernel))) (
  tkc (s_pR (at_ (dl_X10_init n0 s0) 33 (ins := .putfield 32) rfl) (by decide) (by decide) (by decide) (by decide) rfl rfl (show Cond.fieldLink RX10 32 (TCl 10 12).1 (TCl 10 12).2.1 (TCl 10 12).2.2.1 ∈ tblG from (tg 708 (by decide +kernel) (by decide +kernel)))) (
  tkc (s_aload_n (at_ (dl_X10_init n0 s0) 34 (ins := .aload_n 0) rfl)) (
  tkc (s_bipush (at_ (dl_X10_init n0 s0) 35 (ins := .bipush 6) rfl) (by first | rfl | decide)) (
  tkc (s_na1 (q := (n0, s0)) (at_ (dl_X10_init n0 s0) 36 (ins := .newarray .int) rfl) rfl rfl (tg 102 (by decide +kernel) (by decide +kernel))) (
  tkc (s_pR (at_ (dl_X10_init n0 s0) 37 (ins := .putfield 35) rfl) (by decide) (by decide) (by decide) (by decide) rfl rfl (show Cond.fieldLink RX10 35 (TCl 10 15).1 (TCl 10 15).2.1 (TCl 10 15).2.2.1 ∈ tblG from (tg 711 (by decide +kernel) (by decide +kernel)))) (
  tkc (s_aload_n (at_ (dl_X10_init n0 s0) 38 (ins := .aload_n 0) rfl)) (
  tkc (s_bipush (at_ (dl_X10_init n0 s0) 39 (ins := .bipush 9) rfl) (by first | rfl | decide)) (
  tkc (s_na1 (q := (n0, s0)) (at_ (dl_X10_init n0 s0) 40 (ins := .newarray .int) rfl) rfl rfl (tg 102 (by decide +kernel) (by decide +kernel))) (
  tkc (s_pR (at_ (dl_X10_init n0 s0) 41 (ins := .putfield 38) rfl) (by decide) (by decide) (by decide) (by decide) rfl rfl (show Cond.fieldLink RX10 38 (TCl 10 16).1 (TCl 10 16).2.1 (TCl 10 16).2.2.1 ∈ tblG from (tg 712 (by decide +kernel) (by decide +kernel)))) (
  tkc (s_aload_n (at_ (dl_X10_init n0 s0) 42 (ins := .aload_n 0) rfl)) (
  tkc (s_bipush (at_ (dl_X10_init n0 s0) 43 (ins := .bipush 9) rfl) (by first | rfl | decide)) (
  tkc (s_na1 (q := (n0, s0)) (at_ (dl_X10_init n0 s0) 44 (ins := .newarray .int) rfl) rfl rfl (tg 102 (by decide +kernel) (by decide +kernel))) (
  tkc (s_pR (at_ (dl_X10_init n0 s0) 45 (ins := .putfield 41) rfl) (by decide) (by decide) (by decide) (by decide) rfl rfl (show Cond.fieldLink RX10 41 (TCl 10 17).1 (TCl 10 17).2.1 (TCl 10 17).2.2.1 ∈ tblG from (tg 713 (by decide +kernel) (by decide +kernel)))) (
  tkc (s_aload_n (at_ (dl_X10_init n0 s0) 46 (ins := .aload_n 0) rfl)) (
  tkc (s_bipush (at_ (dl_X10_init n0 s0) 47 (ins := .bipush 64) rfl) (by first | rfl | decide)) (
  tkc (s_na1 (q := (n0, s0)) (at_ (dl_X10_init n0 s0) 48 (ins := .newarray .int) rfl) rfl rfl (tg 102 (by decide +kernel) (by decide +kernel))) (
  tkc (s_pR (at_ (dl_X10_init n0 s0) 49 (ins := .putfield 44) rfl) (by decide) (by decide) (by decide) (by decide) rfl rfl (show Cond.fieldLink RX10 44 (TCl 10 18).1 (TCl 10 18).2.1 (TCl 10 18).2.2.1 ∈ tblG from (tg 714 (by decide +kernel) (by decide +kernel)))) (
  tkc (s_aload_n (at_ (dl_X10_init n0 s0) 50 (ins := .aload_n 0) rfl)) (
  tkc (s_bipush (at_ (dl_X10_init n0 s0) 51 (ins := .bipush 15) rfl) (by first | rfl | decide)) (
  tkc (s_na1 (q := (n0, s0)) (at_ (dl_X10_init n0 s0) 52 (ins := .newarray .int) rfl) rfl rfl (tg 102 (by decide +kernel) (by decide +kernel))) (
  tkc (s_pR (at_ (dl_X10_init n0 s0) 53 (ins := .putfield 47) rfl) (by decide) (by decide) (by decide) (by decide) rfl rfl (show Cond.fieldLink RX10 47 (TCl 10 19).1 (TCl 10 19).2.1 (TCl 10 19).2.2.1 ∈ tblG from (tg 715 (by decide +kernel) (by decide +kernel)))) (
  tkc (s_aload_n (at_ (dl_X10_init n0 s0) 54 (ins := .aload_n 0) rfl)) (
  tkc (s_bipush (at_ (dl_X10_init n0 s0) 55 (ins := .bipush 6) rfl) (by first | rfl | decide)) (
  tkc (s_na1 (q := (n0, s0)) (at_ (dl_X10_init n0 s0) 56 (ins := .newarray .int) rfl) rfl rfl (tg 102 (by decide +kernel) (by decide +kernel))) (
  tkc (s_pR (at_ (dl_X10_init n0 s0) 57 (ins := .putfield 50) rfl) (by decide) (by decide) (by decide) (by decide) rfl rfl (show Cond.fieldLink RX10 50 (TCl 10 23).1 (TCl 10 23).2.1 (TCl 10 23).2.2.1 ∈ tblG from (tg 719 (by decide +kernel) (by decide +kernel)))) (
  tkc (s_aload_n (at_ (dl_X10_init n0 s0) 58 (ins := .aload_n 0) rfl)) (
  tkc (s_iconst (at_ (dl_X10_init n0 s0) 59 (ins := .iconst 2) rfl) (by first | rfl | decide)) (
  tkc (s_pI (at_ (dl_X10_init n0 s0) 60 (ins := .putfield 53) rfl) (by decide) (by decide) (by decide) (by decide) (show Cond.fieldLink RX10 53 (TCl 10 2).1 (TCl 10 2).2.1 (TCl 10 2).2.2.1 ∈ tblG from (tg 698 (by decide +kernel) (by decide +kernel)))) (
  tkc (s_aload_n (at_ (dl_X10_init n0 s0) 61 (ins := .aload_n 0) rfl)) (
  tkc (s_cV ok_X10_layOrder (at_ (dl_X10_init n0 s0) 62 (ins := .invokevirtual 57) rfl) (by decide) rfl (show Cond.methodLink RX10 57 yX10_layOrder ∈ tblG from (tg 692 (by decide +kernel) (by decide +kernel))) (tg 694 (by decide +kernel) (by decide +kernel)) (tg 18 (by decide +kernel) (by decide +kernel)) (tg 51 (by decide +kernel) (by decide +kernel)) (tg 695 (by decide +kernel) (by decide +kernel)) (⟨by decide, by decide, by decide +kernel⟩) (⟨(Nat.le_of_ble_eq_true rfl), (Nat.le_of_ble_eq_true rfl)⟩) rfl rfl) (
  tkc (s_r0 (at_ (dl_X10_init n0 s0) 63 (ins := .return_) rfl) rfl) ( tk0))))))))))))))))))))))))))))))))))))))))))))))))))))))))))))))))
theorem lf_X10_init (n0 s0 : Nat) : lk (tb_X10_init n0 s0) 0 = (x_al 1 0, false) ∧ lk (tb_X10_init n0 s0) 1 = (x_o2 4, false) ∧ lk (tb_X10_init n0 s0) 4 = (x_al 5 0, true) ∧ lk (tb_X10_init n0 s0) 5 = (x_c 7 (.int 70), false) ∧ lk (tb_X10_init n0 s0) 7 = (x_na 1 9 (n0 + 14, s0 + 1633), false) ∧ lk (tb_X10_init n0 s0) 9 = (x_pR 10 0 12, false) ∧ lk (tb_X10_init n0 s0) 12 = (x_al 13 0, true) ∧ lk (tb_X10_init n0 s0) 13 = (x_c 15 (.int 80), false) ∧ lk (tb_X10_init n0 s0) 15 = (x_na 1 17 (n0 + 14, s0 + 1633), false) ∧ lk (tb_X10_init n0 s0) 17 = (x_pR 10 4 20, false) ∧ lk (tb_X10_init n0 s0) 20 = (x_al 21 0, true) ∧ lk (tb_X10_init n0 s0) 21 = (x_c 23 (.int 80), false) ∧ lk (tb_X10_init n0 s0) 23 = (x_na 1 25 (n0 + 14, s0 + 1633), false) ∧ lk (tb_X10_init n0 s0) 25 = (x_pR 10 5 28, false) ∧ lk (tb_X10_init n0 s0) 28 = (x_al 29 0, true) ∧ lk (tb_X10_init n0 s0) 29 = (x_c 32 (.int 1120), false) ∧ lk (tb_X10_init n0 s0) 32 = (x_na 1 34 (n0 + 14, s0 + 1633), false) ∧ lk (tb_X10_init n0 s0) 34 = (x_pR 10 6 37, false) ∧ lk (tb_X10_init n0 s0) 37 = (x_al 38 0, true) ∧ lk (tb_X10_init n0 s0) 38 = (x_c 41 (.int 160), false) ∧ lk (tb_X10_init n0 s0) 41 = (x_na 1 43 (n0 + 14, s0 + 1633), false) ∧ lk (tb_X10_init n0 s0) 43 = (x_pR 10 9 46, false) ∧ lk (tb_X10_init n0 s0) 46 = (x_al 47 0, true) ∧ lk (tb_X10_init n0 s0) 47 = (x_c 48 (.int 2), false) ∧ lk (tb_X10_init n0 s0) 48 = (x_na 2 50 (n0 + 14, s0 + 1633), false) ∧ lk (tb_X10_init n0 s0) 50 = (x_pR 10 10 53, false) ∧ lk (tb_X10_init n0 s0) 53 = (x_al 54 0, true) ∧ lk (tb_X10_init n0 s0) 54 = (x_c 56 (.int 6), false) ∧ lk (tb_X10_init n0 s0) 56 = (x_na 1 58 (n0 + 14, s0 + 1633), false) ∧ lk (tb_X10_init n0 s0) 58 = (x_pR 10 11 61, false) ∧ lk (tb_X10_init n0 s0) 61 = (x_al 62 0, true) ∧ lk (tb_X10_init n0 s0) 62 = (x_c 64 (.int 6), false) ∧ lk (tb_X10_init n0 s0) 64 = (x_na 1 66 (n0 + 14, s0 + 1633), false) ∧ lk (tb_X10_init n0 s0) 66 = (x_pR 10 12 69, false) ∧ lk (tb_X10_init n0 s0) 69 = (x_al 70 0, true) ∧ lk (tb_X10_init n0 s0) 70 = (x_c 72 (.int 6), false) ∧ lk (tb_X10_init n0 s0) 72 = (x_na 1 74 (n0 + 14, s0 + 1633), false) ∧ lk (tb_X10_init n0 s0) 74 = (x_pR 10 15 77, false) ∧ lk (tb_X10_init n0 s0) 77 = (x_al 78 0, true) ∧ lk (tb_X10_init n0 s0) 78 = (x_c 80 (.int 9), false) ∧ lk (tb_X10_init n0 s0) 80 = (x_na 1 82 (n0 + 14, s0 + 1633), false) ∧ lk (tb_X10_init n0 s0) 82 = (x_pR 10 16 85, false) ∧ lk (tb_X10_init n0 s0) 85 = (x_al 86 0, true) ∧ lk (tb_X10_init n0 s0) 86 = (x_c 88 (.int 9), false) ∧ lk (tb_X10_init n0 s0) 88 = (x_na 1 90 (n0 + 14, s0 + 1633), false) ∧ lk (tb_X10_init n0 s0) 90 = (x_pR 10 17 93, false) ∧ lk (tb_X10_init n0 s0) 93 = (x_al 94 0, true) ∧ lk (tb_X10_init n0 s0) 94 = (x_c 96 (.int 64), false) ∧ lk (tb_X10_init n0 s0) 96 = (x_na 1 98 (n0 + 14, s0 + 1633), false) ∧ lk (tb_X10_init n0 s0) 98 = (x_pR 10 18 101, false) ∧ lk (tb_X10_init n0 s0) 101 = (x_al 102 0, true) ∧ lk (tb_X10_init n0 s0) 102 = (x_c 104 (.int 15), false) ∧ lk (tb_X10_init n0 s0) 104 = (x_na 1 106 (n0 + 14, s0 + 1633), false) ∧ lk (tb_X10_init n0 s0) 106 = (x_pR 10 19 109, false) ∧ lk (tb_X10_init n0 s0) 109 = (x_al 110 0, true) ∧ lk (tb_X10_init n0 s0) 110 = (x_c 112 (.int 6), false) ∧ lk (tb_X10_init n0 s0) 112 = (x_na 1 114 (n0 + 14, s0 + 1633), false) ∧ lk (tb_X10_init n0 s0) 114 = (x_pR 10 23 117, false) ∧ lk (tb_X10_init n0 s0) 117 = (x_al 118 0, true) ∧ lk (tb_X10_init n0 s0) 118 = (x_c 119 (.int 2), false) ∧ lk (tb_X10_init n0 s0) 119 = (x_pI 10 2 122, false) ∧ lk (tb_X10_init n0 s0) 122 = (x_al 123 0, false) ∧ lk (tb_X10_init n0 s0) 123 = (x_cV 10 0 P_X10_layOrder 126, false) ∧ lk (tb_X10_init n0 s0) 126 = (x_r0, false) := ⟨rfl, rfl, rfl, rfl, rfl, rfl, rfl, rfl, rfl, rfl, rfl, rfl, rfl, rfl, rfl, rfl, rfl, rfl, rfl, rfl, rfl, rfl, rfl, rfl, rfl, rfl, rfl, rfl, rfl, rfl, rfl, rfl, rfl, rfl, rfl, rfl, rfl, rfl, rfl, rfl, rfl, rfl, rfl, rfl, rfl, rfl, rfl, rfl, rfl, rfl, rfl, rfl, rfl, rfl, rfl, rfl, rfl, rfl, rfl, rfl, rfl, rfl, rfl, rfl⟩
def P_X10_init : PTT := fun as M R => match as with
  | [.ref k] => k = 108 ∧ M.1.1 = 109 ∧ tO M.1 108 10 ∧ (∀ j, M.2.1 108 j = 0) ∧ (∀ j, M.2.2 108 j = 0) ∧ ∀ M', M'.1.1 = 123 → M'.1.2.1 = M.1.2.1 + 1633 → Kp 108 M M' → MR M'.1 M'.2.1 M'.2.2 g0 → R none M'
  | _ => False
set_option maxRecDepth 20000 in
theorem ok_X10_init : Ok yX10_init (mt_X10_init 0 0) P_X10_init := by
  refine Ok.ofI (mtf := mt_X10_init) (fun _ _ => rfl) (by decide) rfl rfl fun av ⟨S, I, L⟩ R hP => ?_
  unfold P_X10_init at hP
  split at hP
  case h_2 => exact hP.elim
  rename_i k
  obtain ⟨k, rfl⟩ : ∃ q : Nat, q = k := ⟨k, rfl⟩
  refine ⟨by simp [ent, wide], ?_⟩
  show J (mt_X10_init S.1 S.2.1) R 0 [some (.ref k)] [] (S, I, L)
  try dsimp only at hP
  obtain ⟨rfl, hn, ht, z1, z2, hR⟩ := hP
  have hn' : S.1 = 109 := hn
  have st14 : ∀ M, Ob 108 10 [(0, 1, 70), (4, 1, 80), (5, 1, 80), (6, 1, 1120), (9, 1, 160), (10, 2, 2), (11, 1, 6), (12, 1, 6), (15, 1, 6), (16, 1, 9), (17, 1, 9), (18, 1, 64), (19, 1, 15), (23, 1, 6)] (S, I, L) M → J (mt_X10_init S.1 S.2.1) R 117 [some (.ref 108)] [] M := fun ⟨S1, I1, L1⟩ hO => by
    have e1 : S1.1 = 123 := hO.2.1
    have e2 : S1.2.1 = S.2.1 + 1633 := hO.2.2.1
    have t0 : tO S1 108 10 := hO.2.2.2.1
    have i0 : I1 108 = I 108 := hO.2.2.2.2.2.1
    have l0 : L1 108 = L 108 := hO.2.2.2.2.2.2.1
    have k0 : (tA S1 109 1 ∧ ln S1 109 = 70) ∧ sR S1 108 0 = 109 ∧ ∀ j, I1 109 j = 0 := by
      obtain ⟨a1, a2, a3, a4⟩ := hO.a (r := 0) rfl
      exact ⟨⟨a1, a2⟩, a3, a4⟩
    have k1 : (tA S1 110 1 ∧ ln S1 110 = 80) ∧ sR S1 108 4 = 110 ∧ ∀ j, I1 110 j = 0 := by
      obtain ⟨a1, a2, a3, a4⟩ := hO.a (r := 1) rfl
      exact ⟨⟨a1, a2⟩, a3, a4⟩
    have k2 : (tA S1 111 1 ∧ ln S1 111 = 80) ∧ sR S1 108 5 = 111 ∧ ∀ j, I1 111 j = 0 := by
      obtain ⟨a1, a2, a3, a4⟩ := hO.a (r := 2) rfl
      exact ⟨⟨a1, a2⟩, a3, a4⟩
    have k3 : (tA S1 112 1 ∧ ln S1 112 = 1120) ∧ sR S1 108 6 = 112 ∧ ∀ j, I1 112 j = 0 := by
      obtain ⟨a1, a2, a3, a4⟩ := hO.a (r := 3) rfl
      exact ⟨⟨a1, a2⟩, a3, a4⟩
    have k4 : (tA S1 113 1 ∧ ln S1 113 = 160) ∧ sR S1 108 9 = 113 ∧ ∀ j, I1 113 j = 0 := by
      obtain ⟨a1, a2, a3, a4⟩ := hO.a (r := 4) rfl
      exact ⟨⟨a1, a2⟩, a3, a4⟩
    have k5 : (tA S1 114 2 ∧ ln S1 114 = 2) ∧ sR S1 108 10 = 114 ∧ ∀ j, I1 114 j = 0 := by
      obtain ⟨a1, a2, a3, a4⟩ := hO.a (r := 5) rfl
      exact ⟨⟨a1, a2⟩, a3, a4⟩
    have k6 : (tA S1 115 1 ∧ ln S1 115 = 6) ∧ sR S1 108 11 = 115 ∧ ∀ j, I1 115 j = 0 := by
      obtain ⟨a1, a2, a3, a4⟩ := hO.a (r := 6) rfl
      exact ⟨⟨a1, a2⟩, a3, a4⟩
    have k7 : (tA S1 116 1 ∧ ln S1 116 = 6) ∧ sR S1 108 12 = 116 ∧ ∀ j, I1 116 j = 0 := by
      obtain ⟨a1, a2, a3, a4⟩ := hO.a (r := 7) rfl
      exact ⟨⟨a1, a2⟩, a3, a4⟩
    have k8 : (tA S1 117 1 ∧ ln S1 117 = 6) ∧ sR S1 108 15 = 117 ∧ ∀ j, I1 117 j = 0 := by
      obtain ⟨a1, a2, a3, a4⟩ := hO.a (r := 8) rfl
      exact ⟨⟨a1, a2⟩, a3, a4⟩
    have k9 : (tA S1 118 1 ∧ ln S1 118 = 9) ∧ sR S1 108 16 = 118 ∧ ∀ j, I1 118 j = 0 := by
      obtain ⟨a1, a2, a3, a4⟩ := hO.a (r := 9) rfl
      exact ⟨⟨a1, a2⟩, a3, a4⟩
    have k10 : (tA S1 119 1 ∧ ln S1 119 = 9) ∧ sR S1 108 17 = 119 ∧ ∀ j, I1 119 j = 0 := by
      obtain ⟨a1, a2, a3, a4⟩ := hO.a (r := 10) rfl
      exact ⟨⟨a1, a2⟩, a3, a4⟩
    have k11 : (tA S1 120 1 ∧ ln S1 120 = 64) ∧ sR S1 108 18 = 120 ∧ ∀ j, I1 120 j = 0 := by
      obtain ⟨a1, a2, a3, a4⟩ := hO.a (r := 11) rfl
      exact ⟨⟨a1, a2⟩, a3, a4⟩
    have k12 : (tA S1 121 1 ∧ ln S1 121 = 15) ∧ sR S1 108 19 = 121 ∧ ∀ j, I1 121 j = 0 := by
      obtain ⟨a1, a2, a3, a4⟩ := hO.a (r := 12) rfl
      exact ⟨⟨a1, a2⟩, a3, a4⟩
    have k13 : (tA S1 122 1 ∧ ln S1 122 = 6) ∧ sR S1 108 23 = 122 ∧ ∀ j, I1 122 j = 0 := by
      obtain ⟨a1, a2, a3, a4⟩ := hO.a (r := 13) rfl
      exact ⟨⟨a1, a2⟩, a3, a4⟩
    have hM : IsMo S1 := ⟨t0, ⟨k0.2.1, k1.2.1, k2.2.1, k3.2.1, k4.2.1, k5.2.1, k6.2.1, k7.2.1, k8.2.1, k9.2.1, k10.2.1, k11.2.1, k12.2.1, k13.2.1⟩, k0.1, k1.1, k2.1, k3.1, k4.1, k5.1, k6.1, k7.1, k8.1, k9.1, k10.1, k11.1, k12.1, k13.1⟩
    refine J.of (tk_X10_init S.1 S.2.1) 200 fun ρ hρ => ?_
    simp only [hρ, x_c, x_il, x_ll, x_al, x_is, x_as, x_ls, x_inc, x_ii, x_iq, x_i1, x_l2, x_lq, x_lh, x_i2l, x_l2i, x_lcmp, x_dup, x_dup2, x_pop, x_if, x_ifn, x_ic, x_icn, x_go, x_sw, swc, x_l01, x_mx, x_gI, x_gL, x_gR, x_pI, x_pZ, x_pL, x_pR, x_ia, x_za, x_aa, x_ias, x_zas, x_aas, x_fac, x_fa, x_slen, x_sa, x_ac, x_oi, x_new, x_na, x_cS, x_cV, x_cI, x_rI, x_rZ, x_rL, x_r0, pa, short, oc, lg, lset, lset2, wide, cond_true, cond_false, true_and, and_true, ↓reduceIte, Bool.false_eq_true, true_or, or_true, lf_X10_init, hM.f, P_X10_layOrder]
    have e117 : mS I1 108 (upd (I1 108) 2 2) 117 = I1 117 := mS_n (by omega)
    rw [e117]
    have hf : ∀ q, q ≠ 108 → q ≠ 117 → mS (mS I1 108 (upd (I1 108) 2 2)) 117 (idr (I1 117) 6) q = I1 q := fun q a b => by rw [mS_n b, mS_n a]
    have h8 : mS (mS I1 108 (upd (I1 108) 2 2)) 117 (idr (I1 117) 6) 108 = upd (I 108) 2 2 := by rw [mS_n (by omega), mS_s, i0]
    have z : ∀ j, j ≠ 2 → mS (mS I1 108 (upd (I1 108) 2 2)) 117 (idr (I1 117) 6) 108 j = 0 := fun j hj => by rw [h8, upd_app, if_neg hj]; exact z1 j
    refine hR _ e1 e2 (fun q hq => ?_) ⟨hM, ⟨z 1 (by omega), fun j hj => absurd hj (Nat.not_lt_zero j)⟩, ⟨?_, z 3 (by omega)⟩, ?_, ⟨z 7 (by omega), 0, by omega, z 8 (by omega), fun j hj => absurd hj (Nat.not_lt_zero j)⟩, fun i hi => ⟨?_, fun h => absurd h Bool.false_ne_true⟩, ⟨z 13 (by omega), fun j hj => absurd hj (Nat.not_lt_zero j)⟩, ?_, fun i hi => ?_⟩
    · have := hO.2.2.2.2.1 q hq
      exact ⟨this.1, this.2.1, (hf q (by omega) (by omega)).trans this.2.2.1, this.2.2.2⟩
    · show mS (mS I1 108 (upd (I1 108) 2 2)) 117 (idr (I1 117) 6) 108 2 = nI 2
      rw [h8]; rfl
    · show RW (mS (mS I1 108 (upd (I1 108) 2 2)) 117 (idr (I1 117) 6) 110) 0 a0
      rw [hf 110 (by omega) (by omega)]
      exact ⟨fun b _ => k1.2.2 _, fun b _ => k1.2.2 _, fun c hc => absurd hc (Nat.not_lt_zero c), fun j _ => k1.2.2 _, k1.2.2 _, k1.2.2 _⟩
    · show mS (mS I1 108 (upd (I1 108) 2 2)) 117 (idr (I1 117) 6) 114 i = 0
      rw [hf 114 (by omega) (by omega)]
      exact k5.2.2 i
    · show L1 108 14 = 0
      rw [l0]; exact z2 14
    · show mS (mS I1 108 (upd (I1 108) 2 2)) 117 (idr (I1 117) 6) 117 i = nI i
      rw [mS_s, idr, if_pos hi]
  have st13 : ∀ M, Ob 108 10 [(0, 1, 70), (4, 1, 80), (5, 1, 80), (6, 1, 1120), (9, 1, 160), (10, 2, 2), (11, 1, 6), (12, 1, 6), (15, 1, 6), (16, 1, 9), (17, 1, 9), (18, 1, 64), (19, 1, 15)] (S, I, L) M → J (mt_X10_init S.1 S.2.1) R 109 [some (.ref 108)] [] M := fun ⟨S1, I1, L1⟩ hO => by
    have e0 : S.1 = 108 + 1 := hO.1
    have e1 : S1.1 = 108 + 1 + 13 := hO.2.1
    have e2 : S1.2.1 = S.2.1 + 1627 := hO.2.2.1
    refine J.of (tk_X10_init S.1 S.2.1) 200 fun ρ hρ => ?_
    simp only [hρ, x_c, x_il, x_ll, x_al, x_is, x_as, x_ls, x_inc, x_ii, x_iq, x_i1, x_l2, x_lq, x_lh, x_i2l, x_l2i, x_lcmp, x_dup, x_dup2, x_pop, x_if, x_ifn, x_ic, x_icn, x_go, x_sw, swc, x_l01, x_mx, x_gI, x_gL, x_gR, x_pI, x_pZ, x_pL, x_pR, x_ia, x_za, x_aa, x_ias, x_zas, x_aas, x_fac, x_fa, x_slen, x_sa, x_ac, x_oi, x_new, x_na, x_cS, x_cV, x_cI, x_rI, x_rZ, x_rL, x_r0, pa, short, oc, lg, lset, lset2, wide, cond_true, cond_false, true_and, and_true, ↓reduceIte, Bool.false_eq_true, true_or, or_true, lf_X10_init, show (6 : Int32).toNatClampNeg = 6 by decide]
    exact ⟨by decide, by decide, by omega, by omega, by omega, hO.2.2.2.1.na, st14 _ (hO.st (by decide))⟩
  have st12 : ∀ M, Ob 108 10 [(0, 1, 70), (4, 1, 80), (5, 1, 80), (6, 1, 1120), (9, 1, 160), (10, 2, 2), (11, 1, 6), (12, 1, 6), (15, 1, 6), (16, 1, 9), (17, 1, 9), (18, 1, 64)] (S, I, L) M → J (mt_X10_init S.1 S.2.1) R 101 [some (.ref 108)] [] M := fun ⟨S1, I1, L1⟩ hO => by
    have e0 : S.1 = 108 + 1 := hO.1
    have e1 : S1.1 = 108 + 1 + 12 := hO.2.1
    have e2 : S1.2.1 = S.2.1 + 1612 := hO.2.2.1
    refine J.of (tk_X10_init S.1 S.2.1) 200 fun ρ hρ => ?_
    simp only [hρ, x_c, x_il, x_ll, x_al, x_is, x_as, x_ls, x_inc, x_ii, x_iq, x_i1, x_l2, x_lq, x_lh, x_i2l, x_l2i, x_lcmp, x_dup, x_dup2, x_pop, x_if, x_ifn, x_ic, x_icn, x_go, x_sw, swc, x_l01, x_mx, x_gI, x_gL, x_gR, x_pI, x_pZ, x_pL, x_pR, x_ia, x_za, x_aa, x_ias, x_zas, x_aas, x_fac, x_fa, x_slen, x_sa, x_ac, x_oi, x_new, x_na, x_cS, x_cV, x_cI, x_rI, x_rZ, x_rL, x_r0, pa, short, oc, lg, lset, lset2, wide, cond_true, cond_false, true_and, and_true, ↓reduceIte, Bool.false_eq_true, true_or, or_true, lf_X10_init, show (15 : Int32).toNatClampNeg = 15 by decide]
    exact ⟨by decide, by decide, by omega, by omega, by omega, hO.2.2.2.1.na, st13 _ (hO.st (by decide))⟩
  have st11 : ∀ M, Ob 108 10 [(0, 1, 70), (4, 1, 80), (5, 1, 80), (6, 1, 1120), (9, 1, 160), (10, 2, 2), (11, 1, 6), (12, 1, 6), (15, 1, 6), (16, 1, 9), (17, 1, 9)] (S, I, L) M → J (mt_X10_init S.1 S.2.1) R 93 [some (.ref 108)] [] M := fun ⟨S1, I1, L1⟩ hO => by
    have e0 : S.1 = 108 + 1 := hO.1
    have e1 : S1.1 = 108 + 1 + 11 := hO.2.1
    have e2 : S1.2.1 = S.2.1 + 1548 := hO.2.2.1
    refine J.of (tk_X10_init S.1 S.2.1) 200 fun ρ hρ => ?_
    simp only [hρ, x_c, x_il, x_ll, x_al, x_is, x_as, x_ls, x_inc, x_ii, x_iq, x_i1, x_l2, x_lq, x_lh, x_i2l, x_l2i, x_lcmp, x_dup, x_dup2, x_pop, x_if, x_ifn, x_ic, x_icn, x_go, x_sw, swc, x_l01, x_mx, x_gI, x_gL, x_gR, x_pI, x_pZ, x_pL, x_pR, x_ia, x_za, x_aa, x_ias, x_zas, x_aas, x_fac, x_fa, x_slen, x_sa, x_ac, x_oi, x_new, x_na, x_cS, x_cV, x_cI, x_rI, x_rZ, x_rL, x_r0, pa, short, oc, lg, lset, lset2, wide, cond_true, cond_false, true_and, and_true, ↓reduceIte, Bool.false_eq_true, true_or, or_true, lf_X10_init, show (64 : Int32).toNatClampNeg = 64 by decide]
    exact ⟨by decide, by decide, by omega, by omega, by omega, hO.2.2.2.1.na, st12 _ (hO.st (by decide))⟩
  have st10 : ∀ M, Ob 108 10 [(0, 1, 70), (4, 1, 80), (5, 1, 80), (6, 1, 1120), (9, 1, 160), (10, 2, 2), (11, 1, 6), (12, 1, 6), (15, 1, 6), (16, 1, 9)] (S, I, L) M → J (mt_X10_init S.1 S.2.1) R 85 [some (.ref 108)] [] M := fun ⟨S1, I1, L1⟩ hO => by
    have e0 : S.1 = 108 + 1 := hO.1
    have e1 : S1.1 = 108 + 1 + 10 := hO.2.1
    have e2 : S1.2.1 = S.2.1 + 1539 := hO.2.2.1
    refine J.of (tk_X10_init S.1 S.2.1) 200 fun ρ hρ => ?_
    simp only [hρ, x_c, x_il, x_ll, x_al, x_is, x_as, x_ls, x_inc, x_ii, x_iq, x_i1, x_l2, x_lq, x_lh, x_i2l, x_l2i, x_lcmp, x_dup, x_dup2, x_pop, x_if, x_ifn, x_ic, x_icn, x_go, x_sw, swc, x_l01, x_mx, x_gI, x_gL, x_gR, x_pI, x_pZ, x_pL, x_pR, x_ia, x_za, x_aa, x_ias, x_zas, x_aas, x_fac, x_fa, x_slen, x_sa, x_ac, x_oi, x_new, x_na, x_cS, x_cV, x_cI, x_rI, x_rZ, x_rL, x_r0, pa, short, oc, lg, lset, lset2, wide, cond_true, cond_false, true_and, and_true, ↓reduceIte, Bool.false_eq_true, true_or, or_true, lf_X10_init, show (9 : Int32).toNatClampNeg = 9 by decide]
    exact ⟨by decide, by decide, by omega, by omega, by omega, hO.2.2.2.1.na, st11 _ (hO.st (by decide))⟩
  have st9 : ∀ M, Ob 108 10 [(0, 1, 70), (4, 1, 80), (5, 1, 80), (6, 1, 1120), (9, 1, 160), (10, 2, 2), (11, 1, 6), (12, 1, 6), (15, 1, 6)] (S, I, L) M → J (mt_X10_init S.1 S.2.1) R 77 [some (.ref 108)] [] M := fun ⟨S1, I1, L1⟩ hO => by
    have e0 : S.1 = 108 + 1 := hO.1
    have e1 : S1.1 = 108 + 1 + 9 := hO.2.1
    have e2 : S1.2.1 = S.2.1 + 1530 := hO.2.2.1
    refine J.of (tk_X10_init S.1 S.2.1) 200 fun ρ hρ => ?_
    simp only [hρ, x_c, x_il, x_ll, x_al, x_is, x_as, x_ls, x_inc, x_ii, x_iq, x_i1, x_l2, x_lq, x_lh, x_i2l, x_l2i, x_lcmp, x_dup, x_dup2, x_pop, x_if, x_ifn, x_ic, x_icn, x_go, x_sw, swc, x_l01, x_mx, x_gI, x_gL, x_gR, x_pI, x_pZ, x_pL, x_pR, x_ia, x_za, x_aa, x_ias, x_zas, x_aas, x_fac, x_fa, x_slen, x_sa, x_ac, x_oi, x_new, x_na, x_cS, x_cV, x_cI, x_rI, x_rZ, x_rL, x_r0, pa, short, oc, lg, lset, lset2, wide, cond_true, cond_false, true_and, and_true, ↓reduceIte, Bool.false_eq_true, true_or, or_true, lf_X10_init, show (9 : Int32).toNatClampNeg = 9 by decide]
    exact ⟨by decide, by decide, by omega, by omega, by omega, hO.2.2.2.1.na, st10 _ (hO.st (by decide))⟩
  have st8 : ∀ M, Ob 108 10 [(0, 1, 70), (4, 1, 80), (5, 1, 80), (6, 1, 1120), (9, 1, 160), (10, 2, 2), (11, 1, 6), (12, 1, 6)] (S, I, L) M → J (mt_X10_init S.1 S.2.1) R 69 [some (.ref 108)] [] M := fun ⟨S1, I1, L1⟩ hO => by
    have e0 : S.1 = 108 + 1 := hO.1
    have e1 : S1.1 = 108 + 1 + 8 := hO.2.1
    have e2 : S1.2.1 = S.2.1 + 1524 := hO.2.2.1
    refine J.of (tk_X10_init S.1 S.2.1) 200 fun ρ hρ => ?_
    simp only [hρ, x_c, x_il, x_ll, x_al, x_is, x_as, x_ls, x_inc, x_ii, x_iq, x_i1, x_l2, x_lq, x_lh, x_i2l, x_l2i, x_lcmp, x_dup, x_dup2, x_pop, x_if, x_ifn, x_ic, x_icn, x_go, x_sw, swc, x_l01, x_mx, x_gI, x_gL, x_gR, x_pI, x_pZ, x_pL, x_pR, x_ia, x_za, x_aa, x_ias, x_zas, x_aas, x_fac, x_fa, x_slen, x_sa, x_ac, x_oi, x_new, x_na, x_cS, x_cV, x_cI, x_rI, x_rZ, x_rL, x_r0, pa, short, oc, lg, lset, lset2, wide, cond_true, cond_false, true_and, and_true, ↓reduceIte, Bool.false_eq_true, true_or, or_true, lf_X10_init, show (6 : Int32).toNatClampNeg = 6 by decide]
    exact ⟨by decide, by decide, by omega, by omega, by omega, hO.2.2.2.1.na, st9 _ (hO.st (by decide))⟩
  have st7 : ∀ M, Ob 108 10 [(0, 1, 70), (4, 1, 80), (5, 1, 80), (6, 1, 1120), (9, 1, 160), (10, 2, 2), (11, 1, 6)] (S, I, L) M → J (mt_X10_init S.1 S.2.1) R 61 [some (.ref 108)] [] M := fun ⟨S1, I1, L1⟩ hO => by
    have e0 : S.1 = 108 + 1 := hO.1
    have e1 : S1.1 = 108 + 1 + 7 := hO.2.1
    have e2 : S1.2.1 = S.2.1 + 1518 := hO.2.2.1
    refine J.of (tk_X10_init S.1 S.2.1) 200 fun ρ hρ => ?_
    simp only [hρ, x_c, x_il, x_ll, x_al, x_is, x_as, x_ls, x_inc, x_ii, x_iq, x_i1, x_l2, x_lq, x_lh, x_i2l, x_l2i, x_lcmp, x_dup, x_dup2, x_pop, x_if, x_ifn, x_ic, x_icn, x_go, x_sw, swc, x_l01, x_mx, x_gI, x_gL, x_gR, x_pI, x_pZ, x_pL, x_pR, x_ia, x_za, x_aa, x_ias, x_zas, x_aas, x_fac, x_fa, x_slen, x_sa, x_ac, x_oi, x_new, x_na, x_cS, x_cV, x_cI, x_rI, x_rZ, x_rL, x_r0, pa, short, oc, lg, lset, lset2, wide, cond_true, cond_false, true_and, and_true, ↓reduceIte, Bool.false_eq_true, true_or, or_true, lf_X10_init, show (6 : Int32).toNatClampNeg = 6 by decide]
    exact ⟨by decide, by decide, by omega, by omega, by omega, hO.2.2.2.1.na, st8 _ (hO.st (by decide))⟩
  have st6 : ∀ M, Ob 108 10 [(0, 1, 70), (4, 1, 80), (5, 1, 80), (6, 1, 1120), (9, 1, 160), (10, 2, 2)] (S, I, L) M → J (mt_X10_init S.1 S.2.1) R 53 [some (.ref 108)] [] M := fun ⟨S1, I1, L1⟩ hO => by
    have e0 : S.1 = 108 + 1 := hO.1
    have e1 : S1.1 = 108 + 1 + 6 := hO.2.1
    have e2 : S1.2.1 = S.2.1 + 1512 := hO.2.2.1
    refine J.of (tk_X10_init S.1 S.2.1) 200 fun ρ hρ => ?_
    simp only [hρ, x_c, x_il, x_ll, x_al, x_is, x_as, x_ls, x_inc, x_ii, x_iq, x_i1, x_l2, x_lq, x_lh, x_i2l, x_l2i, x_lcmp, x_dup, x_dup2, x_pop, x_if, x_ifn, x_ic, x_icn, x_go, x_sw, swc, x_l01, x_mx, x_gI, x_gL, x_gR, x_pI, x_pZ, x_pL, x_pR, x_ia, x_za, x_aa, x_ias, x_zas, x_aas, x_fac, x_fa, x_slen, x_sa, x_ac, x_oi, x_new, x_na, x_cS, x_cV, x_cI, x_rI, x_rZ, x_rL, x_r0, pa, short, oc, lg, lset, lset2, wide, cond_true, cond_false, true_and, and_true, ↓reduceIte, Bool.false_eq_true, true_or, or_true, lf_X10_init, show (6 : Int32).toNatClampNeg = 6 by decide]
    exact ⟨by decide, by decide, by omega, by omega, by omega, hO.2.2.2.1.na, st7 _ (hO.st (by decide))⟩
  have st5 : ∀ M, Ob 108 10 [(0, 1, 70), (4, 1, 80), (5, 1, 80), (6, 1, 1120), (9, 1, 160)] (S, I, L) M → J (mt_X10_init S.1 S.2.1) R 46 [some (.ref 108)] [] M := fun ⟨S1, I1, L1⟩ hO => by
    have e0 : S.1 = 108 + 1 := hO.1
    have e1 : S1.1 = 108 + 1 + 5 := hO.2.1
    have e2 : S1.2.1 = S.2.1 + 1510 := hO.2.2.1
    refine J.of (tk_X10_init S.1 S.2.1) 200 fun ρ hρ => ?_
    simp only [hρ, x_c, x_il, x_ll, x_al, x_is, x_as, x_ls, x_inc, x_ii, x_iq, x_i1, x_l2, x_lq, x_lh, x_i2l, x_l2i, x_lcmp, x_dup, x_dup2, x_pop, x_if, x_ifn, x_ic, x_icn, x_go, x_sw, swc, x_l01, x_mx, x_gI, x_gL, x_gR, x_pI, x_pZ, x_pL, x_pR, x_ia, x_za, x_aa, x_ias, x_zas, x_aas, x_fac, x_fa, x_slen, x_sa, x_ac, x_oi, x_new, x_na, x_cS, x_cV, x_cI, x_rI, x_rZ, x_rL, x_r0, pa, short, oc, lg, lset, lset2, wide, cond_true, cond_false, true_and, and_true, ↓reduceIte, Bool.false_eq_true, true_or, or_true, lf_X10_init, show (2 : Int32).toNatClampNeg = 2 by decide]
    exact ⟨by decide, by decide, by omega, by omega, by omega, hO.2.2.2.1.na, st6 _ (hO.st (by decide))⟩
  have st4 : ∀ M, Ob 108 10 [(0, 1, 70), (4, 1, 80), (5, 1, 80), (6, 1, 1120)] (S, I, L) M → J (mt_X10_init S.1 S.2.1) R 37 [some (.ref 108)] [] M := fun ⟨S1, I1, L1⟩ hO => by
    have e0 : S.1 = 108 + 1 := hO.1
    have e1 : S1.1 = 108 + 1 + 4 := hO.2.1
    have e2 : S1.2.1 = S.2.1 + 1350 := hO.2.2.1
    refine J.of (tk_X10_init S.1 S.2.1) 200 fun ρ hρ => ?_
    simp only [hρ, x_c, x_il, x_ll, x_al, x_is, x_as, x_ls, x_inc, x_ii, x_iq, x_i1, x_l2, x_lq, x_lh, x_i2l, x_l2i, x_lcmp, x_dup, x_dup2, x_pop, x_if, x_ifn, x_ic, x_icn, x_go, x_sw, swc, x_l01, x_mx, x_gI, x_gL, x_gR, x_pI, x_pZ, x_pL, x_pR, x_ia, x_za, x_aa, x_ias, x_zas, x_aas, x_fac, x_fa, x_slen, x_sa, x_ac, x_oi, x_new, x_na, x_cS, x_cV, x_cI, x_rI, x_rZ, x_rL, x_r0, pa, short, oc, lg, lset, lset2, wide, cond_true, cond_false, true_and, and_true, ↓reduceIte, Bool.false_eq_true, true_or, or_true, lf_X10_init, show (160 : Int32).toNatClampNeg = 160 by decide]
    exact ⟨by decide, by decide, by omega, by omega, by omega, hO.2.2.2.1.na, st5 _ (hO.st (by decide))⟩
  have st3 : ∀ M, Ob 108 10 [(0, 1, 70), (4, 1, 80), (5, 1, 80)] (S, I, L) M → J (mt_X10_init S.1 S.2.1) R 28 [some (.ref 108)] [] M := fun ⟨S1, I1, L1⟩ hO => by
    have e0 : S.1 = 108 + 1 := hO.1
    have e1 : S1.1 = 108 + 1 + 3 := hO.2.1
    have e2 : S1.2.1 = S.2.1 + 230 := hO.2.2.1
    refine J.of (tk_X10_init S.1 S.2.1) 200 fun ρ hρ => ?_
    simp only [hρ, x_c, x_il, x_ll, x_al, x_is, x_as, x_ls, x_inc, x_ii, x_iq, x_i1, x_l2, x_lq, x_lh, x_i2l, x_l2i, x_lcmp, x_dup, x_dup2, x_pop, x_if, x_ifn, x_ic, x_icn, x_go, x_sw, swc, x_l01, x_mx, x_gI, x_gL, x_gR, x_pI, x_pZ, x_pL, x_pR, x_ia, x_za, x_aa, x_ias, x_zas, x_aas, x_fac, x_fa, x_slen, x_sa, x_ac, x_oi, x_new, x_na, x_cS, x_cV, x_cI, x_rI, x_rZ, x_rL, x_r0, pa, short, oc, lg, lset, lset2, wide, cond_true, cond_false, true_and, and_true, ↓reduceIte, Bool.false_eq_true, true_or, or_true, lf_X10_init, show (1120 : Int32).toNatClampNeg = 1120 by decide]
    exact ⟨by decide, by decide, by omega, by omega, by omega, hO.2.2.2.1.na, st4 _ (hO.st (by decide))⟩
  have st2 : ∀ M, Ob 108 10 [(0, 1, 70), (4, 1, 80)] (S, I, L) M → J (mt_X10_init S.1 S.2.1) R 20 [some (.ref 108)] [] M := fun ⟨S1, I1, L1⟩ hO => by
    have e0 : S.1 = 108 + 1 := hO.1
    have e1 : S1.1 = 108 + 1 + 2 := hO.2.1
    have e2 : S1.2.1 = S.2.1 + 150 := hO.2.2.1
    refine J.of (tk_X10_init S.1 S.2.1) 200 fun ρ hρ => ?_
    simp only [hρ, x_c, x_il, x_ll, x_al, x_is, x_as, x_ls, x_inc, x_ii, x_iq, x_i1, x_l2, x_lq, x_lh, x_i2l, x_l2i, x_lcmp, x_dup, x_dup2, x_pop, x_if, x_ifn, x_ic, x_icn, x_go, x_sw, swc, x_l01, x_mx, x_gI, x_gL, x_gR, x_pI, x_pZ, x_pL, x_pR, x_ia, x_za, x_aa, x_ias, x_zas, x_aas, x_fac, x_fa, x_slen, x_sa, x_ac, x_oi, x_new, x_na, x_cS, x_cV, x_cI, x_rI, x_rZ, x_rL, x_r0, pa, short, oc, lg, lset, lset2, wide, cond_true, cond_false, true_and, and_true, ↓reduceIte, Bool.false_eq_true, true_or, or_true, lf_X10_init, show (80 : Int32).toNatClampNeg = 80 by decide]
    exact ⟨by decide, by decide, by omega, by omega, by omega, hO.2.2.2.1.na, st3 _ (hO.st (by decide))⟩
  have st1 : ∀ M, Ob 108 10 [(0, 1, 70)] (S, I, L) M → J (mt_X10_init S.1 S.2.1) R 12 [some (.ref 108)] [] M := fun ⟨S1, I1, L1⟩ hO => by
    have e0 : S.1 = 108 + 1 := hO.1
    have e1 : S1.1 = 108 + 1 + 1 := hO.2.1
    have e2 : S1.2.1 = S.2.1 + 70 := hO.2.2.1
    refine J.of (tk_X10_init S.1 S.2.1) 200 fun ρ hρ => ?_
    simp only [hρ, x_c, x_il, x_ll, x_al, x_is, x_as, x_ls, x_inc, x_ii, x_iq, x_i1, x_l2, x_lq, x_lh, x_i2l, x_l2i, x_lcmp, x_dup, x_dup2, x_pop, x_if, x_ifn, x_ic, x_icn, x_go, x_sw, swc, x_l01, x_mx, x_gI, x_gL, x_gR, x_pI, x_pZ, x_pL, x_pR, x_ia, x_za, x_aa, x_ias, x_zas, x_aas, x_fac, x_fa, x_slen, x_sa, x_ac, x_oi, x_new, x_na, x_cS, x_cV, x_cI, x_rI, x_rZ, x_rL, x_r0, pa, short, oc, lg, lset, lset2, wide, cond_true, cond_false, true_and, and_true, ↓reduceIte, Bool.false_eq_true, true_or, or_true, lf_X10_init, show (80 : Int32).toNatClampNeg = 80 by decide]
    exact ⟨by decide, by decide, by omega, by omega, by omega, hO.2.2.2.1.na, st2 _ (hO.st (by decide))⟩
  have st0 : ∀ M, Ob 108 10 [] (S, I, L) M → J (mt_X10_init S.1 S.2.1) R 4 [some (.ref 108)] [] M := fun ⟨S1, I1, L1⟩ hO => by
    have e0 : S.1 = 108 + 1 := hO.1
    have e1 : S1.1 = 108 + 1 + 0 := hO.2.1
    have e2 : S1.2.1 = S.2.1 + 0 := hO.2.2.1
    refine J.of (tk_X10_init S.1 S.2.1) 200 fun ρ hρ => ?_
    simp only [hρ, x_c, x_il, x_ll, x_al, x_is, x_as, x_ls, x_inc, x_ii, x_iq, x_i1, x_l2, x_lq, x_lh, x_i2l, x_l2i, x_lcmp, x_dup, x_dup2, x_pop, x_if, x_ifn, x_ic, x_icn, x_go, x_sw, swc, x_l01, x_mx, x_gI, x_gL, x_gR, x_pI, x_pZ, x_pL, x_pR, x_ia, x_za, x_aa, x_ias, x_zas, x_aas, x_fac, x_fa, x_slen, x_sa, x_ac, x_oi, x_new, x_na, x_cS, x_cV, x_cI, x_rI, x_rZ, x_rL, x_r0, pa, short, oc, lg, lset, lset2, wide, cond_true, cond_false, true_and, and_true, ↓reduceIte, Bool.false_eq_true, true_or, or_true, lf_X10_init, show (70 : Int32).toNatClampNeg = 70 by decide]
    exact ⟨by decide, by decide, by omega, by omega, by omega, hO.2.2.2.1.na, st1 _ (hO.st (by decide))⟩
  refine J.of (tk_X10_init S.1 S.2.1) 200 fun ρ hρ => ?_
  simp only [hρ, x_c, x_il, x_ll, x_al, x_is, x_as, x_ls, x_inc, x_ii, x_iq, x_i1, x_l2, x_lq, x_lh, x_i2l, x_l2i, x_lcmp, x_dup, x_dup2, x_pop, x_if, x_ifn, x_ic, x_icn, x_go, x_sw, swc, x_l01, x_mx, x_gI, x_gL, x_gR, x_pI, x_pZ, x_pL, x_pR, x_ia, x_za, x_aa, x_ias, x_zas, x_aas, x_fac, x_fa, x_slen, x_sa, x_ac, x_oi, x_new, x_na, x_cS, x_cV, x_cI, x_rI, x_rZ, x_rL, x_r0, pa, short, oc, lg, lset, lset2, wide, cond_true, cond_false, true_and, and_true, ↓reduceIte, Bool.false_eq_true, true_or, or_true, lf_X10_init, x_o2]
  exact ⟨(show ¬ (108 : Nat) = 9999 by decide), st0 _ (Ob.zero hn ht)⟩
/-- the class stays while the model is made -/
theorem CR.gr {S S' : Sh} {I I' : MI} {L L' : Nat → Nat → Int64} {g : GS} (h : CR S I L g) (hG : Gr 0 108 S S') (hI : ∀ q, q < 108 → I' q = I q) (hL : L' 0 = L 0) : CR S' I' L' g := by
  obtain ⟨⟨⟨a1, a2, a3, a4, a5, a6, a7, a8, a9, b1, b2⟩, c1, c2, c3, c4, c5, c6, c7, c8, c9, d1, d2, d3⟩, h2, h3, h4, h5, h6, h7, h8⟩ := h
  refine ⟨⟨⟨hG.O (by omega) a1, hG.r (by omega) (by omega) a2, hG.r (by omega) (by omega) a3, hG.r (by omega) (by omega) a4, hG.r (by omega) (by omega) a5, hG.r (by omega) (by omega) a6, hG.r (by omega) (by omega) a7, hG.r (by omega) (by omega) a8, hG.r (by omega) (by omega) a9, hG.r (by omega) (by omega) b1, hG.r (by omega) (by omega) b2⟩, c1.gr hG (by omega) (by omega), c2.gr hG (by omega) (by omega), c3.gr hG (by omega) (by omega), c4.gr hG (by omega) (by omega), c5.gr hG (by omega) (by omega), c6.gr hG (by omega) (by omega), c7.gr hG (by omega) (by omega), c8.gr hG (by omega) (by omega), c9.gr hG (by omega) (by omega), d1.gr hG (by omega) (by omega), d2.gr hG (by omega) (by omega), d3.gr hG (by omega) (by omega)⟩, h2.fr (hI 1 (by omega)) (hI 2 (by omega)), h3.fr (fun q a b => hI q (by omega)), h4.fr (fun q a b => hI q (by omega)), h5.fr (fun q a b => hI q (by omega)), h6.fr (hI 93 (by omega)) (hI 94 (by omega)) (hI 95 (by omega)), by rw [hL]; exact h7, h8.fr (hI 16 (by omega))⟩
