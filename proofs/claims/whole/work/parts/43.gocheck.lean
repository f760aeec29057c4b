/-! A ROUND of the model -/
def QR (f : Nat → Int32) (c : Nat) : Nat → Int32 := fun b => f (9 + b) - f (24 + 9 * c + b)
def gkF (f : Nat → Int32) (n s c N : Nat) : Nat → Int32 := fun j => if 9 ≤ j ∧ j < 9 + N ∧ s.testBit (j - 9) = true then hld (QR f c (j - 9) + nmS (QR f c) s (j - 9) n (f 78)) (-99) 99 else if 24 + 9 * c ≤ j ∧ j < 24 + 9 * c + N ∧ s.testBit (j - (24 + 9 * c)) = true then nmS (QR f c) s (j - (24 + 9 * c)) n (f 78) else f j
theorem gkF_0 (f : Nat → Int32) (n s c : Nat) : gkF f n s c 0 = f := by funext j; rw [gkF, if_neg (by omega), if_neg (by omega)]
theorem gkF_n {f : Nat → Int32} {n s c N : Nat} (h : ¬ s.testBit N = true) : gkF f n s c (N + 1) = gkF f n s c N := by
  funext j
  simp only [gkF]
  by_cases h1 : j = 9 + N
  · subst h1
    rw [if_neg (fun q => h (by rw [show 9 + N - 9 = N by omega] at q; exact q.2.2)), if_neg (show ¬ (9 ≤ 9 + N ∧ 9 + N < 9 + N ∧ _) from fun q => by omega)]
    by_cases h2 : 9 + N = 24 + 9 * c + N
    · omega
    · by_cases h3 : 24 + 9 * c ≤ 9 + N ∧ 9 + N < 24 + 9 * c + N ∧ s.testBit (9 + N - (24 + 9 * c)) = true
      · rw [if_pos h3, if_pos ⟨h3.1, by omega, h3.2.2⟩]
      · rw [if_neg h3, if_neg (fun q => h3 ⟨q.1, by omega, q.2.2⟩)]
  · by_cases h2 : 9 ≤ j ∧ j < 9 + N ∧ s.testBit (j - 9) = true
    · rw [if_pos h2, if_pos ⟨h2.1, by omega, h2.2.2⟩]
    · rw [if_neg h2, if_neg (fun q => h2 ⟨q.1, by omega, q.2.2⟩)]
      by_cases h4 : j = 24 + 9 * c + N
      · subst h4
        rw [if_neg (fun q => h (by rw [show 24 + 9 * c + N - (24 + 9 * c) = N by omega] at q; exact q.2.2)), if_neg (fun q => by omega)]
      · by_cases h3 : 24 + 9 * c ≤ j ∧ j < 24 + 9 * c + N ∧ s.testBit (j - (24 + 9 * c)) = true
        · rw [if_pos h3, if_pos ⟨h3.1, by omega, h3.2.2⟩]
        · rw [if_neg h3, if_neg (fun q => h3 ⟨q.1, by omega, q.2.2⟩)]
theorem gkF_s {f : Nat → Int32} {n s c N : Nat} (hN : N < 9) (h : s.testBit N = true) : upd (upd (gkF f n s c N) (24 + 9 * c + N) (nmS (QR f c) s N n (f 78))) (9 + N) (hld (QR f c N + nmS (QR f c) s N n (f 78)) (-99) 99) = gkF f n s c (N + 1) := by
  funext j
  rw [upd_app, upd_app]
  simp only [gkF]
  by_cases h1 : j = 9 + N
  · subst h1
    rw [if_pos rfl, if_pos (by rw [show 9 + N - 9 = N by omega]; exact ⟨by omega, by omega, h⟩), show 9 + N - 9 = N by omega]
  · rw [if_neg h1]
    by_cases h4 : j = 24 + 9 * c + N
    · subst h4
      rw [if_pos rfl, if_neg (fun q => by omega), if_pos (by rw [show 24 + 9 * c + N - (24 + 9 * c) = N by omega]; exact ⟨by omega, by omega, h⟩), show 24 + 9 * c + N - (24 + 9 * c) = N by omega]
    · rw [if_neg h4]
      by_cases h2 : 9 ≤ j ∧ j < 9 + N ∧ s.testBit (j - 9) = true
      · rw [if_pos h2, if_pos ⟨h2.1, by omega, h2.2.2⟩]
      · rw [if_neg h2, if_neg (show ¬ (9 ≤ j ∧ j < 9 + (N + 1) ∧ s.testBit (j - 9) = true) from fun q => h2 ⟨q.1, by omega, q.2.2⟩)]
        by_cases h3 : 24 + 9 * c ≤ j ∧ j < 24 + 9 * c + N ∧ s.testBit (j - (24 + 9 * c)) = true
        · rw [if_pos h3, if_pos ⟨h3.1, by omega, h3.2.2⟩]
        · rw [if_neg h3, if_neg (fun q => h3 ⟨q.1, by omega, q.2.2⟩)]
/-- filled up to i -/
def acF (Q g : Nat → Int32) (i : Nat) : Nat → Int32 := fun j => if j < i then Q j else g j
theorem acF_0 (Q g : Nat → Int32) : acF Q g 0 = g := by funext j; simp [acF]
theorem acF_s (Q g : Nat → Int32) (i : Nat) : upd (acF Q g i) i (Q i) = acF Q g (i + 1) := by
  funext j
  simp only [upd_app, acF]
  by_cases h : j = i
  · subst h; simp
  · by_cases h2 : j < i
    · simp [h, h2, show j < i + 1 by omega]
    · simp [h, h2, show ¬ j < i + 1 by omega]
theorem bx1 {t : Bool} (h : ¬ t = true) : bB (t != false) = 0 := by revert h; cases t <;> decide
theorem bx2 {t : Bool} (h : ¬ ¬ t = true) : bB (t != false) = 1 := by revert h; cases t <;> decide
theorem bx3 {t : Bool} (h : bB t = 1) : bB (t != true) = 0 := by revert h; cases t <;> decide
theorem bx4 {t : Bool} (h : ¬ bB t = 1) : bB (t != true) = 1 := by revert h; cases t <;> decide
def il_X10_goCheck : List (Nat × Instr × Nat) := [(0, .aload_n 1, 1), (1, .bipush 18, 2), (3, .iload_n 2, 1), (4, .iadd, 1), (5, .iaload, 1), (6, .istore_n 3, 1), (7, .iconst 0, 1), (8, .istore 4, 2), (10, .iload 4, 2), (12, .aload_n 0, 1), (13, .getfield 53, 3), (16, .if_icmp .ge 36, 3), (19, .aload_n 0, 1), (20, .getfield 38, 3), (23, .iload 4, 2), (25, .aload_n 1, 1), (26, .bipush 9, 2), (28, .iload 4, 2), (30, .iadd, 1), (31, .iaload, 1), (32, .aload_n 1, 1), (33, .bipush 24, 2), (35, .bipush 9, 2), (37, .iload_n 2, 1), (38, .imul, 1), (39, .iadd, 1), (40, .iload 4, 2), (42, .iadd, 1), (43, .iaload, 1), (44, .isub, 1), (45, .iastore, 1), (46, .iinc 4 1, 3), (49, .goto (-39), 3), (52, .iconst 0, 1), (53, .istore 4, 2), (55, .iload 4, 2), (57, .aload_n 0, 1), (58, .getfield 53, 3), (61, .if_icmp .ge 207, 3), (64, .iload_n 3, 1), (65, .iload 4, 2), (67, .invokestatic 102, 3), (70, .ifCond .eq 192, 3), (73, .bipush 99, 2), (75, .istore 5, 2), (77, .iconst 0, 1), (78, .istore 6, 2), (80, .iconst 0, 1), (81, .istore 7, 2), (83, .iload 7, 2), (85, .aload_n 0, 1), (86, .getfield 53, 3), (89, .if_icmp .ge 98, 3), (92, .iload 7, 2), (94, .iload 4, 2), (96, .if_icmp .eq 85, 3), (99, .iload_n 3, 1), (100, .iload 7, 2), (102, .invokestatic 102, 3), (105, .ifCond .eq 76, 3), (108, .aload_n 0, 1), (109, .getfield 38, 3), (112, .iload 7, 2), (114, .iaload, 1), (115, .ifCond .ge 14, 3), (118, .aload_n 0, 1), (119, .getfield 38, 3), (122, .iload 7, 2), (124, .iaload, 1), (125, .ineg, 1), (126, .goto 10, 3), (129, .aload_n 0, 1), (130, .getfield 38, 3), (133, .iload 7, 2), (135, .iaload, 1), (136, .istore 8, 2), (138, .iload 8, 2), (140, .iload 5, 2), (142, .if_icmp .ge 8, 3), (145, .iload 8, 2), (147, .goto 5, 3), (150, .iload 5, 2), (152, .istore 5, 2), (154, .iload 6, 2), (156, .aload_n 0, 1), (157, .getfield 38, 3), (160, .iload 7, 2), (162, .iaload, 1), (163, .ifCond .ge 7, 3), (166, .iconst 1, 1), (167, .goto 4, 3), (170, .iconst 0, 1), (171, .if_icmp .eq 7, 3), (174, .iconst 1, 1), (175, .goto 4, 3), (178, .iconst 0, 1), (179, .istore 6, 2), (181, .iinc 7 1, 3), (184, .goto (-101), 3), (187, .iload 5, 2), (189, .aload_n 1, 1), (190, .bipush 78, 2), (192, .iaload, 1), (193, .isub, 1), (194, .iconst 0, 1), (195, .bipush 31, 2), (197, .invokestatic 106, 3), (200, .istore 7, 2), (202, .aload_n 1, 1), (203, .bipush 24, 2), (205, .bipush 9, 2), (207, .iload_n 2, 1), (208, .imul, 1), (209, .iadd, 1), (210, .iload 4, 2), (212, .iadd, 1), (213, .iload 6, 2), (215, .ifCond .eq 9, 3), (218, .iload 7, 2), (220, .ineg, 1), (221, .goto 5, 3), (224, .iload 7, 2), (226, .iastore, 1), (227, .aload_n 1, 1), (228, .bipush 9, 2), (230, .iload 4, 2), (232, .iadd, 1), (233, .aload_n 0, 1), (234, .getfield 38, 3), (237, .iload 4, 2), (239, .iaload, 1), (240, .iload 6, 2), (242, .ifCond .eq 9, 3), (245, .iload 7, 2), (247, .ineg, 1), (248, .goto 5, 3), (251, .iload 7, 2), (253, .iadd, 1), (254, .bipush (-99), 2), (256, .bipush 99, 2), (258, .invokestatic 106, 3), (261, .iastore, 1), (262, .iinc 4 1, 3), (265, .goto (-210), 3), (268, .return_, 1)]
def mt_X10_goCheck : Mt := (cX10_goCheck, RX10, 9, none, ({ frames := 1, cells := 0, slots := 0, locals := 22 } : Room), false, none, none)
set_option maxRecDepth 100000 in
theorem dl_X10_goCheck : ∀ q ∈ il_X10_goCheck, decode (mt_X10_goCheck).1 q.1 = .ok q.2 := by decide +kernel
def tb_X10_goCheck : Tb := [(0, x_al 1 1, false),
  (1, x_c 3 (.int 18), false),
  (3, x_il 4 2, false),
  (4, x_ii 5 (fun x y : Int32 => x + y), false),
  (5, x_ia 6, false),
  (6, x_is 7 3, false),
  (7, x_c 8 (.int 0), false),
  (8, x_is 10 4, false),
  (10, x_il 12 4, true),
  (12, x_al 13 0, false),
  (13, x_gI 10 2 16, false),
  (16, x_ic 52 19 (fun x y : Int32 => y ≤ x), false),
  (19, x_al 20 0, false),
  (20, x_gR 10 16 23, false),
  (23, x_il 25 4, false),
  (25, x_al 26 1, false),
  (26, x_c 28 (.int 9), false),
  (28, x_il 30 4, false),
  (30, x_ii 31 (fun x y : Int32 => x + y), false),
  (31, x_ia 32, false),
  (32, x_al 33 1, false),
  (33, x_c 35 (.int 24), false),
  (35, x_c 37 (.int 9), false),
  (37, x_il 38 2, false),
  (38, x_ii 39 (fun x y : Int32 => x * y), false),
  (39, x_ii 40 (fun x y : Int32 => x + y), false),
  (40, x_il 42 4, false),
  (42, x_ii 43 (fun x y : Int32 => x + y), false),
  (43, x_ia 44, false),
  (44, x_ii 45 (fun x y : Int32 => x - y), false),
  (45, x_ias 46, false),
  (46, x_inc 49 4 1, false),
  (49, x_go 10, false),
  (52, x_c 53 (.int 0), false),
  (53, x_is 55 4, false),
  (55, x_il 57 4, true),
  (57, x_al 58 0, false),
  (58, x_gI 10 2 61, false),
  (61, x_ic 268 64 (fun x y : Int32 => y ≤ x), false),
  (64, x_il 65 3, false),
  (65, x_il 67 4, false),
  (67, x_cS 2 P_X10_has 70, false),
  (70, x_if 262 73 (fun x : Int32 => x = 0), false),
  (73, x_c 75 (.int 99), false),
  (75, x_is 77 5, false),
  (77, x_c 78 (.int 0), false),
  (78, x_is 80 6, false),
  (80, x_c 81 (.int 0), false),
  (81, x_is 83 7, false),
  (83, x_il 85 7, true),
  (85, x_al 86 0, false),
  (86, x_gI 10 2 89, false),
  (89, x_ic 187 92 (fun x y : Int32 => y ≤ x), false),
  (92, x_il 94 7, false),
  (94, x_il 96 4, false),
  (96, x_ic 181 99 (fun x y : Int32 => x = y), false),
  (99, x_il 100 3, false),
  (100, x_il 102 7, false),
  (102, x_cS 2 P_X10_has 105, false),
  (105, x_if 181 108 (fun x : Int32 => x = 0), false),
  (108, x_al 109 0, false),
  (109, x_gR 10 16 112, false),
  (112, x_il 114 7, false),
  (114, x_ia 115, false),
  (115, x_if 129 118 (fun x : Int32 => 0 ≤ x), false),
  (118, x_al 119 0, false),
  (119, x_gR 10 16 122, false),
  (122, x_il 124 7, false),
  (124, x_ia 125, false),
  (125, x_i1 126 (fun x : Int32 => -x), false),
  (126, x_go 136, false),
  (129, x_al 130 0, false),
  (130, x_gR 10 16 133, false),
  (133, x_il 135 7, false),
  (135, x_ia 136, false),
  (136, x_is 138 8, false),
  (138, x_il 140 8, false),
  (140, x_il 142 5, false),
  (142, x_ic 150 145 (fun x y : Int32 => y ≤ x), false),
  (145, x_il 147 8, false),
  (147, x_go 152, false),
  (150, x_il 152 5, false),
  (152, x_is 154 5, false),
  (154, x_il 156 6, false),
  (156, x_al 157 0, false),
  (157, x_gR 10 16 160, false),
  (160, x_il 162 7, false),
  (162, x_ia 163, false),
  (163, x_if 170 166 (fun x : Int32 => 0 ≤ x), false),
  (166, x_c 167 (.int 1), false),
  (167, x_go 171, false),
  (170, x_c 171 (.int 0), false),
  (171, x_ic 178 174 (fun x y : Int32 => x = y), false),
  (174, x_c 175 (.int 1), false),
  (175, x_go 179, false),
  (178, x_c 179 (.int 0), false),
  (179, x_is 181 6, false),
  (181, x_inc 184 7 1, false),
  (184, x_go 83, false),
  (187, x_il 189 5, true),
  (189, x_al 190 1, false),
  (190, x_c 192 (.int 78), false),
  (192, x_ia 193, false),
  (193, x_ii 194 (fun x y : Int32 => x - y), false),
  (194, x_c 195 (.int 0), false),
  (195, x_c 197 (.int 31), false),
  (197, x_cS 3 P_X10_held 200, false),
  (200, x_is 202 7, false),
  (202, x_al 203 1, false),
  (203, x_c 205 (.int 24), false),
  (205, x_c 207 (.int 9), false),
  (207, x_il 208 2, false),
  (208, x_ii 209 (fun x y : Int32 => x * y), false),
  (209, x_ii 210 (fun x y : Int32 => x + y), false),
  (210, x_il 212 4, false),
  (212, x_ii 213 (fun x y : Int32 => x + y), false),
  (213, x_il 215 6, false),
  (215, x_if 224 218 (fun x : Int32 => x = 0), false),
  (218, x_il 220 7, false),
  (220, x_i1 221 (fun x : Int32 => -x), false),
  (221, x_go 226, false),
  (224, x_il 226 7, false),
  (226, x_ias 227, false),
  (227, x_al 228 1, false),
  (228, x_c 230 (.int 9), false),
  (230, x_il 232 4, false),
  (232, x_ii 233 (fun x y : Int32 => x + y), false),
  (233, x_al 234 0, false),
  (234, x_gR 10 16 237, false),
  (237, x_il 239 4, false),
  (239, x_ia 240, false),
  (240, x_il 242 6, false),
  (242, x_if 251 245 (fun x : Int32 => x = 0), false),
  (245, x_il 247 7, false),
  (247, x_i1 248 (fun x : Int32 => -x), false),
  (248, x_go 253, false),
  (251, x_il 253 7, false),
  (253, x_ii 254 (fun x y : Int32 => x + y), false),
  (254, x_c 256 (.int (-99)), false),
  (256, x_c 258 (.int 99), false),
  (258, x_cS 3 P_X10_held 261, false),
  (261, x_ias 262, false),
  (262, x_inc 265 4 1, false),
  (265, x_go 55, false),
  (268, x_r0, false)]
set_option maxRecDepth 100000 in
theorem tk_X10_goCheck : TbOk (mt_X10_goCheck) (tb_X10_goCheck) :=
  tkc (s_aload_n (at_ dl_X10_goCheck 0 (ins := .aload_n 1) rfl)) (
  tkc (s_bipush (at_ dl_X10_goCheck 1 (ins := .bipush 18) rfl) (by first | rfl | decide)) (
  tkc (s_iload_n (at_ dl_X10_goCheck 2 (ins := .iload_n 2) rfl)) (
  tkc (s_iadd (at_ dl_X10_goCheck 3 (ins := .iadd) rfl)) (
  tkc (s_ia (at_ dl_X10_goCheck 4 (ins := .iaload) rfl)) (
  tkc (s_istore_n (at_ dl_X10_goCheck 5 (ins := .istore_n 3) rfl) (by decide)) (
  tkc (s_iconst (at_ dl_X10_goCheck 6 (ins := .iconst 0) rfl) (by first | rfl | decide)) (
  tkc (s_istore (at_ dl_X10_goCheck 7 (ins := .istore 4) rfl) (by decide)) (
  tkc (s_iload (at_ dl_X10_goCheck 8 (ins := .iload 4) rfl)) (
  tkc (s_aload_n (at_ dl_X10_goCheck 9 (ins := .aload_n 0) rfl)) (
  tkc (s_gI (at_ dl_X10_goCheck 10 (ins := .getfield 53) rfl) (by decide) (by decide) (by decide) (tg 698 (by decide +kernel) (by decide +kernel))) (
  tkc (s_ic_ge (at_ dl_X10_goCheck 11 (ins := .if_icmp .ge 36) rfl) (by decide)) (
  tkc (s_aload_n (at_ dl_X10_goCheck 12 (ins := .aload_n 0) rfl)) (
  tkc (s_gR (at_ dl_X10_goCheck 13 (ins := .getfield 38) rfl) (by decide) (by decide) (by decide) (tg 712 (by decide +kernel) (by decide +kernel))) (
  tkc (s_iload (at_ dl_X10_goCheck 14 (ins := .iload 4) rfl)) (
  tkc (s_aload_n (at_ dl_X10_goCheck 15 (ins := .aload_n 1) rfl)) (
  tkc (s_bipush (at_ dl_X10_goCheck 16 (ins := .bipush 9) rfl) (by first | rfl | decide)) (
  tkc (s_iload (at_ dl_X10_goCheck 17 (ins := .iload 4) rfl)) (
  tkc (s_iadd (at_ dl_X10_goCheck 18 (ins := .iadd) rfl)) (
  tkc (s_ia (at_ dl_X10_goCheck 19 (ins := .iaload) rfl)) (
  tkc (s_aload_n (at_ dl_X10_goCheck 20 (ins := .aload_n 1) rfl)) (
  tkc (s_bipush (at_ dl_X10_goCheck 21 (ins := .bipush 24) rfl) (by first | rfl | decide)) (
  tkc (s_bipush (at_ dl_X10_goCheck 22 (ins := .bipush 9) rfl) (by first | rfl | decide)) (
  tkc (s_iload_n (at_ dl_X10_goCheck 23 (ins := .iload_n 2) rfl)) (
  tkc (s_imul (at_ dl_X10_goCheck 24 (ins := .imul) rfl)) (
  tkc (s_iadd (at_ dl_X10_goCheck 25 (ins := .iadd) rfl)) (
  tkc (s_iload (at_ dl_X10_goCheck 26 (ins := .iload 4) rfl)) (
  tkc (s_iadd (at_ dl_X10_goCheck 27 (ins := .iadd) rfl)) (
  tkc (s_ia (at_ dl_X10_goCheck 28 (ins := .iaload) rfl)) (
  tkc (s_isub (at_ dl_X10_goCheck 29 (ins := .isub) rfl)) (
  tkc (s_ias (at_ dl_X10_goCheck 30 (ins := .iastore) rfl)) (
  tkc (s_iinc (at_ dl_X10_goCheck 31 (ins := .iinc 4 1) rfl) (by decide) (by first | rfl | decide)) (
  tkc (s_goto (at_ dl_X10_goCheck 32 (ins := .goto (-39)) rfl) (by decide)) (
  tkc (s_iconst (at_ dl_X10_goCheck 33 (ins := .iconst 0) rfl) (by first | rfl | decide)) (
  tkc (s_istore (at_ dl_X10_goCheck 34 (ins := .istore 4) rfl) (by decide)) (
  tkc (s_iload (at_ dl_X10_goCheck 35 (ins := .iload 4) rfl)) (
  tkc (s_aload_n (at_ dl_X10_goCheck 36 (ins := .aload_n 0) rfl)) (
  tkc (s_gI (at_ dl_X10_goCheck 37 (ins := .getfield 53) rfl) (by decide) (by decide) (by decide) (tg 698 (by decide +kernel) (by decide +kernel))) (
  tkc (s_ic_ge (at_ dl_X10_goCheck 38 (ins := .if_icmp .ge 207) rfl) (by decide)) (
  tkc (s_iload_n (at_ dl_X10_goCheck 39 (ins := .iload_n 3) rfl)) (
  tkc (s_iload (at_ dl_X10_goCheck 40 (ins := .iload 4) rfl)) (
  tkc (s_cS ok_X10_has (at_ dl_X10_goCheck 41 (ins := .invokestatic 102) rfl) (tg 828 (by decide +kernel) (by decide +kernel)) (tg 829 (by decide +kernel) (by decide +kernel)) (tg 51 (by decide +kernel) (by decide +kernel)) (tg 830 (by decide +kernel) (by decide +kernel)) (⟨by decide, by decide, by decide +kernel⟩) (⟨by decide, by decide⟩) rfl rfl) (
  tkc (s_if_eq (at_ dl_X10_goCheck 42 (ins := .ifCond .eq 192) rfl) (by decide)) (
  tkc (s_bipush (at_ dl_X10_goCheck 43 (ins := .bipush 99) rfl) (by first | rfl | decide)) (
  tkc (s_istore (at_ dl_X10_goCheck 44 (ins := .istore 5) rfl) (by decide)) (
  tkc (s_iconst (at_ dl_X10_goCheck 45 (ins := .iconst 0) rfl) (by first | rfl | decide)) (
  tkc (s_istore (at_ dl_X10_goCheck 46 (ins := .istore 6) rfl) (by decide)) (
  tkc (s_iconst (at_ dl_X10_goCheck 47 (ins := .iconst 0) rfl) (by first | rfl | decide)) (
  tkc (s_istore (at_ dl_X10_goCheck 48 (ins := .istore 7) rfl) (by decide)) (
  tkc (s_iload (at_ dl_X10_goCheck 49 (ins := .iload 7) rfl)) (
  tkc (s_aload_n (at_ dl_X10_goCheck 50 (ins := .aload_n 0) rfl)) (
  tkc (s_gI (at_ dl_X10_goCheck 51 (ins := .getfield 53) rfl) (by decide) (by decide) (by decide) (tg 698 (by decide +kernel) (by decide +kernel))) (
  tkc (s_ic_ge (at_ dl_X10_goCheck 52 (ins := .if_icmp .ge 98) rfl) (by decide)) (
  tkc (s_iload (at_ dl_X10_goCheck 53 (ins := .iload 7) rfl)) (
  tkc (s_iload (at_ dl_X10_goCheck 54 (ins := .iload 4) rfl)) (
  tkc (s_ic_eq (at_ dl_X10_goCheck 55 (ins := .if_icmp .eq 85) rfl) (by decide)) (
  tkc (s_iload_n (at_ dl_X10_goCheck 56 (ins := .iload_n 3) rfl)) (
  tkc (s_iload (at_ dl_X10_goCheck 57 (ins := .iload 7) rfl)) (
  tkc (s_cS ok_X10_has (at_ dl_X10_goCheck 58 (ins := .invokestatic 102) rfl) (tg 828 (by decide +kernel) (by decide +kernel)) (tg 829 (by decide +kernel) (by decide +kernel)) (tg 51 (by decide +kernel) (by decide +kernel)) (tg 830 (by decide +kernel) (by decide +kernel)) (⟨by decide, by decide, by decide +kernel⟩) (⟨by decide, by decide⟩) rfl rfl) (
  tkc (s_if_eq (at_ dl_X10_goCheck 59 (ins := .ifCond .eq 76) rfl) (by decide)) (
  tkc (s_aload_n (at_ dl_X10_goCheck 60 (ins := .aload_n 0) rfl)) (
  tkc (s_gR (at_ dl_X10_goCheck 61 (ins := .getfield 38) rfl) (by decide) (by decide) (by decide) (tg 712 (by decide +kernel) (by decide +kernel))) (
  tkc (s_iload (at_ dl_X10_goCheck 62 (ins := .iload 7) rfl)) (
  tkc (s_ia (at_ dl_X10_goCheck 63 (ins := .iaload) rfl)) (
  tkc (s_if_ge (at_ dl_X10_goCheck 64 (ins := .ifCond .ge 14) rfl) (by decide)) (
  tkc (s_aload_n (at_ dl_X10_goCheck 65 (ins := .aload_n 0) rfl)) (
  tkc (s_gR (at_ dl_X10_goCheck 66 (ins := .getfield 38) rfl) (by decide) (by decide) (by decide) (tg 712 (by decide +kernel) (by decide +kernel))) (
  tkc (s_iload (at_ dl_X10_goCheck 67 (ins := .iload 7) rfl)) (
  tkc (s_ia (at_ dl_X10_goCheck 68 (ins := .iaload) rfl)) (
  tkc (s_ineg (at_ dl_X10_goCheck 69 (ins := .ineg) rfl)) (
  tkc (s_goto (at_ dl_X10_goCheck 70 (ins := .goto 10) rfl) (by decide)) (
  tkc (s_aload_n (at_ dl_X10_goCheck 71 (ins := .aload_n 0) rfl)) (
  tkc (s_gR (at_ dl_X10_goCheck 72 (ins := .getfield 38) rfl) (by decide) (by decide) (by decide) (tg 712 (by decide +kernel) (by decide +kernel))) (
  tkc (s_iload (at_ dl_X10_goCheck 73 (ins := .iload 7) rfl)) (
  tkc (s_ia (at_ dl_X10_goCheck 74 (ins := .iaload) rfl)) (
  tkc (s_istore (at_ dl_X10_goCheck 75 (ins := .istore 8) rfl) (by decide)) (
  tkc (s_iload (at_ dl_X10_goCheck 76 (ins := .iload 8) rfl)) (
  tkc (s_iload (at_ dl_X10_goCheck 77 (ins := .iload 5) rfl)) (
  tkc (s_ic_ge (at_ dl_X10_goCheck 78 (ins := .if_icmp .ge 8) rfl) (by decide)) (
  tkc (s_iload (at_ dl_X10_goCheck 79 (ins := .iload 8) rfl)) (
  tkc (s_goto (at_ dl_X10_goCheck 80 (ins := .goto 5) rfl) (by decide)) (
  tkc (s_iload (at_ dl_X10_goCheck 81 (ins := .iload 5) rfl)) (
  tkc (s_istore (at_ dl_X10_goCheck 82 (ins := .istore 5) rfl) (by decide)) (
  tkc (s_iload (at_ dl_X10_goCheck 83 (ins := .iload 6) rfl)) (
  tkc (s_aload_n (at_ dl_X10_goCheck 84 (ins := .aload_n 0) rfl)) (
  tkc (s_gR (at_ dl_X10_goCheck 85 (ins := .getfield 38) rfl) (by decide) (by decide) (by decide) (tg 712 (by decide +kernel) (by decide +kernel))) (
  tkc (s_iload (at_ dl_X10_goCheck 86 (ins := .iload 7) rfl)) (
  tkc (s_ia (at_ dl_X10_goCheck 87 (ins := .iaload) rfl)) (
  tkc (s_if_ge (at_ dl_X10_goCheck 88 (ins := .ifCond .ge 7) rfl) (by decide)) (
  tkc (s_iconst (at_ dl_X10_goCheck 89 (ins := .iconst 1) rfl) (by first | rfl | decide)) (
  tkc (s_goto (at_ dl_X10_goCheck 90 (ins := .goto 4) rfl) (by decide)) (
  tkc (s_iconst (at_ dl_X10_goCheck 91 (ins := .iconst 0) rfl) (by first | rfl | decide)) (
  tkc (s_ic_eq (at_ dl_X10_goCheck 92 (ins := .if_icmp .eq 7) rfl) (by decide)) (
  tkc (s_iconst (at_ dl_X10_goCheck 93 (ins := .iconst 1) rfl) (by first | rfl | decide)) (
  tkc (s_goto (at_ dl_X10_goCheck 94 (ins := .goto 4) rfl) (by decide)) (
  tkc (s_iconst (at_ dl_X10_goCheck 95 (ins := .iconst 0) rfl) (by first | rfl | decide)) (
  tkc (s_istore (at_ dl_X10_goCheck 96 (ins := .istore 6) rfl) (by decide)) (
  tkc (s_iinc (at_ dl_X10_goCheck 97 (ins := .iinc 7 1) rfl) (by decide) (by first | rfl | decide)) (
  tkc (s_goto (at_ dl_X10_goCheck 98 (ins := .goto (-101)) rfl) (by decide)) (
  tkc (s_iload (at_ dl_X10_goCheck 99 (ins := .iload 5) rfl)) (
  tkc (s_aload_n (at_ dl_X10_goCheck 100 (ins := .aload_n 1) rfl)) (
  tkc (s_bipush (at_ dl_X10_goCheck 101 (ins := .bipush 78) rfl) (by first | rfl | decide)) (
  tkc (s_ia (at_ dl_X10_goCheck 102 (ins := .iaload) rfl)) (
  tkc (s_isub (at_ dl_X10_goCheck 103 (ins := .isub) rfl)) (
  tkc (s_iconst (at_ dl_X10_goCheck 104 (ins := .iconst 0) rfl) (by first | rfl | decide)) (
  tkc (s_bipush (at_ dl_X10_goCheck 105 (ins := .bipush 31) rfl) (by first | rfl | decide)) (
  tkc (s_cS ok_X10_held (at_ dl_X10_goCheck 106 (ins := .invokestatic 106) rfl) (tg 865 (by decide +kernel) (by decide +kernel)) (tg 866 (by decide +kernel) (by decide +kernel)) (tg 51 (by decide +kernel) (by decide +kernel)) (tg 867 (by decide +kernel) (by decide +kernel)) (⟨by decide, by decide, by decide +kernel⟩) (⟨by decide, by decide⟩) rfl rfl) (
  tkc (s_istore (at_ dl_X10_goCheck 107 (ins := .istore 7) rfl) (by decide)) (
  tkc (s_aload_n (at_ dl_X10_goCheck 108 (ins := .aload_n 1) rfl)) (
  tkc (s_bipush (at_ dl_X10_goCheck 109 (ins := .bipush 24) rfl) (by first | rfl | decide)) (
  tkc (s_bipush (at_ dl_X10_goCheck 110 (ins := .bipush 9) rfl) (by first | rfl | decide)) (
  tkc (s_iload_n (at_ dl_X10_goCheck 111 (ins := .iload_n 2) rfl)) (
  tkc (s_imul (at_ dl_X10_goCheck 112 (ins := .imul) rfl)) (
  tkc (s_iadd (at_ dl_X10_goCheck 113 (ins := .iadd) rfl)) (
  tkc (s_iload (at_ dl_X10_goCheck 114 (ins := .iload 4) rfl)) (
  tkc (s_iadd (at_ dl_X10_goCheck 115 (ins := .iadd) rfl)) (
  tkc (s_iload (at_ dl_X10_goCheck 116 (ins := .iload 6) rfl)) (
  tkc (s_if_eq (at_ dl_X10_goCheck 117 (ins := .ifCond .eq 9) rfl) (by decide)) (
  tkc (s_iload (at_ dl_X10_goCheck 118 (ins := .iload 7) rfl)) (
  tkc (s_ineg (at_ dl_X10_goCheck 119 (ins := .ineg) rfl)) (
  tkc (s_goto (at_ dl_X10_goCheck 120 (ins := .goto 5) rfl) (by decide)) (
  tkc (s_iload (at_ dl_X10_goCheck 121 (ins := .iload 7) rfl)) (
  tkc (s_ias (at_ dl_X10_goCheck 122 (ins := .iastore) rfl)) (
  tkc (s_aload_n (at_ dl_X10_goCheck 123 (ins := .aload_n 1) rfl)) (
  tkc (s_bipush (at_ dl_X10_goCheck 124 (ins := .bipush 9) rfl) (by first | rfl | decide)) (
  tkc (s_iload (at_ dl_X10_goCheck 125 (ins := .iload 4) rfl)) (
  tkc (s_iadd (at_ dl_X10_goCheck 126 (ins := .iadd) rfl)) (
  tkc (s_aload_n (at_ dl_X10_goCheck 127 (ins := .aload_n 0) rfl)) (
  tkc (s_gR (at_ dl_X10_goCheck 128 (ins := .getfield 38) rfl) (by decide) (by decide) (by decide) (tg 712 (by decide +kernel) (by decide +kernel))) (
  tkc (s_iload (at_ dl_X10_goCheck 129 (ins := .iload 4) rfl)) (
  tkc (s_ia (at_ dl_X10_goCheck 130 (ins := .iaload) rfl)) (
  tkc (s_iload (at_ dl_X10_goCheck 131 (ins := .iload 6) rfl)) (
  tkc (s_if_eq (at_ dl_X10_goCheck 132 (ins := .ifCond .eq 9) rfl) (by decide)) (
  tkc (s_iload (at_ dl_X10_goCheck 133 (ins := .iload 7) rfl)) (
  tkc (s_ineg (at_ dl_X10_goCheck 134 (ins := .ineg) rfl)) (
  tkc (s_goto (at_ dl_X10_goCheck 135 (ins := .goto 5) rfl) (by decide)) (
  tkc (s_iload (at_ dl_X10_goCheck 136 (ins := .iload 7) rfl)) (
  tkc (s_iadd (at_ dl_X10_goCheck 137 (ins := .iadd) rfl)) (
  tkc (s_bipush (at_ dl_X10_goCheck 138 (ins := .bipush (-99)) rfl) (by first | rfl | decide)) (
  tkc (s_bipush (at_ dl_X10_goCheck 139 (ins := .bipush 99) rfl) (by first | rfl | decide)) (
  tkc (s_cS ok_X10_held (at_ dl_X10_goCheck 140 (ins := .invokestatic 106) rfl) (tg 865 (by decide +kernel) (by decide +kernel)) (tg 866 (by decide +kernel) (by decide +kernel)) (tg 51 (by decide +kernel) (by decide +kernel)) (tg 867 (by decide +kernel) (by decide +kernel)) (⟨by decide, by decide, by decide +kernel⟩) (⟨by decide, by decide⟩) rfl rfl) (
  tkc (s_ias (at_ dl_X10_goCheck 141 (ins := .iastore) rfl)) (
  tkc (s_iinc (at_ dl_X10_goCheck 142 (ins := .iinc 4 1) rfl) (by decide) (by first | rfl | decide)) (
  tkc (s_goto (at_ dl_X10_goCheck 143 (ins := .goto (-210)) rfl) (by decide)) (
  tkc (s_r0 (at_ dl_X10_goCheck 144 (ins := .return_) rfl) rfl) ( tk0)))))))))))))))))))))))))))))))))))))))))))))))))))))))))))))))))))))))))))))))))))))))))))))))))))))))))))))))))))))))))))))))))))))))))))))))))
set_option maxRecDepth 100000 in
theorem lf_X10_goCheck : lk (tb_X10_goCheck) 0 = (x_al 1 1, false) ∧ lk (tb_X10_goCheck) 1 = (x_c 3 (.int 18), false) ∧ lk (tb_X10_goCheck) 3 = (x_il 4 2, false) ∧ lk (tb_X10_goCheck) 4 = (x_ii 5 (fun x y : Int32 => x + y), false) ∧ lk (tb_X10_goCheck) 5 = (x_ia 6, false) ∧ lk (tb_X10_goCheck) 6 = (x_is 7 3, false) ∧ lk (tb_X10_goCheck) 7 = (x_c 8 (.int 0), false) ∧ lk (tb_X10_goCheck) 8 = (x_is 10 4, false) ∧ lk (tb_X10_goCheck) 10 = (x_il 12 4, true) ∧ lk (tb_X10_goCheck) 12 = (x_al 13 0, false) ∧ lk (tb_X10_goCheck) 13 = (x_gI 10 2 16, false) ∧ lk (tb_X10_goCheck) 16 = (x_ic 52 19 (fun x y : Int32 => y ≤ x), false) ∧ lk (tb_X10_goCheck) 19 = (x_al 20 0, false) ∧ lk (tb_X10_goCheck) 20 = (x_gR 10 16 23, false) ∧ lk (tb_X10_goCheck) 23 = (x_il 25 4, false) ∧ lk (tb_X10_goCheck) 25 = (x_al 26 1, false) ∧ lk (tb_X10_goCheck) 26 = (x_c 28 (.int 9), false) ∧ lk (tb_X10_goCheck) 28 = (x_il 30 4, false) ∧ lk (tb_X10_goCheck) 30 = (x_ii 31 (fun x y : Int32 => x + y), false) ∧ lk (tb_X10_goCheck) 31 = (x_ia 32, false) ∧ lk (tb_X10_goCheck) 32 = (x_al 33 1, false) ∧ lk (tb_X10_goCheck) 33 = (x_c 35 (.int 24), false) ∧ lk (tb_X10_goCheck) 35 = (x_c 37 (.int 9), false) ∧ lk (tb_X10_goCheck) 37 = (x_il 38 2, false) ∧ lk (tb_X10_goCheck) 38 = (x_ii 39 (fun x y : Int32 => x * y), false) ∧ lk (tb_X10_goCheck) 39 = (x_ii 40 (fun x y : Int32 => x + y), false) ∧ lk (tb_X10_goCheck) 40 = (x_il 42 4, false) ∧ lk (tb_X10_goCheck) 42 = (x_ii 43 (fun x y : Int32 => x + y), false) ∧ lk (tb_X10_goCheck) 43 = (x_ia 44, false) ∧ lk (tb_X10_goCheck) 44 = (x_ii 45 (fun x y : Int32 => x - y), false) ∧ lk (tb_X10_goCheck) 45 = (x_ias 46, false) ∧ lk (tb_X10_goCheck) 46 = (x_inc 49 4 1, false) ∧ lk (tb_X10_goCheck) 49 = (x_go 10, false) ∧ lk (tb_X10_goCheck) 52 = (x_c 53 (.int 0), false) ∧ lk (tb_X10_goCheck) 53 = (x_is 55 4, false) ∧ lk (tb_X10_goCheck) 55 = (x_il 57 4, true) ∧ lk (tb_X10_goCheck) 57 = (x_al 58 0, false) ∧ lk (tb_X10_goCheck) 58 = (x_gI 10 2 61, false) ∧ lk (tb_X10_goCheck) 61 = (x_ic 268 64 (fun x y : Int32 => y ≤ x), false) ∧ lk (tb_X10_goCheck) 64 = (x_il 65 3, false) ∧ lk (tb_X10_goCheck) 65 = (x_il 67 4, false) ∧ lk (tb_X10_goCheck) 67 = (x_cS 2 P_X10_has 70, false) ∧ lk (tb_X10_goCheck) 70 = (x_if 262 73 (fun x : Int32 => x = 0), false) ∧ lk (tb_X10_goCheck) 73 = (x_c 75 (.int 99), false) ∧ lk (tb_X10_goCheck) 75 = (x_is 77 5, false) ∧ lk (tb_X10_goCheck) 77 = (x_c 78 (.int 0), false) ∧ lk (tb_X10_goCheck) 78 = (x_is 80 6, false) ∧ lk (tb_X10_goCheck) 80 = (x_c 81 (.int 0), false) ∧ lk (tb_X10_goCheck) 81 = (x_is 83 7, false) ∧ lk (tb_X10_goCheck) 83 = (x_il 85 7, true) ∧ lk (tb_X10_goCheck) 85 = (x_al 86 0, false) ∧ lk (tb_X10_goCheck) 86 = (x_gI 10 2 89, false) ∧ lk (tb_X10_goCheck) 89 = (x_ic 187 92 (fun x y : Int32 => y ≤ x), false) ∧ lk (tb_X10_goCheck) 92 = (x_il 94 7, false) ∧ lk (tb_X10_goCheck) 94 = (x_il 96 4, false) ∧ lk (tb_X10_goCheck) 96 = (x_ic 181 99 (fun x y : Int32 => x = y), false) ∧ lk (tb_X10_goCheck) 99 = (x_il 100 3, false) ∧ lk (tb_X10_goCheck) 100 = (x_il 102 7, false) ∧ lk (tb_X10_goCheck) 102 = (x_cS 2 P_X10_has 105, false) ∧ lk (tb_X10_goCheck) 105 = (x_if 181 108 (fun x : Int32 => x = 0), false) ∧ lk (tb_X10_goCheck) 108 = (x_al 109 0, false) ∧ lk (tb_X10_goCheck) 109 = (x_gR 10 16 112, false) ∧ lk (tb_X10_goCheck) 112 = (x_il 114 7, false) ∧ lk (tb_X10_goCheck) 114 = (x_ia 115, false) ∧ lk (tb_X10_goCheck) 115 = (x_if 129 118 (fun x : Int32 => 0 ≤ x), false) ∧ lk (tb_X10_goCheck) 118 = (x_al 119 0, false) ∧ lk (tb_X10_goCheck) 119 = (x_gR 10 16 122, false) ∧ lk (tb_X10_goCheck) 122 = (x_il 124 7, false) ∧ lk (tb_X10_goCheck) 124 = (x_ia 125, false) ∧ lk (tb_X10_goCheck) 125 = (x_i1 126 (fun x : Int32 => -x), false) ∧ lk (tb_X10_goCheck) 126 = (x_go 136, false) ∧ lk (tb_X10_goCheck) 129 = (x_al 130 0, false) ∧ lk (tb_X10_goCheck) 130 = (x_gR 10 16 133, false) ∧ lk (tb_X10_goCheck) 133 = (x_il 135 7, false) ∧ lk (tb_X10_goCheck) 135 = (x_ia 136, false) ∧ lk (tb_X10_goCheck) 136 = (x_is 138 8, false) ∧ lk (tb_X10_goCheck) 138 = (x_il 140 8, false) ∧ lk (tb_X10_goCheck) 140 = (x_il 142 5, false) ∧ lk (tb_X10_goCheck) 142 = (x_ic 150 145 (fun x y : Int32 => y ≤ x), false) ∧ lk (tb_X10_goCheck) 145 = (x_il 147 8, false) ∧ lk (tb_X10_goCheck) 147 = (x_go 152, false) ∧ lk (tb_X10_goCheck) 150 = (x_il 152 5, false) ∧ lk (tb_X10_goCheck) 152 = (x_is 154 5, false) ∧ lk (tb_X10_goCheck) 154 = (x_il 156 6, false) ∧ lk (tb_X10_goCheck) 156 = (x_al 157 0, false) ∧ lk (tb_X10_goCheck) 157 = (x_gR 10 16 160, false) ∧ lk (tb_X10_goCheck) 160 = (x_il 162 7, false) ∧ lk (tb_X10_goCheck) 162 = (x_ia 163, false) ∧ lk (tb_X10_goCheck) 163 = (x_if 170 166 (fun x : Int32 => 0 ≤ x), false) ∧ lk (tb_X10_goCheck) 166 = (x_c 167 (.int 1), false) ∧ lk (tb_X10_goCheck) 167 = (x_go 171, false) ∧ lk (tb_X10_goCheck) 170 = (x_c 171 (.int 0), false) ∧ lk (tb_X10_goCheck) 171 = (x_ic 178 174 (fun x y : Int32 => x = y), false) ∧ lk (tb_X10_goCheck) 174 = (x_c 175 (.int 1), false) ∧ lk (tb_X10_goCheck) 175 = (x_go 179, false) ∧ lk (tb_X10_goCheck) 178 = (x_c 179 (.int 0), false) ∧ lk (tb_X10_goCheck) 179 = (x_is 181 6, false) ∧ lk (tb_X10_goCheck) 181 = (x_inc 184 7 1, false) ∧ lk (tb_X10_goCheck) 184 = (x_go 83, false) ∧ lk (tb_X10_goCheck) 187 = (x_il 189 5, true) ∧ lk (tb_X10_goCheck) 189 = (x_al 190 1, false) ∧ lk (tb_X10_goCheck) 190 = (x_c 192 (.int 78), false) ∧ lk (tb_X10_goCheck) 192 = (x_ia 193, false) ∧ lk (tb_X10_goCheck) 193 = (x_ii 194 (fun x y : Int32 => x - y), false) ∧ lk (tb_X10_goCheck) 194 = (x_c 195 (.int 0), false) ∧ lk (tb_X10_goCheck) 195 = (x_c 197 (.int 31), false) ∧ lk (tb_X10_goCheck) 197 = (x_cS 3 P_X10_held 200, false) ∧ lk (tb_X10_goCheck) 200 = (x_is 202 7, false) ∧ lk (tb_X10_goCheck) 202 = (x_al 203 1, false) ∧ lk (tb_X10_goCheck) 203 = (x_c 205 (.int 24), false) ∧ lk (tb_X10_goCheck) 205 = (x_c 207 (.int 9), false) ∧ lk (tb_X10_goCheck) 207 = (x_il 208 2, false) ∧ lk (tb_X10_goCheck) 208 = (x_ii 209 (fun x y : Int32 => x * y), false) ∧ lk (tb_X10_goCheck) 209 = (x_ii 210 (fun x y : Int32 => x + y), false) ∧ lk (tb_X10_goCheck) 210 = (x_il 212 4, false) ∧ lk (tb_X10_goCheck) 212 = (x_ii 213 (fun x y : Int32 => x + y), false) ∧ lk (tb_X10_goCheck) 213 = (x_il 215 6, false) ∧ lk (tb_X10_goCheck) 215 = (x_if 224 218 (fun x : Int32 => x = 0), false) ∧ lk (tb_X10_goCheck) 218 = (x_il 220 7, false) ∧ lk (tb_X10_goCheck) 220 = (x_i1 221 (fun x : Int32 => -x), false) ∧ lk (tb_X10_goCheck) 221 = (x_go 226, false) ∧ lk (tb_X10_goCheck) 224 = (x_il 226 7, false) ∧ lk (tb_X10_goCheck) 226 = (x_ias 227, false) ∧ lk (tb_X10_goCheck) 227 = (x_al 228 1, false) ∧ lk (tb_X10_goCheck) 228 = (x_c 230 (.int 9), false) ∧ lk (tb_X10_goCheck) 230 = (x_il 232 4, false) ∧ lk (tb_X10_goCheck) 232 = (x_ii 233 (fun x y : Int32 => x + y), false) ∧ lk (tb_X10_goCheck) 233 = (x_al 234 0, false) ∧ lk (tb_X10_goCheck) 234 = (x_gR 10 16 237, false) ∧ lk (tb_X10_goCheck) 237 = (x_il 239 4, false) ∧ lk (tb_X10_goCheck) 239 = (x_ia 240, false) ∧ lk (tb_X10_goCheck) 240 = (x_il 242 6, false) ∧ lk (tb_X10_goCheck) 242 = (x_if 251 245 (fun x : Int32 => x = 0), false) ∧ lk (tb_X10_goCheck) 245 = (x_il 247 7, false) ∧ lk (tb_X10_goCheck) 247 = (x_i1 248 (fun x : Int32 => -x), false) ∧ lk (tb_X10_goCheck) 248 = (x_go 253, false) ∧ lk (tb_X10_goCheck) 251 = (x_il 253 7, false) ∧ lk (tb_X10_goCheck) 253 = (x_ii 254 (fun x y : Int32 => x + y), false) ∧ lk (tb_X10_goCheck) 254 = (x_c 256 (.int (-99)), false) ∧ lk (tb_X10_goCheck) 256 = (x_c 258 (.int 99), false) ∧ lk (tb_X10_goCheck) 258 = (x_cS 3 P_X10_held 261, false) ∧ lk (tb_X10_goCheck) 261 = (x_ias 262, false) ∧ lk (tb_X10_goCheck) 262 = (x_inc 265 4 1, false) ∧ lk (tb_X10_goCheck) 265 = (x_go 55, false) ∧ lk (tb_X10_goCheck) 268 = (x_r0, false) := ⟨rfl, rfl, rfl, rfl, rfl, rfl, rfl, rfl, rfl, rfl, rfl, rfl, rfl, rfl, rfl, rfl, rfl, rfl, rfl, rfl, rfl, rfl, rfl, rfl, rfl, rfl, rfl, rfl, rfl, rfl, rfl, rfl, rfl, rfl, rfl, rfl, rfl, rfl, rfl, rfl, rfl, rfl, rfl, rfl, rfl, rfl, rfl, rfl, rfl, rfl, rfl, rfl, rfl, rfl, rfl, rfl, rfl, rfl, rfl, rfl, rfl, rfl, rfl, rfl, rfl, rfl, rfl, rfl, rfl, rfl, rfl, rfl, rfl, rfl, rfl, rfl, rfl, rfl, rfl, rfl, rfl, rfl, rfl, rfl, rfl, rfl, rfl, rfl, rfl, rfl, rfl, rfl, rfl, rfl, rfl, rfl, rfl, rfl, rfl, rfl, rfl, rfl, rfl, rfl, rfl, rfl, rfl, rfl, rfl, rfl, rfl, rfl, rfl, rfl, rfl, rfl, rfl, rfl, rfl, rfl, rfl, rfl, rfl, rfl, rfl, rfl, rfl, rfl, rfl, rfl, rfl, rfl, rfl, rfl, rfl, rfl, rfl, rfl, rfl, rfl, rfl, rfl, rfl, rfl, rfl⟩
def P_X10_goCheck : PTT := fun as M R => match as with
  | [.ref z, .ref k, .int x] => z = 108 ∧ tO M.1 108 10 ∧ sR M.1 108 16 = 118 ∧ (tA M.1 118 1 ∧ ln M.1 118 = 9) ∧ (tA M.1 k 1 ∧ ln M.1 k = 80) ∧ k ≠ 108 ∧ k ≠ 118 ∧ ∃ n c s, n ≤ 9 ∧ c < 6 ∧ s < 512 ∧ x = nI c ∧ M.2.1 108 2 = nI n ∧ M.2.1 k (18 + c) = nI s ∧ ∀ I', (∀ q, q ≠ k → q ≠ 118 → I' q = M.2.1 q) → I' k = gkF (M.2.1 k) n s c n → R none (M.1, I', M.2.2)
  | _ => False
set_option maxRecDepth 20000 in
theorem ok_X10_goCheck : Ok yX10_goCheck mt_X10_goCheck P_X10_goCheck := by
  refine Ok.of (by decide) rfl rfl rfl rfl fun av ⟨S, I, L⟩ R hP => ?_
  unfold P_X10_goCheck at hP
  split at hP
  case h_2 => exact hP.elim
  rename_i z k x
  obtain ⟨z, rfl⟩ : ∃ q : Nat, q = z := ⟨z, rfl⟩
  obtain ⟨k, rfl⟩ : ∃ q : Nat, q = k := ⟨k, rfl⟩
  refine ⟨by simp [ent, wide, mt_X10_goCheck], ?_⟩
  show J mt_X10_goCheck R 0 [some (.ref z), some (.ref k), some (.int x), none, none, none, none, none, none] [] (S, I, L)
  try dsimp only at hP
  obtain ⟨rfl, h1, h2, ⟨h3, h4⟩, ⟨h5, h6⟩, hk1, hk2, n, c, s, hn, hc, hs, rfl, en, es, hR⟩ := hP
  have e18 : (18 : Int32) = nI 18 := by decide
  have e24 : (24 : Int32) = nI 24 := by decide
  -- the loop over the bits
  have main := up (P := fun b => ∀ A, (∀ j, j < n → A j = QR (I k) c j) → J mt_X10_goCheck R 55 [some (.ref 108), some (.ref k), some (.int (nI c)), some (.int (nI s)), some (.int (nI b)), none, none, none, none] [] (S, mS (mS I 118 A) k (gkF (I k) n s c b), L)) (n := n) (fun b hb ih A hA => ?_) 0 (Nat.zero_le _)
  · have first := up (P := fun b => J mt_X10_goCheck R 10 [some (.ref 108), some (.ref k), some (.int (nI c)), some (.int (nI s)), some (.int (nI b)), none, none, none, none] [] (S, mS I 118 (acF (QR (I k) c) (I 118) b), L)) (n := n) (fun b hb ih => ?_) 0 (Nat.zero_le _)
    · rw [acF_0, mS_id] at first
      refine J.of tk_X10_goCheck 200 fun ρ hρ => ?_
      simp only [hρ, x_c, x_il, x_ll, x_al, x_is, x_as, x_ls, x_inc, x_ii, x_iq, x_i1, x_l2, x_lq, x_lh, x_i2l, x_l2i, x_lcmp, x_dup, x_dup2, x_pop, x_if, x_ifn, x_ic, x_icn, x_go, x_sw, swc, x_l01, x_mx, x_gI, x_gL, x_gR, x_pI, x_pZ, x_pL, x_pR, x_ia, x_za, x_aa, x_ias, x_zas, x_aas, x_fac, x_fa, x_slen, x_sa, x_ac, x_oi, x_new, x_na, x_cS, x_cV, x_cI, x_rI, x_rZ, x_rL, x_r0, pa, short, oc, lg, lset, lset2, wide, cond_true, cond_false, true_and, and_true, ↓reduceIte, Bool.false_eq_true, true_or, or_true, lf_X10_goCheck, h5, h6, e18, nI_add, ncl (show 18 + c < 2 ^ 31 by omega), es]
      exact ⟨vp_in_nI (by omega) (by omega), first⟩
    have e108 : mS I 118 (acF (QR (I k) c) (I 118) b) 108 = I 108 := mS_n (by omega)
    have ek : mS I 118 (acF (QR (I k) c) (I 118) b) k = I k := mS_n hk2
    by_cases hlt : b < n
    · have eq : I k (9 + b) - I k (24 + 9 * c + b) = QR (I k) c b := rfl
      refine J.of tk_X10_goCheck 200 fun ρ hρ => ?_
      simp only [hρ, x_c, x_il, x_ll, x_al, x_is, x_as, x_ls, x_inc, x_ii, x_iq, x_i1, x_l2, x_lq, x_lh, x_i2l, x_l2i, x_lcmp, x_dup, x_dup2, x_pop, x_if, x_ifn, x_ic, x_icn, x_go, x_sw, swc, x_l01, x_mx, x_gI, x_gL, x_gR, x_pI, x_pZ, x_pL, x_pR, x_ia, x_za, x_aa, x_ias, x_zas, x_aas, x_fac, x_fa, x_slen, x_sa, x_ac, x_oi, x_new, x_na, x_cS, x_cV, x_cI, x_rI, x_rZ, x_rL, x_r0, pa, short, oc, lg, lset, lset2, wide, cond_true, cond_false, true_and, and_true, ↓reduceIte, Bool.false_eq_true, true_or, or_true, lf_X10_goCheck, h1, h2, h3, h4, h5, h6, e108, ek, en, e24, nI9, pk_mul, nI_add, nI_leI (show n < 2 ^ 31 by omega) (show b < 2 ^ 31 by omega), ncl (show b < 2 ^ 31 by omega), ncl (show 9 + b < 2 ^ 31 by omega), ncl (show 24 + 9 * c + b < 2 ^ 31 by omega), eq, nI_1, mS_s, mS_ss, acF_s]
      exact ⟨fun h => absurd h (by omega), fun _ => ⟨vp_in_nI (by omega) (by omega), vp_in_nI (by omega) (by omega), vp_in_nI (by omega) (by omega), ih hlt⟩⟩
    · have : b = n := by omega
      subst this
      have := main (acF (QR (I k) c) (I 118) b) (fun j hj => by rw [acF, if_pos hj])
      rw [gkF_0, mS_id' (I := mS I 118 (acF (QR (I k) c) (I 118) b)) ek.symm] at this
      refine J.of tk_X10_goCheck 200 fun ρ hρ => ?_
      simp only [hρ, x_c, x_il, x_ll, x_al, x_is, x_as, x_ls, x_inc, x_ii, x_iq, x_i1, x_l2, x_lq, x_lh, x_i2l, x_l2i, x_lcmp, x_dup, x_dup2, x_pop, x_if, x_ifn, x_ic, x_icn, x_go, x_sw, swc, x_l01, x_mx, x_gI, x_gL, x_gR, x_pI, x_pZ, x_pL, x_pR, x_ia, x_za, x_aa, x_ias, x_zas, x_aas, x_fac, x_fa, x_slen, x_sa, x_ac, x_oi, x_new, x_na, x_cS, x_cV, x_cI, x_rI, x_rZ, x_rL, x_r0, pa, short, oc, lg, lset, lset2, wide, cond_true, cond_false, true_and, and_true, ↓reduceIte, Bool.false_eq_true, true_or, or_true, lf_X10_goCheck, h1, e108, en, nI_leI (show b < 2 ^ 31 by omega) (show b < 2 ^ 31 by omega), Nat.le_refl, true_implies, not_true_eq_false, false_implies]
      exact this
  have e108 : mS (mS I 118 A) k (gkF (I k) n s c b) 108 = I 108 := by rw [mS_n (Ne.symm hk1), mS_n (by omega)]
  have e118 : mS (mS I 118 A) k (gkF (I k) n s c b) 118 = A := by rw [mS_n (Ne.symm hk2), mS_s]
  by_cases hlt : b < n
  · have ek : mS (mS I 118 A) k (gkF (I k) n s c b) k = gkF (I k) n s c b := mS_s
    have e78 : gkF (I k) n s c b 78 = I k 78 := by rw [gkF, if_neg (by omega), if_neg (by omega)]
    by_cases hsb : s.testBit b = true
    · -- the loop over the others
      have inner := up (P := fun o => ∀ w, J mt_X10_goCheck R 83 [some (.ref 108), some (.ref k), some (.int (nI c)), some (.int (nI s)), some (.int (nI b)), some (.int (lsO (QR (I k) c) s b o)), some (.int (bB (sgO (QR (I k) c) s b o))), some (.int (nI o)), w] [] (S, mS (mS I 118 A) k (gkF (I k) n s c b), L)) (n := n) (fun o ho iho w => ?_) 0 (Nat.zero_le _)
      · refine J.of tk_X10_goCheck 200 fun ρ hρ => ?_
        simp only [hρ, x_c, x_il, x_ll, x_al, x_is, x_as, x_ls, x_inc, x_ii, x_iq, x_i1, x_l2, x_lq, x_lh, x_i2l, x_l2i, x_lcmp, x_dup, x_dup2, x_pop, x_if, x_ifn, x_ic, x_icn, x_go, x_sw, swc, x_l01, x_mx, x_gI, x_gL, x_gR, x_pI, x_pZ, x_pL, x_pR, x_ia, x_za, x_aa, x_ias, x_zas, x_aas, x_fac, x_fa, x_slen, x_sa, x_ac, x_oi, x_new, x_na, x_cS, x_cV, x_cI, x_rI, x_rZ, x_rL, x_r0, pa, short, oc, lg, lset, lset2, wide, cond_true, cond_false, true_and, and_true, ↓reduceIte, Bool.false_eq_true, true_or, or_true, lf_X10_goCheck, h1, e108, en, nI_leI (show n < 2 ^ 31 by omega) (show b < 2 ^ 31 by omega), P_X10_has, bB_0]
        refine ⟨fun h => absurd h (by omega), fun _ => ⟨_, _, rfl, by omega, rfl, by omega, fun h => absurd hsb (by simpa using h), fun _ => inner none⟩⟩
      by_cases hlo : o < n
      · have eA : A o = QR (I k) c o := hA o hlo
        have hv : vp_in (nI o) 9 := vp_in_nI (by omega) (by omega)
        by_cases hob : o = b
        · subst hob
          have := iho hlo w
          rw [lsO, if_neg (fun q => q.1 rfl), sgO, if_neg (fun q => q.1 rfl)] at this
          refine J.of tk_X10_goCheck 200 fun ρ hρ => ?_
          simp only [hρ, x_c, x_il, x_ll, x_al, x_is, x_as, x_ls, x_inc, x_ii, x_iq, x_i1, x_l2, x_lq, x_lh, x_i2l, x_l2i, x_lcmp, x_dup, x_dup2, x_pop, x_if, x_ifn, x_ic, x_icn, x_go, x_sw, swc, x_l01, x_mx, x_gI, x_gL, x_gR, x_pI, x_pZ, x_pL, x_pR, x_ia, x_za, x_aa, x_ias, x_zas, x_aas, x_fac, x_fa, x_slen, x_sa, x_ac, x_oi, x_new, x_na, x_cS, x_cV, x_cI, x_rI, x_rZ, x_rL, x_r0, pa, short, oc, lg, lset, lset2, wide, cond_true, cond_false, true_and, and_true, ↓reduceIte, Bool.false_eq_true, true_or, or_true, lf_X10_goCheck, h1, e108, en, nI_leI (show n < 2 ^ 31 by omega) (show o < 2 ^ 31 by omega), nI_1, true_implies, not_true_eq_false, false_implies]
          exact ⟨fun h => absurd h (by omega), fun _ => this⟩
        · have hne : nI o = nI b ↔ False := by rw [nI_eq (by omega) (by omega)]; exact ⟨hob, False.elim⟩
          by_cases hso : s.testBit o = true
          · have hif : o ≠ b ∧ s.testBit o = true := ⟨hob, hso⟩
            have hth : ∀ l' g' x', lsO (QR (I k) c) s b (o + 1) = l' → bB (sgO (QR (I k) c) s b (o + 1)) = g' → J mt_X10_goCheck R 83 [some (.ref 108), some (.ref k), some (.int (nI c)), some (.int (nI s)), some (.int (nI b)), some (.int l'), some (.int g'), some (.int (nI (o + 1))), some x'] [] (S, mS (mS I 118 A) k (gkF (I k) n s c b), L) := fun l' g' x' q1 q2 => by rw [← q1, ← q2]; exact iho hlo _
            have hb0 : ∀ t : Bool, bB t = 1 ↔ t = true := fun t => by cases t <;> decide
            refine J.of tk_X10_goCheck 200 fun ρ hρ => ?_
            simp only [hρ, x_c, x_il, x_ll, x_al, x_is, x_as, x_ls, x_inc, x_ii, x_iq, x_i1, x_l2, x_lq, x_lh, x_i2l, x_l2i, x_lcmp, x_dup, x_dup2, x_pop, x_if, x_ifn, x_ic, x_icn, x_go, x_sw, swc, x_l01, x_mx, x_gI, x_gL, x_gR, x_pI, x_pZ, x_pL, x_pR, x_ia, x_za, x_aa, x_ias, x_zas, x_aas, x_fac, x_fa, x_slen, x_sa, x_ac, x_oi, x_new, x_na, x_cS, x_cV, x_cI, x_rI, x_rZ, x_rL, x_r0, pa, short, oc, lg, lset, lset2, wide, cond_true, cond_false, true_and, and_true, ↓reduceIte, Bool.false_eq_true, true_or, or_true, lf_X10_goCheck, h1, h2, h3, h4, e108, e118, eA, en, hne, nI_leI (show n < 2 ^ 31 by omega) (show o < 2 ^ 31 by omega), ncl (show o < 2 ^ 31 by omega), P_X10_has, bB_0, eq_true hv, nI_1, true_implies, not_true_eq_false, false_implies, not_false_eq_true]
            refine ⟨fun h => absurd h (by omega), fun _ => ⟨_, _, rfl, by omega, rfl, by omega, fun h => absurd hso (by simpa using h), fun _ => ?_⟩⟩
            have hls : lsO (QR (I k) c) s b (o + 1) = if lsO (QR (I k) c) s b o ≤ am (QR (I k) c o) then lsO (QR (I k) c) s b o else am (QR (I k) c o) := by rw [lsO, if_pos hif]
            have hsg : sgO (QR (I k) c) s b (o + 1) = (sgO (QR (I k) c) s b o != decide (QR (I k) c o < 0)) := by rw [sgO, if_pos hif]
            revert hls hsg hth
            generalize lsO (QR (I k) c) s b o = l0
            generalize sgO (QR (I k) c) s b o = t0
            generalize lsO (QR (I k) c) s b (o + 1) = l1
            generalize sgO (QR (I k) c) s b (o + 1) = t1
            generalize QR (I k) c o = q
            intro hth hls hsg
            have p1 : (0 : Int32) ≤ q → ¬ t0 = true → bB t1 = 0 := fun h0 ht => by rw [hsg, decide_eq_false (Int32.not_lt.mpr h0)]; exact bx1 ht
            have p2 : (0 : Int32) ≤ q → ¬ ¬ t0 = true → bB t1 = 1 := fun h0 ht => by rw [hsg, decide_eq_false (Int32.not_lt.mpr h0)]; exact bx2 ht
            have p3 : ¬ (0 : Int32) ≤ q → bB t0 = 1 → bB t1 = 0 := fun h0 ht => by rw [hsg, decide_eq_true (Int32.not_le.mp h0)]; exact bx3 ht
            have p4 : ¬ (0 : Int32) ≤ q → ¬ bB t0 = 1 → bB t1 = 1 := fun h0 ht => by rw [hsg, decide_eq_true (Int32.not_le.mp h0)]; exact bx4 ht
            have r1 : (0 : Int32) ≤ q → l0 ≤ q → l1 = l0 := fun h0 hl => by rw [hls, am, if_pos h0, if_pos hl]
            have r2 : (0 : Int32) ≤ q → ¬ l0 ≤ q → l1 = q := fun h0 hl => by rw [hls, am, if_pos h0, if_neg hl]
            have r3 : ¬ (0 : Int32) ≤ q → l0 ≤ -q → l1 = l0 := fun h0 hl => by rw [hls, am, if_neg h0, if_pos hl]
            have r4 : ¬ (0 : Int32) ≤ q → ¬ l0 ≤ -q → l1 = -q := fun h0 hl => by rw [hls, am, if_neg h0, if_neg hl]
            exact ⟨fun h0 => ⟨fun hl => ⟨fun _ => ⟨fun ht => hth _ _ _ (r1 h0 hl) (p1 h0 ht), fun ht => hth _ _ _ (r1 h0 hl) (p2 h0 ht)⟩, fun h => absurd h0 h⟩, fun hl => ⟨fun _ => ⟨fun ht => hth _ _ _ (r2 h0 hl) (p1 h0 ht), fun ht => hth _ _ _ (r2 h0 hl) (p2 h0 ht)⟩, fun h => absurd h0 h⟩⟩, fun h0 => ⟨fun hl => ⟨fun h => absurd h h0, fun _ => ⟨fun ht => hth _ _ _ (r3 h0 hl) (p3 h0 ht), fun ht => hth _ _ _ (r3 h0 hl) (p4 h0 ht)⟩⟩, fun hl => ⟨fun h => absurd h h0, fun _ => ⟨fun ht => hth _ _ _ (r4 h0 hl) (p3 h0 ht), fun ht => hth _ _ _ (r4 h0 hl) (p4 h0 ht)⟩⟩⟩⟩
          · have := iho hlo w
            rw [lsO, if_neg (fun q => hso q.2), sgO, if_neg (fun q => hso q.2)] at this
            refine J.of tk_X10_goCheck 200 fun ρ hρ => ?_
            simp only [hρ, x_c, x_il, x_ll, x_al, x_is, x_as, x_ls, x_inc, x_ii, x_iq, x_i1, x_l2, x_lq, x_lh, x_i2l, x_l2i, x_lcmp, x_dup, x_dup2, x_pop, x_if, x_ifn, x_ic, x_icn, x_go, x_sw, swc, x_l01, x_mx, x_gI, x_gL, x_gR, x_pI, x_pZ, x_pL, x_pR, x_ia, x_za, x_aa, x_ias, x_zas, x_aas, x_fac, x_fa, x_slen, x_sa, x_ac, x_oi, x_new, x_na, x_cS, x_cV, x_cI, x_rI, x_rZ, x_rL, x_r0, pa, short, oc, lg, lset, lset2, wide, cond_true, cond_false, true_and, and_true, ↓reduceIte, Bool.false_eq_true, true_or, or_true, lf_X10_goCheck, h1, e108, en, hne, nI_leI (show n < 2 ^ 31 by omega) (show o < 2 ^ 31 by omega), P_X10_has, bB_0, nI_1, true_implies, not_true_eq_false, false_implies, not_false_eq_true]
            refine ⟨fun h => absurd h (by omega), fun _ => ⟨_, _, rfl, by omega, rfl, by omega, fun _ => this, fun h => absurd h (by simpa using hso)⟩⟩
      · have : o = n := by omega
        subst this
        refine J.of tk_X10_goCheck 200 fun ρ hρ => ?_
        simp only [hρ, x_c, x_il, x_ll, x_al, x_is, x_as, x_ls, x_inc, x_ii, x_iq, x_i1, x_l2, x_lq, x_lh, x_i2l, x_l2i, x_lcmp, x_dup, x_dup2, x_pop, x_if, x_ifn, x_ic, x_icn, x_go, x_sw, swc, x_l01, x_mx, x_gI, x_gL, x_gR, x_pI, x_pZ, x_pL, x_pR, x_ia, x_za, x_aa, x_ias, x_zas, x_aas, x_fac, x_fa, x_slen, x_sa, x_ac, x_oi, x_new, x_na, x_cS, x_cV, x_cI, x_rI, x_rZ, x_rL, x_r0, pa, short, oc, lg, lset, lset2, wide, cond_true, cond_false, true_and, and_true, ↓reduceIte, Bool.false_eq_true, true_or, or_true, lf_X10_goCheck, h1, e108, en, nI_leI (show o < 2 ^ 31 by omega) (show o < 2 ^ 31 by omega), Nat.le_refl, true_implies, not_true_eq_false, false_implies]
        have e78n : (78 : Int32).toNatClampNeg = 78 := by decide
        have v78 : vp_in 78 80 := vp_in_nI (n := 78) (by omega) (by omega)
        have eAb : A b = QR (I k) c b := hA b hlt
        have hnx := ih hlt A hA
        rw [← gkF_s (by omega) hsb] at hnx
        have e118g : ∀ F, mS (mS I 118 A) k F 118 = A := fun F => by rw [mS_n (Ne.symm hk2), mS_s]
        cases hg : sgO (QR (I k) c) s b o with
        | true =>
          rw [nmS, if_pos hg] at hnx
          refine J.of tk_X10_goCheck 200 fun ρ hρ => ?_
          simp only [hρ, x_c, x_il, x_ll, x_al, x_is, x_as, x_ls, x_inc, x_ii, x_iq, x_i1, x_l2, x_lq, x_lh, x_i2l, x_l2i, x_lcmp, x_dup, x_dup2, x_pop, x_if, x_ifn, x_ic, x_icn, x_go, x_sw, swc, x_l01, x_mx, x_gI, x_gL, x_gR, x_pI, x_pZ, x_pL, x_pR, x_ia, x_za, x_aa, x_ias, x_zas, x_aas, x_fac, x_fa, x_slen, x_sa, x_ac, x_oi, x_new, x_na, x_cS, x_cV, x_cI, x_rI, x_rZ, x_rL, x_r0, pa, short, oc, lg, lset, lset2, wide, cond_true, cond_false, true_and, and_true, ↓reduceIte, Bool.false_eq_true, true_or, or_true, lf_X10_goCheck, h1, h2, h3, h4, h5, h6, e118, e118g, ek, e78, e78n, eq_true v78, eAb, e24, nI9, pk_mul, nI_add, ncl (show b < 2 ^ 31 by omega), ncl (show 9 + b < 2 ^ 31 by omega), ncl (show 24 + 9 * c + b < 2 ^ 31 by omega), P_X10_held, bB_0, nI_1, mS_s, mS_ss, true_implies, not_true_eq_false, false_implies, not_false_eq_true]
          exact ⟨vp_in_nI (by omega) (by omega), vp_in_nI (by omega) (by omega), vp_in_nI (by omega) (by omega), J.weak (by simp [lsub]) hnx⟩
        | false =>
          rw [nmS, if_neg (by rw [hg]; decide)] at hnx
          refine J.of tk_X10_goCheck 200 fun ρ hρ => ?_
          simp only [hρ, x_c, x_il, x_ll, x_al, x_is, x_as, x_ls, x_inc, x_ii, x_iq, x_i1, x_l2, x_lq, x_lh, x_i2l, x_l2i, x_lcmp, x_dup, x_dup2, x_pop, x_if, x_ifn, x_ic, x_icn, x_go, x_sw, swc, x_l01, x_mx, x_gI, x_gL, x_gR, x_pI, x_pZ, x_pL, x_pR, x_ia, x_za, x_aa, x_ias, x_zas, x_aas, x_fac, x_fa, x_slen, x_sa, x_ac, x_oi, x_new, x_na, x_cS, x_cV, x_cI, x_rI, x_rZ, x_rL, x_r0, pa, short, oc, lg, lset, lset2, wide, cond_true, cond_false, true_and, and_true, ↓reduceIte, Bool.false_eq_true, true_or, or_true, lf_X10_goCheck, h1, h2, h3, h4, h5, h6, e118, e118g, ek, e78, e78n, eq_true v78, eAb, e24, nI9, pk_mul, nI_add, ncl (show b < 2 ^ 31 by omega), ncl (show 9 + b < 2 ^ 31 by omega), ncl (show 24 + 9 * c + b < 2 ^ 31 by omega), P_X10_held, bB_0, nI_1, mS_s, mS_ss, true_implies, not_true_eq_false, false_implies, not_false_eq_true]
          exact ⟨vp_in_nI (by omega) (by omega), vp_in_nI (by omega) (by omega), vp_in_nI (by omega) (by omega), J.weak (by simp [lsub]) hnx⟩
    · refine J.of tk_X10_goCheck 200 fun ρ hρ => ?_
      simp only [hρ, x_c, x_il, x_ll, x_al, x_is, x_as, x_ls, x_inc, x_ii, x_iq, x_i1, x_l2, x_lq, x_lh, x_i2l, x_l2i, x_lcmp, x_dup, x_dup2, x_pop, x_if, x_ifn, x_ic, x_icn, x_go, x_sw, swc, x_l01, x_mx, x_gI, x_gL, x_gR, x_pI, x_pZ, x_pL, x_pR, x_ia, x_za, x_aa, x_ias, x_zas, x_aas, x_fac, x_fa, x_slen, x_sa, x_ac, x_oi, x_new, x_na, x_cS, x_cV, x_cI, x_rI, x_rZ, x_rL, x_r0, pa, short, oc, lg, lset, lset2, wide, cond_true, cond_false, true_and, and_true, ↓reduceIte, Bool.false_eq_true, true_or, or_true, lf_X10_goCheck, h1, e108, en, nI_leI (show n < 2 ^ 31 by omega) (show b < 2 ^ 31 by omega), P_X10_has, bB_0, nI_1]
      refine ⟨fun h => absurd h (by omega), fun _ => ⟨_, _, rfl, by omega, rfl, by omega, fun _ => ?_, fun h => absurd h (by simpa using hsb)⟩⟩
      have := ih hlt A hA
      rwa [gkF_n hsb] at this
  · have : b = n := by omega
    subst this
    refine J.of tk_X10_goCheck 200 fun ρ hρ => ?_
    simp only [hρ, x_c, x_il, x_ll, x_al, x_is, x_as, x_ls, x_inc, x_ii, x_iq, x_i1, x_l2, x_lq, x_lh, x_i2l, x_l2i, x_lcmp, x_dup, x_dup2, x_pop, x_if, x_ifn, x_ic, x_icn, x_go, x_sw, swc, x_l01, x_mx, x_gI, x_gL, x_gR, x_pI, x_pZ, x_pL, x_pR, x_ia, x_za, x_aa, x_ias, x_zas, x_aas, x_fac, x_fa, x_slen, x_sa, x_ac, x_oi, x_new, x_na, x_cS, x_cV, x_cI, x_rI, x_rZ, x_rL, x_r0, pa, short, oc, lg, lset, lset2, wide, cond_true, cond_false, true_and, and_true, ↓reduceIte, Bool.false_eq_true, true_or, or_true, lf_X10_goCheck, h1, e108, en, nI_leI (show b < 2 ^ 31 by omega) (show b < 2 ^ 31 by omega), Nat.le_refl, true_implies, not_true_eq_false, false_implies]
    exact hR _ (fun q a d => by rw [mS_n a, mS_n d]) mS_s
/-- a round on a row -/
def r79 (f : Nat → Int32) : Nat → Int32 := upd f 79 (f 79 + 1)
theorem RW.gk {f : Nat → Int32} {a : AS} {c : Nat} {d : DS} (h : RW f 0 (a.1, a.2.1, a.2.2.1, a.2.2.2.1, a.2.2.2.2.1, a.2.2.2.2.2.1, d)) (h9 : aN a ≤ 9) (hm : aM a ≤ 6) (hc : c < 6) : RW (gkF f (aN a) (aV a c) c (aN a)) 0 (a.1, a.2.1, a.2.2.1, a.2.2.2.1, a.2.2.2.2.1, a.2.2.2.2.2.1, stpD (aN a) (aO a) (aV a c) c d) := by
  have hQ : ∀ i, i < aN a → QR f c i = QD d c i := fun i hi => by
    simp only [QR, QD]
    rw [h.t (b := i) (by omega), show 24 + 9 * c + i = 24 + (9 * c + i) by omega, h.m (j := 9 * c + i) (by omega)]
  have e78 : f 78 = aO a := h.2.2.2.2.1
  refine ⟨fun b hb => ?_, fun b hb => ?_, fun x hx => ?_, fun j hj => ?_, ?_, ?_⟩
  · rw [gkF, if_neg (by omega), if_neg (by omega)]; exact h.1 b hb
  · show gkF f (aN a) (aV a c) c (aN a) (0 + 9 + b) = (stpD (aN a) (aO a) (aV a c) c d).1 b
    simp only [gkF, stpD]
    rw [show 0 + 9 + b - 9 = b by omega]
    by_cases q : b < aN a ∧ (aV a c).testBit b = true
    · rw [if_pos ⟨by omega, by omega, q.2⟩, if_pos q, hQ b q.1, nmS_congr hQ, e78]
    · rw [if_neg (fun z => q ⟨by omega, z.2.2⟩), if_neg (fun z => by omega), if_neg q]; exact h.2.1 b hb
  · have hx' : x < aM a := hx
    rw [gkF, if_neg (fun z => by omega), if_neg (fun z => by omega)]; exact h.2.2.1 x hx
  · show gkF f (aN a) (aV a c) c (aN a) (0 + 24 + j) = (stpD (aN a) (aO a) (aV a c) c d).2 j
    simp only [gkF, stpD]
    rw [if_neg (fun z => by omega), show 0 + 24 + j - (24 + 9 * c) = j - 9 * c by omega]
    by_cases q : 9 * c ≤ j ∧ j < 9 * c + aN a ∧ (aV a c).testBit (j - 9 * c) = true
    · rw [if_pos ⟨by omega, by omega, q.2.2⟩, if_pos q, nmS_congr hQ, e78]
    · rw [if_neg (fun z => q ⟨by omega, by omega, z.2.2⟩), if_neg q]; exact h.2.2.2.1 j hj
  · rw [gkF, if_neg (by omega), if_neg (fun z => by omega)]; exact h.2.2.2.2.1
  · rw [gkF, if_neg (by omega), if_neg (fun z => by omega)]; exact h.2.2.2.2.2
