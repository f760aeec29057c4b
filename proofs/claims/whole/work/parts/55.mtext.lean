/-! THE TEXT of the model -/
def frX (I I' : MI) : Prop := (∀ q, q ≠ 108 → q ≠ 122 → I' q = I q) ∧ ∀ j, j < 20 → I' 108 j = I 108 j
theorem frX.refl (I : MI) : frX I I := ⟨fun _ _ _ => rfl, fun _ _ => rfl⟩
theorem frX.trans {A B C : MI} (h : frX A B) (h' : frX B C) : frX A C := ⟨fun q a b => (h'.1 q a b).trans (h.1 q a b), fun j hj => (h'.2 j hj).trans (h.2 j hj)⟩
theorem frX.M {I I' : MI} (h : frX I I') : frM I I' := ⟨fun q a b c => h.1 q a (by omega), h.2⟩
theorem frX.o {I : MI} {f : Nat → Int32} (h : ∀ j, j < 20 → f j = I 108 j) : frX I (mS I 108 f) := ⟨fun q a b => mS_n a, fun j hj => by rw [mS_s]; exact h j hj⟩
theorem frX.p {I : MI} {f r : Nat → Int32} (h : ∀ j, j < 20 → f j = I 108 j) : frX I (mS (mS I 122 r) 108 f) := ⟨fun q a b => by rw [mS_n a, mS_n b], fun j hj => by rw [mS_s]; exact h j hj⟩
theorem upd20 {f : Nat → Int32} {k : Nat} {x : Int32} (h : 20 ≤ k) : ∀ j, j < 20 → upd f k x j = f j := fun j hj => by rw [upd_app, if_neg (by omega)]
def ptN : Nat → Nat := fun i => if i = 1 then 1 else if i = 2 then 2 else if i = 3 then 0 else 3
def RdM (I : MI) (s : TS) : Prop := 1 ≤ s.1 ∧ I 108 24 = nI (ptN s.1) ∧ (2 ≤ s.1 → I 108 20 = nI s.2.1) ∧ (3 ≤ s.1 → I 108 21 = nI s.2.2.1) ∧ I 108 22 = nI s.2.2.2.1 ∧ (s.1 = 4 → I 108 25 + 1 = nI s.2.2.2.2.1) ∧ ∀ c, c < s.2.2.2.1 + (if s.1 = 4 then 1 else 0) → I 122 c = nI (s.2.2.2.2.2 c)
theorem fgL {a : Nat} (h : a < 256) {lo hi : Int64} {l u : Nat} (hl : lo.toInt = (l : Int)) (hu : hi.toInt = (u : Int)) : (¬ (nI a - 48).toInt64 < lo ∧ ¬ hi < (nI a - 48).toInt64) ↔ (48 + l ≤ a ∧ a ≤ 48 + u) := by
  rw [Int64.lt_iff_toInt_lt, Int64.lt_iff_toInt_lt, Int32.toInt_toInt64, fg h, hl, hu]; omega
theorem fgI {a l u : Nat} (h : a < 256) (hl : l < 1000) (hu : 0 < u) (hu' : u < 1000) : (¬ (nI a - 48).toInt64 < (nI l).toInt64 ∧ ¬ (nI u - 1).toInt64 < (nI a - 48).toInt64) ↔ (48 + l ≤ a ∧ a < 48 + u) := by
  rw [Int64.lt_iff_toInt_lt, Int64.lt_iff_toInt_lt, Int32.toInt_toInt64, Int32.toInt_toInt64, Int32.toInt_toInt64, fg h, nI_m1 hu, nI_toInt (by omega), nI_toInt (by omega)]; omega
def il_X10_take : List (Nat × Instr × Nat) := [(0, .iload_n 1, 1), (1, .bipush 48, 2), (3, .isub, 1), (4, .istore_n 2, 1), (5, .aload_n 0, 1), (6, .getfield 72, 3), (9, .tableswitch 138 1 3 #[27, 49, 69], 27), (36, .aload_n 0, 1), (37, .iload_n 2, 1), (38, .putfield 75, 3), (41, .aload_n 0, 1), (42, .iconst 2, 1), (43, .putfield 72, 3), (46, .iload_n 2, 1), (47, .i2l, 1), (48, .ldc2_w 78, 3), (51, .ldc2_w 80, 3), (54, .invokestatic 60, 3), (57, .ireturn, 1), (58, .aload_n 0, 1), (59, .iload_n 2, 1), (60, .putfield 82, 3), (63, .aload_n 0, 1), (64, .iconst 0, 1), (65, .putfield 72, 3), (68, .iload_n 2, 1), (69, .i2l, 1), (70, .lconst 0, 1), (71, .ldc2_w 80, 3), (74, .invokestatic 60, 3), (77, .ireturn, 1), (78, .iload_n 1, 1), (79, .bipush 46, 2), (81, .if_icmp .ne 20, 3), (84, .aload_n 0, 1), (85, .dup, 1), (86, .getfield 85, 3), (89, .iconst 1, 1), (90, .iadd, 1), (91, .putfield 85, 3), (94, .aload_n 0, 1), (95, .iconst 0, 1), (96, .putfield 72, 3), (99, .iconst 1, 1), (100, .ireturn, 1), (101, .iload_n 2, 1), (102, .i2l, 1), (103, .aload_n 0, 1), (104, .getfield 88, 3), (107, .iconst 1, 1), (108, .iadd, 1), (109, .i2l, 1), (110, .aload_n 0, 1), (111, .getfield 75, 3), (114, .iconst 1, 1), (115, .isub, 1), (116, .i2l, 1), (117, .invokestatic 60, 3), (120, .ifCond .ne 5, 3), (123, .iconst 0, 1), (124, .ireturn, 1), (125, .aload_n 0, 1), (126, .getfield 50, 3), (129, .aload_n 0, 1), (130, .getfield 85, 3), (133, .dup2, 1), (134, .iaload, 1), (135, .iconst 1, 1), (136, .iload_n 2, 1), (137, .ishl, 1), (138, .ior, 1), (139, .iastore, 1), (140, .aload_n 0, 1), (141, .iload_n 2, 1), (142, .putfield 88, 3), (145, .iconst 1, 1), (146, .ireturn, 1), (147, .iload_n 1, 1), (148, .bipush 99, 2), (150, .if_icmp .ne 12, 3), (153, .aload_n 0, 1), (154, .getfield 85, 3), (157, .bipush 6, 2), (159, .if_icmp .ne 5, 3), (162, .iconst 0, 1), (163, .ireturn, 1), (164, .aload_n 0, 1), (165, .getfield 50, 3), (168, .aload_n 0, 1), (169, .getfield 85, 3), (172, .iconst 0, 1), (173, .iastore, 1), (174, .aload_n 0, 1), (175, .iconst (-1), 1), (176, .putfield 88, 3), (179, .aload_n 0, 1), (180, .iconst 3, 1), (181, .putfield 72, 3), (184, .iconst 1, 1), (185, .ireturn, 1)]
def mt_X10_take : Mt := (cX10_take, RX10, 3, (some .boolean), ({ frames := 1, cells := 0, slots := 0, locals := 25 } : Room), false, none, none)
set_option maxRecDepth 100000 in
theorem dl_X10_take : ∀ q ∈ il_X10_take, decode (mt_X10_take).1 q.1 = .ok q.2 := by decide +kernel
def tb_X10_take : Tb := [(0, x_il 1 1, false),
  (1, x_c 3 (.int 48), false),
  (3, x_ii 4 (fun x y : Int32 => x - y), false),
  (4, x_is 5 2, false),
  (5, x_al 6 0, false),
  (6, x_gI 10 24 9, false),
  (9, x_sw 1 3 [36, 58, 78] 147, false),
  (36, x_al 37 0, false),
  (37, x_il 38 2, false),
  (38, x_pI 10 20 41, false),
  (41, x_al 42 0, false),
  (42, x_c 43 (.int 2), false),
  (43, x_pI 10 24 46, false),
  (46, x_il 47 2, false),
  (47, x_i2l 48, false),
  (48, x_c 51 (.long 2), false),
  (51, x_c 54 (.long 9), false),
  (54, x_cS 3 P_X10_in 57, false),
  (57, x_rZ, false),
  (58, x_al 59 0, false),
  (59, x_il 60 2, false),
  (60, x_pI 10 21 63, false),
  (63, x_al 64 0, false),
  (64, x_c 65 (.int 0), false),
  (65, x_pI 10 24 68, false),
  (68, x_il 69 2, false),
  (69, x_i2l 70, false),
  (70, x_c 71 (.long 0), false),
  (71, x_c 74 (.long 9), false),
  (74, x_cS 3 P_X10_in 77, false),
  (77, x_rZ, false),
  (78, x_il 79 1, false),
  (79, x_c 81 (.int 46), false),
  (81, x_icn 101 84 (fun x y : Int32 => x = y), false),
  (84, x_al 85 0, false),
  (85, x_dup 86, false),
  (86, x_gI 10 22 89, false),
  (89, x_c 90 (.int 1), false),
  (90, x_ii 91 (fun x y : Int32 => x + y), false),
  (91, x_pI 10 22 94, false),
  (94, x_al 95 0, false),
  (95, x_c 96 (.int 0), false),
  (96, x_pI 10 24 99, false),
  (99, x_c 100 (.int 1), false),
  (100, x_rZ, false),
  (101, x_il 102 2, false),
  (102, x_i2l 103, false),
  (103, x_al 104 0, false),
  (104, x_gI 10 25 107, false),
  (107, x_c 108 (.int 1), false),
  (108, x_ii 109 (fun x y : Int32 => x + y), false),
  (109, x_i2l 110, false),
  (110, x_al 111 0, false),
  (111, x_gI 10 20 114, false),
  (114, x_c 115 (.int 1), false),
  (115, x_ii 116 (fun x y : Int32 => x - y), false),
  (116, x_i2l 117, false),
  (117, x_cS 3 P_X10_in 120, false),
  (120, x_ifn 125 123 (fun x : Int32 => x = 0), false),
  (123, x_c 124 (.int 0), false),
  (124, x_rZ, false),
  (125, x_al 126 0, false),
  (126, x_gR 10 23 129, false),
  (129, x_al 130 0, false),
  (130, x_gI 10 22 133, false),
  (133, x_dup2 134, false),
  (134, x_ia 135, false),
  (135, x_c 136 (.int 1), false),
  (136, x_il 137 2, false),
  (137, x_ii 138 (fun x y : Int32 => x <<< (y &&& 31)), false),
  (138, x_ii 139 (fun x y : Int32 => x ||| y), false),
  (139, x_ias 140, false),
  (140, x_al 141 0, false),
  (141, x_il 142 2, false),
  (142, x_pI 10 25 145, false),
  (145, x_c 146 (.int 1), false),
  (146, x_rZ, false),
  (147, x_il 148 1, false),
  (148, x_c 150 (.int 99), false),
  (150, x_icn 162 153 (fun x y : Int32 => x = y), false),
  (153, x_al 154 0, false),
  (154, x_gI 10 22 157, false),
  (157, x_c 159 (.int 6), false),
  (159, x_icn 164 162 (fun x y : Int32 => x = y), false),
  (162, x_c 163 (.int 0), false),
  (163, x_rZ, false),
  (164, x_al 165 0, false),
  (165, x_gR 10 23 168, false),
  (168, x_al 169 0, false),
  (169, x_gI 10 22 172, false),
  (172, x_c 173 (.int 0), false),
  (173, x_ias 174, false),
  (174, x_al 175 0, false),
  (175, x_c 176 (.int (-1)), false),
  (176, x_pI 10 25 179, false),
  (179, x_al 180 0, false),
  (180, x_c 181 (.int 3), false),
  (181, x_pI 10 24 184, false),
  (184, x_c 185 (.int 1), false),
  (185, x_rZ, false)]
set_option maxRecDepth 100000 in
theorem tk_X10_take : TbOk (mt_X10_take) (tb_X10_take) :=
  tkc (s_iload_n (at_ dl_X10_take 0 (ins := .iload_n 1) rfl)) (
  tkc (s_bipush (at_ dl_X10_take 1 (ins := .bipush 48) rfl) (by first | rfl | decide)) (
  tkc (s_isub (at_ dl_X10_take 2 (ins := .isub) rfl)) (
  tkc (s_istore_n (at_ dl_X10_take 3 (ins := .istore_n 2) rfl) (by decide)) (
  tkc (s_aload_n (at_ dl_X10_take 4 (ins := .aload_n 0) rfl)) (
  tkc (s_gI (at_ dl_X10_take 5 (ins := .getfield 72) rfl) (by decide) (by decide) (by decide) (tg 720 (by decide +kernel) (by decide +kernel))) (
  tkc (s_sw (at_ dl_X10_take 6 (ins := .tableswitch 138 1 3 #[27, 49, 69]) rfl) rfl (tsw [36, 58, 78] (by decide +kernel)) (by decide)) (
  tkc (s_aload_n (at_ dl_X10_take 7 (ins := .aload_n 0) rfl)) (
  tkc (s_iload_n (at_ dl_X10_take 8 (ins := .iload_n 2) rfl)) (
  tkc (s_pI (at_ dl_X10_take 9 (ins := .putfield 75) rfl) (by decide) (by decide) (by decide) (by decide) (tg 716 (by decide +kernel) (by decide +kernel))) (
  tkc (s_aload_n (at_ dl_X10_take 10 (ins := .aload_n 0) rfl)) (
  tkc (s_iconst (at_ dl_X10_take 11 (ins := .iconst 2) rfl) (by first | rfl | decide)) (
  tkc (s_pI (at_ dl_X10_take 12 (ins := .putfield 72) rfl) (by decide) (by decide) (by decide) (by decide) (tg 720 (by decide +kernel) (by decide +kernel))) (
  tkc (s_iload_n (at_ dl_X10_take 13 (ins := .iload_n 2) rfl)) (
  tkc (s_i2l (at_ dl_X10_take 14 (ins := .i2l) rfl)) (
  tkc (s_ldc2 (at_ dl_X10_take 15 (ins := .ldc2_w 78) rfl) (tg 799 (by decide +kernel) (by decide +kernel))) (
  tkc (s_ldc2 (at_ dl_X10_take 16 (ins := .ldc2_w 80) rfl) (tg 800 (by decide +kernel) (by decide +kernel))) (
  tkc (s_cS ok_X10_in (at_ dl_X10_take 17 (ins := .invokestatic 60) rfl) (tg 780 (by decide +kernel) (by decide +kernel)) (tg 781 (by decide +kernel) (by decide +kernel)) (tg 51 (by decide +kernel) (by decide +kernel)) (tg 782 (by decide +kernel) (by decide +kernel)) (⟨by decide, by decide, by decide +kernel⟩) (⟨by decide, by decide⟩) rfl rfl) (
  tkc (s_rZ (at_ dl_X10_take 18 (ins := .ireturn) rfl) rfl) (
  tkc (s_aload_n (at_ dl_X10_take 19 (ins := .aload_n 0) rfl)) (
  tkc (s_iload_n (at_ dl_X10_take 20 (ins := .iload_n 2) rfl)) (
  tkc (s_pI (at_ dl_X10_take 21 (ins := .putfield 82) rfl) (by decide) (by decide) (by decide) (by decide) (tg 717 (by decide +kernel) (by decide +kernel))) (
  tkc (s_aload_n (at_ dl_X10_take 22 (ins := .aload_n 0) rfl)) (
  tkc (s_iconst (at_ dl_X10_take 23 (ins := .iconst 0) rfl) (by first | rfl | decide)) (
  tkc (s_pI (at_ dl_X10_take 24 (ins := .putfield 72) rfl) (by decide) (by decide) (by decide) (by decide) (tg 720 (by decide +kernel) (by decide +kernel))) (
  tkc (s_iload_n (at_ dl_X10_take 25 (ins := .iload_n 2) rfl)) (
  tkc (s_i2l (at_ dl_X10_take 26 (ins := .i2l) rfl)) (
  tkc (s_lconst (at_ dl_X10_take 27 (ins := .lconst 0) rfl) (by first | rfl | decide)) (
  tkc (s_ldc2 (at_ dl_X10_take 28 (ins := .ldc2_w 80) rfl) (tg 800 (by decide +kernel) (by decide +kernel))) (
  tkc (s_cS ok_X10_in (at_ dl_X10_take 29 (ins := .invokestatic 60) rfl) (tg 780 (by decide +kernel) (by decide +kernel)) (tg 781 (by decide +kernel) (by decide +kernel)) (tg 51 (by decide +kernel) (by decide +kernel)) (tg 782 (by decide +kernel) (by decide +kernel)) (⟨by decide, by decide, by decide +kernel⟩) (⟨by decide, by decide⟩) rfl rfl) (
  tkc (s_rZ (at_ dl_X10_take 30 (ins := .ireturn) rfl) rfl) (
  tkc (s_iload_n (at_ dl_X10_take 31 (ins := .iload_n 1) rfl)) (
  tkc (s_bipush (at_ dl_X10_take 32 (ins := .bipush 46) rfl) (by first | rfl | decide)) (
  tkc (s_ic_ne (at_ dl_X10_take 33 (ins := .if_icmp .ne 20) rfl) (by decide)) (
  tkc (s_aload_n (at_ dl_X10_take 34 (ins := .aload_n 0) rfl)) (
  tkc (s_dup (at_ dl_X10_take 35 (ins := .dup) rfl)) (
  tkc (s_gI (at_ dl_X10_take 36 (ins := .getfield 85) rfl) (by decide) (by decide) (by decide) (tg 718 (by decide +kernel) (by decide +kernel))) (
  tkc (s_iconst (at_ dl_X10_take 37 (ins := .iconst 1) rfl) (by first | rfl | decide)) (
  tkc (s_iadd (at_ dl_X10_take 38 (ins := .iadd) rfl)) (
  tkc (s_pI (at_ dl_X10_take 39 (ins := .putfield 85) rfl) (by decide) (by decide) (by decide) (by decide) (tg 718 (by decide +kernel) (by decide +kernel))) (
  tkc (s_aload_n (at_ dl_X10_take 40 (ins := .aload_n 0) rfl)) (
  tkc (s_iconst (at_ dl_X10_take 41 (ins := .iconst 0) rfl) (by first | rfl | decide)) (
  tkc (s_pI (at_ dl_X10_take 42 (ins := .putfield 72) rfl) (by decide) (by decide) (by decide) (by decide) (tg 720 (by decide +kernel) (by decide +kernel))) (
  tkc (s_iconst (at_ dl_X10_take 43 (ins := .iconst 1) rfl) (by first | rfl | decide)) (
  tkc (s_rZ (at_ dl_X10_take 44 (ins := .ireturn) rfl) rfl) (
  tkc (s_iload_n (at_ dl_X10_take 45 (ins := .iload_n 2) rfl)) (
  tkc (s_i2l (at_ dl_X10_take 46 (ins := .i2l) rfl)) (
  tkc (s_aload_n (at_ dl_X10_take 47 (ins := .aload_n 0) rfl)) (
  tkc (s_gI (at_ dl_X10_take 48 (ins := .getfield 88) rfl) (by decide) (by decide) (by decide) (tg 721 (by decide +kernel) (by decide +kernel))) (
  tkc (s_iconst (at_ dl_X10_take 49 (ins := .iconst 1) rfl) (by first | rfl | decide)) (
  tkc (s_iadd (at_ dl_X10_take 50 (ins := .iadd) rfl)) (
  tkc (s_i2l (at_ dl_X10_take 51 (ins := .i2l) rfl)) (
  tkc (s_aload_n (at_ dl_X10_take 52 (ins := .aload_n 0) rfl)) (
  tkc (s_gI (at_ dl_X10_take 53 (ins := .getfield 75) rfl) (by decide) (by decide) (by decide) (tg 716 (by decide +kernel) (by decide +kernel))) (
  tkc (s_iconst (at_ dl_X10_take 54 (ins := .iconst 1) rfl) (by first | rfl | decide)) (
  tkc (s_isub (at_ dl_X10_take 55 (ins := .isub) rfl)) (
  tkc (s_i2l (at_ dl_X10_take 56 (ins := .i2l) rfl)) (
  tkc (s_cS ok_X10_in (at_ dl_X10_take 57 (ins := .invokestatic 60) rfl) (tg 780 (by decide +kernel) (by decide +kernel)) (tg 781 (by decide +kernel) (by decide +kernel)) (tg 51 (by decide +kernel) (by decide +kernel)) (tg 782 (by decide +kernel) (by decide +kernel)) (⟨by decide, by decide, by decide +kernel⟩) (⟨by decide, by decide⟩) rfl rfl) (
  tkc (s_if_ne (at_ dl_X10_take 58 (ins := .ifCond .ne 5) rfl) (by decide)) (
  tkc (s_iconst (at_ dl_X10_take 59 (ins := .iconst 0) rfl) (by first | rfl | decide)) (
  tkc (s_rZ (at_ dl_X10_take 60 (ins := .ireturn) rfl) rfl) (
  tkc (s_aload_n (at_ dl_X10_take 61 (ins := .aload_n 0) rfl)) (
  tkc (s_gR (at_ dl_X10_take 62 (ins := .getfield 50) rfl) (by decide) (by decide) (by decide) (tg 719 (by decide +kernel) (by decide +kernel))) (
  tkc (s_aload_n (at_ dl_X10_take 63 (ins := .aload_n 0) rfl)) (
  tkc (s_gI (at_ dl_X10_take 64 (ins := .getfield 85) rfl) (by decide) (by decide) (by decide) (tg 718 (by decide +kernel) (by decide +kernel))) (
  tkc (s_dup2 (at_ dl_X10_take 65 (ins := .dup2) rfl)) (
  tkc (s_ia (at_ dl_X10_take 66 (ins := .iaload) rfl)) (
  tkc (s_iconst (at_ dl_X10_take 67 (ins := .iconst 1) rfl) (by first | rfl | decide)) (
  tkc (s_iload_n (at_ dl_X10_take 68 (ins := .iload_n 2) rfl)) (
  tkc (s_ishl (at_ dl_X10_take 69 (ins := .ishl) rfl)) (
  tkc (s_ior (at_ dl_X10_take 70 (ins := .ior) rfl)) (
  tkc (s_ias (at_ dl_X10_take 71 (ins := .iastore) rfl)) (
  tkc (s_aload_n (at_ dl_X10_take 72 (ins := .aload_n 0) rfl)) (
  tkc (s_iload_n (at_ dl_X10_take 73 (ins := .iload_n 2) rfl)) (
  tkc (s_pI (at_ dl_X10_take 74 (ins := .putfield 88) rfl) (by decide) (by decide) (by decide) (by decide) (tg 721 (by decide +kernel) (by decide +kernel))) (
  tkc (s_iconst (at_ dl_X10_take 75 (ins := .iconst 1) rfl) (by first | rfl | decide)) (
  tkc (s_rZ (at_ dl_X10_take 76 (ins := .ireturn) rfl) rfl) (
  tkc (s_iload_n (at_ dl_X10_take 77 (ins := .iload_n 1) rfl)) (
  tkc (s_bipush (at_ dl_X10_take 78 (ins := .bipush 99) rfl) (by first | rfl | decide)) (
  tkc (s_ic_ne (at_ dl_X10_take 79 (ins := .if_icmp .ne 12) rfl) (by decide)) (
  tkc (s_aload_n (at_ dl_X10_take 80 (ins := .aload_n 0) rfl)) (
  tkc (s_gI (at_ dl_X10_take 81 (ins := .getfield 85) rfl) (by decide) (by decide) (by decide) (tg 718 (by decide +kernel) (by decide +kernel))) (
  tkc (s_bipush (at_ dl_X10_take 82 (ins := .bipush 6) rfl) (by first | rfl | decide)) (
  tkc (s_ic_ne (at_ dl_X10_take 83 (ins := .if_icmp .ne 5) rfl) (by decide)) (
  tkc (s_iconst (at_ dl_X10_take 84 (ins := .iconst 0) rfl) (by first | rfl | decide)) (
  tkc (s_rZ (at_ dl_X10_take 85 (ins := .ireturn) rfl) rfl) (
  tkc (s_aload_n (at_ dl_X10_take 86 (ins := .aload_n 0) rfl)) (
  tkc (s_gR (at_ dl_X10_take 87 (ins := .getfield 50) rfl) (by decide) (by decide) (by decide) (tg 719 (by decide +kernel) (by decide +kernel))) (
  tkc (s_aload_n (at_ dl_X10_take 88 (ins := .aload_n 0) rfl)) (
  tkc (s_gI (at_ dl_X10_take 89 (ins := .getfield 85) rfl) (by decide) (by decide) (by decide) (tg 718 (by decide +kernel) (by decide +kernel))) (
  tkc (s_iconst (at_ dl_X10_take 90 (ins := .iconst 0) rfl) (by first | rfl | decide)) (
  tkc (s_ias (at_ dl_X10_take 91 (ins := .iastore) rfl)) (
  tkc (s_aload_n (at_ dl_X10_take 92 (ins := .aload_n 0) rfl)) (
  tkc (s_iconst (at_ dl_X10_take 93 (ins := .iconst (-1)) rfl) (by first | rfl | decide)) (
  tkc (s_pI (at_ dl_X10_take 94 (ins := .putfield 88) rfl) (by decide) (by decide) (by decide) (by decide) (tg 721 (by decide +kernel) (by decide +kernel))) (
  tkc (s_aload_n (at_ dl_X10_take 95 (ins := .aload_n 0) rfl)) (
  tkc (s_iconst (at_ dl_X10_take 96 (ins := .iconst 3) rfl) (by first | rfl | decide)) (
  tkc (s_pI (at_ dl_X10_take 97 (ins := .putfield 72) rfl) (by decide) (by decide) (by decide) (by decide) (tg 720 (by decide +kernel) (by decide +kernel))) (
  tkc (s_iconst (at_ dl_X10_take 98 (ins := .iconst 1) rfl) (by first | rfl | decide)) (
  tkc (s_rZ (at_ dl_X10_take 99 (ins := .ireturn) rfl) rfl) ( tk0))))))))))))))))))))))))))))))))))))))))))))))))))))))))))))))))))))))))))))))))))))))))))))))))))))
theorem lf_X10_take : lk (tb_X10_take) 0 = (x_il 1 1, false) ∧ lk (tb_X10_take) 1 = (x_c 3 (.int 48), false) ∧ lk (tb_X10_take) 3 = (x_ii 4 (fun x y : Int32 => x - y), false) ∧ lk (tb_X10_take) 4 = (x_is 5 2, false) ∧ lk (tb_X10_take) 5 = (x_al 6 0, false) ∧ lk (tb_X10_take) 6 = (x_gI 10 24 9, false) ∧ lk (tb_X10_take) 9 = (x_sw 1 3 [36, 58, 78] 147, false) ∧ lk (tb_X10_take) 36 = (x_al 37 0, false) ∧ lk (tb_X10_take) 37 = (x_il 38 2, false) ∧ lk (tb_X10_take) 38 = (x_pI 10 20 41, false) ∧ lk (tb_X10_take) 41 = (x_al 42 0, false) ∧ lk (tb_X10_take) 42 = (x_c 43 (.int 2), false) ∧ lk (tb_X10_take) 43 = (x_pI 10 24 46, false) ∧ lk (tb_X10_take) 46 = (x_il 47 2, false) ∧ lk (tb_X10_take) 47 = (x_i2l 48, false) ∧ lk (tb_X10_take) 48 = (x_c 51 (.long 2), false) ∧ lk (tb_X10_take) 51 = (x_c 54 (.long 9), false) ∧ lk (tb_X10_take) 54 = (x_cS 3 P_X10_in 57, false) ∧ lk (tb_X10_take) 57 = (x_rZ, false) ∧ lk (tb_X10_take) 58 = (x_al 59 0, false) ∧ lk (tb_X10_take) 59 = (x_il 60 2, false) ∧ lk (tb_X10_take) 60 = (x_pI 10 21 63, false) ∧ lk (tb_X10_take) 63 = (x_al 64 0, false) ∧ lk (tb_X10_take) 64 = (x_c 65 (.int 0), false) ∧ lk (tb_X10_take) 65 = (x_pI 10 24 68, false) ∧ lk (tb_X10_take) 68 = (x_il 69 2, false) ∧ lk (tb_X10_take) 69 = (x_i2l 70, false) ∧ lk (tb_X10_take) 70 = (x_c 71 (.long 0), false) ∧ lk (tb_X10_take) 71 = (x_c 74 (.long 9), false) ∧ lk (tb_X10_take) 74 = (x_cS 3 P_X10_in 77, false) ∧ lk (tb_X10_take) 77 = (x_rZ, false) ∧ lk (tb_X10_take) 78 = (x_il 79 1, false) ∧ lk (tb_X10_take) 79 = (x_c 81 (.int 46), false) ∧ lk (tb_X10_take) 81 = (x_icn 101 84 (fun x y : Int32 => x = y), false) ∧ lk (tb_X10_take) 84 = (x_al 85 0, false) ∧ lk (tb_X10_take) 85 = (x_dup 86, false) ∧ lk (tb_X10_take) 86 = (x_gI 10 22 89, false) ∧ lk (tb_X10_take) 89 = (x_c 90 (.int 1), false) ∧ lk (tb_X10_take) 90 = (x_ii 91 (fun x y : Int32 => x + y), false) ∧ lk (tb_X10_take) 91 = (x_pI 10 22 94, false) ∧ lk (tb_X10_take) 94 = (x_al 95 0, false) ∧ lk (tb_X10_take) 95 = (x_c 96 (.int 0), false) ∧ lk (tb_X10_take) 96 = (x_pI 10 24 99, false) ∧ lk (tb_X10_take) 99 = (x_c 100 (.int 1), false) ∧ lk (tb_X10_take) 100 = (x_rZ, false) ∧ lk (tb_X10_take) 101 = (x_il 102 2, false) ∧ lk (tb_X10_take) 102 = (x_i2l 103, false) ∧ lk (tb_X10_take) 103 = (x_al 104 0, false) ∧ lk (tb_X10_take) 104 = (x_gI 10 25 107, false) ∧ lk (tb_X10_take) 107 = (x_c 108 (.int 1), false) ∧ lk (tb_X10_take) 108 = (x_ii 109 (fun x y : Int32 => x + y), false) ∧ lk (tb_X10_take) 109 = (x_i2l 110, false) ∧ lk (tb_X10_take) 110 = (x_al 111 0, false) ∧ lk (tb_X10_take) 111 = (x_gI 10 20 114, false) ∧ lk (tb_X10_take) 114 = (x_c 115 (.int 1), false) ∧ lk (tb_X10_take) 115 = (x_ii 116 (fun x y : Int32 => x - y), false) ∧ lk (tb_X10_take) 116 = (x_i2l 117, false) ∧ lk (tb_X10_take) 117 = (x_cS 3 P_X10_in 120, false) ∧ lk (tb_X10_take) 120 = (x_ifn 125 123 (fun x : Int32 => x = 0), false) ∧ lk (tb_X10_take) 123 = (x_c 124 (.int 0), false) ∧ lk (tb_X10_take) 124 = (x_rZ, false) ∧ lk (tb_X10_take) 125 = (x_al 126 0, false) ∧ lk (tb_X10_take) 126 = (x_gR 10 23 129, false) ∧ lk (tb_X10_take) 129 = (x_al 130 0, false) ∧ lk (tb_X10_take) 130 = (x_gI 10 22 133, false) ∧ lk (tb_X10_take) 133 = (x_dup2 134, false) ∧ lk (tb_X10_take) 134 = (x_ia 135, false) ∧ lk (tb_X10_take) 135 = (x_c 136 (.int 1), false) ∧ lk (tb_X10_take) 136 = (x_il 137 2, false) ∧ lk (tb_X10_take) 137 = (x_ii 138 (fun x y : Int32 => x <<< (y &&& 31)), false) ∧ lk (tb_X10_take) 138 = (x_ii 139 (fun x y : Int32 => x ||| y), false) ∧ lk (tb_X10_take) 139 = (x_ias 140, false) ∧ lk (tb_X10_take) 140 = (x_al 141 0, false) ∧ lk (tb_X10_take) 141 = (x_il 142 2, false) ∧ lk (tb_X10_take) 142 = (x_pI 10 25 145, false) ∧ lk (tb_X10_take) 145 = (x_c 146 (.int 1), false) ∧ lk (tb_X10_take) 146 = (x_rZ, false) ∧ lk (tb_X10_take) 147 = (x_il 148 1, false) ∧ lk (tb_X10_take) 148 = (x_c 150 (.int 99), false) ∧ lk (tb_X10_take) 150 = (x_icn 162 153 (fun x y : Int32 => x = y), false) ∧ lk (tb_X10_take) 153 = (x_al 154 0, false) ∧ lk (tb_X10_take) 154 = (x_gI 10 22 157, false) ∧ lk (tb_X10_take) 157 = (x_c 159 (.int 6), false) ∧ lk (tb_X10_take) 159 = (x_icn 164 162 (fun x y : Int32 => x = y), false) ∧ lk (tb_X10_take) 162 = (x_c 163 (.int 0), false) ∧ lk (tb_X10_take) 163 = (x_rZ, false) ∧ lk (tb_X10_take) 164 = (x_al 165 0, false) ∧ lk (tb_X10_take) 165 = (x_gR 10 23 168, false) ∧ lk (tb_X10_take) 168 = (x_al 169 0, false) ∧ lk (tb_X10_take) 169 = (x_gI 10 22 172, false) ∧ lk (tb_X10_take) 172 = (x_c 173 (.int 0), false) ∧ lk (tb_X10_take) 173 = (x_ias 174, false) ∧ lk (tb_X10_take) 174 = (x_al 175 0, false) ∧ lk (tb_X10_take) 175 = (x_c 176 (.int (-1)), false) ∧ lk (tb_X10_take) 176 = (x_pI 10 25 179, false) ∧ lk (tb_X10_take) 179 = (x_al 180 0, false) ∧ lk (tb_X10_take) 180 = (x_c 181 (.int 3), false) ∧ lk (tb_X10_take) 181 = (x_pI 10 24 184, false) ∧ lk (tb_X10_take) 184 = (x_c 185 (.int 1), false) ∧ lk (tb_X10_take) 185 = (x_rZ, false) := ⟨rfl, rfl, rfl, rfl, rfl, rfl, rfl, rfl, rfl, rfl, rfl, rfl, rfl, rfl, rfl, rfl, rfl, rfl, rfl, rfl, rfl, rfl, rfl, rfl, rfl, rfl, rfl, rfl, rfl, rfl, rfl, rfl, rfl, rfl, rfl, rfl, rfl, rfl, rfl, rfl, rfl, rfl, rfl, rfl, rfl, rfl, rfl, rfl, rfl, rfl, rfl, rfl, rfl, rfl, rfl, rfl, rfl, rfl, rfl, rfl, rfl, rfl, rfl, rfl, rfl, rfl, rfl, rfl, rfl, rfl, rfl, rfl, rfl, rfl, rfl, rfl, rfl, rfl, rfl, rfl, rfl, rfl, rfl, rfl, rfl, rfl, rfl, rfl, rfl, rfl, rfl, rfl, rfl, rfl, rfl, rfl, rfl, rfl, rfl, rfl⟩
def P_X10_take : PTT := fun as M R => match as with
  | [.ref k, .int x] => k = 108 ∧ IsMo M.1 ∧ ∃ s a, a < 256 ∧ x = nI a ∧ RdM M.2.1 s ∧ TSok s ∧ (∀ s', stpT s a = some s' → ∀ I', frX M.2.1 I' → RdM I' s' → R (some (.int 1)) (M.1, I', M.2.2)) ∧ (stpT s a = none → ∀ I', frX M.2.1 I' → R (some (.int 0)) (M.1, I', M.2.2))
  | _ => False
set_option maxRecDepth 20000 in
theorem ok_X10_take : Ok yX10_take mt_X10_take P_X10_take := by
  refine Ok.of (by decide) rfl rfl rfl rfl fun av ⟨S, I, L⟩ R hP => ?_
  unfold P_X10_take at hP
  split at hP
  case h_2 => exact hP.elim
  rename_i k x
  obtain ⟨k, rfl⟩ : ∃ q : Nat, q = k := ⟨k, rfl⟩
  refine ⟨by simp [ent, wide, mt_X10_take], ?_⟩
  show J mt_X10_take R 0 [some (.ref k), some (.int x), none] [] (S, I, L)
  try dsimp only at hP
  obtain ⟨rfl, h1, ⟨ph, n, o, m, lb, ov⟩, a, ha, rfl, ⟨r0, r1, r2, r3, r4, r5, r6⟩, ⟨t0, t1, t2, t3, t4, t5, t6⟩, hS, hN⟩ := hP
  simp only at r0 r1 r2 r3 r4 r5 r6 t0 t1 t2 t3 t4 t5 t6
  have e46 : nI a = 46 ↔ a = 46 := by rw [show (46 : Int32) = nI 46 by decide]; exact nI_eq (by omega) (by omega)
  have e99 : nI a = 99 ↔ a = 99 := by rw [show (99 : Int32) = nI 99 by decide]; exact nI_eq (by omega) (by omega)
  rcases (show ph = 1 ∨ ph = 2 ∨ ph = 3 ∨ ph = 4 by omega) with rfl | rfl | rfl | rfl
  · have e24 : I 108 24 = nI 1 := r1
    have i1 := fgL ha (lo := 2) (hi := 9) (l := 2) (u := 9) (by decide) (by decide)
    have hm : m = 0 := t4 (by omega)
    refine J.of tk_X10_take 200 fun ρ hρ => ?_
    simp only [hρ, x_c, x_il, x_ll, x_al, x_is, x_as, x_ls, x_inc, x_ii, x_iq, x_i1, x_l2, x_lq, x_lh, x_i2l, x_l2i, x_lcmp, x_dup, x_dup2, x_pop, x_if, x_ifn, x_ic, x_icn, x_go, x_sw, swc, x_l01, x_mx, x_gI, x_gL, x_gR, x_pI, x_pZ, x_pL, x_pR, x_ia, x_za, x_aa, x_ias, x_zas, x_aas, x_fac, x_fa, x_slen, x_sa, x_ac, x_oi, x_new, x_na, x_cS, x_cV, x_cI, x_rI, x_rZ, x_rL, x_r0, pa, short, oc, lg, lset, lset2, wide, cond_true, cond_false, true_and, and_true, ↓reduceIte, Bool.false_eq_true, true_or, or_true, lf_X10_take, h1.f, e24, P_X10_in, i1, mS_s, mS_ss]
    refine ⟨⟨fun _ => ⟨bI_or, ?_⟩, fun h => absurd h (by decide), fun h => absurd h (by decide)⟩, fun h => absurd h (by decide)⟩
    have hf : frX I (mS I 108 (upd (upd (I 108) 20 (nI a - 48)) 24 2)) := frX.o (fun j hj => by rw [upd20 (by omega) j hj, upd20 (by omega) j hj])
    by_cases hq : 48 + 2 ≤ a ∧ a ≤ 48 + 9
    · rw [bI_t hq]
      refine hS _ (stp_1 hq) _ hf ⟨by simp only; omega, ?_, fun _ => ?_, fun q => absurd q (by simp only; omega), ?_, fun q => absurd q (by simp only; omega), fun c hc => ?_⟩
      · rw [mS_s]; rfl
      · rw [mS_s]; show nI a - 48 = nI (a - 48); exact fg_sub (by omega)
      · rw [mS_s]; exact r4
      · simp only [hm] at hc; simp at hc
    · rw [bI_f hq]
      exact hN (stn_1 hq) _ hf
  · have e24 : I 108 24 = nI 2 := r1
    have i1 := fgL ha (lo := 0) (hi := 9) (l := 0) (u := 9) (by decide) (by decide)
    have hm : m = 0 := t4 (by omega)
    refine J.of tk_X10_take 200 fun ρ hρ => ?_
    simp only [hρ, x_c, x_il, x_ll, x_al, x_is, x_as, x_ls, x_inc, x_ii, x_iq, x_i1, x_l2, x_lq, x_lh, x_i2l, x_l2i, x_lcmp, x_dup, x_dup2, x_pop, x_if, x_ifn, x_ic, x_icn, x_go, x_sw, swc, x_l01, x_mx, x_gI, x_gL, x_gR, x_pI, x_pZ, x_pL, x_pR, x_ia, x_za, x_aa, x_ias, x_zas, x_aas, x_fac, x_fa, x_slen, x_sa, x_ac, x_oi, x_new, x_na, x_cS, x_cV, x_cI, x_rI, x_rZ, x_rL, x_r0, pa, short, oc, lg, lset, lset2, wide, cond_true, cond_false, true_and, and_true, ↓reduceIte, Bool.false_eq_true, true_or, or_true, lf_X10_take, h1.f, e24, P_X10_in, i1, mS_s, mS_ss]
    refine ⟨⟨fun h => absurd h (by decide), fun _ => ⟨bI_or, ?_⟩, fun h => absurd h (by decide)⟩, fun h => absurd h (by decide)⟩
    have hf : frX I (mS I 108 (upd (upd (I 108) 21 (nI a - 48)) 24 0)) := frX.o (fun j hj => by rw [upd20 (by omega) j hj, upd20 (by omega) j hj])
    by_cases hq : 48 + 0 ≤ a ∧ a ≤ 48 + 9
    · rw [bI_t hq]
      refine hS _ (stp_2 hq) _ hf ⟨by simp only; omega, ?_, fun _ => ?_, fun _ => ?_, ?_, fun q => absurd q (by simp only; omega), fun c hc => ?_⟩
      · rw [mS_s]; rfl
      · rw [mS_s]; exact r2 (by omega)
      · rw [mS_s]; show nI a - 48 = nI (a - 48); exact fg_sub (by omega)
      · rw [mS_s]; exact r4
      · simp only [hm] at hc; simp at hc
    · rw [bI_f hq]
      exact hN (stn_2 hq) _ hf
  · have e24 : I 108 24 = nI 0 := r1
    have e6 : nI m = nI 6 ↔ m = 6 := nI_eq (by omega) (by omega)
    have e108 : ∀ f, mS I 122 f 108 = I 108 := fun f => mS_n (by omega)
    refine J.of tk_X10_take 200 fun ρ hρ => ?_
    simp only [hρ, x_c, x_il, x_ll, x_al, x_is, x_as, x_ls, x_inc, x_ii, x_iq, x_i1, x_l2, x_lq, x_lh, x_i2l, x_l2i, x_lcmp, x_dup, x_dup2, x_pop, x_if, x_ifn, x_ic, x_icn, x_go, x_sw, swc, x_l01, x_mx, x_gI, x_gL, x_gR, x_pI, x_pZ, x_pL, x_pR, x_ia, x_za, x_aa, x_ias, x_zas, x_aas, x_fac, x_fa, x_slen, x_sa, x_ac, x_oi, x_new, x_na, x_cS, x_cV, x_cI, x_rI, x_rZ, x_rL, x_r0, pa, short, oc, lg, lset, lset2, wide, cond_true, cond_false, true_and, and_true, ↓reduceIte, Bool.false_eq_true, true_or, or_true, lf_X10_take, h1.f, e24, e99, nI6, r4, e6, e108, ncl (show m < 2 ^ 31 by omega), mS_s, mS_ss]
    refine ⟨⟨fun h => absurd h (by decide), fun h => absurd h (by decide), fun h => absurd h (by decide)⟩, fun _ => ⟨fun h => hN (stn_3 (fun q => h q.1)) _ (frX.refl I), fun h => ⟨fun h6 => ⟨vp_in_nI (by omega) (by omega), ?_⟩, fun h6 => hN (stn_3 (fun q => by omega)) _ (frX.refl I)⟩⟩⟩
    refine hS _ (stp_3 ⟨h, by omega⟩) _ (frX.p (fun j hj => by rw [upd20 (by omega) j hj, upd20 (by omega) j hj])) ⟨by simp only; omega, ?_, fun _ => ?_, fun _ => ?_, ?_, fun _ => ?_, fun c hc => ?_⟩
    · rw [mS_s]; rfl
    · rw [mS_s]; exact r2 (by omega)
    · rw [mS_s]; exact r3 (by omega)
    · rw [mS_s]; exact r4
    · rw [mS_s]; show (-1 : Int32) + 1 = nI 0; decide
    · rw [mS_n (by omega), mS_s, upd_app]
      show _ = nI (va_up ov m 0 c)
      unfold va_up
      by_cases q : c = m
      · rw [if_pos q, if_pos q]; rfl
      · rw [if_neg q, if_neg q]
        simp only [if_true] at hc
        exact r6 c (by simp; omega)
  · have e24 : I 108 24 = nI 3 := r1
    have t5' := t5 rfl
    have t1' := t1 (by omega)
    have e20 := r2 (by omega)
    have e25 := r5 rfl
    have i1 := fgI (l := lb) (u := n) ha (by omega) (by omega) (by omega)
    have e108 : ∀ f, mS I 122 f 108 = I 108 := fun f => mS_n (by omega)
    have em : I 122 m = nI (ov m) := r6 m (by simp)
    refine J.of tk_X10_take 200 fun ρ hρ => ?_
    simp only [hρ, x_c, x_il, x_ll, x_al, x_is, x_as, x_ls, x_inc, x_ii, x_iq, x_i1, x_l2, x_lq, x_lh, x_i2l, x_l2i, x_lcmp, x_dup, x_dup2, x_pop, x_if, x_ifn, x_ic, x_icn, x_go, x_sw, swc, x_l01, x_mx, x_gI, x_gL, x_gR, x_pI, x_pZ, x_pL, x_pR, x_ia, x_za, x_aa, x_ias, x_zas, x_aas, x_fac, x_fa, x_slen, x_sa, x_ac, x_oi, x_new, x_na, x_cS, x_cV, x_cI, x_rI, x_rZ, x_rL, x_r0, pa, short, oc, lg, lset, lset2, wide, cond_true, cond_false, true_and, and_true, ↓reduceIte, Bool.false_eq_true, true_or, or_true, lf_X10_take, h1.f, e24, e46, r4, e20, e25, P_X10_in, i1, e108, em, bI_0, ncl (show m < 2 ^ 31 by omega), nI_1, mS_s, mS_ss, Classical.not_not]
    refine ⟨⟨fun h => absurd h (by decide), fun h => absurd h (by decide), fun _ => ⟨fun h => ⟨fun hq => ?_, fun hq => hN (stn_5 h hq) _ (frX.refl I)⟩, fun h => ?_⟩⟩, fun h => absurd h (by decide)⟩
    · refine ⟨vp_in_nI (by omega) (by omega), vp_in_nI (by omega) (by omega), ?_⟩
      refine hS _ (stp_5 h hq) _ (frX.p (upd20 (by omega))) ⟨by simp only; omega, ?_, fun _ => ?_, fun _ => ?_, ?_, fun _ => ?_, fun c hc => ?_⟩
      · rw [mS_s]; exact r1
      · rw [mS_s]; exact e20
      · rw [mS_s]; exact r3 (by omega)
      · rw [mS_s]; exact r4
      · rw [mS_s]; show nI a - 48 + 1 = nI (a - 48 + 1); rw [fg_sub (by omega), nI_1]
      · rw [mS_n (by omega), mS_s, upd_app]
        show _ = nI (va_up ov m (ov m ||| 2 ^ (a - 48)) c)
        unfold va_up
        by_cases q : c = m
        · rw [if_pos q, if_pos q, fg_sub (by omega), shl1 (by omega), nI_or]
        · rw [if_neg q, if_neg q]
          exact r6 c hc
    · refine hS _ (stp_4 h) _ (frX.o (fun j hj => by rw [upd20 (by omega) j hj, upd20 (by omega) j hj])) ⟨by simp only; omega, ?_, fun _ => ?_, fun _ => ?_, ?_, fun q => absurd q (by simp only; omega), fun c hc => ?_⟩
      · rw [mS_s]; rfl
      · rw [mS_s]; exact e20
      · rw [mS_s]; exact r3 (by omega)
      · rw [mS_s]; rfl
      · rw [mS_n (by omega)]
        exact r6 c (by simpa using hc)
def RdG (I : MI) (s : TS) : Prop := I 108 20 = nI s.2.1 ∧ I 108 21 = nI s.2.2.1 ∧ I 108 22 = nI s.2.2.2.1 ∧ ∀ c, c < s.2.2.2.1 → I 122 c = nI (s.2.2.2.2.2 c)
theorem RdM.G {I : MI} {s : TS} (h : RdM I s) (h3 : s.1 = 3) : RdG I s := by
  obtain ⟨r0, r1, r2, r3, r4, r5, r6⟩ := h
  exact ⟨r2 (by omega), r3 (by omega), r4, fun c hc => r6 c (by omega)⟩
theorem nI_n9 {n : Nat} (h : n < 2 ^ 31) : ¬ nI n = -9 := fun q => by
  have := congrArg Int32.toInt q
  rw [nI_toInt h, show (-9 : Int32).toInt = -9 by decide] at this
  omega
def il_X10_readText : List (Nat × Instr × Nat) := [(0, .aload_n 0, 1), (1, .iconst 0, 1), (2, .putfield 85, 3), (5, .aload_n 0, 1), (6, .iconst 1, 1), (7, .putfield 72, 3), (10, .aload_n 0, 1), (11, .getfield 69, 3), (14, .ifCond .eq 14, 3), (17, .aload_n 0, 1), (18, .getfield 7, 3), (21, .iconst 0, 1), (22, .iaload, 1), (23, .bipush 67, 2), (25, .if_icmp .eq 5, 3), (28, .iconst 0, 1), (29, .ireturn, 1), (30, .iconst 1, 1), (31, .istore_n 1, 1), (32, .iload_n 1, 1), (33, .aload_n 0, 1), (34, .getfield 69, 3), (37, .if_icmp .ge 24, 3), (40, .aload_n 0, 1), (41, .aload_n 0, 1), (42, .getfield 7, 3), (45, .iload_n 1, 1), (46, .iaload, 1), (47, .invokevirtual 91, 3), (50, .ifCond .ne 5, 3), (53, .iload_n 1, 1), (54, .ireturn, 1), (55, .iinc 1 1, 3), (58, .goto (-26), 3), (61, .aload_n 0, 1), (62, .getfield 72, 3), (65, .ifCond .ne 8, 3), (68, .bipush (-9), 2), (70, .goto 7, 3), (73, .aload_n 0, 1), (74, .getfield 69, 3), (77, .ireturn, 1)]
def mt_X10_readText : Mt := (cX10_readText, RX10, 2, (some .int), ({ frames := 2, cells := 0, slots := 0, locals := 47 } : Room), false, none, none)
set_option maxRecDepth 100000 in
theorem dl_X10_readText : ∀ q ∈ il_X10_readText, decode (mt_X10_readText).1 q.1 = .ok q.2 := by decide +kernel
def tb_X10_readText : Tb := [(0, x_al 1 0, false),
  (1, x_c 2 (.int 0), false),
  (2, x_pI 10 22 5, false),
  (5, x_al 6 0, false),
  (6, x_c 7 (.int 1), false),
  (7, x_pI 10 24 10, false),
  (10, x_al 11 0, false),
  (11, x_gI 10 1 14, false),
  (14, x_if 28 17 (fun x : Int32 => x = 0), false),
  (17, x_al 18 0, false),
  (18, x_gR 10 0 21, false),
  (21, x_c 22 (.int 0), false),
  (22, x_ia 23, false),
  (23, x_c 25 (.int 67), false),
  (25, x_ic 30 28 (fun x y : Int32 => x = y), false),
  (28, x_c 29 (.int 0), false),
  (29, x_rI, false),
  (30, x_c 31 (.int 1), false),
  (31, x_is 32 1, false),
  (32, x_il 33 1, true),
  (33, x_al 34 0, false),
  (34, x_gI 10 1 37, false),
  (37, x_ic 61 40 (fun x y : Int32 => y ≤ x), false),
  (40, x_al 41 0, false),
  (41, x_al 42 0, false),
  (42, x_gR 10 0 45, false),
  (45, x_il 46 1, false),
  (46, x_ia 47, false),
  (47, x_cV 10 1 P_X10_take 50, false),
  (50, x_ifn 55 53 (fun x : Int32 => x = 0), false),
  (53, x_il 54 1, false),
  (54, x_rI, false),
  (55, x_inc 58 1 1, false),
  (58, x_go 32, false),
  (61, x_al 62 0, false),
  (62, x_gI 10 24 65, false),
  (65, x_ifn 73 68 (fun x : Int32 => x = 0), false),
  (68, x_c 70 (.int (-9)), false),
  (70, x_go 77, false),
  (73, x_al 74 0, false),
  (74, x_gI 10 1 77, false),
  (77, x_rI, false)]
set_option maxRecDepth 100000 in
theorem tk_X10_readText : TbOk (mt_X10_readText) (tb_X10_readText) :=
  tkc (s_aload_n (at_ dl_X10_readText 0 (ins := .aload_n 0) rfl)) (
  tkc (s_iconst (at_ dl_X10_readText 1 (ins := .iconst 0) rfl) (by first | rfl | decide)) (
  tkc (s_pI (at_ dl_X10_readText 2 (ins := .putfield 85) rfl) (by decide) (by decide) (by decide) (by decide) (tg 718 (by decide +kernel) (by decide +kernel))) (
  tkc (s_aload_n (at_ dl_X10_readText 3 (ins := .aload_n 0) rfl)) (
  tkc (s_iconst (at_ dl_X10_readText 4 (ins := .iconst 1) rfl) (by first | rfl | decide)) (
  tkc (s_pI (at_ dl_X10_readText 5 (ins := .putfield 72) rfl) (by decide) (by decide) (by decide) (by decide) (tg 720 (by decide +kernel) (by decide +kernel))) (
  tkc (s_aload_n (at_ dl_X10_readText 6 (ins := .aload_n 0) rfl)) (
  tkc (s_gI (at_ dl_X10_readText 7 (ins := .getfield 69) rfl) (by decide) (by decide) (by decide) (tg 697 (by decide +kernel) (by decide +kernel))) (
  tkc (s_if_eq (at_ dl_X10_readText 8 (ins := .ifCond .eq 14) rfl) (by decide)) (
  tkc (s_aload_n (at_ dl_X10_readText 9 (ins := .aload_n 0) rfl)) (
  tkc (s_gR (at_ dl_X10_readText 10 (ins := .getfield 7) rfl) (by decide) (by decide) (by decide) (tg 696 (by decide +kernel) (by decide +kernel))) (
  tkc (s_iconst (at_ dl_X10_readText 11 (ins := .iconst 0) rfl) (by first | rfl | decide)) (
  tkc (s_ia (at_ dl_X10_readText 12 (ins := .iaload) rfl)) (
  tkc (s_bipush (at_ dl_X10_readText 13 (ins := .bipush 67) rfl) (by first | rfl | decide)) (
  tkc (s_ic_eq (at_ dl_X10_readText 14 (ins := .if_icmp .eq 5) rfl) (by decide)) (
  tkc (s_iconst (at_ dl_X10_readText 15 (ins := .iconst 0) rfl) (by first | rfl | decide)) (
  tkc (s_rI (at_ dl_X10_readText 16 (ins := .ireturn) rfl) rfl) (
  tkc (s_iconst (at_ dl_X10_readText 17 (ins := .iconst 1) rfl) (by first | rfl | decide)) (
  tkc (s_istore_n (at_ dl_X10_readText 18 (ins := .istore_n 1) rfl) (by decide)) (
  tkc (s_iload_n (at_ dl_X10_readText 19 (ins := .iload_n 1) rfl)) (
  tkc (s_aload_n (at_ dl_X10_readText 20 (ins := .aload_n 0) rfl)) (
  tkc (s_gI (at_ dl_X10_readText 21 (ins := .getfield 69) rfl) (by decide) (by decide) (by decide) (tg 697 (by decide +kernel) (by decide +kernel))) (
  tkc (s_ic_ge (at_ dl_X10_readText 22 (ins := .if_icmp .ge 24) rfl) (by decide)) (
  tkc (s_aload_n (at_ dl_X10_readText 23 (ins := .aload_n 0) rfl)) (
  tkc (s_aload_n (at_ dl_X10_readText 24 (ins := .aload_n 0) rfl)) (
  tkc (s_gR (at_ dl_X10_readText 25 (ins := .getfield 7) rfl) (by decide) (by decide) (by decide) (tg 696 (by decide +kernel) (by decide +kernel))) (
  tkc (s_iload_n (at_ dl_X10_readText 26 (ins := .iload_n 1) rfl)) (
  tkc (s_ia (at_ dl_X10_readText 27 (ins := .iaload) rfl)) (
  tkc (s_cV ok_X10_take (at_ dl_X10_readText 28 (ins := .invokevirtual 91) rfl) (by decide) rfl (tg 795 (by decide +kernel) (by decide +kernel)) (tg 797 (by decide +kernel) (by decide +kernel)) (tg 20 (by decide +kernel) (by decide +kernel)) (tg 51 (by decide +kernel) (by decide +kernel)) (tg 798 (by decide +kernel) (by decide +kernel)) (⟨by decide, by decide, by decide +kernel⟩) (⟨by decide, by decide⟩) rfl rfl) (
  tkc (s_if_ne (at_ dl_X10_readText 29 (ins := .ifCond .ne 5) rfl) (by decide)) (
  tkc (s_iload_n (at_ dl_X10_readText 30 (ins := .iload_n 1) rfl)) (
  tkc (s_rI (at_ dl_X10_readText 31 (ins := .ireturn) rfl) rfl) (
  tkc (s_iinc (at_ dl_X10_readText 32 (ins := .iinc 1 1) rfl) (by decide) (by first | rfl | decide)) (
  tkc (s_goto (at_ dl_X10_readText 33 (ins := .goto (-26)) rfl) (by decide)) (
  tkc (s_aload_n (at_ dl_X10_readText 34 (ins := .aload_n 0) rfl)) (
  tkc (s_gI (at_ dl_X10_readText 35 (ins := .getfield 72) rfl) (by decide) (by decide) (by decide) (tg 720 (by decide +kernel) (by decide +kernel))) (
  tkc (s_if_ne (at_ dl_X10_readText 36 (ins := .ifCond .ne 8) rfl) (by decide)) (
  tkc (s_bipush (at_ dl_X10_readText 37 (ins := .bipush (-9)) rfl) (by first | rfl | decide)) (
  tkc (s_goto (at_ dl_X10_readText 38 (ins := .goto 7) rfl) (by decide)) (
  tkc (s_aload_n (at_ dl_X10_readText 39 (ins := .aload_n 0) rfl)) (
  tkc (s_gI (at_ dl_X10_readText 40 (ins := .getfield 69) rfl) (by decide) (by decide) (by decide) (tg 697 (by decide +kernel) (by decide +kernel))) (
  tkc (s_rI (at_ dl_X10_readText 41 (ins := .ireturn) rfl) rfl) ( tk0))))))))))))))))))))))))))))))))))))))))))
theorem lf_X10_readText : lk (tb_X10_readText) 0 = (x_al 1 0, false) ∧ lk (tb_X10_readText) 1 = (x_c 2 (.int 0), false) ∧ lk (tb_X10_readText) 2 = (x_pI 10 22 5, false) ∧ lk (tb_X10_readText) 5 = (x_al 6 0, false) ∧ lk (tb_X10_readText) 6 = (x_c 7 (.int 1), false) ∧ lk (tb_X10_readText) 7 = (x_pI 10 24 10, false) ∧ lk (tb_X10_readText) 10 = (x_al 11 0, false) ∧ lk (tb_X10_readText) 11 = (x_gI 10 1 14, false) ∧ lk (tb_X10_readText) 14 = (x_if 28 17 (fun x : Int32 => x = 0), false) ∧ lk (tb_X10_readText) 17 = (x_al 18 0, false) ∧ lk (tb_X10_readText) 18 = (x_gR 10 0 21, false) ∧ lk (tb_X10_readText) 21 = (x_c 22 (.int 0), false) ∧ lk (tb_X10_readText) 22 = (x_ia 23, false) ∧ lk (tb_X10_readText) 23 = (x_c 25 (.int 67), false) ∧ lk (tb_X10_readText) 25 = (x_ic 30 28 (fun x y : Int32 => x = y), false) ∧ lk (tb_X10_readText) 28 = (x_c 29 (.int 0), false) ∧ lk (tb_X10_readText) 29 = (x_rI, false) ∧ lk (tb_X10_readText) 30 = (x_c 31 (.int 1), false) ∧ lk (tb_X10_readText) 31 = (x_is 32 1, false) ∧ lk (tb_X10_readText) 32 = (x_il 33 1, true) ∧ lk (tb_X10_readText) 33 = (x_al 34 0, false) ∧ lk (tb_X10_readText) 34 = (x_gI 10 1 37, false) ∧ lk (tb_X10_readText) 37 = (x_ic 61 40 (fun x y : Int32 => y ≤ x), false) ∧ lk (tb_X10_readText) 40 = (x_al 41 0, false) ∧ lk (tb_X10_readText) 41 = (x_al 42 0, false) ∧ lk (tb_X10_readText) 42 = (x_gR 10 0 45, false) ∧ lk (tb_X10_readText) 45 = (x_il 46 1, false) ∧ lk (tb_X10_readText) 46 = (x_ia 47, false) ∧ lk (tb_X10_readText) 47 = (x_cV 10 1 P_X10_take 50, false) ∧ lk (tb_X10_readText) 50 = (x_ifn 55 53 (fun x : Int32 => x = 0), false) ∧ lk (tb_X10_readText) 53 = (x_il 54 1, false) ∧ lk (tb_X10_readText) 54 = (x_rI, false) ∧ lk (tb_X10_readText) 55 = (x_inc 58 1 1, false) ∧ lk (tb_X10_readText) 58 = (x_go 32, false) ∧ lk (tb_X10_readText) 61 = (x_al 62 0, false) ∧ lk (tb_X10_readText) 62 = (x_gI 10 24 65, false) ∧ lk (tb_X10_readText) 65 = (x_ifn 73 68 (fun x : Int32 => x = 0), false) ∧ lk (tb_X10_readText) 68 = (x_c 70 (.int (-9)), false) ∧ lk (tb_X10_readText) 70 = (x_go 77, false) ∧ lk (tb_X10_readText) 73 = (x_al 74 0, false) ∧ lk (tb_X10_readText) 74 = (x_gI 10 1 77, false) ∧ lk (tb_X10_readText) 77 = (x_rI, false) := ⟨rfl, rfl, rfl, rfl, rfl, rfl, rfl, rfl, rfl, rfl, rfl, rfl, rfl, rfl, rfl, rfl, rfl, rfl, rfl, rfl, rfl, rfl, rfl, rfl, rfl, rfl, rfl, rfl, rfl, rfl, rfl, rfl, rfl, rfl, rfl, rfl, rfl, rfl, rfl, rfl, rfl, rfl⟩
def P_X10_readText : PTT := fun as M R => match as with
  | [.ref k] => k = 108 ∧ ∃ g, MR M.1 M.2.1 M.2.2 g ∧ GOk g ∧ ∀ I', frX M.2.1 I' → ((gFlt g).1 = -9 → RdG I' (gFlt g).2) → R (some (.int (gFlt g).1)) (M.1, I', M.2.2)
  | _ => False
set_option maxRecDepth 20000 in
theorem ok_X10_readText : Ok yX10_readText mt_X10_readText P_X10_readText := by
  refine Ok.of (by decide) rfl rfl rfl rfl fun av ⟨S, I, L⟩ R hP => ?_
  unfold P_X10_readText at hP
  split at hP
  case h_2 => exact hP.elim
  rename_i k
  obtain ⟨k, rfl⟩ : ∃ q : Nat, q = k := ⟨k, rfl⟩
  refine ⟨by simp [ent, wide, mt_X10_readText], ?_⟩
  show J mt_X10_readText R 0 [some (.ref k), none] [] (S, I, L)
  try dsimp only at hP
  obtain ⟨rfl, g, hc, ho, hR⟩ := hP
  obtain ⟨h1, h2, h3, h4, h5, h6, h7, h8, h9⟩ := id hc
  have hl := ho.1.1
  have hz : ∀ I' e, frX I I' → nI 0 = e → gFlt g = (e, (gFlt g).2) → R (some (.int 0)) (S, I', L) := fun I' e hf e1 e2 => by
    have := hR I' hf (fun q => by rw [e2, ← e1] at q; exact absurd q (nI_n9 (by omega)))
    rw [e2, ← e1] at this
    exact this
  have key : ∀ d i (I' : MI) (s : TS), i + d = gL g → frX I I' → RdM I' s → TSok s → fltR (gT g) (gL g) d i s = gFlt g → J mt_X10_readText R 32 [some (.ref 108), some (.int (nI i))] [] (S, I', L) := by
    intro d
    induction d with
    | zero =>
      intro i I' s hi hf hs hok he
      have e1 : I' 108 1 = nI (gL g) := by rw [hf.2 1 (by omega)]; exact h2.1
      have e24 := hs.2.1
      simp only [fltR] at he
      refine J.of tk_X10_readText 200 fun ρ hρ => ?_
      simp only [hρ, x_c, x_il, x_ll, x_al, x_is, x_as, x_ls, x_inc, x_ii, x_iq, x_i1, x_l2, x_lq, x_lh, x_i2l, x_l2i, x_lcmp, x_dup, x_dup2, x_pop, x_if, x_ifn, x_ic, x_icn, x_go, x_sw, swc, x_l01, x_mx, x_gI, x_gL, x_gR, x_pI, x_pZ, x_pL, x_pR, x_ia, x_za, x_aa, x_ias, x_zas, x_aas, x_fac, x_fa, x_slen, x_sa, x_ac, x_oi, x_new, x_na, x_cS, x_cV, x_cI, x_rI, x_rZ, x_rL, x_r0, pa, short, oc, lg, lset, lset2, wide, cond_true, cond_false, true_and, and_true, ↓reduceIte, Bool.false_eq_true, true_or, or_true, lf_X10_readText, h1.f, e1, e24, nI_leI (show gL g < 2 ^ 31 by omega) (show i < 2 ^ 31 by omega)]
      refine ⟨fun _ => ?_, fun h => absurd h (by omega)⟩
      have hp : nI (ptN s.1) = 0 ↔ s.1 = 3 := by
        have := hok.1
        have := hs.1
        rcases (show s.1 = 1 ∨ s.1 = 2 ∨ s.1 = 3 ∨ s.1 = 4 by omega) with q | q | q | q <;> rw [q] <;> decide
      rw [hp]
      refine ⟨fun q => ?_, fun q => ?_⟩
      · rw [if_neg q] at he
        have := hR I' hf (fun z => by rw [← he] at z; exact absurd z (nI_n9 (by omega)))
        rw [← he] at this
        exact this
      · rw [if_pos q] at he
        have := hR I' hf (fun _ => by rw [← he]; exact hs.G q)
        rw [← he] at this
        exact this
    | succ d ih =>
      intro i I' s hi hf hs hok he
      have e1 : I' 108 1 = nI (gL g) := by rw [hf.2 1 (by omega)]; exact h2.1
      have e2 : I' 109 i = nI (gT g i) := by rw [hf.1 109 (by omega) (by omega)]; exact h2.2 i (by omega)
      have ht := ho.1.2 i (by omega)
      simp only [fltR] at he
      refine J.of tk_X10_readText 200 fun ρ hρ => ?_
      simp only [hρ, x_c, x_il, x_ll, x_al, x_is, x_as, x_ls, x_inc, x_ii, x_iq, x_i1, x_l2, x_lq, x_lh, x_i2l, x_l2i, x_lcmp, x_dup, x_dup2, x_pop, x_if, x_ifn, x_ic, x_icn, x_go, x_sw, swc, x_l01, x_mx, x_gI, x_gL, x_gR, x_pI, x_pZ, x_pL, x_pR, x_ia, x_za, x_aa, x_ias, x_zas, x_aas, x_fac, x_fa, x_slen, x_sa, x_ac, x_oi, x_new, x_na, x_cS, x_cV, x_cI, x_rI, x_rZ, x_rL, x_r0, pa, short, oc, lg, lset, lset2, wide, cond_true, cond_false, true_and, and_true, ↓reduceIte, Bool.false_eq_true, true_or, or_true, lf_X10_readText, h1, h1.f, e1, e2, nI_leI (show gL g < 2 ^ 31 by omega) (show i < 2 ^ 31 by omega), ncl (show i < 2 ^ 31 by omega), P_X10_take, nI_1]
      refine ⟨fun h => absurd h (by omega), fun _ => ⟨vp_in_nI (by omega) (by omega), s, gT g i, ht, rfl, hs, hok, fun s' hs' I2 hf2 hr2 => ?_, fun hn I2 hf2 => ?_⟩⟩
      · rw [hs'] at he
        exact ⟨fun _ => ih (i + 1) I2 s' (by omega) (hf.trans hf2) hr2 (TSok_s hok hs') he, fun h => absurd h (by decide)⟩
      · rw [hn] at he
        refine ⟨fun h => absurd trivial h, fun _ => ?_⟩
        simp only at he
        have := hR I2 (hf.trans hf2) (fun z => by rw [← he] at z; exact absurd z (nI_n9 (by omega)))
        rw [← he] at this
        exact this
  have e0 : (mS I 108 (upd (upd (I 108) 22 0) 24 1)) 108 1 = nI (gL g) := by rw [mS_s]; exact h2.1
  have e109 : (mS I 108 (upd (upd (I 108) 22 0) 24 1)) 109 = I 109 := mS_n (by omega)
  have hf0 : frX I (mS I 108 (upd (upd (I 108) 22 0) 24 1)) := frX.o (fun j hj => by rw [upd20 (by omega) j hj, upd20 (by omega) j hj])
  have n0 : (0 : Int32).toNatClampNeg = 0 := by decide
  have hv : vp_in 0 70 := vp_in_nI (n := 0) (by omega) (by omega)
  refine J.of tk_X10_readText 200 fun ρ hρ => ?_
  simp only [hρ, x_c, x_il, x_ll, x_al, x_is, x_as, x_ls, x_inc, x_ii, x_iq, x_i1, x_l2, x_lq, x_lh, x_i2l, x_l2i, x_lcmp, x_dup, x_dup2, x_pop, x_if, x_ifn, x_ic, x_icn, x_go, x_sw, swc, x_l01, x_mx, x_gI, x_gL, x_gR, x_pI, x_pZ, x_pL, x_pR, x_ia, x_za, x_aa, x_ias, x_zas, x_aas, x_fac, x_fa, x_slen, x_sa, x_ac, x_oi, x_new, x_na, x_cS, x_cV, x_cI, x_rI, x_rZ, x_rL, x_r0, pa, short, oc, lg, lset, lset2, wide, cond_true, cond_false, true_and, and_true, ↓reduceIte, Bool.false_eq_true, true_or, or_true, lf_X10_readText, h1.f, mS_s, mS_ss, e109, n0, eq_true hv]
  have e1' : upd (upd (I 108) 22 0) 24 1 1 = nI (gL g) := h2.1
  rw [e1', nI_z (by omega)]
  refine ⟨fun h => ?_, fun h => ?_⟩
  · refine hz _ _ hf0 rfl ?_
    unfold gFlt flt
    rw [h]; rfl
  · have ht := ho.1.2 0 (by omega)
    have e2 : I 109 0 = nI (gT g 0) := h2.2 0 (by omega)
    rw [e2, show (67 : Int32) = nI 67 by decide, nI_eq (by omega) (by omega)]
    have hg : gFlt g = fltR (gT g) (gL g) (gL g - 1 + 1) 0 TS0 := by unfold gFlt flt; rw [show gL g - 1 + 1 = gL g by omega]
    refine ⟨fun q => ?_, fun q => ?_⟩
    · refine key (gL g - 1) 1 _ (1, TS0.2) (by omega) hf0 ⟨Nat.le_refl 1, ?_, fun z => absurd z (by simp only; omega), fun z => absurd z (by simp only; omega), ?_, fun z => absurd z (by simp only; omega), fun c hc => ?_⟩ (TSok_s (s := TS0) (a := 67) TSok_0 rfl) ?_
      · rw [mS_s]; rfl
      · rw [mS_s]; rfl
      · simp [TS0] at hc
      · rw [hg]; simp only [fltR]; rw [q]; rfl
    · refine hz _ _ hf0 rfl ?_
      have : stpT TS0 (gT g 0) = none := stn_0 q
      rw [hg]; simp only [fltR, this]
def il_X10_fault : List (Nat × Instr × Nat) := [(0, .aload_n 0, 1), (1, .invokevirtual 95, 3), (4, .ireturn, 1)]
def mt_X10_fault : Mt := (cX10_fault, RX10, 1, (some .int), ({ frames := 3, cells := 0, slots := 0, locals := 68 } : Room), false, none, none)
set_option maxRecDepth 100000 in
theorem dl_X10_fault : ∀ q ∈ il_X10_fault, decode (mt_X10_fault).1 q.1 = .ok q.2 := by decide +kernel
def tb_X10_fault : Tb := [(0, x_al 1 0, false),
  (1, x_cV 10 0 P_X10_readText 4, false),
  (4, x_rI, false)]
set_option maxRecDepth 100000 in
theorem tk_X10_fault : TbOk (mt_X10_fault) (tb_X10_fault) :=
  tkc (s_aload_n (at_ dl_X10_fault 0 (ins := .aload_n 0) rfl)) (
  tkc (s_cV ok_X10_readText (at_ dl_X10_fault 1 (ins := .invokevirtual 95) rfl) (by decide) rfl (tg 791 (by decide +kernel) (by decide +kernel)) (tg 793 (by decide +kernel) (by decide +kernel)) (tg 19 (by decide +kernel) (by decide +kernel)) (tg 51 (by decide +kernel) (by decide +kernel)) (tg 794 (by decide +kernel) (by decide +kernel)) (⟨by decide, by decide, by decide +kernel⟩) (⟨by decide, by decide⟩) rfl rfl) (
  tkc (s_rI (at_ dl_X10_fault 2 (ins := .ireturn) rfl) rfl) ( tk0)))
theorem lf_X10_fault : lk (tb_X10_fault) 0 = (x_al 1 0, false) ∧ lk (tb_X10_fault) 1 = (x_cV 10 0 P_X10_readText 4, false) ∧ lk (tb_X10_fault) 4 = (x_rI, false) := ⟨rfl, rfl, rfl⟩
def P_X10_fault : PTT := fun as M R => match as with
  | [.ref k] => k = 108 ∧ ∃ g, MR M.1 M.2.1 M.2.2 g ∧ GOk g ∧ Anm M R (gFlt g).1 g
  | _ => False
set_option maxRecDepth 20000 in
theorem ok_X10_fault : Ok yX10_fault mt_X10_fault P_X10_fault := by
  refine Ok.of (by decide) rfl rfl rfl rfl fun av ⟨S, I, L⟩ R hP => ?_
  unfold P_X10_fault at hP
  split at hP
  case h_2 => exact hP.elim
  rename_i k
  obtain ⟨k, rfl⟩ : ∃ q : Nat, q = k := ⟨k, rfl⟩
  refine ⟨by simp [ent, wide, mt_X10_fault], ?_⟩
  show J mt_X10_fault R 0 [some (.ref k)] [] (S, I, L)
  try dsimp only at hP
  obtain ⟨rfl, g, hc, ho, hA⟩ := hP
  have h1 := hc.1
  refine J.of tk_X10_fault 200 fun ρ hρ => ?_
  simp only [hρ, x_c, x_il, x_ll, x_al, x_is, x_as, x_ls, x_inc, x_ii, x_iq, x_i1, x_l2, x_lq, x_lh, x_i2l, x_l2i, x_lcmp, x_dup, x_dup2, x_pop, x_if, x_ifn, x_ic, x_icn, x_go, x_sw, swc, x_l01, x_mx, x_gI, x_gL, x_gR, x_pI, x_pZ, x_pL, x_pR, x_ia, x_za, x_aa, x_ias, x_zas, x_aas, x_fac, x_fa, x_slen, x_sa, x_ac, x_oi, x_new, x_na, x_cS, x_cV, x_cI, x_rI, x_rZ, x_rL, x_r0, pa, short, oc, lg, lset, lset2, wide, cond_true, cond_false, true_and, and_true, ↓reduceIte, Bool.false_eq_true, true_or, or_true, lf_X10_fault, h1.f, P_X10_readText]
  exact ⟨g, hc, ho, fun I' hf _ => hA.q hc hf.M⟩
def il_X10_code : List (Nat × Instr × Nat) := [(0, .aload_n 0, 1), (1, .invokevirtual 95, 3), (4, .bipush (-9), 2), (6, .if_icmp .eq 6, 3), (9, .bipush (-3), 2), (11, .ireturn, 1), (12, .iconst 0, 1), (13, .istore_n 1, 1), (14, .iload_n 1, 1), (15, .bipush 80, 2), (17, .if_icmp .ge 16, 3), (20, .aload_n 0, 1), (21, .getfield 13, 3), (24, .iload_n 1, 1), (25, .iconst 0, 1), (26, .iastore, 1), (27, .iinc 1 1, 3), (30, .goto (-16), 3), (33, .aload_n 0, 1), (34, .aload_n 0, 1), (35, .getfield 75, 3), (38, .putfield 53, 3), (41, .aload_n 0, 1), (42, .aload_n 0, 1), (43, .getfield 85, 3), (46, .putfield 64, 3), (49, .aload_n 0, 1), (50, .getfield 13, 3), (53, .bipush 78, 2), (55, .aload_n 0, 1), (56, .getfield 82, 3), (59, .iastore, 1), (60, .iconst 0, 1), (61, .istore_n 1, 1), (62, .iload_n 1, 1), (63, .aload_n 0, 1), (64, .getfield 64, 3), (67, .if_icmp .ge 24, 3), (70, .aload_n 0, 1), (71, .getfield 13, 3), (74, .bipush 18, 2), (76, .iload_n 1, 1), (77, .iadd, 1), (78, .aload_n 0, 1), (79, .getfield 50, 3), (82, .iload_n 1, 1), (83, .iaload, 1), (84, .iastore, 1), (85, .iinc 1 1, 3), (88, .goto (-26), 3), (91, .aload_n 0, 1), (92, .iconst 0, 1), (93, .putfield 99, 3), (96, .aload_n 0, 1), (97, .getfield 25, 3), (100, .iconst 0, 1), (101, .iconst 0, 1), (102, .bastore, 1), (103, .aload_n 0, 1), (104, .getfield 25, 3), (107, .iconst 1, 1), (108, .iconst 0, 1), (109, .bastore, 1), (110, .aload_n 0, 1), (111, .getfield 64, 3), (114, .ireturn, 1)]
def mt_X10_code : Mt := (cX10_code, RX10, 2, (some .int), ({ frames := 3, cells := 0, slots := 0, locals := 68 } : Room), false, none, none)
set_option maxRecDepth 100000 in
theorem dl_X10_code : ∀ q ∈ il_X10_code, decode (mt_X10_code).1 q.1 = .ok q.2 := by decide +kernel
def tb_X10_code : Tb := [(0, x_al 1 0, false),
  (1, x_cV 10 0 P_X10_readText 4, false),
  (4, x_c 6 (.int (-9)), false),
  (6, x_ic 12 9 (fun x y : Int32 => x = y), false),
  (9, x_c 11 (.int (-3)), false),
  (11, x_rI, false),
  (12, x_c 13 (.int 0), false),
  (13, x_is 14 1, false),
  (14, x_il 15 1, true),
  (15, x_c 17 (.int 80), false),
  (17, x_ic 33 20 (fun x y : Int32 => y ≤ x), false),
  (20, x_al 21 0, false),
  (21, x_gR 10 4 24, false),
  (24, x_il 25 1, false),
  (25, x_c 26 (.int 0), false),
  (26, x_ias 27, false),
  (27, x_inc 30 1 1, false),
  (30, x_go 14, false),
  (33, x_al 34 0, false),
  (34, x_al 35 0, false),
  (35, x_gI 10 20 38, false),
  (38, x_pI 10 2 41, false),
  (41, x_al 42 0, false),
  (42, x_al 43 0, false),
  (43, x_gI 10 22 46, false),
  (46, x_pI 10 3 49, false),
  (49, x_al 50 0, false),
  (50, x_gR 10 4 53, false),
  (53, x_c 55 (.int 78), false),
  (55, x_al 56 0, false),
  (56, x_gI 10 21 59, false),
  (59, x_ias 60, false),
  (60, x_c 61 (.int 0), false),
  (61, x_is 62 1, false),
  (62, x_il 63 1, true),
  (63, x_al 64 0, false),
  (64, x_gI 10 3 67, false),
  (67, x_ic 91 70 (fun x y : Int32 => y ≤ x), false),
  (70, x_al 71 0, false),
  (71, x_gR 10 4 74, false),
  (74, x_c 76 (.int 18), false),
  (76, x_il 77 1, false),
  (77, x_ii 78 (fun x y : Int32 => x + y), false),
  (78, x_al 79 0, false),
  (79, x_gR 10 23 82, false),
  (82, x_il 83 1, false),
  (83, x_ia 84, false),
  (84, x_ias 85, false),
  (85, x_inc 88 1 1, false),
  (88, x_go 62, false),
  (91, x_al 92 0, false),
  (92, x_c 93 (.int 0), false),
  (93, x_pI 10 7 96, false),
  (96, x_al 97 0, false),
  (97, x_gR 10 10 100, false),
  (100, x_c 101 (.int 0), false),
  (101, x_c 102 (.int 0), false),
  (102, x_zas 103, false),
  (103, x_al 104 0, false),
  (104, x_gR 10 10 107, false),
  (107, x_c 108 (.int 1), false),
  (108, x_c 109 (.int 0), false),
  (109, x_zas 110, false),
  (110, x_al 111 0, false),
  (111, x_gI 10 3 114, false),
  (114, x_rI, false)]
set_option maxRecDepth 100000 in
theorem tk_X10_code : TbOk (mt_X10_code) (tb_X10_code) :=
  tkc (s_aload_n (at_ dl_X10_code 0 (ins := .aload_n 0) rfl)) (
  tkc (s_cV ok_X10_readText (at_ dl_X10_code 1 (ins := .invokevirtual 95) rfl) (by decide) rfl (tg 791 (by decide +kernel) (by decide +kernel)) (tg 793 (by decide +kernel) (by decide +kernel)) (tg 19 (by decide +kernel) (by decide +kernel)) (tg 51 (by decide +kernel) (by decide +kernel)) (tg 794 (by decide +kernel) (by decide +kernel)) (⟨by decide, by decide, by decide +kernel⟩) (⟨by decide, by decide⟩) rfl rfl) (
  tkc (s_bipush (at_ dl_X10_code 2 (ins := .bipush (-9)) rfl) (by first | rfl | decide)) (
  tkc (s_ic_eq (at_ dl_X10_code 3 (ins := .if_icmp .eq 6) rfl) (by decide)) (
  tkc (s_bipush (at_ dl_X10_code 4 (ins := .bipush (-3)) rfl) (by first | rfl | decide)) (
  tkc (s_rI (at_ dl_X10_code 5 (ins := .ireturn) rfl) rfl) (
  tkc (s_iconst (at_ dl_X10_code 6 (ins := .iconst 0) rfl) (by first | rfl | decide)) (
  tkc (s_istore_n (at_ dl_X10_code 7 (ins := .istore_n 1) rfl) (by decide)) (
  tkc (s_iload_n (at_ dl_X10_code 8 (ins := .iload_n 1) rfl)) (
  tkc (s_bipush (at_ dl_X10_code 9 (ins := .bipush 80) rfl) (by first | rfl | decide)) (
  tkc (s_ic_ge (at_ dl_X10_code 10 (ins := .if_icmp .ge 16) rfl) (by decide)) (
  tkc (s_aload_n (at_ dl_X10_code 11 (ins := .aload_n 0) rfl)) (
  tkc (s_gR (at_ dl_X10_code 12 (ins := .getfield 13) rfl) (by decide) (by decide) (by decide) (tg 700 (by decide +kernel) (by decide +kernel))) (
  tkc (s_iload_n (at_ dl_X10_code 13 (ins := .iload_n 1) rfl)) (
  tkc (s_iconst (at_ dl_X10_code 14 (ins := .iconst 0) rfl) (by first | rfl | decide)) (
  tkc (s_ias (at_ dl_X10_code 15 (ins := .iastore) rfl)) (
  tkc (s_iinc (at_ dl_X10_code 16 (ins := .iinc 1 1) rfl) (by decide) (by first | rfl | decide)) (
  tkc (s_goto (at_ dl_X10_code 17 (ins := .goto (-16)) rfl) (by decide)) (
  tkc (s_aload_n (at_ dl_X10_code 18 (ins := .aload_n 0) rfl)) (
  tkc (s_aload_n (at_ dl_X10_code 19 (ins := .aload_n 0) rfl)) (
  tkc (s_gI (at_ dl_X10_code 20 (ins := .getfield 75) rfl) (by decide) (by decide) (by decide) (tg 716 (by decide +kernel) (by decide +kernel))) (
  tkc (s_pI (at_ dl_X10_code 21 (ins := .putfield 53) rfl) (by decide) (by decide) (by decide) (by decide) (tg 698 (by decide +kernel) (by decide +kernel))) (
  tkc (s_aload_n (at_ dl_X10_code 22 (ins := .aload_n 0) rfl)) (
  tkc (s_aload_n (at_ dl_X10_code 23 (ins := .aload_n 0) rfl)) (
  tkc (s_gI (at_ dl_X10_code 24 (ins := .getfield 85) rfl) (by decide) (by decide) (by decide) (tg 718 (by decide +kernel) (by decide +kernel))) (
  tkc (s_pI (at_ dl_X10_code 25 (ins := .putfield 64) rfl) (by decide) (by decide) (by decide) (by decide) (tg 699 (by decide +kernel) (by decide +kernel))) (
  tkc (s_aload_n (at_ dl_X10_code 26 (ins := .aload_n 0) rfl)) (
  tkc (s_gR (at_ dl_X10_code 27 (ins := .getfield 13) rfl) (by decide) (by decide) (by decide) (tg 700 (by decide +kernel) (by decide +kernel))) (
  tkc (s_bipush (at_ dl_X10_code 28 (ins := .bipush 78) rfl) (by first | rfl | decide)) (
  tkc (s_aload_n (at_ dl_X10_code 29 (ins := .aload_n 0) rfl)) (
  tkc (s_gI (at_ dl_X10_code 30 (ins := .getfield 82) rfl) (by decide) (by decide) (by decide) (tg 717 (by decide +kernel) (by decide +kernel))) (
  tkc (s_ias (at_ dl_X10_code 31 (ins := .iastore) rfl)) (
  tkc (s_iconst (at_ dl_X10_code 32 (ins := .iconst 0) rfl) (by first | rfl | decide)) (
  tkc (s_istore_n (at_ dl_X10_code 33 (ins := .istore_n 1) rfl) (by decide)) (
  tkc (s_iload_n (at_ dl_X10_code 34 (ins := .iload_n 1) rfl)) (
  tkc (s_aload_n (at_ dl_X10_code 35 (ins := .aload_n 0) rfl)) (
  tkc (s_gI (at_ dl_X10_code 36 (ins := .getfield 64) rfl) (by decide) (by decide) (by decide) (tg 699 (by decide +kernel) (by decide +kernel))) (
  tkc (s_ic_ge (at_ dl_X10_code 37 (ins := .if_icmp .ge 24) rfl) (by decide)) (
  tkc (s_aload_n (at_ dl_X10_code 38 (ins := .aload_n 0) rfl)) (
  tkc (s_gR (at_ dl_X10_code 39 (ins := .getfield 13) rfl) (by decide) (by decide) (by decide) (tg 700 (by decide +kernel) (by decide +kernel))) (
  tkc (s_bipush (at_ dl_X10_code 40 (ins := .bipush 18) rfl) (by first | rfl | decide)) (
  tkc (s_iload_n (at_ dl_X10_code 41 (ins := .iload_n 1) rfl)) (
  tkc (s_iadd (at_ dl_X10_code 42 (ins := .iadd) rfl)) (
  tkc (s_aload_n (at_ dl_X10_code 43 (ins := .aload_n 0) rfl)) (
  tkc (s_gR (at_ dl_X10_code 44 (ins := .getfield 50) rfl) (by decide) (by decide) (by decide) (tg 719 (by decide +kernel) (by decide +kernel))) (
  tkc (s_iload_n (at_ dl_X10_code 45 (ins := .iload_n 1) rfl)) (
  tkc (s_ia (at_ dl_X10_code 46 (ins := .iaload) rfl)) (
  tkc (s_ias (at_ dl_X10_code 47 (ins := .iastore) rfl)) (
  tkc (s_iinc (at_ dl_X10_code 48 (ins := .iinc 1 1) rfl) (by decide) (by first | rfl | decide)) (
  tkc (s_goto (at_ dl_X10_code 49 (ins := .goto (-26)) rfl) (by decide)) (
  tkc (s_aload_n (at_ dl_X10_code 50 (ins := .aload_n 0) rfl)) (
  tkc (s_iconst (at_ dl_X10_code 51 (ins := .iconst 0) rfl) (by first | rfl | decide)) (
  tkc (s_pI (at_ dl_X10_code 52 (ins := .putfield 99) rfl) (by decide) (by decide) (by decide) (by decide) (tg 703 (by decide +kernel) (by decide +kernel))) (
  tkc (s_aload_n (at_ dl_X10_code 53 (ins := .aload_n 0) rfl)) (
  tkc (s_gR (at_ dl_X10_code 54 (ins := .getfield 25) rfl) (by decide) (by decide) (by decide) (tg 706 (by decide +kernel) (by decide +kernel))) (
  tkc (s_iconst (at_ dl_X10_code 55 (ins := .iconst 0) rfl) (by first | rfl | decide)) (
  tkc (s_iconst (at_ dl_X10_code 56 (ins := .iconst 0) rfl) (by first | rfl | decide)) (
  tkc (s_zas (at_ dl_X10_code 57 (ins := .bastore) rfl)) (
  tkc (s_aload_n (at_ dl_X10_code 58 (ins := .aload_n 0) rfl)) (
  tkc (s_gR (at_ dl_X10_code 59 (ins := .getfield 25) rfl) (by decide) (by decide) (by decide) (tg 706 (by decide +kernel) (by decide +kernel))) (
  tkc (s_iconst (at_ dl_X10_code 60 (ins := .iconst 1) rfl) (by first | rfl | decide)) (
  tkc (s_iconst (at_ dl_X10_code 61 (ins := .iconst 0) rfl) (by first | rfl | decide)) (
  tkc (s_zas (at_ dl_X10_code 62 (ins := .bastore) rfl)) (
  tkc (s_aload_n (at_ dl_X10_code 63 (ins := .aload_n 0) rfl)) (
  tkc (s_gI (at_ dl_X10_code 64 (ins := .getfield 64) rfl) (by decide) (by decide) (by decide) (tg 699 (by decide +kernel) (by decide +kernel))) (
  tkc (s_rI (at_ dl_X10_code 65 (ins := .ireturn) rfl) rfl) ( tk0))))))))))))))))))))))))))))))))))))))))))))))))))))))))))))))))))
theorem lf_X10_code : lk (tb_X10_code) 0 = (x_al 1 0, false) ∧ lk (tb_X10_code) 1 = (x_cV 10 0 P_X10_readText 4, false) ∧ lk (tb_X10_code) 4 = (x_c 6 (.int (-9)), false) ∧ lk (tb_X10_code) 6 = (x_ic 12 9 (fun x y : Int32 => x = y), false) ∧ lk (tb_X10_code) 9 = (x_c 11 (.int (-3)), false) ∧ lk (tb_X10_code) 11 = (x_rI, false) ∧ lk (tb_X10_code) 12 = (x_c 13 (.int 0), false) ∧ lk (tb_X10_code) 13 = (x_is 14 1, false) ∧ lk (tb_X10_code) 14 = (x_il 15 1, true) ∧ lk (tb_X10_code) 15 = (x_c 17 (.int 80), false) ∧ lk (tb_X10_code) 17 = (x_ic 33 20 (fun x y : Int32 => y ≤ x), false) ∧ lk (tb_X10_code) 20 = (x_al 21 0, false) ∧ lk (tb_X10_code) 21 = (x_gR 10 4 24, false) ∧ lk (tb_X10_code) 24 = (x_il 25 1, false) ∧ lk (tb_X10_code) 25 = (x_c 26 (.int 0), false) ∧ lk (tb_X10_code) 26 = (x_ias 27, false) ∧ lk (tb_X10_code) 27 = (x_inc 30 1 1, false) ∧ lk (tb_X10_code) 30 = (x_go 14, false) ∧ lk (tb_X10_code) 33 = (x_al 34 0, false) ∧ lk (tb_X10_code) 34 = (x_al 35 0, false) ∧ lk (tb_X10_code) 35 = (x_gI 10 20 38, false) ∧ lk (tb_X10_code) 38 = (x_pI 10 2 41, false) ∧ lk (tb_X10_code) 41 = (x_al 42 0, false) ∧ lk (tb_X10_code) 42 = (x_al 43 0, false) ∧ lk (tb_X10_code) 43 = (x_gI 10 22 46, false) ∧ lk (tb_X10_code) 46 = (x_pI 10 3 49, false) ∧ lk (tb_X10_code) 49 = (x_al 50 0, false) ∧ lk (tb_X10_code) 50 = (x_gR 10 4 53, false) ∧ lk (tb_X10_code) 53 = (x_c 55 (.int 78), false) ∧ lk (tb_X10_code) 55 = (x_al 56 0, false) ∧ lk (tb_X10_code) 56 = (x_gI 10 21 59, false) ∧ lk (tb_X10_code) 59 = (x_ias 60, false) ∧ lk (tb_X10_code) 60 = (x_c 61 (.int 0), false) ∧ lk (tb_X10_code) 61 = (x_is 62 1, false) ∧ lk (tb_X10_code) 62 = (x_il 63 1, true) ∧ lk (tb_X10_code) 63 = (x_al 64 0, false) ∧ lk (tb_X10_code) 64 = (x_gI 10 3 67, false) ∧ lk (tb_X10_code) 67 = (x_ic 91 70 (fun x y : Int32 => y ≤ x), false) ∧ lk (tb_X10_code) 70 = (x_al 71 0, false) ∧ lk (tb_X10_code) 71 = (x_gR 10 4 74, false) ∧ lk (tb_X10_code) 74 = (x_c 76 (.int 18), false) ∧ lk (tb_X10_code) 76 = (x_il 77 1, false) ∧ lk (tb_X10_code) 77 = (x_ii 78 (fun x y : Int32 => x + y), false) ∧ lk (tb_X10_code) 78 = (x_al 79 0, false) ∧ lk (tb_X10_code) 79 = (x_gR 10 23 82, false) ∧ lk (tb_X10_code) 82 = (x_il 83 1, false) ∧ lk (tb_X10_code) 83 = (x_ia 84, false) ∧ lk (tb_X10_code) 84 = (x_ias 85, false) ∧ lk (tb_X10_code) 85 = (x_inc 88 1 1, false) ∧ lk (tb_X10_code) 88 = (x_go 62, false) ∧ lk (tb_X10_code) 91 = (x_al 92 0, false) ∧ lk (tb_X10_code) 92 = (x_c 93 (.int 0), false) ∧ lk (tb_X10_code) 93 = (x_pI 10 7 96, false) ∧ lk (tb_X10_code) 96 = (x_al 97 0, false) ∧ lk (tb_X10_code) 97 = (x_gR 10 10 100, false) ∧ lk (tb_X10_code) 100 = (x_c 101 (.int 0), false) ∧ lk (tb_X10_code) 101 = (x_c 102 (.int 0), false) ∧ lk (tb_X10_code) 102 = (x_zas 103, false) ∧ lk (tb_X10_code) 103 = (x_al 104 0, false) ∧ lk (tb_X10_code) 104 = (x_gR 10 10 107, false) ∧ lk (tb_X10_code) 107 = (x_c 108 (.int 1), false) ∧ lk (tb_X10_code) 108 = (x_c 109 (.int 0), false) ∧ lk (tb_X10_code) 109 = (x_zas 110, false) ∧ lk (tb_X10_code) 110 = (x_al 111 0, false) ∧ lk (tb_X10_code) 111 = (x_gI 10 3 114, false) ∧ lk (tb_X10_code) 114 = (x_rI, false) := ⟨rfl, rfl, rfl, rfl, rfl, rfl, rfl, rfl, rfl, rfl, rfl, rfl, rfl, rfl, rfl, rfl, rfl, rfl, rfl, rfl, rfl, rfl, rfl, rfl, rfl, rfl, rfl, rfl, rfl, rfl, rfl, rfl, rfl, rfl, rfl, rfl, rfl, rfl, rfl, rfl, rfl, rfl, rfl, rfl, rfl, rfl, rfl, rfl, rfl, rfl, rfl, rfl, rfl, rfl, rfl, rfl, rfl, rfl, rfl, rfl, rfl, rfl, rfl, rfl, rfl, rfl⟩
def P_X10_code : PTT := fun as M R => match as with
  | [.ref k] => k = 108 ∧ ∃ g, MR M.1 M.2.1 M.2.2 g ∧ GOk g ∧ Anm M R (gCode g).1 (gCode g).2
  | _ => False
set_option maxRecDepth 20000 in
theorem ok_X10_code : Ok yX10_code mt_X10_code P_X10_code := by
  refine Ok.of (by decide) rfl rfl rfl rfl fun av ⟨S, I, L⟩ R hP => ?_
  unfold P_X10_code at hP
  split at hP
  case h_2 => exact hP.elim
  rename_i k
  obtain ⟨k, rfl⟩ : ∃ q : Nat, q = k := ⟨k, rfl⟩
  refine ⟨by simp [ent, wide, mt_X10_code], ?_⟩
  show J mt_X10_code R 0 [some (.ref k), none] [] (S, I, L)
  try dsimp only at hP
  obtain ⟨rfl, g, hc, ho, hA⟩ := hP
  have h1 := hc.1
  refine J.of tk_X10_code 200 fun ρ hρ => ?_
  simp only [hρ, x_c, x_il, x_ll, x_al, x_is, x_as, x_ls, x_inc, x_ii, x_iq, x_i1, x_l2, x_lq, x_lh, x_i2l, x_l2i, x_lcmp, x_dup, x_dup2, x_pop, x_if, x_ifn, x_ic, x_icn, x_go, x_sw, swc, x_l01, x_mx, x_gI, x_gL, x_gR, x_pI, x_pZ, x_pL, x_pR, x_ia, x_za, x_aa, x_ias, x_zas, x_aas, x_fac, x_fa, x_slen, x_sa, x_ac, x_oi, x_new, x_na, x_cS, x_cV, x_cI, x_rI, x_rZ, x_rL, x_r0, pa, short, oc, lg, lset, lset2, wide, cond_true, cond_false, true_and, and_true, ↓reduceIte, Bool.false_eq_true, true_or, or_true, lf_X10_code, h1.f, P_X10_readText]
  refine ⟨g, hc, ho, fun I' hf hr => ⟨fun h => ?_, fun h => (hA.e (show gCode g = (-3, g) by rw [gCode, if_neg h])).q hc hf.M⟩⟩
  have hA' := hA.e (show gCode g = (nI (gFlt g).2.2.2.2.1, GK (GH (GA g (codeA (gFlt g).2)) 0 (gH g)) (fun _ => false) (gS g)) by rw [gCode, if_pos h])
  obtain ⟨tok, t3⟩ := gFlt_ok ho h
  obtain ⟨g1, g2, g3, g4⟩ := hr h
  have hc' := hc.fr hf.M
  have hlo : lo8 I I' := hf.M.lo
  revert g1 g2 g3 g4 tok t3 hA'
  generalize (gFlt g).2 = s
  intro hA' tok t3 g1 g2 g3 g4
  have hm : s.2.2.2.1 ≤ 6 := tok.2.2.2.1
  obtain ⟨c1, c2, c3, c4, c5, c6, c7, c8, c9⟩ := hc'
  have e78 : (78 : Int32).toNatClampNeg = 78 := by decide
  have v78 : vp_in 78 80 := vp_in_nI (n := 78) (by omega) (by omega)
  have z0 : (0 : Int32).toNatClampNeg = 0 := by decide
  have z1 : (1 : Int32).toNatClampNeg = 1 := by decide
  have w0 : vp_in 0 2 := vp_in_nI (n := 0) (by omega) (by omega)
  have w1 : vp_in 1 2 := vp_in_nI (n := 1) (by omega) (by omega)
  have key2 : ∀ I2 : MI, (∀ q, q ≠ 108 → q ≠ 110 → I2 q = I' q) → I2 108 = upd (upd (I' 108) 2 (nI s.2.1)) 3 (nI s.2.2.2.1) → I2 110 = upd (zr (I' 110) 80) 78 (nI s.2.2.1) → ∀ i, i ≤ s.2.2.2.1 → J mt_X10_code R 62 [some (.ref 108), some (.int (nI i))] [] (S, mS I2 110 (sgC (I' 122) (I2 110) 18 i), L) := by
    intro I2 f1 f8 f10
    have e3 : upd (upd (I' 108) 2 (nI s.2.1)) 3 (nI s.2.2.2.1) 3 = nI s.2.2.2.1 := upd_s
    refine up (P := fun i => J mt_X10_code R 62 [some (.ref 108), some (.int (nI i))] [] (S, mS I2 110 (sgC (I' 122) (I2 110) 18 i), L)) (n := s.2.2.2.1) (fun i hi ih => ?_)
    have e108 : mS I2 110 (sgC (I' 122) (I2 110) 18 i) 108 = upd (upd (I' 108) 2 (nI s.2.1)) 3 (nI s.2.2.2.1) := by rw [mS_n (by omega), f8]
    have e122 : mS I2 110 (sgC (I' 122) (I2 110) 18 i) 122 = I' 122 := by rw [mS_n (by omega), f1 122 (by omega) (by omega)]
    by_cases hlt : i < s.2.2.2.1
    · refine J.of tk_X10_code 200 fun ρ hρ => ?_
      simp only [hρ, x_c, x_il, x_ll, x_al, x_is, x_as, x_ls, x_inc, x_ii, x_iq, x_i1, x_l2, x_lq, x_lh, x_i2l, x_l2i, x_lcmp, x_dup, x_dup2, x_pop, x_if, x_ifn, x_ic, x_icn, x_go, x_sw, swc, x_l01, x_mx, x_gI, x_gL, x_gR, x_pI, x_pZ, x_pL, x_pR, x_ia, x_za, x_aa, x_ias, x_zas, x_aas, x_fac, x_fa, x_slen, x_sa, x_ac, x_oi, x_new, x_na, x_cS, x_cV, x_cI, x_rI, x_rZ, x_rL, x_r0, pa, short, oc, lg, lset, lset2, wide, cond_true, cond_false, true_and, and_true, ↓reduceIte, Bool.false_eq_true, true_or, or_true, lf_X10_code, h1.f, e108, e122, e3, show (18 : Int32) = nI 18 by decide, nI_add, nI_leI (show s.2.2.2.1 < 2 ^ 31 by omega) (show i < 2 ^ 31 by omega), ncl (show i < 2 ^ 31 by omega), ncl (show 18 + i < 2 ^ 31 by omega), nI_1, mS_s, mS_ss, sgC_s]
      exact ⟨fun h => absurd h (by omega), fun _ => ⟨vp_in_nI (by omega) (by omega), vp_in_nI (by omega) (by omega), ih hlt⟩⟩
    · have hi' : i = s.2.2.2.1 := by omega
      rw [hi'] at e108 e122 ⊢
      have e114 : mS I2 110 (sgC (I' 122) (I2 110) 18 s.2.2.2.1) 114 = I' 114 := by rw [mS_n (by omega), f1 114 (by omega) (by omega)]
      refine J.of tk_X10_code 200 fun ρ hρ => ?_
      simp only [hρ, x_c, x_il, x_ll, x_al, x_is, x_as, x_ls, x_inc, x_ii, x_iq, x_i1, x_l2, x_lq, x_lh, x_i2l, x_l2i, x_lcmp, x_dup, x_dup2, x_pop, x_if, x_ifn, x_ic, x_icn, x_go, x_sw, swc, x_l01, x_mx, x_gI, x_gL, x_gR, x_pI, x_pZ, x_pL, x_pR, x_ia, x_za, x_aa, x_ias, x_zas, x_aas, x_fac, x_fa, x_slen, x_sa, x_ac, x_oi, x_new, x_na, x_cS, x_cV, x_cI, x_rI, x_rZ, x_rL, x_r0, pa, short, oc, lg, lset, lset2, wide, cond_true, cond_false, true_and, and_true, ↓reduceIte, Bool.false_eq_true, true_or, or_true, lf_X10_code, h1.f, e108, e3, z0, z1, eq_true w0, eq_true w1, nI_leI (show s.2.2.2.1 < 2 ^ 31 by omega) (show s.2.2.2.1 < 2 ^ 31 by omega), Nat.le_refl, true_implies, not_true_eq_false, false_implies, mS_app, upd_app, Nat.reduceEqDiff]
      have hfin : ∀ I3 : MI, (∀ q, q ≠ 108 → q ≠ 114 → I3 q = mS I2 110 (sgC (I' 122) (I2 110) 18 s.2.2.2.1) q) → (∀ j, j ≠ 7 → I3 108 j = upd (upd (I' 108) 2 (nI s.2.1)) 3 (nI s.2.2.2.1) j) → I3 108 7 = 0 → I3 114 0 = 0 → I3 114 1 = 0 → R (some (.int (nI s.2.2.2.1))) (S, I3, L) := fun I3 q1 q2 q3 q4 q5 => by
        obtain ⟨a1, y, a2, a3, -⟩ := c5
        refine hA' _ L (fun q hq => ?_) (fun _ _ => rfl) ⟨h1, ?_, ?_, ?_, ⟨q3, y, a2, ?_, fun j hj => absurd hj (Nat.not_lt_zero j)⟩, fun j hj => ⟨?_, fun q => absurd q Bool.false_ne_true⟩, ?_, c8, ?_⟩
        · rw [q1 q (by omega) (by omega), mS_n (by omega), f1 q (by omega) (by omega)]; exact hlo q hq
        · show NT I3 g; unfold NT; rw [q2 1 (by omega), q1 109 (by omega) (by omega), mS_n (by omega), f1 109 (by omega) (by omega)]; exact c2
        · show I3 108 2 = nI s.2.1 ∧ I3 108 3 = nI s.2.2.2.1
          rw [q2 2 (by omega), q2 3 (by omega)]; exact ⟨rfl, rfl⟩
        · rw [q1 110 (by omega) (by omega), mS_s, f10]
          have e : ∀ j, sgC (I' 122) (upd (zr (I' 110) 80) 78 (nI s.2.2.1)) 18 s.2.2.2.1 j = if 18 ≤ j ∧ j < 18 + s.2.2.2.1 then I' 122 (j - 18) else if j = 78 then nI s.2.2.1 else if j < 80 then 0 else I' 110 j := fun j => by simp only [sgC, upd_app, zr]
          refine ⟨fun b hb => ?_, fun b hb => ?_, fun c hcc => ?_, fun j hj => ?_, ?_, ?_⟩
          · rw [e, if_neg (by omega), if_neg (by omega), if_pos (by omega)]; rfl
          · rw [e, if_neg (by omega), if_neg (by omega), if_pos (by omega)]; rfl
          · have hcc' : c < s.2.2.2.1 := hcc
            rw [e, if_pos (by omega), show 0 + 18 + c - 18 = c by omega]; exact g4 c hcc'
          · rw [e, if_neg (by omega), if_neg (by omega), if_pos (by omega)]; rfl
          · rw [e, if_neg (by omega), if_pos (by omega)]; rfl
          · rw [e, if_neg (by omega), if_neg (by omega), if_pos (by omega)]; rfl
        · rw [q2 8 (by omega)]; exact a3
        · rcases b2 hj with rfl | rfl
          · exact q4
          · exact q5
        · show NE I3 g; unfold NE; rw [q2 13 (by omega), q1 115 (by omega) (by omega), q1 116 (by omega) (by omega), mS_n (by omega), mS_n (by omega), f1 115 (by omega) (by omega), f1 116 (by omega) (by omega)]; exact c7
        · unfold OrdN; rw [q1 117 (by omega) (by omega), mS_n (by omega), f1 117 (by omega) (by omega)]; exact c9
      refine hfin _ (fun q a b => ?_) (fun j a => ?_) ?_ ?_ ?_ <;> simp_all [mS_app, upd_app]
  have key := up (P := fun i => J mt_X10_code R 14 [some (.ref 108), some (.int (nI i))] [] (S, mS I' 110 (zr (I' 110) i), L)) (n := 80) (fun i hi ih => ?_) 0 (Nat.zero_le _)
  · rw [zr_0, mS_id] at key
    exact key
  have e108 : mS I' 110 (zr (I' 110) i) 108 = I' 108 := mS_n (by omega)
  by_cases hlt : i < 80
  · refine J.of tk_X10_code 200 fun ρ hρ => ?_
    simp only [hρ, x_c, x_il, x_ll, x_al, x_is, x_as, x_ls, x_inc, x_ii, x_iq, x_i1, x_l2, x_lq, x_lh, x_i2l, x_l2i, x_lcmp, x_dup, x_dup2, x_pop, x_if, x_ifn, x_ic, x_icn, x_go, x_sw, swc, x_l01, x_mx, x_gI, x_gL, x_gR, x_pI, x_pZ, x_pL, x_pR, x_ia, x_za, x_aa, x_ias, x_zas, x_aas, x_fac, x_fa, x_slen, x_sa, x_ac, x_oi, x_new, x_na, x_cS, x_cV, x_cI, x_rI, x_rZ, x_rL, x_r0, pa, short, oc, lg, lset, lset2, wide, cond_true, cond_false, true_and, and_true, ↓reduceIte, Bool.false_eq_true, true_or, or_true, lf_X10_code, h1.f, e108, nI80, nI_leI (show 80 < 2 ^ 31 by omega) (show i < 2 ^ 31 by omega), ncl (show i < 2 ^ 31 by omega), nI_1, mS_s, mS_ss, zr_s]
    exact ⟨fun h => absurd h (by omega), fun _ => ⟨vp_in_nI (by omega) (by omega), ih hlt⟩⟩
  · have : i = 80 := by omega
    subst this
    refine J.of tk_X10_code 200 fun ρ hρ => ?_
    simp only [hρ, x_c, x_il, x_ll, x_al, x_is, x_as, x_ls, x_inc, x_ii, x_iq, x_i1, x_l2, x_lq, x_lh, x_i2l, x_l2i, x_lcmp, x_dup, x_dup2, x_pop, x_if, x_ifn, x_ic, x_icn, x_go, x_sw, swc, x_l01, x_mx, x_gI, x_gL, x_gR, x_pI, x_pZ, x_pL, x_pR, x_ia, x_za, x_aa, x_ias, x_zas, x_aas, x_fac, x_fa, x_slen, x_sa, x_ac, x_oi, x_new, x_na, x_cS, x_cV, x_cI, x_rI, x_rZ, x_rL, x_r0, pa, short, oc, lg, lset, lset2, wide, cond_true, cond_false, true_and, and_true, ↓reduceIte, Bool.false_eq_true, true_or, or_true, lf_X10_code, h1.f, e108, g1, g2, g3, e78, eq_true v78, nI80, nI_leI (show 80 < 2 ^ 31 by omega) (show 80 < 2 ^ 31 by omega), Nat.le_refl, mS_app, upd_app, Nat.reduceEqDiff, mS_ss, true_implies, not_true_eq_false, false_implies]
    refine J.weak (ls' := [some (.ref 108), some (.int (nI 0))]) (by simp [lsub]; rfl) ?_
    have := key2 (mS (mS (mS I' 110 (zr (I' 110) 80)) 108 (upd (upd (I' 108) 2 (nI s.2.1)) 3 (nI s.2.2.2.1))) 110 (upd (zr (I' 110) 80) 78 (nI s.2.2.1))) (fun q a b => by rw [mS_n b, mS_n a, mS_n b]) (by rw [mS_n (by omega), mS_s]) mS_s 0 (Nat.zero_le _)
    rw [sgC_0, mS_id] at this
    exact this
