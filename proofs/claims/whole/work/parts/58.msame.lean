/-! SAME, CHANCE, DRAWN of the model -/
def frO (I I' : MI) : Prop := ∀ q, q ≠ 111 → q ≠ 117 → q ≠ 118 → I' q = I q
theorem MR.ord {S : Sh} {I I' : MI} {L : Nat → Nat → Int64} {g : GS} (h : MR S I L g) (hf : frO I I') (ho : OrdN I') : MR S I' L g := by
  obtain ⟨h1, h2, h3, h4, h5, h6, h7, h8, h9⟩ := h
  have e : ∀ q, q ≠ 111 → q ≠ 117 → q ≠ 118 → I' q = I q := hf
  refine ⟨h1, ?_, ?_, ?_, ?_, ?_, ?_, h8, ho⟩
  · unfold NT; rw [e 108 (by omega) (by omega) (by omega), e 109 (by omega) (by omega) (by omega)]; exact h2
  · unfold NZ; rw [e 108 (by omega) (by omega) (by omega)]; exact h3
  · rw [e 110 (by omega) (by omega) (by omega)]; exact h4
  · unfold NA; rw [e 108 (by omega) (by omega) (by omega), e 112 (by omega) (by omega) (by omega)]; exact h5
  · unfold NK; rw [e 113 (by omega) (by omega) (by omega), e 114 (by omega) (by omega) (by omega)]; exact h6
  · unfold NE; rw [e 108 (by omega) (by omega) (by omega), e 115 (by omega) (by omega) (by omega), e 116 (by omega) (by omega) (by omega)]; exact h7
theorem OrdN_idr {I : MI} : OrdN (mS I 117 (idr (I 117) 6)) := fun i hi => by rw [mS_s, idr, if_pos hi]
theorem i_nn {x : Int32} (h : ¬ x < 0) : ∃ r, r < 2 ^ 31 ∧ x = nI r := by
  rcases pk_ix x (n := 2 ^ 31 - 1) (by omega) with q | q | ⟨j, hj, rfl⟩
  · exact absurd q h
  · refine ⟨2 ^ 31 - 1, by omega, ?_⟩
    rw [Int32.le_iff_toInt_le, nI_toInt (by omega)] at q
    have := Int32.toInt_lt x
    apply Int32.toInt_inj.mp
    rw [nI_toInt (by omega)]
    omega
  · exact ⟨j, by omega, rfl⟩
def il_X10_same : List (Nat × Instr × Nat) := [(0, .iload_n 1, 1), (1, .istore_n 2, 1), (2, .iconst 0, 1), (3, .istore_n 3, 1), (4, .aload_n 0, 1), (5, .getfield 64, 3), (8, .iconst 1, 1), (9, .isub, 1), (10, .istore 4, 2), (12, .iload 4, 2), (14, .ifCond .lt 59, 3), (17, .aload_n 0, 1), (18, .getfield 35, 3), (21, .iload 4, 2), (23, .iload_n 2, 1), (24, .bipush 10, 2), (26, .irem, 1), (27, .iastore, 1), (28, .iload_n 2, 1), (29, .bipush 10, 2), (31, .idiv, 1), (32, .istore_n 2, 1), (33, .iload_n 3, 1), (34, .iload_n 1, 1), (35, .ifCond .lt 29, 3), (38, .aload_n 0, 1), (39, .getfield 35, 3), (42, .iload 4, 2), (44, .iaload, 1), (45, .aload_n 0, 1), (46, .getfield 64, 3), (49, .if_icmp .ge 15, 3), (52, .iconst 1, 1), (53, .aload_n 0, 1), (54, .getfield 35, 3), (57, .iload 4, 2), (59, .iaload, 1), (60, .ishl, 1), (61, .goto 4, 3), (64, .iconst 0, 1), (65, .ior, 1), (66, .istore_n 3, 1), (67, .iinc 4 (-1), 3), (70, .goto (-58), 3), (73, .bipush (-2), 2), (75, .istore 4, 2), (77, .iload_n 1, 1), (78, .ifCond .lt 45, 3), (81, .iload_n 2, 1), (82, .ifCond .ne 41, 3), (85, .iload_n 3, 1), (86, .iconst 1, 1), (87, .aload_n 0, 1), (88, .getfield 64, 3), (91, .ishl, 1), (92, .iconst 1, 1), (93, .isub, 1), (94, .if_icmp .ne 29, 3), (97, .aload_n 0, 1), (98, .invokevirtual 159, 3), (101, .istore 5, 2), (103, .aload_n 0, 1), (104, .invokevirtual 57, 3), (107, .iload 5, 2), (109, .aload_n 0, 1), (110, .invokevirtual 159, 3), (113, .if_icmp .ne 7, 3), (116, .iconst 1, 1), (117, .goto 4, 3), (120, .iconst 0, 1), (121, .istore 4, 2), (123, .aload_n 0, 1), (124, .invokevirtual 57, 3), (127, .iload 4, 2), (129, .ireturn, 1)]
def mt_X10_same : Mt := (cX10_same, RX10, 6, (some .int), ({ frames := 5, cells := 0, slots := 0, locals := 114 } : Room), false, none, none)
set_option maxRecDepth 100000 in
theorem dl_X10_same : ∀ q ∈ il_X10_same, decode (mt_X10_same).1 q.1 = .ok q.2 := by decide +kernel
def tb_X10_same : Tb := [(0, x_il 1 1, false),
  (1, x_is 2 2, false),
  (2, x_c 3 (.int 0), false),
  (3, x_is 4 3, false),
  (4, x_al 5 0, false),
  (5, x_gI 10 3 8, false),
  (8, x_c 9 (.int 1), false),
  (9, x_ii 10 (fun x y : Int32 => x - y), false),
  (10, x_is 12 4, false),
  (12, x_il 14 4, true),
  (14, x_if 73 17 (fun x : Int32 => x < 0), false),
  (17, x_al 18 0, false),
  (18, x_gR 10 15 21, false),
  (21, x_il 23 4, false),
  (23, x_il 24 2, false),
  (24, x_c 26 (.int 10), false),
  (26, x_iq 27 (fun x y : Int32 => x - x / y * y), false),
  (27, x_ias 28, false),
  (28, x_il 29 2, false),
  (29, x_c 31 (.int 10), false),
  (31, x_iq 32 (fun x y : Int32 => x / y), false),
  (32, x_is 33 2, false),
  (33, x_il 34 3, false),
  (34, x_il 35 1, false),
  (35, x_if 64 38 (fun x : Int32 => x < 0), false),
  (38, x_al 39 0, false),
  (39, x_gR 10 15 42, false),
  (42, x_il 44 4, false),
  (44, x_ia 45, false),
  (45, x_al 46 0, false),
  (46, x_gI 10 3 49, false),
  (49, x_ic 64 52 (fun x y : Int32 => y ≤ x), false),
  (52, x_c 53 (.int 1), false),
  (53, x_al 54 0, false),
  (54, x_gR 10 15 57, false),
  (57, x_il 59 4, false),
  (59, x_ia 60, false),
  (60, x_ii 61 (fun x y : Int32 => x <<< (y &&& 31)), false),
  (61, x_go 65, false),
  (64, x_c 65 (.int 0), false),
  (65, x_ii 66 (fun x y : Int32 => x ||| y), false),
  (66, x_is 67 3, false),
  (67, x_inc 70 4 (-1), false),
  (70, x_go 12, false),
  (73, x_c 75 (.int (-2)), true),
  (75, x_is 77 4, false),
  (77, x_il 78 1, false),
  (78, x_if 123 81 (fun x : Int32 => x < 0), false),
  (81, x_il 82 2, false),
  (82, x_ifn 123 85 (fun x : Int32 => x = 0), false),
  (85, x_il 86 3, false),
  (86, x_c 87 (.int 1), false),
  (87, x_al 88 0, false),
  (88, x_gI 10 3 91, false),
  (91, x_ii 92 (fun x y : Int32 => x <<< (y &&& 31)), false),
  (92, x_c 93 (.int 1), false),
  (93, x_ii 94 (fun x y : Int32 => x - y), false),
  (94, x_icn 123 97 (fun x y : Int32 => x = y), false),
  (97, x_al 98 0, false),
  (98, x_cV 10 0 P_X10_ends 101, false),
  (101, x_is 103 5, false),
  (103, x_al 104 0, false),
  (104, x_cV 10 0 P_X10_layOrder 107, false),
  (107, x_il 109 5, false),
  (109, x_al 110 0, false),
  (110, x_cV 10 0 P_X10_ends 113, false),
  (113, x_icn 120 116 (fun x y : Int32 => x = y), false),
  (116, x_c 117 (.int 1), false),
  (117, x_go 121, false),
  (120, x_c 121 (.int 0), false),
  (121, x_is 123 4, false),
  (123, x_al 124 0, true),
  (124, x_cV 10 0 P_X10_layOrder 127, false),
  (127, x_il 129 4, false),
  (129, x_rI, false)]
set_option maxRecDepth 100000 in
theorem tk_X10_same : TbOk (mt_X10_same) (tb_X10_same) :=
  tkc (s_iload_n (at_ dl_X10_same 0 (ins := .iload_n 1) rfl)) (
  tkc (s_istore_n (at_ dl_X10_same 1 (ins := .istore_n 2) rfl) (by decide)) (
  tkc (s_iconst (at_ dl_X10_same 2 (ins := .iconst 0) rfl) (by first | rfl | decide)) (
  tkc (s_istore_n (at_ dl_X10_same 3 (ins := .istore_n 3) rfl) (by decide)) (
  tkc (s_aload_n (at_ dl_X10_same 4 (ins := .aload_n 0) rfl)) (
  tkc (s_gI (at_ dl_X10_same 5 (ins := .getfield 64) rfl) (by decide) (by decide) (by decide) (tg 699 (by decide +kernel) (by decide +kernel))) (
  tkc (s_iconst (at_ dl_X10_same 6 (ins := .iconst 1) rfl) (by first | rfl | decide)) (
  tkc (s_isub (at_ dl_X10_same 7 (ins := .isub) rfl)) (
  tkc (s_istore (at_ dl_X10_same 8 (ins := .istore 4) rfl) (by decide)) (
  tkc (s_iload (at_ dl_X10_same 9 (ins := .iload 4) rfl)) (
  tkc (s_if_lt (at_ dl_X10_same 10 (ins := .ifCond .lt 59) rfl) (by decide)) (
  tkc (s_aload_n (at_ dl_X10_same 11 (ins := .aload_n 0) rfl)) (
  tkc (s_gR (at_ dl_X10_same 12 (ins := .getfield 35) rfl) (by decide) (by decide) (by decide) (tg 711 (by decide +kernel) (by decide +kernel))) (
  tkc (s_iload (at_ dl_X10_same 13 (ins := .iload 4) rfl)) (
  tkc (s_iload_n (at_ dl_X10_same 14 (ins := .iload_n 2) rfl)) (
  tkc (s_bipush (at_ dl_X10_same 15 (ins := .bipush 10) rfl) (by first | rfl | decide)) (
  tkc (s_irem (at_ dl_X10_same 16 (ins := .irem) rfl)) (
  tkc (s_ias (at_ dl_X10_same 17 (ins := .iastore) rfl)) (
  tkc (s_iload_n (at_ dl_X10_same 18 (ins := .iload_n 2) rfl)) (
  tkc (s_bipush (at_ dl_X10_same 19 (ins := .bipush 10) rfl) (by first | rfl | decide)) (
  tkc (s_idiv (at_ dl_X10_same 20 (ins := .idiv) rfl)) (
  tkc (s_istore_n (at_ dl_X10_same 21 (ins := .istore_n 2) rfl) (by decide)) (
  tkc (s_iload_n (at_ dl_X10_same 22 (ins := .iload_n 3) rfl)) (
  tkc (s_iload_n (at_ dl_X10_same 23 (ins := .iload_n 1) rfl)) (
  tkc (s_if_lt (at_ dl_X10_same 24 (ins := .ifCond .lt 29) rfl) (by decide)) (
  tkc (s_aload_n (at_ dl_X10_same 25 (ins := .aload_n 0) rfl)) (
  tkc (s_gR (at_ dl_X10_same 26 (ins := .getfield 35) rfl) (by decide) (by decide) (by decide) (tg 711 (by decide +kernel) (by decide +kernel))) (
  tkc (s_iload (at_ dl_X10_same 27 (ins := .iload 4) rfl)) (
  tkc (s_ia (at_ dl_X10_same 28 (ins := .iaload) rfl)) (
  tkc (s_aload_n (at_ dl_X10_same 29 (ins := .aload_n 0) rfl)) (
  tkc (s_gI (at_ dl_X10_same 30 (ins := .getfield 64) rfl) (by decide) (by decide) (by decide) (tg 699 (by decide +kernel) (by decide +kernel))) (
  tkc (s_ic_ge (at_ dl_X10_same 31 (ins := .if_icmp .ge 15) rfl) (by decide)) (
  tkc (s_iconst (at_ dl_X10_same 32 (ins := .iconst 1) rfl) (by first | rfl | decide)) (
  tkc (s_aload_n (at_ dl_X10_same 33 (ins := .aload_n 0) rfl)) (
  tkc (s_gR (at_ dl_X10_same 34 (ins := .getfield 35) rfl) (by decide) (by decide) (by decide) (tg 711 (by decide +kernel) (by decide +kernel))) (
  tkc (s_iload (at_ dl_X10_same 35 (ins := .iload 4) rfl)) (
  tkc (s_ia (at_ dl_X10_same 36 (ins := .iaload) rfl)) (
  tkc (s_ishl (at_ dl_X10_same 37 (ins := .ishl) rfl)) (
  tkc (s_goto (at_ dl_X10_same 38 (ins := .goto 4) rfl) (by decide)) (
  tkc (s_iconst (at_ dl_X10_same 39 (ins := .iconst 0) rfl) (by first | rfl | decide)) (
  tkc (s_ior (at_ dl_X10_same 40 (ins := .ior) rfl)) (
  tkc (s_istore_n (at_ dl_X10_same 41 (ins := .istore_n 3) rfl) (by decide)) (
  tkc (s_iinc (at_ dl_X10_same 42 (ins := .iinc 4 (-1)) rfl) (by decide) (by first | rfl | decide)) (
  tkc (s_goto (at_ dl_X10_same 43 (ins := .goto (-58)) rfl) (by decide)) (
  tkc (s_bipush (at_ dl_X10_same 44 (ins := .bipush (-2)) rfl) (by first | rfl | decide)) (
  tkc (s_istore (at_ dl_X10_same 45 (ins := .istore 4) rfl) (by decide)) (
  tkc (s_iload_n (at_ dl_X10_same 46 (ins := .iload_n 1) rfl)) (
  tkc (s_if_lt (at_ dl_X10_same 47 (ins := .ifCond .lt 45) rfl) (by decide)) (
  tkc (s_iload_n (at_ dl_X10_same 48 (ins := .iload_n 2) rfl)) (
  tkc (s_if_ne (at_ dl_X10_same 49 (ins := .ifCond .ne 41) rfl) (by decide)) (
  tkc (s_iload_n (at_ dl_X10_same 50 (ins := .iload_n 3) rfl)) (
  tkc (s_iconst (at_ dl_X10_same 51 (ins := .iconst 1) rfl) (by first | rfl | decide)) (
  tkc (s_aload_n (at_ dl_X10_same 52 (ins := .aload_n 0) rfl)) (
  tkc (s_gI (at_ dl_X10_same 53 (ins := .getfield 64) rfl) (by decide) (by decide) (by decide) (tg 699 (by decide +kernel) (by decide +kernel))) (
  tkc (s_ishl (at_ dl_X10_same 54 (ins := .ishl) rfl)) (
  tkc (s_iconst (at_ dl_X10_same 55 (ins := .iconst 1) rfl) (by first | rfl | decide)) (
  tkc (s_isub (at_ dl_X10_same 56 (ins := .isub) rfl)) (
  tkc (s_ic_ne (at_ dl_X10_same 57 (ins := .if_icmp .ne 29) rfl) (by decide)) (
  tkc (s_aload_n (at_ dl_X10_same 58 (ins := .aload_n 0) rfl)) (
  tkc (s_cV ok_X10_ends (at_ dl_X10_same 59 (ins := .invokevirtual 159) rfl) (by decide) rfl (tg 868 (by decide +kernel) (by decide +kernel)) (tg 870 (by decide +kernel) (by decide +kernel)) (tg 32 (by decide +kernel) (by decide +kernel)) (tg 51 (by decide +kernel) (by decide +kernel)) (tg 871 (by decide +kernel) (by decide +kernel)) (⟨by decide, by decide, by decide +kernel⟩) (⟨by decide, by decide⟩) rfl rfl) (
  tkc (s_istore (at_ dl_X10_same 60 (ins := .istore 5) rfl) (by decide)) (
  tkc (s_aload_n (at_ dl_X10_same 61 (ins := .aload_n 0) rfl)) (
  tkc (s_cV ok_X10_layOrder (at_ dl_X10_same 62 (ins := .invokevirtual 57) rfl) (by decide) rfl (tg 692 (by decide +kernel) (by decide +kernel)) (tg 694 (by decide +kernel) (by decide +kernel)) (tg 18 (by decide +kernel) (by decide +kernel)) (tg 51 (by decide +kernel) (by decide +kernel)) (tg 695 (by decide +kernel) (by decide +kernel)) (⟨by decide, by decide, by decide +kernel⟩) (⟨by decide, by decide⟩) rfl rfl) (
  tkc (s_iload (at_ dl_X10_same 63 (ins := .iload 5) rfl)) (
  tkc (s_aload_n (at_ dl_X10_same 64 (ins := .aload_n 0) rfl)) (
  tkc (s_cV ok_X10_ends (at_ dl_X10_same 65 (ins := .invokevirtual 159) rfl) (by decide) rfl (tg 868 (by decide +kernel) (by decide +kernel)) (tg 870 (by decide +kernel) (by decide +kernel)) (tg 32 (by decide +kernel) (by decide +kernel)) (tg 51 (by decide +kernel) (by decide +kernel)) (tg 871 (by decide +kernel) (by decide +kernel)) (⟨by decide, by decide, by decide +kernel⟩) (⟨by decide, by decide⟩) rfl rfl) (
  tkc (s_ic_ne (at_ dl_X10_same 66 (ins := .if_icmp .ne 7) rfl) (by decide)) (
  tkc (s_iconst (at_ dl_X10_same 67 (ins := .iconst 1) rfl) (by first | rfl | decide)) (
  tkc (s_goto (at_ dl_X10_same 68 (ins := .goto 4) rfl) (by decide)) (
  tkc (s_iconst (at_ dl_X10_same 69 (ins := .iconst 0) rfl) (by first | rfl | decide)) (
  tkc (s_istore (at_ dl_X10_same 70 (ins := .istore 4) rfl) (by decide)) (
  tkc (s_aload_n (at_ dl_X10_same 71 (ins := .aload_n 0) rfl)) (
  tkc (s_cV ok_X10_layOrder (at_ dl_X10_same 72 (ins := .invokevirtual 57) rfl) (by decide) rfl (tg 692 (by decide +kernel) (by decide +kernel)) (tg 694 (by decide +kernel) (by decide +kernel)) (tg 18 (by decide +kernel) (by decide +kernel)) (tg 51 (by decide +kernel) (by decide +kernel)) (tg 695 (by decide +kernel) (by decide +kernel)) (⟨by decide, by decide, by decide +kernel⟩) (⟨by decide, by decide⟩) rfl rfl) (
  tkc (s_iload (at_ dl_X10_same 73 (ins := .iload 4) rfl)) (
  tkc (s_rI (at_ dl_X10_same 74 (ins := .ireturn) rfl) rfl) ( tk0)))))))))))))))))))))))))))))))))))))))))))))))))))))))))))))))))))))))))))
theorem lf_X10_same : lk (tb_X10_same) 0 = (x_il 1 1, false) ∧ lk (tb_X10_same) 1 = (x_is 2 2, false) ∧ lk (tb_X10_same) 2 = (x_c 3 (.int 0), false) ∧ lk (tb_X10_same) 3 = (x_is 4 3, false) ∧ lk (tb_X10_same) 4 = (x_al 5 0, false) ∧ lk (tb_X10_same) 5 = (x_gI 10 3 8, false) ∧ lk (tb_X10_same) 8 = (x_c 9 (.int 1), false) ∧ lk (tb_X10_same) 9 = (x_ii 10 (fun x y : Int32 => x - y), false) ∧ lk (tb_X10_same) 10 = (x_is 12 4, false) ∧ lk (tb_X10_same) 12 = (x_il 14 4, true) ∧ lk (tb_X10_same) 14 = (x_if 73 17 (fun x : Int32 => x < 0), false) ∧ lk (tb_X10_same) 17 = (x_al 18 0, false) ∧ lk (tb_X10_same) 18 = (x_gR 10 15 21, false) ∧ lk (tb_X10_same) 21 = (x_il 23 4, false) ∧ lk (tb_X10_same) 23 = (x_il 24 2, false) ∧ lk (tb_X10_same) 24 = (x_c 26 (.int 10), false) ∧ lk (tb_X10_same) 26 = (x_iq 27 (fun x y : Int32 => x - x / y * y), false) ∧ lk (tb_X10_same) 27 = (x_ias 28, false) ∧ lk (tb_X10_same) 28 = (x_il 29 2, false) ∧ lk (tb_X10_same) 29 = (x_c 31 (.int 10), false) ∧ lk (tb_X10_same) 31 = (x_iq 32 (fun x y : Int32 => x / y), false) ∧ lk (tb_X10_same) 32 = (x_is 33 2, false) ∧ lk (tb_X10_same) 33 = (x_il 34 3, false) ∧ lk (tb_X10_same) 34 = (x_il 35 1, false) ∧ lk (tb_X10_same) 35 = (x_if 64 38 (fun x : Int32 => x < 0), false) ∧ lk (tb_X10_same) 38 = (x_al 39 0, false) ∧ lk (tb_X10_same) 39 = (x_gR 10 15 42, false) ∧ lk (tb_X10_same) 42 = (x_il 44 4, false) ∧ lk (tb_X10_same) 44 = (x_ia 45, false) ∧ lk (tb_X10_same) 45 = (x_al 46 0, false) ∧ lk (tb_X10_same) 46 = (x_gI 10 3 49, false) ∧ lk (tb_X10_same) 49 = (x_ic 64 52 (fun x y : Int32 => y ≤ x), false) ∧ lk (tb_X10_same) 52 = (x_c 53 (.int 1), false) ∧ lk (tb_X10_same) 53 = (x_al 54 0, false) ∧ lk (tb_X10_same) 54 = (x_gR 10 15 57, false) ∧ lk (tb_X10_same) 57 = (x_il 59 4, false) ∧ lk (tb_X10_same) 59 = (x_ia 60, false) ∧ lk (tb_X10_same) 60 = (x_ii 61 (fun x y : Int32 => x <<< (y &&& 31)), false) ∧ lk (tb_X10_same) 61 = (x_go 65, false) ∧ lk (tb_X10_same) 64 = (x_c 65 (.int 0), false) ∧ lk (tb_X10_same) 65 = (x_ii 66 (fun x y : Int32 => x ||| y), false) ∧ lk (tb_X10_same) 66 = (x_is 67 3, false) ∧ lk (tb_X10_same) 67 = (x_inc 70 4 (-1), false) ∧ lk (tb_X10_same) 70 = (x_go 12, false) ∧ lk (tb_X10_same) 73 = (x_c 75 (.int (-2)), true) ∧ lk (tb_X10_same) 75 = (x_is 77 4, false) ∧ lk (tb_X10_same) 77 = (x_il 78 1, false) ∧ lk (tb_X10_same) 78 = (x_if 123 81 (fun x : Int32 => x < 0), false) ∧ lk (tb_X10_same) 81 = (x_il 82 2, false) ∧ lk (tb_X10_same) 82 = (x_ifn 123 85 (fun x : Int32 => x = 0), false) ∧ lk (tb_X10_same) 85 = (x_il 86 3, false) ∧ lk (tb_X10_same) 86 = (x_c 87 (.int 1), false) ∧ lk (tb_X10_same) 87 = (x_al 88 0, false) ∧ lk (tb_X10_same) 88 = (x_gI 10 3 91, false) ∧ lk (tb_X10_same) 91 = (x_ii 92 (fun x y : Int32 => x <<< (y &&& 31)), false) ∧ lk (tb_X10_same) 92 = (x_c 93 (.int 1), false) ∧ lk (tb_X10_same) 93 = (x_ii 94 (fun x y : Int32 => x - y), false) ∧ lk (tb_X10_same) 94 = (x_icn 123 97 (fun x y : Int32 => x = y), false) ∧ lk (tb_X10_same) 97 = (x_al 98 0, false) ∧ lk (tb_X10_same) 98 = (x_cV 10 0 P_X10_ends 101, false) ∧ lk (tb_X10_same) 101 = (x_is 103 5, false) ∧ lk (tb_X10_same) 103 = (x_al 104 0, false) ∧ lk (tb_X10_same) 104 = (x_cV 10 0 P_X10_layOrder 107, false) ∧ lk (tb_X10_same) 107 = (x_il 109 5, false) ∧ lk (tb_X10_same) 109 = (x_al 110 0, false) ∧ lk (tb_X10_same) 110 = (x_cV 10 0 P_X10_ends 113, false) ∧ lk (tb_X10_same) 113 = (x_icn 120 116 (fun x y : Int32 => x = y), false) ∧ lk (tb_X10_same) 116 = (x_c 117 (.int 1), false) ∧ lk (tb_X10_same) 117 = (x_go 121, false) ∧ lk (tb_X10_same) 120 = (x_c 121 (.int 0), false) ∧ lk (tb_X10_same) 121 = (x_is 123 4, false) ∧ lk (tb_X10_same) 123 = (x_al 124 0, true) ∧ lk (tb_X10_same) 124 = (x_cV 10 0 P_X10_layOrder 127, false) ∧ lk (tb_X10_same) 127 = (x_il 129 4, false) ∧ lk (tb_X10_same) 129 = (x_rI, false) := ⟨rfl, rfl, rfl, rfl, rfl, rfl, rfl, rfl, rfl, rfl, rfl, rfl, rfl, rfl, rfl, rfl, rfl, rfl, rfl, rfl, rfl, rfl, rfl, rfl, rfl, rfl, rfl, rfl, rfl, rfl, rfl, rfl, rfl, rfl, rfl, rfl, rfl, rfl, rfl, rfl, rfl, rfl, rfl, rfl, rfl, rfl, rfl, rfl, rfl, rfl, rfl, rfl, rfl, rfl, rfl, rfl, rfl, rfl, rfl, rfl, rfl, rfl, rfl, rfl, rfl, rfl, rfl, rfl, rfl, rfl, rfl, rfl, rfl, rfl, rfl⟩
def P_X10_same : PTT := fun as M R => match as with
  | [.ref k, .int x] => k = 108 ∧ ∃ g, MR M.1 M.2.1 M.2.2 g ∧ GOk g ∧ Anm M R (gSame g x) g
  | _ => False
set_option maxRecDepth 20000 in
theorem ok_X10_same : Ok yX10_same mt_X10_same P_X10_same := by
  refine Ok.of (by decide) rfl rfl rfl rfl fun av ⟨S, I, L⟩ R hP => ?_
  unfold P_X10_same at hP
  split at hP
  case h_2 => exact hP.elim
  rename_i k x
  obtain ⟨k, rfl⟩ : ∃ q : Nat, q = k := ⟨k, rfl⟩
  refine ⟨by simp [ent, wide, mt_X10_same], ?_⟩
  show J mt_X10_same R 0 [some (.ref k), some (.int x), none, none, none, none] [] (S, I, L)
  try dsimp only at hP
  obtain ⟨rfl, g, hc, ho, hA⟩ := hP
  obtain ⟨h1, h2, h3, h4, h5, h6, h7, h8, h9⟩ := id hc
  have hok := ho.2.1
  have hm := ho.2.1.1
  have fin123 : ∀ v I', gSame g x = v → frO I I' → J mt_X10_same R 123 [some (.ref 108), none, none, none, some (.int v), none] [] (S, I', L) := fun v I' hv hf => by
    rw [hv] at hA
    refine J.of tk_X10_same 200 fun ρ hρ => ?_
    simp only [hρ, x_c, x_il, x_ll, x_al, x_is, x_as, x_ls, x_inc, x_ii, x_iq, x_i1, x_l2, x_lq, x_lh, x_i2l, x_l2i, x_lcmp, x_dup, x_dup2, x_pop, x_if, x_ifn, x_ic, x_icn, x_go, x_sw, swc, x_l01, x_mx, x_gI, x_gL, x_gR, x_pI, x_pZ, x_pL, x_pR, x_ia, x_za, x_aa, x_ias, x_zas, x_aas, x_fac, x_fa, x_slen, x_sa, x_ac, x_oi, x_new, x_na, x_cS, x_cV, x_cI, x_rI, x_rZ, x_rL, x_r0, pa, short, oc, lg, lset, lset2, wide, cond_true, cond_false, true_and, and_true, ↓reduceIte, Bool.false_eq_true, true_or, or_true, lf_X10_same, h1, h1.f, P_X10_layOrder]
    have hf' : frO I (mS I' 117 (idr (I' 117) 6)) := fun q a b c => by rw [mS_n b, hf q a b c]
    exact hA _ L (fun q hq => hf' q (by omega) (by omega) (by omega)) (fun _ _ => rfl) (hc.ord hf' OrdN_idr)
  have ep : aM (gA g) = 0 ∨ 0 < aM (gA g) := by omega
  have efr : ∀ F, frO I (mS I 117 F) := fun F q a b c => mS_n b
  have e108 : ∀ F, mS I 117 F 108 = I 108 := fun F => mS_n (by omega)
  have hn0 : nI 0 - 1 < 0 ↔ True := by decide
  by_cases hx : x < 0
  · have hg : gSame g x = -2 := by rw [gSame, if_pos (.inl hx)]
    have f73 : ∀ l F, J mt_X10_same R 73 [some (.ref 108), some (.int x), some (.int l), some (.int 0), none, none] [] (S, mS I 117 F, L) := fun l F => by
      refine J.of tk_X10_same 200 fun ρ hρ => ?_
      simp only [hρ, x_c, x_il, x_ll, x_al, x_is, x_as, x_ls, x_inc, x_ii, x_iq, x_i1, x_l2, x_lq, x_lh, x_i2l, x_l2i, x_lcmp, x_dup, x_dup2, x_pop, x_if, x_ifn, x_ic, x_icn, x_go, x_sw, swc, x_l01, x_mx, x_gI, x_gL, x_gR, x_pI, x_pZ, x_pL, x_pR, x_ia, x_za, x_aa, x_ias, x_zas, x_aas, x_fac, x_fa, x_slen, x_sa, x_ac, x_oi, x_new, x_na, x_cS, x_cV, x_cI, x_rI, x_rZ, x_rL, x_r0, pa, short, oc, lg, lset, lset2, wide, cond_true, cond_false, true_and, and_true, ↓reduceIte, Bool.false_eq_true, true_or, or_true, lf_X10_same, hx, true_implies, not_true_eq_false, false_implies]
      exact J.weak (by simp [lsub]) (fin123 _ _ hg (efr F))
    have loop : ∀ d l F, d ≤ aM (gA g) → J mt_X10_same R 12 [some (.ref 108), some (.int x), some (.int l), some (.int 0), some (.int (nI d - 1)), none] [] (S, mS I 117 F, L) := by
      intro d
      induction d with
      | zero =>
        intro l F _
        refine J.of tk_X10_same 200 fun ρ hρ => ?_
        simp only [hρ, x_c, x_il, x_ll, x_al, x_is, x_as, x_ls, x_inc, x_ii, x_iq, x_i1, x_l2, x_lq, x_lh, x_i2l, x_l2i, x_lcmp, x_dup, x_dup2, x_pop, x_if, x_ifn, x_ic, x_icn, x_go, x_sw, swc, x_l01, x_mx, x_gI, x_gL, x_gR, x_pI, x_pZ, x_pL, x_pR, x_ia, x_za, x_aa, x_ias, x_zas, x_aas, x_fac, x_fa, x_slen, x_sa, x_ac, x_oi, x_new, x_na, x_cS, x_cV, x_cI, x_rI, x_rZ, x_rL, x_r0, pa, short, oc, lg, lset, lset2, wide, cond_true, cond_false, true_and, and_true, ↓reduceIte, Bool.false_eq_true, true_or, or_true, lf_X10_same, hn0, true_implies, not_true_eq_false, false_implies]
        exact J.weak (by simp [lsub]) (f73 l F)
      | succ d ih =>
        intro l F hd
        have hn : nI d < 0 ↔ False := ⟨fun h => nI_pos (by omega) h, False.elim⟩
        have hmm : nI d + -1 = nI d - 1 := by rw [Int32.sub_eq_add_neg]
        refine J.of tk_X10_same 200 fun ρ hρ => ?_
        simp only [hρ, x_c, x_il, x_ll, x_al, x_is, x_as, x_ls, x_inc, x_ii, x_iq, x_i1, x_l2, x_lq, x_lh, x_i2l, x_l2i, x_lcmp, x_dup, x_dup2, x_pop, x_if, x_ifn, x_ic, x_icn, x_go, x_sw, swc, x_l01, x_mx, x_gI, x_gL, x_gR, x_pI, x_pZ, x_pL, x_pR, x_ia, x_za, x_aa, x_ias, x_zas, x_aas, x_fac, x_fa, x_slen, x_sa, x_ac, x_oi, x_new, x_na, x_cS, x_cV, x_cI, x_rI, x_rZ, x_rL, x_r0, pa, short, oc, lg, lset, lset2, wide, cond_true, cond_false, true_and, and_true, ↓reduceIte, Bool.false_eq_true, true_or, or_true, lf_X10_same, h1.f, e108, nI_pred, hn, hmm, hx, nI10, ten0, mS_s, mS_ss, Int32.or_zero, true_implies, not_true_eq_false, false_implies, not_false_eq_true]
        exact ⟨vp_in_nI (by omega) (by omega), ih _ _ (by omega)⟩
    have := loop (aM (gA g)) x (I 117) (Nat.le_refl _)
    rw [mS_id] at this
    refine J.of tk_X10_same 200 fun ρ hρ => ?_
    simp only [hρ, x_c, x_il, x_ll, x_al, x_is, x_as, x_ls, x_inc, x_ii, x_iq, x_i1, x_l2, x_lq, x_lh, x_i2l, x_l2i, x_lcmp, x_dup, x_dup2, x_pop, x_if, x_ifn, x_ic, x_icn, x_go, x_sw, swc, x_l01, x_mx, x_gI, x_gL, x_gR, x_pI, x_pZ, x_pL, x_pR, x_ia, x_za, x_aa, x_ias, x_zas, x_aas, x_fac, x_fa, x_slen, x_sa, x_ac, x_oi, x_new, x_na, x_cS, x_cV, x_cI, x_rI, x_rZ, x_rL, x_r0, pa, short, oc, lg, lset, lset2, wide, cond_true, cond_false, true_and, and_true, ↓reduceIte, Bool.false_eq_true, true_or, or_true, lf_X10_same, h1.f, h3.2]
    exact this
  · obtain ⟨r, hr, rfl⟩ := i_nn hx
    have ht : tn (nI r) = r := tn_nI (by omega)
    have hp6 := pow6 hm.2.2
    have h1p := one_le (aM (gA g))
    have hmt := mtM_lt (m := aM (gA g)) (r := r) (aM (gA g))
    have hdiv : r / 10 ^ aM (gA g) < 2 ^ 31 := Nat.lt_of_le_of_lt (Nat.div_le_self _ _) hr
    have hr0 : nI r < 0 ↔ False := ⟨hx, False.elim⟩
    have hno : ¬ rowB (aM (gA g)) r = true → gSame g (nI r) = -2 := fun q => by rw [gSame, if_pos (.inr (by rw [ht]; exact q))]
    have f73 : ∀ F, (∀ i, i < aM (gA g) → F (aM (gA g) - 1 - i) = nI (dg r i)) → J mt_X10_same R 73 [some (.ref 108), some (.int (nI r)), some (.int (nI (r / 10 ^ aM (gA g)))), some (.int (nI (mtM (aM (gA g)) r (aM (gA g))))), none, none] [] (S, mS I 117 F, L) := fun F hF => by
      have es : nI (2 ^ aM (gA g)) - 1 = nI (2 ^ aM (gA g) - 1) := nI_m1 (by omega)
      refine J.of tk_X10_same 200 fun ρ hρ => ?_
      simp only [hρ, x_c, x_il, x_ll, x_al, x_is, x_as, x_ls, x_inc, x_ii, x_iq, x_i1, x_l2, x_lq, x_lh, x_i2l, x_l2i, x_lcmp, x_dup, x_dup2, x_pop, x_if, x_ifn, x_ic, x_icn, x_go, x_sw, swc, x_l01, x_mx, x_gI, x_gL, x_gR, x_pI, x_pZ, x_pL, x_pR, x_ia, x_za, x_aa, x_ias, x_zas, x_aas, x_fac, x_fa, x_slen, x_sa, x_ac, x_oi, x_new, x_na, x_cS, x_cV, x_cI, x_rI, x_rZ, x_rL, x_r0, pa, short, oc, lg, lset, lset2, wide, cond_true, cond_false, true_and, and_true, ↓reduceIte, Bool.false_eq_true, true_or, or_true, lf_X10_same, h1, h1.f, hr0, e108, h3.2, shl1 (show aM (gA g) < 31 by omega), es, nI_z hdiv, nI_eq (show mtM (aM (gA g)) r (aM (gA g)) < 2 ^ 31 by omega) (show 2 ^ aM (gA g) - 1 < 2 ^ 31 by omega), P_X10_ends, P_X10_layOrder, true_implies, not_true_eq_false, false_implies, not_false_eq_true]
      refine ⟨fun q => J.weak (by simp [lsub]) (fin123 _ _ (hno (by simp [rowB, q])) (efr F)), fun q => ⟨fun q2 => J.weak (by simp [lsub]) (fin123 _ _ (hno (by simp [rowB, q2])) (efr F)), fun q2 => ?_⟩⟩
      have hB : rowB (aM (gA g)) r = true := by simp [rowB, q, q2]
      have hO := (rowB_ok hm.2.2).mp hB
      have hg : gSame g (nI r) = bB (nI (wdA (runA (gA g) (rwO (aM (gA g)) r))) == nI (wdA (runA (gA g) id))) := by
        rw [gSame, ht, if_neg (fun z => z.elim hx (fun z => z hB))]
      refine ⟨gA g, rwO (aM (gA g)) r, by rw [mS_n (by omega)]; exact h4, hok, h3.1, rfl, fun i hi => ⟨?_, hO.2.1 _ (by omega)⟩, fun I1 hf1 => ?_⟩
      · rw [mS_s]
        have := hF (aM (gA g) - 1 - i) (by omega)
        rw [show aM (gA g) - 1 - (aM (gA g) - 1 - i) = i by omega] at this
        exact this
      · have g1 : frO I I1 := fun q a b c => by rw [hf1 q a c, mS_n b]
        have g2 : frO I (mS I1 117 (idr (I1 117) 6)) := fun q a b c => by rw [mS_n b, g1 q a b c]
        refine ⟨gA g, id, by rw [g2 110 (by omega) (by omega) (by omega)]; exact h4, hok, by rw [g2 108 (by omega) (by omega) (by omega)]; exact h3.1, by rw [g2 108 (by omega) (by omega) (by omega)]; exact h3.2, OrdN_idr.O hm.2.2, fun I2 hf2 => ?_⟩
        have g3 : frO I I2 := fun q a b c => by rw [hf2 q a c, g2 q a b c]
        exact ⟨fun z => J.weak (by simp [lsub]) (fin123 _ _ (hg.trans (bB_f (by simpa using z))) g3), fun z => J.weak (by simp [lsub]) (fin123 _ _ (hg.trans (bB_t (by simpa using z))) g3)⟩
    have loop : ∀ d jj F, jj + d = aM (gA g) → (∀ i, i < jj → F (aM (gA g) - 1 - i) = nI (dg r i)) → J mt_X10_same R 12 [some (.ref 108), some (.int (nI r)), some (.int (nI (r / 10 ^ jj))), some (.int (nI (mtM (aM (gA g)) r jj))), some (.int (nI d - 1)), none] [] (S, mS I 117 F, L) := by
      intro d
      induction d with
      | zero =>
        intro jj F hj hF
        have : jj = aM (gA g) := by omega
        subst this
        refine J.of tk_X10_same 200 fun ρ hρ => ?_
        simp only [hρ, x_c, x_il, x_ll, x_al, x_is, x_as, x_ls, x_inc, x_ii, x_iq, x_i1, x_l2, x_lq, x_lh, x_i2l, x_l2i, x_lcmp, x_dup, x_dup2, x_pop, x_if, x_ifn, x_ic, x_icn, x_go, x_sw, swc, x_l01, x_mx, x_gI, x_gL, x_gR, x_pI, x_pZ, x_pL, x_pR, x_ia, x_za, x_aa, x_ias, x_zas, x_aas, x_fac, x_fa, x_slen, x_sa, x_ac, x_oi, x_new, x_na, x_cS, x_cV, x_cI, x_rI, x_rZ, x_rL, x_r0, pa, short, oc, lg, lset, lset2, wide, cond_true, cond_false, true_and, and_true, ↓reduceIte, Bool.false_eq_true, true_or, or_true, lf_X10_same, hn0, true_implies, not_true_eq_false, false_implies]
        exact J.weak (by simp [lsub]) (f73 F hF)
      | succ d ih =>
        intro jj F hj hF
        have hn : nI d < 0 ↔ False := ⟨fun h => nI_pos (by omega) h, False.elim⟩
        have hmm : nI d + -1 = nI d - 1 := by rw [Int32.sub_eq_add_neg]
        have hq : r / 10 ^ jj < 2 ^ 31 := Nat.lt_of_le_of_lt (Nat.div_le_self _ _) hr
        have ediv : nI (r / 10 ^ jj) / nI 10 = nI (r / 10 ^ (jj + 1)) := by rw [pk_div hq (by omega) (by omega), dg_div]
        have erem : nI (r / 10 ^ jj) - nI (r / 10 ^ (jj + 1)) * nI 10 = nI (dg r jj) := by rw [← ediv]; exact pk_rem hq (by omega) (by omega)
        have hdg := dg_lt r jj
        have hnx : ∀ s, mtM (aM (gA g)) r (jj + 1) = s → J mt_X10_same R 12 [some (.ref 108), some (.int (nI r)), some (.int (nI (r / 10 ^ (jj + 1)))), some (.int (nI s)), some (.int (nI d - 1)), none] [] (S, mS I 117 (upd F d (nI (dg r jj))), L) := fun s hs => by
          rw [← hs]
          refine ih (jj + 1) _ (by omega) (fun i hi => ?_)
          rw [upd_app]
          by_cases q : i = jj
          · subst q; rw [if_pos (by omega)]
          · rw [if_neg (by omega)]; exact hF i (by omega)
        refine J.of tk_X10_same 200 fun ρ hρ => ?_
        simp only [hρ, x_c, x_il, x_ll, x_al, x_is, x_as, x_ls, x_inc, x_ii, x_iq, x_i1, x_l2, x_lq, x_lh, x_i2l, x_l2i, x_lcmp, x_dup, x_dup2, x_pop, x_if, x_ifn, x_ic, x_icn, x_go, x_sw, swc, x_l01, x_mx, x_gI, x_gL, x_gR, x_pI, x_pZ, x_pL, x_pR, x_ia, x_za, x_aa, x_ias, x_zas, x_aas, x_fac, x_fa, x_slen, x_sa, x_ac, x_oi, x_new, x_na, x_cS, x_cV, x_cI, x_rI, x_rZ, x_rL, x_r0, pa, short, oc, lg, lset, lset2, wide, cond_true, cond_false, true_and, and_true, ↓reduceIte, Bool.false_eq_true, true_or, or_true, lf_X10_same, h1.f, e108, h3.2, nI_pred, hn, hmm, hr0, nI10, ten0, ediv, erem, ncl (show d < 2 ^ 31 by omega), mS_s, mS_ss, upd_s, nI_leI (show aM (gA g) < 2 ^ 31 by omega) (show dg r jj < 2 ^ 31 by omega), shl1 (show dg r jj < 31 by omega), nI_or, Int32.or_zero, true_implies, not_true_eq_false, false_implies, not_false_eq_true]
        have hv : vp_in (nI d) 6 := vp_in_nI (by omega) (by omega)
        exact ⟨hv, hv, fun q => hnx _ (by rw [mtM, if_neg (by omega), Nat.or_zero]), fun q => ⟨hv, hnx _ (by rw [mtM, if_pos (by omega)])⟩⟩
    have := loop (aM (gA g)) 0 (I 117) (by omega) (fun i hi => absurd hi (by omega))
    rw [mS_id, Nat.pow_zero, Nat.div_one] at this
    refine J.of tk_X10_same 200 fun ρ hρ => ?_
    simp only [hρ, x_c, x_il, x_ll, x_al, x_is, x_as, x_ls, x_inc, x_ii, x_iq, x_i1, x_l2, x_lq, x_lh, x_i2l, x_l2i, x_lcmp, x_dup, x_dup2, x_pop, x_if, x_ifn, x_ic, x_icn, x_go, x_sw, swc, x_l01, x_mx, x_gI, x_gL, x_gR, x_pI, x_pZ, x_pL, x_pR, x_ia, x_za, x_aa, x_ias, x_zas, x_aas, x_fac, x_fa, x_slen, x_sa, x_ac, x_oi, x_new, x_na, x_cS, x_cV, x_cI, x_rI, x_rZ, x_rL, x_r0, pa, short, oc, lg, lset, lset2, wide, cond_true, cond_false, true_and, and_true, ↓reduceIte, Bool.false_eq_true, true_or, or_true, lf_X10_same, h1.f, h3.2]
    exact this
theorem RW.sl {f : Nat → Int32} {a : AS} {s : Nat} {v : Int32} (h : RW f 0 a) (hn : aN a ≤ 9) (hm : aM a ≤ 6) : RW (slF f s v (aN a)) 0 (slA a s v) := by
  have e : ∀ j, 9 ≤ j → slF f s v (aN a) j = f j := fun j hj => by rw [slF, if_neg (by omega)]
  refine ⟨fun b hb => ?_, fun b hb => ?_, fun c hc => ?_, fun j hj => ?_, ?_, ?_⟩
  · show slF f s v (aN a) (0 + b) = slF (aL a) s v (aN a) b
    rw [Nat.zero_add]
    simp only [slF]
    split
    · rfl
    · exact h.l hb
  · rw [e _ (by omega)]; exact h.2.1 b hb
  · rw [e _ (by omega)]; exact h.2.2.1 c hc
  · rw [e _ (by omega)]; exact h.2.2.2.1 j hj
  · rw [e _ (by omega)]; exact h.2.2.2.2.1
  · rw [e _ (by omega)]; exact h.2.2.2.2.2
theorem RW.dr {f : Nat → Int32} {a : AS} {z : Int64} (h : RW f 0 a) (hn : aN a ≤ 9) (hm : aM a ≤ 6) : RW (drF z f (aN a)) 0 (drA a z) := by
  have e : ∀ j, 9 ≤ j → drF z f (aN a) j = f j := fun j hj => by rw [drF, if_neg (by omega)]
  refine ⟨fun b hb => ?_, fun b hb => ?_, fun c hc => ?_, fun j hj => ?_, ?_, ?_⟩
  · show drF z f (aN a) (0 + b) = drF z (aL a) (aN a) b
    rw [Nat.zero_add]
    simp only [drF]
    split
    · rfl
    · exact h.l hb
  · rw [e _ (by omega)]; exact h.2.1 b hb
  · rw [e _ (by omega)]; exact h.2.2.1 c hc
  · rw [e _ (by omega)]; exact h.2.2.2.1 j hj
  · rw [e _ (by omega)]; exact h.2.2.2.2.1
  · rw [e _ (by omega)]; exact h.2.2.2.2.2
def il_X10_chance : List (Nat × Instr × Nat) := [(0, .iload_n 1, 1), (1, .i2l, 1), (2, .lconst 1, 1), (3, .ldc2_w 182, 3), (6, .invokestatic 60, 3), (9, .ifCond .eq 15, 3), (12, .iload_n 2, 1), (13, .i2l, 1), (14, .lconst 0, 1), (15, .ldc2_w 224, 3), (18, .invokestatic 60, 3), (21, .ifCond .ne 6, 3), (24, .bipush (-2), 2), (26, .ireturn, 1), (27, .iconst 0, 1), (28, .istore 4, 2), (30, .iconst 0, 1), (31, .istore 5, 2), (33, .iload 5, 2), (35, .iconst 1, 1), (36, .aload_n 0, 1), (37, .getfield 53, 3), (40, .ishl, 1), (41, .if_icmp .ge 116, 3), (44, .aload_n 0, 1), (45, .getfield 13, 3), (48, .aload_n 0, 1), (49, .getfield 16, 3), (52, .invokestatic 136, 3), (55, .iconst 0, 1), (56, .istore 6, 2), (58, .iload 6, 2), (60, .aload_n 0, 1), (61, .getfield 53, 3), (64, .if_icmp .ge 34, 3), (67, .aload_n 0, 1), (68, .getfield 16, 3), (71, .iconst 0, 1), (72, .iload 6, 2), (74, .iadd, 1), (75, .iload 5, 2), (77, .iload 6, 2), (79, .invokestatic 102, 3), (82, .ifCond .eq 8, 3), (85, .iload_n 1, 1), (86, .ineg, 1), (87, .goto 4, 3), (90, .iload_n 1, 1), (91, .iastore, 1), (92, .iinc 6 1, 3), (95, .goto (-37), 3), (98, .aload_n 0, 1), (99, .invokevirtual 140, 3), (102, .istore 6, 2), (104, .iload 4, 2), (106, .aload_n 0, 1), (107, .aload_n 0, 1), (108, .getfield 16, 3), (111, .invokevirtual 118, 3), (114, .ifCond .ne 33, 3), (117, .iload_n 2, 1), (118, .iload 5, 2), (120, .invokestatic 114, 3), (123, .invokestatic 226, 3), (126, .bipush 10, 2), (128, .iload_n 2, 1), (129, .isub, 1), (130, .aload_n 0, 1), (131, .getfield 53, 3), (134, .iload 5, 2), (136, .invokestatic 114, 3), (139, .isub, 1), (140, .invokestatic 226, 3), (143, .imul, 1), (144, .goto 4, 3), (147, .iconst 0, 1), (148, .iadd, 1), (149, .istore 4, 2), (151, .iinc 5 1, 3), (154, .goto (-121), 3), (157, .iload 4, 2), (159, .bipush 10, 2), (161, .aload_n 0, 1), (162, .getfield 53, 3), (165, .invokestatic 226, 3), (168, .iload_n 3, 1), (169, .invokestatic 220, 3), (172, .ireturn, 1)]
def mt_X10_chance : Mt := (cX10_chance, RX10, 7, (some .int), ({ frames := 4, cells := 0, slots := 0, locals := 93 } : Room), false, none, none)
set_option maxRecDepth 100000 in
theorem dl_X10_chance : ∀ q ∈ il_X10_chance, decode (mt_X10_chance).1 q.1 = .ok q.2 := by decide +kernel
def tb_X10_chance : Tb := [(0, x_il 1 1, false),
  (1, x_i2l 2, false),
  (2, x_c 3 (.long 1), false),
  (3, x_c 6 (.long 31), false),
  (6, x_cS 3 P_X10_in 9, false),
  (9, x_if 24 12 (fun x : Int32 => x = 0), false),
  (12, x_il 13 2, false),
  (13, x_i2l 14, false),
  (14, x_c 15 (.long 0), false),
  (15, x_c 18 (.long 10), false),
  (18, x_cS 3 P_X10_in 21, false),
  (21, x_ifn 27 24 (fun x : Int32 => x = 0), false),
  (24, x_c 26 (.int (-2)), false),
  (26, x_rI, false),
  (27, x_c 28 (.int 0), false),
  (28, x_is 30 4, false),
  (30, x_c 31 (.int 0), false),
  (31, x_is 33 5, false),
  (33, x_il 35 5, true),
  (35, x_c 36 (.int 1), false),
  (36, x_al 37 0, false),
  (37, x_gI 10 2 40, false),
  (40, x_ii 41 (fun x y : Int32 => x <<< (y &&& 31)), false),
  (41, x_ic 157 44 (fun x y : Int32 => y ≤ x), false),
  (44, x_al 45 0, false),
  (45, x_gR 10 4 48, false),
  (48, x_al 49 0, false),
  (49, x_gR 10 5 52, false),
  (52, x_cS 2 P_X10_copy 55, false),
  (55, x_c 56 (.int 0), false),
  (56, x_is 58 6, false),
  (58, x_il 60 6, true),
  (60, x_al 61 0, false),
  (61, x_gI 10 2 64, false),
  (64, x_ic 98 67 (fun x y : Int32 => y ≤ x), false),
  (67, x_al 68 0, false),
  (68, x_gR 10 5 71, false),
  (71, x_c 72 (.int 0), false),
  (72, x_il 74 6, false),
  (74, x_ii 75 (fun x y : Int32 => x + y), false),
  (75, x_il 77 5, false),
  (77, x_il 79 6, false),
  (79, x_cS 2 P_X10_has 82, false),
  (82, x_if 90 85 (fun x : Int32 => x = 0), false),
  (85, x_il 86 1, false),
  (86, x_i1 87 (fun x : Int32 => -x), false),
  (87, x_go 91, false),
  (90, x_il 91 1, false),
  (91, x_ias 92, false),
  (92, x_inc 95 6 1, false),
  (95, x_go 58, false),
  (98, x_al 99 0, true),
  (99, x_cV 10 0 P_X10_solve 102, false),
  (102, x_is 104 6, false),
  (104, x_il 106 4, false),
  (106, x_al 107 0, false),
  (107, x_al 108 0, false),
  (108, x_gR 10 5 111, false),
  (111, x_cV 10 1 P_X10_wordOf 114, false),
  (114, x_ifn 147 117 (fun x : Int32 => x = 0), false),
  (117, x_il 118 2, false),
  (118, x_il 120 5, false),
  (120, x_cS 1 P_X10_ones 123, false),
  (123, x_cS 2 P_X10_power 126, false),
  (126, x_c 128 (.int 10), false),
  (128, x_il 129 2, false),
  (129, x_ii 130 (fun x y : Int32 => x - y), false),
  (130, x_al 131 0, false),
  (131, x_gI 10 2 134, false),
  (134, x_il 136 5, false),
  (136, x_cS 1 P_X10_ones 139, false),
  (139, x_ii 140 (fun x y : Int32 => x - y), false),
  (140, x_cS 2 P_X10_power 143, false),
  (143, x_ii 144 (fun x y : Int32 => x * y), false),
  (144, x_go 148, false),
  (147, x_c 148 (.int 0), false),
  (148, x_ii 149 (fun x y : Int32 => x + y), false),
  (149, x_is 151 4, false),
  (151, x_inc 154 5 1, false),
  (154, x_go 33, false),
  (157, x_il 159 4, false),
  (159, x_c 161 (.int 10), false),
  (161, x_al 162 0, false),
  (162, x_gI 10 2 165, false),
  (165, x_cS 2 P_X10_power 168, false),
  (168, x_il 169 3, false),
  (169, x_cS 3 P_X10_fraction 172, false),
  (172, x_rI, false)]
set_option maxRecDepth 100000 in
theorem tk_X10_chance : TbOk (mt_X10_chance) (tb_X10_chance) :=
  tkc (s_iload_n (at_ dl_X10_chance 0 (ins := .iload_n 1) rfl)) (
  tkc (s_i2l (at_ dl_X10_chance 1 (ins := .i2l) rfl)) (
  tkc (s_lconst (at_ dl_X10_chance 2 (ins := .lconst 1) rfl) (by first | rfl | decide)) (
  tkc (s_ldc2 (at_ dl_X10_chance 3 (ins := .ldc2_w 182) rfl) (tg 905 (by decide +kernel) (by decide +kernel))) (
  tkc (s_cS ok_X10_in (at_ dl_X10_chance 4 (ins := .invokestatic 60) rfl) (tg 780 (by decide +kernel) (by decide +kernel)) (tg 781 (by decide +kernel) (by decide +kernel)) (tg 51 (by decide +kernel) (by decide +kernel)) (tg 782 (by decide +kernel) (by decide +kernel)) (⟨by decide, by decide, by decide +kernel⟩) (⟨by decide, by decide⟩) rfl rfl) (
  tkc (s_if_eq (at_ dl_X10_chance 5 (ins := .ifCond .eq 15) rfl) (by decide)) (
  tkc (s_iload_n (at_ dl_X10_chance 6 (ins := .iload_n 2) rfl)) (
  tkc (s_i2l (at_ dl_X10_chance 7 (ins := .i2l) rfl)) (
  tkc (s_lconst (at_ dl_X10_chance 8 (ins := .lconst 0) rfl) (by first | rfl | decide)) (
  tkc (s_ldc2 (at_ dl_X10_chance 9 (ins := .ldc2_w 224) rfl) (tg 996 (by decide +kernel) (by decide +kernel))) (
  tkc (s_cS ok_X10_in (at_ dl_X10_chance 10 (ins := .invokestatic 60) rfl) (tg 780 (by decide +kernel) (by decide +kernel)) (tg 781 (by decide +kernel) (by decide +kernel)) (tg 51 (by decide +kernel) (by decide +kernel)) (tg 782 (by decide +kernel) (by decide +kernel)) (⟨by decide, by decide, by decide +kernel⟩) (⟨by decide, by decide⟩) rfl rfl) (
  tkc (s_if_ne (at_ dl_X10_chance 11 (ins := .ifCond .ne 6) rfl) (by decide)) (
  tkc (s_bipush (at_ dl_X10_chance 12 (ins := .bipush (-2)) rfl) (by first | rfl | decide)) (
  tkc (s_rI (at_ dl_X10_chance 13 (ins := .ireturn) rfl) rfl) (
  tkc (s_iconst (at_ dl_X10_chance 14 (ins := .iconst 0) rfl) (by first | rfl | decide)) (
  tkc (s_istore (at_ dl_X10_chance 15 (ins := .istore 4) rfl) (by decide)) (
  tkc (s_iconst (at_ dl_X10_chance 16 (ins := .iconst 0) rfl) (by first | rfl | decide)) (
  tkc (s_istore (at_ dl_X10_chance 17 (ins := .istore 5) rfl) (by decide)) (
  tkc (s_iload (at_ dl_X10_chance 18 (ins := .iload 5) rfl)) (
  tkc (s_iconst (at_ dl_X10_chance 19 (ins := .iconst 1) rfl) (by first | rfl | decide)) (
  tkc (s_aload_n (at_ dl_X10_chance 20 (ins := .aload_n 0) rfl)) (
  tkc (s_gI (at_ dl_X10_chance 21 (ins := .getfield 53) rfl) (by decide) (by decide) (by decide) (tg 698 (by decide +kernel) (by decide +kernel))) (
  tkc (s_ishl (at_ dl_X10_chance 22 (ins := .ishl) rfl)) (
  tkc (s_ic_ge (at_ dl_X10_chance 23 (ins := .if_icmp .ge 116) rfl) (by decide)) (
  tkc (s_aload_n (at_ dl_X10_chance 24 (ins := .aload_n 0) rfl)) (
  tkc (s_gR (at_ dl_X10_chance 25 (ins := .getfield 13) rfl) (by decide) (by decide) (by decide) (tg 700 (by decide +kernel) (by decide +kernel))) (
  tkc (s_aload_n (at_ dl_X10_chance 26 (ins := .aload_n 0) rfl)) (
  tkc (s_gR (at_ dl_X10_chance 27 (ins := .getfield 16) rfl) (by decide) (by decide) (by decide) (tg 701 (by decide +kernel) (by decide +kernel))) (
  tkc (s_cS ok_X10_copy (at_ dl_X10_chance 28 (ins := .invokestatic 136) rfl) (tg 847 (by decide +kernel) (by decide +kernel)) (tg 848 (by decide +kernel) (by decide +kernel)) (tg 51 (by decide +kernel) (by decide +kernel)) (tg 849 (by decide +kernel) (by decide +kernel)) (⟨by decide, by decide, by decide +kernel⟩) (⟨by decide, by decide⟩) rfl rfl) (
  tkc (s_iconst (at_ dl_X10_chance 29 (ins := .iconst 0) rfl) (by first | rfl | decide)) (
  tkc (s_istore (at_ dl_X10_chance 30 (ins := .istore 6) rfl) (by decide)) (
  tkc (s_iload (at_ dl_X10_chance 31 (ins := .iload 6) rfl)) (
  tkc (s_aload_n (at_ dl_X10_chance 32 (ins := .aload_n 0) rfl)) (
  tkc (s_gI (at_ dl_X10_chance 33 (ins := .getfield 53) rfl) (by decide) (by decide) (by decide) (tg 698 (by decide +kernel) (by decide +kernel))) (
  tkc (s_ic_ge (at_ dl_X10_chance 34 (ins := .if_icmp .ge 34) rfl) (by decide)) (
  tkc (s_aload_n (at_ dl_X10_chance 35 (ins := .aload_n 0) rfl)) (
  tkc (s_gR (at_ dl_X10_chance 36 (ins := .getfield 16) rfl) (by decide) (by decide) (by decide) (tg 701 (by decide +kernel) (by decide +kernel))) (
  tkc (s_iconst (at_ dl_X10_chance 37 (ins := .iconst 0) rfl) (by first | rfl | decide)) (
  tkc (s_iload (at_ dl_X10_chance 38 (ins := .iload 6) rfl)) (
  tkc (s_iadd (at_ dl_X10_chance 39 (ins := .iadd) rfl)) (
  tkc (s_iload (at_ dl_X10_chance 40 (ins := .iload 5) rfl)) (
  tkc (s_iload (at_ dl_X10_chance 41 (ins := .iload 6) rfl)) (
  tkc (s_cS ok_X10_has (at_ dl_X10_chance 42 (ins := .invokestatic 102) rfl) (tg 828 (by decide +kernel) (by decide +kernel)) (tg 829 (by decide +kernel) (by decide +kernel)) (tg 51 (by decide +kernel) (by decide +kernel)) (tg 830 (by decide +kernel) (by decide +kernel)) (⟨by decide, by decide, by decide +kernel⟩) (⟨by decide, by decide⟩) rfl rfl) (
  tkc (s_if_eq (at_ dl_X10_chance 43 (ins := .ifCond .eq 8) rfl) (by decide)) (
  tkc (s_iload_n (at_ dl_X10_chance 44 (ins := .iload_n 1) rfl)) (
  tkc (s_ineg (at_ dl_X10_chance 45 (ins := .ineg) rfl)) (
  tkc (s_goto (at_ dl_X10_chance 46 (ins := .goto 4) rfl) (by decide)) (
  tkc (s_iload_n (at_ dl_X10_chance 47 (ins := .iload_n 1) rfl)) (
  tkc (s_ias (at_ dl_X10_chance 48 (ins := .iastore) rfl)) (
  tkc (s_iinc (at_ dl_X10_chance 49 (ins := .iinc 6 1) rfl) (by decide) (by first | rfl | decide)) (
  tkc (s_goto (at_ dl_X10_chance 50 (ins := .goto (-37)) rfl) (by decide)) (
  tkc (s_aload_n (at_ dl_X10_chance 51 (ins := .aload_n 0) rfl)) (
  tkc (s_cV ok_X10_solve (at_ dl_X10_chance 52 (ins := .invokevirtual 140) rfl) (by decide) rfl (tg 850 (by decide +kernel) (by decide +kernel)) (tg 852 (by decide +kernel) (by decide +kernel)) (tg 29 (by decide +kernel) (by decide +kernel)) (tg 51 (by decide +kernel) (by decide +kernel)) (tg 853 (by decide +kernel) (by decide +kernel)) (⟨by decide, by decide, by decide +kernel⟩) (⟨by decide, by decide⟩) rfl rfl) (
  tkc (s_istore (at_ dl_X10_chance 53 (ins := .istore 6) rfl) (by decide)) (
  tkc (s_iload (at_ dl_X10_chance 54 (ins := .iload 4) rfl)) (
  tkc (s_aload_n (at_ dl_X10_chance 55 (ins := .aload_n 0) rfl)) (
  tkc (s_aload_n (at_ dl_X10_chance 56 (ins := .aload_n 0) rfl)) (
  tkc (s_gR (at_ dl_X10_chance 57 (ins := .getfield 16) rfl) (by decide) (by decide) (by decide) (tg 701 (by decide +kernel) (by decide +kernel))) (
  tkc (s_cV ok_X10_wordOf (at_ dl_X10_chance 58 (ins := .invokevirtual 118) rfl) (by decide) rfl (tg 809 (by decide +kernel) (by decide +kernel)) (tg 811 (by decide +kernel) (by decide +kernel)) (tg 21 (by decide +kernel) (by decide +kernel)) (tg 51 (by decide +kernel) (by decide +kernel)) (tg 812 (by decide +kernel) (by decide +kernel)) (⟨by decide, by decide, by decide +kernel⟩) (⟨by decide, by decide⟩) rfl rfl) (
  tkc (s_if_ne (at_ dl_X10_chance 59 (ins := .ifCond .ne 33) rfl) (by decide)) (
  tkc (s_iload_n (at_ dl_X10_chance 60 (ins := .iload_n 2) rfl)) (
  tkc (s_iload (at_ dl_X10_chance 61 (ins := .iload 5) rfl)) (
  tkc (s_cS ok_X10_ones (at_ dl_X10_chance 62 (ins := .invokestatic 114) rfl) (tg 821 (by decide +kernel) (by decide +kernel)) (tg 822 (by decide +kernel) (by decide +kernel)) (tg 51 (by decide +kernel) (by decide +kernel)) (tg 823 (by decide +kernel) (by decide +kernel)) (⟨by decide, by decide, by decide +kernel⟩) (⟨by decide, by decide⟩) rfl rfl) (
  tkc (s_cS ok_X10_power (at_ dl_X10_chance 63 (ins := .invokestatic 226) rfl) (tg 997 (by decide +kernel) (by decide +kernel)) (tg 998 (by decide +kernel) (by decide +kernel)) (tg 51 (by decide +kernel) (by decide +kernel)) (tg 999 (by decide +kernel) (by decide +kernel)) (⟨by decide, by decide, by decide +kernel⟩) (⟨by decide, by decide⟩) rfl rfl) (
  tkc (s_bipush (at_ dl_X10_chance 64 (ins := .bipush 10) rfl) (by first | rfl | decide)) (
  tkc (s_iload_n (at_ dl_X10_chance 65 (ins := .iload_n 2) rfl)) (
  tkc (s_isub (at_ dl_X10_chance 66 (ins := .isub) rfl)) (
  tkc (s_aload_n (at_ dl_X10_chance 67 (ins := .aload_n 0) rfl)) (
  tkc (s_gI (at_ dl_X10_chance 68 (ins := .getfield 53) rfl) (by decide) (by decide) (by decide) (tg 698 (by decide +kernel) (by decide +kernel))) (
  tkc (s_iload (at_ dl_X10_chance 69 (ins := .iload 5) rfl)) (
  tkc (s_cS ok_X10_ones (at_ dl_X10_chance 70 (ins := .invokestatic 114) rfl) (tg 821 (by decide +kernel) (by decide +kernel)) (tg 822 (by decide +kernel) (by decide +kernel)) (tg 51 (by decide +kernel) (by decide +kernel)) (tg 823 (by decide +kernel) (by decide +kernel)) (⟨by decide, by decide, by decide +kernel⟩) (⟨by decide, by decide⟩) rfl rfl) (
  tkc (s_isub (at_ dl_X10_chance 71 (ins := .isub) rfl)) (
  tkc (s_cS ok_X10_power (at_ dl_X10_chance 72 (ins := .invokestatic 226) rfl) (tg 997 (by decide +kernel) (by decide +kernel)) (tg 998 (by decide +kernel) (by decide +kernel)) (tg 51 (by decide +kernel) (by decide +kernel)) (tg 999 (by decide +kernel) (by decide +kernel)) (⟨by decide, by decide, by decide +kernel⟩) (⟨by decide, by decide⟩) rfl rfl) (
  tkc (s_imul (at_ dl_X10_chance 73 (ins := .imul) rfl)) (
  tkc (s_goto (at_ dl_X10_chance 74 (ins := .goto 4) rfl) (by decide)) (
  tkc (s_iconst (at_ dl_X10_chance 75 (ins := .iconst 0) rfl) (by first | rfl | decide)) (
  tkc (s_iadd (at_ dl_X10_chance 76 (ins := .iadd) rfl)) (
  tkc (s_istore (at_ dl_X10_chance 77 (ins := .istore 4) rfl) (by decide)) (
  tkc (s_iinc (at_ dl_X10_chance 78 (ins := .iinc 5 1) rfl) (by decide) (by first | rfl | decide)) (
  tkc (s_goto (at_ dl_X10_chance 79 (ins := .goto (-121)) rfl) (by decide)) (
  tkc (s_iload (at_ dl_X10_chance 80 (ins := .iload 4) rfl)) (
  tkc (s_bipush (at_ dl_X10_chance 81 (ins := .bipush 10) rfl) (by first | rfl | decide)) (
  tkc (s_aload_n (at_ dl_X10_chance 82 (ins := .aload_n 0) rfl)) (
  tkc (s_gI (at_ dl_X10_chance 83 (ins := .getfield 53) rfl) (by decide) (by decide) (by decide) (tg 698 (by decide +kernel) (by decide +kernel))) (
  tkc (s_cS ok_X10_power (at_ dl_X10_chance 84 (ins := .invokestatic 226) rfl) (tg 997 (by decide +kernel) (by decide +kernel)) (tg 998 (by decide +kernel) (by decide +kernel)) (tg 51 (by decide +kernel) (by decide +kernel)) (tg 999 (by decide +kernel) (by decide +kernel)) (⟨by decide, by decide, by decide +kernel⟩) (⟨by decide, by decide⟩) rfl rfl) (
  tkc (s_iload_n (at_ dl_X10_chance 85 (ins := .iload_n 3) rfl)) (
  tkc (s_cS ok_X10_fraction (at_ dl_X10_chance 86 (ins := .invokestatic 220) rfl) (tg 989 (by decide +kernel) (by decide +kernel)) (tg 990 (by decide +kernel) (by decide +kernel)) (tg 51 (by decide +kernel) (by decide +kernel)) (tg 991 (by decide +kernel) (by decide +kernel)) (⟨by decide, by decide, by decide +kernel⟩) (⟨by decide, by decide⟩) rfl rfl) (
  tkc (s_rI (at_ dl_X10_chance 87 (ins := .ireturn) rfl) rfl) ( tk0))))))))))))))))))))))))))))))))))))))))))))))))))))))))))))))))))))))))))))))))))))))))
theorem lf_X10_chance : lk (tb_X10_chance) 0 = (x_il 1 1, false) ∧ lk (tb_X10_chance) 1 = (x_i2l 2, false) ∧ lk (tb_X10_chance) 2 = (x_c 3 (.long 1), false) ∧ lk (tb_X10_chance) 3 = (x_c 6 (.long 31), false) ∧ lk (tb_X10_chance) 6 = (x_cS 3 P_X10_in 9, false) ∧ lk (tb_X10_chance) 9 = (x_if 24 12 (fun x : Int32 => x = 0), false) ∧ lk (tb_X10_chance) 12 = (x_il 13 2, false) ∧ lk (tb_X10_chance) 13 = (x_i2l 14, false) ∧ lk (tb_X10_chance) 14 = (x_c 15 (.long 0), false) ∧ lk (tb_X10_chance) 15 = (x_c 18 (.long 10), false) ∧ lk (tb_X10_chance) 18 = (x_cS 3 P_X10_in 21, false) ∧ lk (tb_X10_chance) 21 = (x_ifn 27 24 (fun x : Int32 => x = 0), false) ∧ lk (tb_X10_chance) 24 = (x_c 26 (.int (-2)), false) ∧ lk (tb_X10_chance) 26 = (x_rI, false) ∧ lk (tb_X10_chance) 27 = (x_c 28 (.int 0), false) ∧ lk (tb_X10_chance) 28 = (x_is 30 4, false) ∧ lk (tb_X10_chance) 30 = (x_c 31 (.int 0), false) ∧ lk (tb_X10_chance) 31 = (x_is 33 5, false) ∧ lk (tb_X10_chance) 33 = (x_il 35 5, true) ∧ lk (tb_X10_chance) 35 = (x_c 36 (.int 1), false) ∧ lk (tb_X10_chance) 36 = (x_al 37 0, false) ∧ lk (tb_X10_chance) 37 = (x_gI 10 2 40, false) ∧ lk (tb_X10_chance) 40 = (x_ii 41 (fun x y : Int32 => x <<< (y &&& 31)), false) ∧ lk (tb_X10_chance) 41 = (x_ic 157 44 (fun x y : Int32 => y ≤ x), false) ∧ lk (tb_X10_chance) 44 = (x_al 45 0, false) ∧ lk (tb_X10_chance) 45 = (x_gR 10 4 48, false) ∧ lk (tb_X10_chance) 48 = (x_al 49 0, false) ∧ lk (tb_X10_chance) 49 = (x_gR 10 5 52, false) ∧ lk (tb_X10_chance) 52 = (x_cS 2 P_X10_copy 55, false) ∧ lk (tb_X10_chance) 55 = (x_c 56 (.int 0), false) ∧ lk (tb_X10_chance) 56 = (x_is 58 6, false) ∧ lk (tb_X10_chance) 58 = (x_il 60 6, true) ∧ lk (tb_X10_chance) 60 = (x_al 61 0, false) ∧ lk (tb_X10_chance) 61 = (x_gI 10 2 64, false) ∧ lk (tb_X10_chance) 64 = (x_ic 98 67 (fun x y : Int32 => y ≤ x), false) ∧ lk (tb_X10_chance) 67 = (x_al 68 0, false) ∧ lk (tb_X10_chance) 68 = (x_gR 10 5 71, false) ∧ lk (tb_X10_chance) 71 = (x_c 72 (.int 0), false) ∧ lk (tb_X10_chance) 72 = (x_il 74 6, false) ∧ lk (tb_X10_chance) 74 = (x_ii 75 (fun x y : Int32 => x + y), false) ∧ lk (tb_X10_chance) 75 = (x_il 77 5, false) ∧ lk (tb_X10_chance) 77 = (x_il 79 6, false) ∧ lk (tb_X10_chance) 79 = (x_cS 2 P_X10_has 82, false) ∧ lk (tb_X10_chance) 82 = (x_if 90 85 (fun x : Int32 => x = 0), false) ∧ lk (tb_X10_chance) 85 = (x_il 86 1, false) ∧ lk (tb_X10_chance) 86 = (x_i1 87 (fun x : Int32 => -x), false) ∧ lk (tb_X10_chance) 87 = (x_go 91, false) ∧ lk (tb_X10_chance) 90 = (x_il 91 1, false) ∧ lk (tb_X10_chance) 91 = (x_ias 92, false) ∧ lk (tb_X10_chance) 92 = (x_inc 95 6 1, false) ∧ lk (tb_X10_chance) 95 = (x_go 58, false) ∧ lk (tb_X10_chance) 98 = (x_al 99 0, true) ∧ lk (tb_X10_chance) 99 = (x_cV 10 0 P_X10_solve 102, false) ∧ lk (tb_X10_chance) 102 = (x_is 104 6, false) ∧ lk (tb_X10_chance) 104 = (x_il 106 4, false) ∧ lk (tb_X10_chance) 106 = (x_al 107 0, false) ∧ lk (tb_X10_chance) 107 = (x_al 108 0, false) ∧ lk (tb_X10_chance) 108 = (x_gR 10 5 111, false) ∧ lk (tb_X10_chance) 111 = (x_cV 10 1 P_X10_wordOf 114, false) ∧ lk (tb_X10_chance) 114 = (x_ifn 147 117 (fun x : Int32 => x = 0), false) ∧ lk (tb_X10_chance) 117 = (x_il 118 2, false) ∧ lk (tb_X10_chance) 118 = (x_il 120 5, false) ∧ lk (tb_X10_chance) 120 = (x_cS 1 P_X10_ones 123, false) ∧ lk (tb_X10_chance) 123 = (x_cS 2 P_X10_power 126, false) ∧ lk (tb_X10_chance) 126 = (x_c 128 (.int 10), false) ∧ lk (tb_X10_chance) 128 = (x_il 129 2, false) ∧ lk (tb_X10_chance) 129 = (x_ii 130 (fun x y : Int32 => x - y), false) ∧ lk (tb_X10_chance) 130 = (x_al 131 0, false) ∧ lk (tb_X10_chance) 131 = (x_gI 10 2 134, false) ∧ lk (tb_X10_chance) 134 = (x_il 136 5, false) ∧ lk (tb_X10_chance) 136 = (x_cS 1 P_X10_ones 139, false) ∧ lk (tb_X10_chance) 139 = (x_ii 140 (fun x y : Int32 => x - y), false) ∧ lk (tb_X10_chance) 140 = (x_cS 2 P_X10_power 143, false) ∧ lk (tb_X10_chance) 143 = (x_ii 144 (fun x y : Int32 => x * y), false) ∧ lk (tb_X10_chance) 144 = (x_go 148, false) ∧ lk (tb_X10_chance) 147 = (x_c 148 (.int 0), false) ∧ lk (tb_X10_chance) 148 = (x_ii 149 (fun x y : Int32 => x + y), false) ∧ lk (tb_X10_chance) 149 = (x_is 151 4, false) ∧ lk (tb_X10_chance) 151 = (x_inc 154 5 1, false) ∧ lk (tb_X10_chance) 154 = (x_go 33, false) ∧ lk (tb_X10_chance) 157 = (x_il 159 4, false) ∧ lk (tb_X10_chance) 159 = (x_c 161 (.int 10), false) ∧ lk (tb_X10_chance) 161 = (x_al 162 0, false) ∧ lk (tb_X10_chance) 162 = (x_gI 10 2 165, false) ∧ lk (tb_X10_chance) 165 = (x_cS 2 P_X10_power 168, false) ∧ lk (tb_X10_chance) 168 = (x_il 169 3, false) ∧ lk (tb_X10_chance) 169 = (x_cS 3 P_X10_fraction 172, false) ∧ lk (tb_X10_chance) 172 = (x_rI, false) := ⟨rfl, rfl, rfl, rfl, rfl, rfl, rfl, rfl, rfl, rfl, rfl, rfl, rfl, rfl, rfl, rfl, rfl, rfl, rfl, rfl, rfl, rfl, rfl, rfl, rfl, rfl, rfl, rfl, rfl, rfl, rfl, rfl, rfl, rfl, rfl, rfl, rfl, rfl, rfl, rfl, rfl, rfl, rfl, rfl, rfl, rfl, rfl, rfl, rfl, rfl, rfl, rfl, rfl, rfl, rfl, rfl, rfl, rfl, rfl, rfl, rfl, rfl, rfl, rfl, rfl, rfl, rfl, rfl, rfl, rfl, rfl, rfl, rfl, rfl, rfl, rfl, rfl, rfl, rfl, rfl, rfl, rfl, rfl, rfl, rfl, rfl, rfl, rfl⟩
def P_X10_chance : PTT := fun as M R => match as with
  | [.ref k, .int v, .int x, .int u] => k = 108 ∧ ∃ g, MR M.1 M.2.1 M.2.2 g ∧ GOk g ∧ Anm M R (gChance g v x u) g
  | _ => False
set_option maxRecDepth 20000 in
theorem ok_X10_chance : Ok yX10_chance mt_X10_chance P_X10_chance := by
  refine Ok.of (by decide) rfl rfl rfl rfl fun av ⟨S, I, L⟩ R hP => ?_
  unfold P_X10_chance at hP
  split at hP
  case h_2 => exact hP.elim
  rename_i k v x u
  obtain ⟨k, rfl⟩ : ∃ q : Nat, q = k := ⟨k, rfl⟩
  refine ⟨by simp [ent, wide, mt_X10_chance], ?_⟩
  show J mt_X10_chance R 0 [some (.ref k), some (.int v), some (.int x), some (.int u), none, none, none] [] (S, I, L)
  try dsimp only at hP
  obtain ⟨rfl, g, hc, ho, hA⟩ := hP
  obtain ⟨h1, h2, h3, h4, h5, h6, h7, h8, h9⟩ := id hc
  have hok := ho.2.1
  have hm := ho.2.1.1
  have hp := pow9 hm.2.1
  have hfin : ∀ w I', gChance g v x u = w → frK 111 I I' → R (some (.int w)) (S, I', L) := fun w I' hw hf => (hw ▸ hA).q hc hf.M
  have hbad : ((v < 1 ∨ 31 < v) ∨ x < 0 ∨ ¬ x ≤ 10) → R (some (.int (-2))) (S, I, L) := fun h => hfin _ I (if_pos h) (fun _ _ _ => rfl)
  have i1 : (¬ v.toInt64 < (1 : Int64) ∧ ¬ (31 : Int64) < v.toInt64) ↔ (¬ v < 1 ∧ v ≤ 31) := and_congr (loL (by decide)) (inL (by decide))
  have i2 : (¬ x.toInt64 < (0 : Int64) ∧ ¬ (10 : Int64) < x.toInt64) ↔ (¬ x < 0 ∧ x ≤ 10) := and_congr i2l_0 (inL (by decide))
  refine J.of tk_X10_chance 200 fun ρ hρ => ?_
  simp only [hρ, x_c, x_il, x_ll, x_al, x_is, x_as, x_ls, x_inc, x_ii, x_iq, x_i1, x_l2, x_lq, x_lh, x_i2l, x_l2i, x_lcmp, x_dup, x_dup2, x_pop, x_if, x_ifn, x_ic, x_icn, x_go, x_sw, swc, x_l01, x_mx, x_gI, x_gL, x_gR, x_pI, x_pZ, x_pL, x_pR, x_ia, x_za, x_aa, x_ias, x_zas, x_aas, x_fac, x_fa, x_slen, x_sa, x_ac, x_oi, x_new, x_na, x_cS, x_cV, x_cI, x_rI, x_rZ, x_rL, x_r0, pa, short, oc, lg, lset, lset2, wide, cond_true, cond_false, true_and, and_true, ↓reduceIte, Bool.false_eq_true, true_or, or_true, lf_X10_chance, h1.f, P_X10_in, i1, i2, bI_0, Classical.not_not]
  refine ⟨fun h => hbad (.inl (Classical.byContradiction fun q => h ⟨fun r => q (.inl r), Int32.not_lt.mp fun r => q (.inr r)⟩)), fun h => ⟨fun h' => ?_, fun h' => hbad (.inr (Classical.byContradiction fun q => h' ⟨fun r => q (.inl r), Classical.byContradiction fun r => q (.inr r)⟩))⟩⟩
  have hno : ¬ ((v < 1 ∨ 31 < v) ∨ x < 0 ∨ ¬ x ≤ 10) := fun q => q.elim (fun q => q.elim h.1 (Int32.not_lt.mpr h.2)) (fun q => q.elim h'.1 (fun r => r h'.2))
  obtain ⟨X, hX, rfl⟩ := le10 h'.1 h'.2
  have htX : tn (nI X) = X := tn_nI (by omega)
  have hg : gChance g v (nI X) u = ltA (chS (gA g) v X (2 ^ aN (gA g))) (10 ^ aN (gA g)) u := by rw [gChance, if_neg hno, htX]
  have hv31 : inR 31 v := by
    have q1 := h.1
    have q2 := h.2
    rw [Int32.lt_iff_toInt_lt] at q1
    rw [Int32.le_iff_toInt_le] at q2
    have e1 : (1 : Int32).toInt = 1 := by decide
    have e2 : (31 : Int32).toInt = 31 := by decide
    exact ⟨by omega, by omega⟩
  have t9 := ten9 hm.2.1
  refine up (P := fun s => ∀ I', frK 111 I I' → J mt_X10_chance R 33 [some (.ref 108), some (.int v), some (.int (nI X)), some (.int u), some (.int (nI (chS (gA g) v X s))), some (.int (nI s)), none] [] (S, I', L)) (n := 2 ^ aN (gA g)) (fun s hs ih I' hf => ?_) 0 (Nat.zero_le _) I (fun _ _ _ => rfl)
  have e108 : I' 108 = I 108 := hf 108 (by omega) (by omega)
  have e110 : I' 110 = I 110 := hf 110 (by omega) (by omega)
  have e117 : I' 117 = I 117 := hf 117 (by omega) (by omega)
  by_cases hlt : s < 2 ^ aN (gA g)
  · have o9 := ones_n (aN (gA g)) (by omega) s hlt
    have ts : tn (nI s) = s := tn_nI (by omega)
    have es : (10 : Int32) - nI X = nI (10 - X) := by rw [nI10, nI_sub hX]
    have es2 : nI (aN (gA g)) - nI (ones9 s) = nI (aN (gA g) - ones9 s) := nI_sub o9
    have inner := up (P := fun b => J mt_X10_chance R 58 [some (.ref 108), some (.int v), some (.int (nI X)), some (.int u), some (.int (nI (chS (gA g) v X s))), some (.int (nI s)), some (.int (nI b))] [] (S, mS I' 111 (slF (cpy (I 110) (I' 111) 80) s v b), L)) (n := aN (gA g)) (fun b hb ihb => ?_) 0 (Nat.zero_le _)
    · rw [slF_0] at inner
      refine J.of tk_X10_chance 200 fun ρ hρ => ?_
      simp only [hρ, x_c, x_il, x_ll, x_al, x_is, x_as, x_ls, x_inc, x_ii, x_iq, x_i1, x_l2, x_lq, x_lh, x_i2l, x_l2i, x_lcmp, x_dup, x_dup2, x_pop, x_if, x_ifn, x_ic, x_icn, x_go, x_sw, swc, x_l01, x_mx, x_gI, x_gL, x_gR, x_pI, x_pZ, x_pL, x_pR, x_ia, x_za, x_aa, x_ias, x_zas, x_aas, x_fac, x_fa, x_slen, x_sa, x_ac, x_oi, x_new, x_na, x_cS, x_cV, x_cI, x_rI, x_rZ, x_rL, x_r0, pa, short, oc, lg, lset, lset2, wide, cond_true, cond_false, true_and, and_true, ↓reduceIte, Bool.false_eq_true, true_or, or_true, lf_X10_chance, h1, h1.f, e108, e110, h3.1, shl1 (show aN (gA g) < 31 by omega), nI_leI (show 2 ^ aN (gA g) < 2 ^ 31 by omega) (show s < 2 ^ 31 by omega), P_X10_copy]
      exact ⟨fun h => absurd h (by omega), fun _ => inner⟩
    have f108 : mS I' 111 (slF (cpy (I 110) (I' 111) 80) s v b) 108 = I 108 := by rw [mS_n (by omega), e108]
    by_cases hbl : b < aN (gA g)
    · have hvv : vp_in (nI b) 80 := vp_in_nI (by omega) (by omega)
      have ihb' := ihb hbl
      rw [← slF_s] at ihb'
      refine J.of tk_X10_chance 200 fun ρ hρ => ?_
      simp only [hρ, x_c, x_il, x_ll, x_al, x_is, x_as, x_ls, x_inc, x_ii, x_iq, x_i1, x_l2, x_lq, x_lh, x_i2l, x_l2i, x_lcmp, x_dup, x_dup2, x_pop, x_if, x_ifn, x_ic, x_icn, x_go, x_sw, swc, x_l01, x_mx, x_gI, x_gL, x_gR, x_pI, x_pZ, x_pL, x_pR, x_ia, x_za, x_aa, x_ias, x_zas, x_aas, x_fac, x_fa, x_slen, x_sa, x_ac, x_oi, x_new, x_na, x_cS, x_cV, x_cI, x_rI, x_rZ, x_rL, x_r0, pa, short, oc, lg, lset, lset2, wide, cond_true, cond_false, true_and, and_true, ↓reduceIte, Bool.false_eq_true, true_or, or_true, lf_X10_chance, h1.f, f108, h3.1, Int32.zero_add, nI_leI (show aN (gA g) < 2 ^ 31 by omega) (show b < 2 ^ 31 by omega), ncl (show b < 2 ^ 31 by omega), P_X10_has, bB_0, nI_1, mS_s, mS_ss, Classical.not_not]
      refine ⟨fun h => absurd h (by omega), fun _ => ⟨_, _, rfl, by omega, rfl, by omega, fun q => ⟨hvv, ?_⟩, fun q => ⟨hvv, ?_⟩⟩⟩
      · rwa [if_neg q] at ihb'
      · rwa [if_pos q] at ihb'
    · have : b = aN (gA g) := by omega
      subst this
      have hra : RW (slF (cpy (I 110) (I' 111) 80) s v (aN (gA g))) 0 (slA (gA g) s v) := (h4.cp hm.2.2).sl hm.2.1 hm.2.2
      have hsl := slA_ok (s := s) hok hv31
      refine J.of tk_X10_chance 200 fun ρ hρ => ?_
      simp only [hρ, x_c, x_il, x_ll, x_al, x_is, x_as, x_ls, x_inc, x_ii, x_iq, x_i1, x_l2, x_lq, x_lh, x_i2l, x_l2i, x_lcmp, x_dup, x_dup2, x_pop, x_if, x_ifn, x_ic, x_icn, x_go, x_sw, swc, x_l01, x_mx, x_gI, x_gL, x_gR, x_pI, x_pZ, x_pL, x_pR, x_ia, x_za, x_aa, x_ias, x_zas, x_aas, x_fac, x_fa, x_slen, x_sa, x_ac, x_oi, x_new, x_na, x_cS, x_cV, x_cI, x_rI, x_rZ, x_rL, x_r0, pa, short, oc, lg, lset, lset2, wide, cond_true, cond_false, true_and, and_true, ↓reduceIte, Bool.false_eq_true, true_or, or_true, lf_X10_chance, h1.f, f108, h3.1, nI_leI (show aN (gA g) < 2 ^ 31 by omega) (show aN (gA g) < 2 ^ 31 by omega), Nat.le_refl, true_implies, not_true_eq_false, false_implies]
      refine J.of tk_X10_chance 200 fun ρ hρ => ?_
      simp only [hρ, x_c, x_il, x_ll, x_al, x_is, x_as, x_ls, x_inc, x_ii, x_iq, x_i1, x_l2, x_lq, x_lh, x_i2l, x_l2i, x_lcmp, x_dup, x_dup2, x_pop, x_if, x_ifn, x_ic, x_icn, x_go, x_sw, swc, x_l01, x_mx, x_gI, x_gL, x_gR, x_pI, x_pZ, x_pL, x_pR, x_ia, x_za, x_aa, x_ias, x_zas, x_aas, x_fac, x_fa, x_slen, x_sa, x_ac, x_oi, x_new, x_na, x_cS, x_cV, x_cI, x_rI, x_rZ, x_rL, x_r0, pa, short, oc, lg, lset, lset2, wide, cond_true, cond_false, true_and, and_true, ↓reduceIte, Bool.false_eq_true, true_or, or_true, lf_X10_chance, h1, h1.f, P_X10_solve, P_X10_wordOf, P_X10_ones, P_X10_power, ts, es, eq_true (show s < 512 by omega), nI_1]
      refine ⟨slA (gA g) s v, id, by rw [mS_s]; exact hra, hsl, by rw [f108]; exact h3.1, by rw [f108]; exact h3.2, fun j hj => by rw [mS_n (by omega), e117]; exact h9.O hm.2.2 j hj, fun I2 r hf2 hr2 => ?_⟩
      have f2 : frK 111 I I2 := hf.trans (cp_fr.trans hf2)
      have k108 : I2 108 = I 108 := f2 108 (by omega) (by omega)
      have hrn := runA_ok (ord := id) hsl
      have hwl : wdA (runA (slA (gA g) s v) id) < 512 := wdF_lt _ hm.2.1
      have hw' : wdA (rnA (runA (slA (gA g) s v) id) r) = wdA (runA (slA (gA g) s v) id) := rfl
      refine ⟨rnA (runA (slA (gA g) s v) id) r, MS.of h1 (Or.inr rfl) hr2 (rnA_ok hrn) (by rw [k108]; exact h3.1) (by rw [k108]; exact h3.2), ?_⟩
      rw [hw', nI_z (by omega), k108, h3.1, es2]
      have hnx := ih hlt I2 f2
      refine ⟨fun q => ?_, fun q => ⟨X, ones9 s, rfl, rfl, by omega, 10 - X, aN (gA g) - ones9 s, rfl, rfl, by omega, ?_⟩⟩
      · rw [chS, if_neg q] at hnx
        rw [Int32.add_zero]
        exact J.weak (by simp [lsub]) hnx
      · rw [chS, if_pos q] at hnx
        rw [pk_mul, nI_add]
        exact J.weak (by simp [lsub, wtN]) hnx
  · have : s = 2 ^ aN (gA g) := by omega
    subst this
    have hch := chS_lt (v := v) (a := gA g) (s := 2 ^ aN (gA g)) hm.2.1 hX (Nat.le_refl _)
    refine J.of tk_X10_chance 200 fun ρ hρ => ?_
    simp only [hρ, x_c, x_il, x_ll, x_al, x_is, x_as, x_ls, x_inc, x_ii, x_iq, x_i1, x_l2, x_lq, x_lh, x_i2l, x_l2i, x_lcmp, x_dup, x_dup2, x_pop, x_if, x_ifn, x_ic, x_icn, x_go, x_sw, swc, x_l01, x_mx, x_gI, x_gL, x_gR, x_pI, x_pZ, x_pL, x_pR, x_ia, x_za, x_aa, x_ias, x_zas, x_aas, x_fac, x_fa, x_slen, x_sa, x_ac, x_oi, x_new, x_na, x_cS, x_cV, x_cI, x_rI, x_rZ, x_rL, x_r0, pa, short, oc, lg, lset, lset2, wide, cond_true, cond_false, true_and, and_true, ↓reduceIte, Bool.false_eq_true, true_or, or_true, lf_X10_chance, h1.f, e108, h3.1, shl1 (show aN (gA g) < 31 by omega), nI_leI (show 2 ^ aN (gA g) < 2 ^ 31 by omega) (show 2 ^ aN (gA g) < 2 ^ 31 by omega), Nat.le_refl, true_implies, not_true_eq_false, false_implies, P_X10_power, P_X10_fraction]
    exact ⟨10, aN (gA g), nI10, rfl, hm.2.1, _, _, rfl, rfl, by omega, Nat.pow_pos (by omega), by omega, hfin _ I' hg hf⟩
theorem MR.seed {S : Sh} {I : MI} {L L' : Nat → Nat → Int64} {g : GS} {z : Int64} (h : MR S I L g) (hz : L' 108 14 = z) : MR S I L' (GZ g z) := ⟨h.1, h.2.1, h.2.2.1, h.2.2.2.1, h.2.2.2.2.1, h.2.2.2.2.2.1, h.2.2.2.2.2.2.1, hz, h.2.2.2.2.2.2.2.2⟩
def il_X10_drawn : List (Nat × Instr × Nat) := [(0, .iload_n 1, 1), (1, .i2l, 1), (2, .lconst 1, 1), (3, .ldc2_w 210, 3), (6, .invokestatic 60, 3), (9, .ifCond .ne 6, 3), (12, .bipush (-2), 2), (14, .ireturn, 1), (15, .iconst 0, 1), (16, .istore_n 2, 1), (17, .iconst 0, 1), (18, .istore_n 3, 1), (19, .iload_n 3, 1), (20, .iload_n 1, 1), (21, .if_icmp .ge 102, 3), (24, .aload_n 0, 1), (25, .aload_n 0, 1), (26, .getfield 230, 3), (29, .ldc2_w 234, 3), (32, .lmul, 1), (33, .ldc2_w 236, 3), (36, .ladd, 1), (37, .putfield 230, 3), (40, .aload_n 0, 1), (41, .getfield 230, 3), (44, .bipush 33, 2), (46, .lushr, 1), (47, .l2i, 1), (48, .istore 4, 2), (50, .aload_n 0, 1), (51, .getfield 13, 3), (54, .aload_n 0, 1), (55, .getfield 16, 3), (58, .invokestatic 136, 3), (61, .iconst 0, 1), (62, .istore 5, 2), (64, .iload 5, 2), (66, .aload_n 0, 1), (67, .getfield 53, 3), (70, .if_icmp .ge 30, 3), (73, .aload_n 0, 1), (74, .getfield 16, 3), (77, .iconst 0, 1), (78, .iload 5, 2), (80, .iadd, 1), (81, .iload 4, 2), (83, .iconst 3, 1), (84, .iload 5, 2), (86, .imul, 1), (87, .ishr, 1), (88, .bipush 7, 2), (90, .iand, 1), (91, .iconst 2, 1), (92, .isub, 1), (93, .iastore, 1), (94, .iinc 5 1, 3), (97, .goto (-33), 3), (100, .iload_n 2, 1), (101, .aload_n 0, 1), (102, .invokevirtual 140, 3), (105, .bipush (-9), 2), (107, .if_icmp .ne 7, 3), (110, .iconst 0, 1), (111, .goto 4, 3), (114, .iconst 1, 1), (115, .iadd, 1), (116, .istore_n 2, 1), (117, .iinc 3 1, 3), (120, .goto (-101), 3), (123, .iload_n 2, 1), (124, .ireturn, 1)]
def mt_X10_drawn : Mt := (cX10_drawn, RX10, 6, (some .int), ({ frames := 4, cells := 0, slots := 0, locals := 93 } : Room), false, none, none)
set_option maxRecDepth 100000 in
theorem dl_X10_drawn : ∀ q ∈ il_X10_drawn, decode (mt_X10_drawn).1 q.1 = .ok q.2 := by decide +kernel
def tb_X10_drawn : Tb := [(0, x_il 1 1, false),
  (1, x_i2l 2, false),
  (2, x_c 3 (.long 1), false),
  (3, x_c 6 (.long 20), false),
  (6, x_cS 3 P_X10_in 9, false),
  (9, x_ifn 15 12 (fun x : Int32 => x = 0), false),
  (12, x_c 14 (.int (-2)), false),
  (14, x_rI, false),
  (15, x_c 16 (.int 0), false),
  (16, x_is 17 2, false),
  (17, x_c 18 (.int 0), false),
  (18, x_is 19 3, false),
  (19, x_il 20 3, true),
  (20, x_il 21 1, false),
  (21, x_ic 123 24 (fun x y : Int32 => y ≤ x), false),
  (24, x_al 25 0, false),
  (25, x_al 26 0, false),
  (26, x_gL 10 14 29, false),
  (29, x_c 32 (.long 6364136223846793005), false),
  (32, x_l2 33 (fun x y : Int64 => x * y), false),
  (33, x_c 36 (.long 1442695040888963407), false),
  (36, x_l2 37 (fun x y : Int64 => x + y), false),
  (37, x_pL 10 14 40, false),
  (40, x_al 41 0, false),
  (41, x_gL 10 14 44, false),
  (44, x_c 46 (.int 33), false),
  (46, x_lh 47 lushr, false),
  (47, x_l2i 48, false),
  (48, x_is 50 4, false),
  (50, x_al 51 0, false),
  (51, x_gR 10 4 54, false),
  (54, x_al 55 0, false),
  (55, x_gR 10 5 58, false),
  (58, x_cS 2 P_X10_copy 61, false),
  (61, x_c 62 (.int 0), false),
  (62, x_is 64 5, false),
  (64, x_il 66 5, true),
  (66, x_al 67 0, false),
  (67, x_gI 10 2 70, false),
  (70, x_ic 100 73 (fun x y : Int32 => y ≤ x), false),
  (73, x_al 74 0, false),
  (74, x_gR 10 5 77, false),
  (77, x_c 78 (.int 0), false),
  (78, x_il 80 5, false),
  (80, x_ii 81 (fun x y : Int32 => x + y), false),
  (81, x_il 83 4, false),
  (83, x_c 84 (.int 3), false),
  (84, x_il 86 5, false),
  (86, x_ii 87 (fun x y : Int32 => x * y), false),
  (87, x_ii 88 (fun x y : Int32 => x >>> (y &&& 31)), false),
  (88, x_c 90 (.int 7), false),
  (90, x_ii 91 (fun x y : Int32 => x &&& y), false),
  (91, x_c 92 (.int 2), false),
  (92, x_ii 93 (fun x y : Int32 => x - y), false),
  (93, x_ias 94, false),
  (94, x_inc 97 5 1, false),
  (97, x_go 64, false),
  (100, x_il 101 2, true),
  (101, x_al 102 0, false),
  (102, x_cV 10 0 P_X10_solve 105, false),
  (105, x_c 107 (.int (-9)), false),
  (107, x_icn 114 110 (fun x y : Int32 => x = y), false),
  (110, x_c 111 (.int 0), false),
  (111, x_go 115, false),
  (114, x_c 115 (.int 1), false),
  (115, x_ii 116 (fun x y : Int32 => x + y), false),
  (116, x_is 117 2, false),
  (117, x_inc 120 3 1, false),
  (120, x_go 19, false),
  (123, x_il 124 2, false),
  (124, x_rI, false)]
set_option maxRecDepth 100000 in
theorem tk_X10_drawn : TbOk (mt_X10_drawn) (tb_X10_drawn) :=
  tkc (s_iload_n (at_ dl_X10_drawn 0 (ins := .iload_n 1) rfl)) (
  tkc (s_i2l (at_ dl_X10_drawn 1 (ins := .i2l) rfl)) (
  tkc (s_lconst (at_ dl_X10_drawn 2 (ins := .lconst 1) rfl) (by first | rfl | decide)) (
  tkc (s_ldc2 (at_ dl_X10_drawn 3 (ins := .ldc2_w 210) rfl) (tg 968 (by decide +kernel) (by decide +kernel))) (
  tkc (s_cS ok_X10_in (at_ dl_X10_drawn 4 (ins := .invokestatic 60) rfl) (tg 780 (by decide +kernel) (by decide +kernel)) (tg 781 (by decide +kernel) (by decide +kernel)) (tg 51 (by decide +kernel) (by decide +kernel)) (tg 782 (by decide +kernel) (by decide +kernel)) (⟨by decide, by decide, by decide +kernel⟩) (⟨by decide, by decide⟩) rfl rfl) (
  tkc (s_if_ne (at_ dl_X10_drawn 5 (ins := .ifCond .ne 6) rfl) (by decide)) (
  tkc (s_bipush (at_ dl_X10_drawn 6 (ins := .bipush (-2)) rfl) (by first | rfl | decide)) (
  tkc (s_rI (at_ dl_X10_drawn 7 (ins := .ireturn) rfl) rfl) (
  tkc (s_iconst (at_ dl_X10_drawn 8 (ins := .iconst 0) rfl) (by first | rfl | decide)) (
  tkc (s_istore_n (at_ dl_X10_drawn 9 (ins := .istore_n 2) rfl) (by decide)) (
  tkc (s_iconst (at_ dl_X10_drawn 10 (ins := .iconst 0) rfl) (by first | rfl | decide)) (
  tkc (s_istore_n (at_ dl_X10_drawn 11 (ins := .istore_n 3) rfl) (by decide)) (
  tkc (s_iload_n (at_ dl_X10_drawn 12 (ins := .iload_n 3) rfl)) (
  tkc (s_iload_n (at_ dl_X10_drawn 13 (ins := .iload_n 1) rfl)) (
  tkc (s_ic_ge (at_ dl_X10_drawn 14 (ins := .if_icmp .ge 102) rfl) (by decide)) (
  tkc (s_aload_n (at_ dl_X10_drawn 15 (ins := .aload_n 0) rfl)) (
  tkc (s_aload_n (at_ dl_X10_drawn 16 (ins := .aload_n 0) rfl)) (
  tkc (s_gL (at_ dl_X10_drawn 17 (ins := .getfield 230) rfl) (by decide) (by decide) (by decide) (tg 710 (by decide +kernel) (by decide +kernel))) (
  tkc (s_ldc2 (at_ dl_X10_drawn 18 (ins := .ldc2_w 234) rfl) (tg 1008 (by decide +kernel) (by decide +kernel))) (
  tkc (s_lmul (at_ dl_X10_drawn 19 (ins := .lmul) rfl)) (
  tkc (s_ldc2 (at_ dl_X10_drawn 20 (ins := .ldc2_w 236) rfl) (tg 1009 (by decide +kernel) (by decide +kernel))) (
  tkc (s_ladd (at_ dl_X10_drawn 21 (ins := .ladd) rfl)) (
  tkc (s_pL (at_ dl_X10_drawn 22 (ins := .putfield 230) rfl) (by decide) (by decide) (by decide) (by decide) (tg 710 (by decide +kernel) (by decide +kernel))) (
  tkc (s_aload_n (at_ dl_X10_drawn 23 (ins := .aload_n 0) rfl)) (
  tkc (s_gL (at_ dl_X10_drawn 24 (ins := .getfield 230) rfl) (by decide) (by decide) (by decide) (tg 710 (by decide +kernel) (by decide +kernel))) (
  tkc (s_bipush (at_ dl_X10_drawn 25 (ins := .bipush 33) rfl) (by first | rfl | decide)) (
  tkc (s_lushr (at_ dl_X10_drawn 26 (ins := .lushr) rfl)) (
  tkc (s_l2i (at_ dl_X10_drawn 27 (ins := .l2i) rfl)) (
  tkc (s_istore (at_ dl_X10_drawn 28 (ins := .istore 4) rfl) (by decide)) (
  tkc (s_aload_n (at_ dl_X10_drawn 29 (ins := .aload_n 0) rfl)) (
  tkc (s_gR (at_ dl_X10_drawn 30 (ins := .getfield 13) rfl) (by decide) (by decide) (by decide) (tg 700 (by decide +kernel) (by decide +kernel))) (
  tkc (s_aload_n (at_ dl_X10_drawn 31 (ins := .aload_n 0) rfl)) (
  tkc (s_gR (at_ dl_X10_drawn 32 (ins := .getfield 16) rfl) (by decide) (by decide) (by decide) (tg 701 (by decide +kernel) (by decide +kernel))) (
  tkc (s_cS ok_X10_copy (at_ dl_X10_drawn 33 (ins := .invokestatic 136) rfl) (tg 847 (by decide +kernel) (by decide +kernel)) (tg 848 (by decide +kernel) (by decide +kernel)) (tg 51 (by decide +kernel) (by decide +kernel)) (tg 849 (by decide +kernel) (by decide +kernel)) (⟨by decide, by decide, by decide +kernel⟩) (⟨by decide, by decide⟩) rfl rfl) (
  tkc (s_iconst (at_ dl_X10_drawn 34 (ins := .iconst 0) rfl) (by first | rfl | decide)) (
  tkc (s_istore (at_ dl_X10_drawn 35 (ins := .istore 5) rfl) (by decide)) (
  tkc (s_iload (at_ dl_X10_drawn 36 (ins := .iload 5) rfl)) (
  tkc (s_aload_n (at_ dl_X10_drawn 37 (ins := .aload_n 0) rfl)) (
  tkc (s_gI (at_ dl_X10_drawn 38 (ins := .getfield 53) rfl) (by decide) (by decide) (by decide) (tg 698 (by decide +kernel) (by decide +kernel))) (
  tkc (s_ic_ge (at_ dl_X10_drawn 39 (ins := .if_icmp .ge 30) rfl) (by decide)) (
  tkc (s_aload_n (at_ dl_X10_drawn 40 (ins := .aload_n 0) rfl)) (
  tkc (s_gR (at_ dl_X10_drawn 41 (ins := .getfield 16) rfl) (by decide) (by decide) (by decide) (tg 701 (by decide +kernel) (by decide +kernel))) (
  tkc (s_iconst (at_ dl_X10_drawn 42 (ins := .iconst 0) rfl) (by first | rfl | decide)) (
  tkc (s_iload (at_ dl_X10_drawn 43 (ins := .iload 5) rfl)) (
  tkc (s_iadd (at_ dl_X10_drawn 44 (ins := .iadd) rfl)) (
  tkc (s_iload (at_ dl_X10_drawn 45 (ins := .iload 4) rfl)) (
  tkc (s_iconst (at_ dl_X10_drawn 46 (ins := .iconst 3) rfl) (by first | rfl | decide)) (
  tkc (s_iload (at_ dl_X10_drawn 47 (ins := .iload 5) rfl)) (
  tkc (s_imul (at_ dl_X10_drawn 48 (ins := .imul) rfl)) (
  tkc (s_ishr (at_ dl_X10_drawn 49 (ins := .ishr) rfl)) (
  tkc (s_bipush (at_ dl_X10_drawn 50 (ins := .bipush 7) rfl) (by first | rfl | decide)) (
  tkc (s_iand (at_ dl_X10_drawn 51 (ins := .iand) rfl)) (
  tkc (s_iconst (at_ dl_X10_drawn 52 (ins := .iconst 2) rfl) (by first | rfl | decide)) (
  tkc (s_isub (at_ dl_X10_drawn 53 (ins := .isub) rfl)) (
  tkc (s_ias (at_ dl_X10_drawn 54 (ins := .iastore) rfl)) (
  tkc (s_iinc (at_ dl_X10_drawn 55 (ins := .iinc 5 1) rfl) (by decide) (by first | rfl | decide)) (
  tkc (s_goto (at_ dl_X10_drawn 56 (ins := .goto (-33)) rfl) (by decide)) (
  tkc (s_iload_n (at_ dl_X10_drawn 57 (ins := .iload_n 2) rfl)) (
  tkc (s_aload_n (at_ dl_X10_drawn 58 (ins := .aload_n 0) rfl)) (
  tkc (s_cV ok_X10_solve (at_ dl_X10_drawn 59 (ins := .invokevirtual 140) rfl) (by decide) rfl (tg 850 (by decide +kernel) (by decide +kernel)) (tg 852 (by decide +kernel) (by decide +kernel)) (tg 29 (by decide +kernel) (by decide +kernel)) (tg 51 (by decide +kernel) (by decide +kernel)) (tg 853 (by decide +kernel) (by decide +kernel)) (⟨by decide, by decide, by decide +kernel⟩) (⟨by decide, by decide⟩) rfl rfl) (
  tkc (s_bipush (at_ dl_X10_drawn 60 (ins := .bipush (-9)) rfl) (by first | rfl | decide)) (
  tkc (s_ic_ne (at_ dl_X10_drawn 61 (ins := .if_icmp .ne 7) rfl) (by decide)) (
  tkc (s_iconst (at_ dl_X10_drawn 62 (ins := .iconst 0) rfl) (by first | rfl | decide)) (
  tkc (s_goto (at_ dl_X10_drawn 63 (ins := .goto 4) rfl) (by decide)) (
  tkc (s_iconst (at_ dl_X10_drawn 64 (ins := .iconst 1) rfl) (by first | rfl | decide)) (
  tkc (s_iadd (at_ dl_X10_drawn 65 (ins := .iadd) rfl)) (
  tkc (s_istore_n (at_ dl_X10_drawn 66 (ins := .istore_n 2) rfl) (by decide)) (
  tkc (s_iinc (at_ dl_X10_drawn 67 (ins := .iinc 3 1) rfl) (by decide) (by first | rfl | decide)) (
  tkc (s_goto (at_ dl_X10_drawn 68 (ins := .goto (-101)) rfl) (by decide)) (
  tkc (s_iload_n (at_ dl_X10_drawn 69 (ins := .iload_n 2) rfl)) (
  tkc (s_rI (at_ dl_X10_drawn 70 (ins := .ireturn) rfl) rfl) ( tk0)))))))))))))))))))))))))))))))))))))))))))))))))))))))))))))))))))))))
theorem lf_X10_drawn : lk (tb_X10_drawn) 0 = (x_il 1 1, false) ∧ lk (tb_X10_drawn) 1 = (x_i2l 2, false) ∧ lk (tb_X10_drawn) 2 = (x_c 3 (.long 1), false) ∧ lk (tb_X10_drawn) 3 = (x_c 6 (.long 20), false) ∧ lk (tb_X10_drawn) 6 = (x_cS 3 P_X10_in 9, false) ∧ lk (tb_X10_drawn) 9 = (x_ifn 15 12 (fun x : Int32 => x = 0), false) ∧ lk (tb_X10_drawn) 12 = (x_c 14 (.int (-2)), false) ∧ lk (tb_X10_drawn) 14 = (x_rI, false) ∧ lk (tb_X10_drawn) 15 = (x_c 16 (.int 0), false) ∧ lk (tb_X10_drawn) 16 = (x_is 17 2, false) ∧ lk (tb_X10_drawn) 17 = (x_c 18 (.int 0), false) ∧ lk (tb_X10_drawn) 18 = (x_is 19 3, false) ∧ lk (tb_X10_drawn) 19 = (x_il 20 3, true) ∧ lk (tb_X10_drawn) 20 = (x_il 21 1, false) ∧ lk (tb_X10_drawn) 21 = (x_ic 123 24 (fun x y : Int32 => y ≤ x), false) ∧ lk (tb_X10_drawn) 24 = (x_al 25 0, false) ∧ lk (tb_X10_drawn) 25 = (x_al 26 0, false) ∧ lk (tb_X10_drawn) 26 = (x_gL 10 14 29, false) ∧ lk (tb_X10_drawn) 29 = (x_c 32 (.long 6364136223846793005), false) ∧ lk (tb_X10_drawn) 32 = (x_l2 33 (fun x y : Int64 => x * y), false) ∧ lk (tb_X10_drawn) 33 = (x_c 36 (.long 1442695040888963407), false) ∧ lk (tb_X10_drawn) 36 = (x_l2 37 (fun x y : Int64 => x + y), false) ∧ lk (tb_X10_drawn) 37 = (x_pL 10 14 40, false) ∧ lk (tb_X10_drawn) 40 = (x_al 41 0, false) ∧ lk (tb_X10_drawn) 41 = (x_gL 10 14 44, false) ∧ lk (tb_X10_drawn) 44 = (x_c 46 (.int 33), false) ∧ lk (tb_X10_drawn) 46 = (x_lh 47 lushr, false) ∧ lk (tb_X10_drawn) 47 = (x_l2i 48, false) ∧ lk (tb_X10_drawn) 48 = (x_is 50 4, false) ∧ lk (tb_X10_drawn) 50 = (x_al 51 0, false) ∧ lk (tb_X10_drawn) 51 = (x_gR 10 4 54, false) ∧ lk (tb_X10_drawn) 54 = (x_al 55 0, false) ∧ lk (tb_X10_drawn) 55 = (x_gR 10 5 58, false) ∧ lk (tb_X10_drawn) 58 = (x_cS 2 P_X10_copy 61, false) ∧ lk (tb_X10_drawn) 61 = (x_c 62 (.int 0), false) ∧ lk (tb_X10_drawn) 62 = (x_is 64 5, false) ∧ lk (tb_X10_drawn) 64 = (x_il 66 5, true) ∧ lk (tb_X10_drawn) 66 = (x_al 67 0, false) ∧ lk (tb_X10_drawn) 67 = (x_gI 10 2 70, false) ∧ lk (tb_X10_drawn) 70 = (x_ic 100 73 (fun x y : Int32 => y ≤ x), false) ∧ lk (tb_X10_drawn) 73 = (x_al 74 0, false) ∧ lk (tb_X10_drawn) 74 = (x_gR 10 5 77, false) ∧ lk (tb_X10_drawn) 77 = (x_c 78 (.int 0), false) ∧ lk (tb_X10_drawn) 78 = (x_il 80 5, false) ∧ lk (tb_X10_drawn) 80 = (x_ii 81 (fun x y : Int32 => x + y), false) ∧ lk (tb_X10_drawn) 81 = (x_il 83 4, false) ∧ lk (tb_X10_drawn) 83 = (x_c 84 (.int 3), false) ∧ lk (tb_X10_drawn) 84 = (x_il 86 5, false) ∧ lk (tb_X10_drawn) 86 = (x_ii 87 (fun x y : Int32 => x * y), false) ∧ lk (tb_X10_drawn) 87 = (x_ii 88 (fun x y : Int32 => x >>> (y &&& 31)), false) ∧ lk (tb_X10_drawn) 88 = (x_c 90 (.int 7), false) ∧ lk (tb_X10_drawn) 90 = (x_ii 91 (fun x y : Int32 => x &&& y), false) ∧ lk (tb_X10_drawn) 91 = (x_c 92 (.int 2), false) ∧ lk (tb_X10_drawn) 92 = (x_ii 93 (fun x y : Int32 => x - y), false) ∧ lk (tb_X10_drawn) 93 = (x_ias 94, false) ∧ lk (tb_X10_drawn) 94 = (x_inc 97 5 1, false) ∧ lk (tb_X10_drawn) 97 = (x_go 64, false) ∧ lk (tb_X10_drawn) 100 = (x_il 101 2, true) ∧ lk (tb_X10_drawn) 101 = (x_al 102 0, false) ∧ lk (tb_X10_drawn) 102 = (x_cV 10 0 P_X10_solve 105, false) ∧ lk (tb_X10_drawn) 105 = (x_c 107 (.int (-9)), false) ∧ lk (tb_X10_drawn) 107 = (x_icn 114 110 (fun x y : Int32 => x = y), false) ∧ lk (tb_X10_drawn) 110 = (x_c 111 (.int 0), false) ∧ lk (tb_X10_drawn) 111 = (x_go 115, false) ∧ lk (tb_X10_drawn) 114 = (x_c 115 (.int 1), false) ∧ lk (tb_X10_drawn) 115 = (x_ii 116 (fun x y : Int32 => x + y), false) ∧ lk (tb_X10_drawn) 116 = (x_is 117 2, false) ∧ lk (tb_X10_drawn) 117 = (x_inc 120 3 1, false) ∧ lk (tb_X10_drawn) 120 = (x_go 19, false) ∧ lk (tb_X10_drawn) 123 = (x_il 124 2, false) ∧ lk (tb_X10_drawn) 124 = (x_rI, false) := ⟨rfl, rfl, rfl, rfl, rfl, rfl, rfl, rfl, rfl, rfl, rfl, rfl, rfl, rfl, rfl, rfl, rfl, rfl, rfl, rfl, rfl, rfl, rfl, rfl, rfl, rfl, rfl, rfl, rfl, rfl, rfl, rfl, rfl, rfl, rfl, rfl, rfl, rfl, rfl, rfl, rfl, rfl, rfl, rfl, rfl, rfl, rfl, rfl, rfl, rfl, rfl, rfl, rfl, rfl, rfl, rfl, rfl, rfl, rfl, rfl, rfl, rfl, rfl, rfl, rfl, rfl, rfl, rfl, rfl, rfl, rfl⟩
def P_X10_drawn : PTT := fun as M R => match as with
  | [.ref k, .int m] => k = 108 ∧ ∃ g, MR M.1 M.2.1 M.2.2 g ∧ GOk g ∧ Anm M R (gDrawn g m).1 (gDrawn g m).2
  | _ => False
set_option maxRecDepth 20000 in
theorem ok_X10_drawn : Ok yX10_drawn mt_X10_drawn P_X10_drawn := by
  refine Ok.of (by decide) rfl rfl rfl rfl fun av ⟨S, I, L⟩ R hP => ?_
  unfold P_X10_drawn at hP
  split at hP
  case h_2 => exact hP.elim
  rename_i k m
  obtain ⟨k, rfl⟩ : ∃ q : Nat, q = k := ⟨k, rfl⟩
  refine ⟨by simp [ent, wide, mt_X10_drawn], ?_⟩
  show J mt_X10_drawn R 0 [some (.ref k), some (.int m), none, none, none, none] [] (S, I, L)
  try dsimp only at hP
  obtain ⟨rfl, g, hc, ho, hA⟩ := hP
  obtain ⟨h1, h2, h3, h4, h5, h6, h7, h8, h9⟩ := id hc
  have hok := ho.2.1
  have hm := ho.2.1.1
  have i1 : (¬ m.toInt64 < (1 : Int64) ∧ ¬ (20 : Int64) < m.toInt64) ↔ (¬ m < 1 ∧ m ≤ 20) := and_congr (loL (by decide)) (inL (by decide))
  refine J.of tk_X10_drawn 200 fun ρ hρ => ?_
  simp only [hρ, x_c, x_il, x_ll, x_al, x_is, x_as, x_ls, x_inc, x_ii, x_iq, x_i1, x_l2, x_lq, x_lh, x_i2l, x_l2i, x_lcmp, x_dup, x_dup2, x_pop, x_if, x_ifn, x_ic, x_icn, x_go, x_sw, swc, x_l01, x_mx, x_gI, x_gL, x_gR, x_pI, x_pZ, x_pL, x_pR, x_ia, x_za, x_aa, x_ias, x_zas, x_aas, x_fac, x_fa, x_slen, x_sa, x_ac, x_oi, x_new, x_na, x_cS, x_cV, x_cI, x_rI, x_rZ, x_rL, x_r0, pa, short, oc, lg, lset, lset2, wide, cond_true, cond_false, true_and, and_true, ↓reduceIte, Bool.false_eq_true, true_or, or_true, lf_X10_drawn, h1.f, P_X10_in, i1, bI_0, Classical.not_not]
  refine ⟨fun h => ?_, fun h => (hA.e (by rw [gDrawn, if_pos (Classical.byContradiction fun q => h ⟨fun r => q (.inl r), Classical.byContradiction fun r => q (.inr r)⟩)])).s hc⟩
  have hA' := hA.e (show gDrawn g m = (nI (drS (gA g) (gZ g) (tn m)).1, GZ g (drS (gA g) (gZ g) (tn m)).2) by rw [gDrawn, if_neg (fun q => q.elim h.1 (fun r => r h.2))])
  obtain ⟨D, hD1, hD2, rfl⟩ := le99 h.1 (Int32.le_trans h.2 (by decide))
  rw [tn_nI (n := D) (by omega)] at hA'
  refine up (P := fun i => ∀ I' L', frK 111 I I' → (∀ q, q ≠ 108 → L' q = L q) → L' 108 14 = (drS (gA g) (gZ g) i).2 → J mt_X10_drawn R 19 [some (.ref 108), some (.int (nI D)), some (.int (nI (drS (gA g) (gZ g) i).1)), some (.int (nI i)), none, none] [] (S, I', L')) (n := D) (fun i hi ih I' L' hf hL hz => ?_) 0 (Nat.zero_le _) I L (fun _ _ _ => rfl) (fun _ _ => rfl) h8
  have e108 : I' 108 = I 108 := hf 108 (by omega) (by omega)
  have e110 : I' 110 = I 110 := hf 110 (by omega) (by omega)
  have e117 : I' 117 = I 117 := hf 117 (by omega) (by omega)
  by_cases hlt : i < D
  · have hz2 : mS L' 108 (vp_updL (L' 108) 14 (drZ (drS (gA g) (gZ g) i).2)) 108 14 = drZ (drS (gA g) (gZ g) i).2 := by rw [mS_s]; simp [vp_updL]
    have hL2 : ∀ q, q ≠ 108 → mS L' 108 (vp_updL (L' 108) 14 (drZ (drS (gA g) (gZ g) i).2)) q = L q := fun q hq => by rw [mS_n hq, hL q hq]
    have edr : (drS (gA g) (gZ g) i).2 * 6364136223846793005 + 1442695040888963407 = drZ (drS (gA g) (gZ g) i).2 := rfl
    refine J.of tk_X10_drawn 200 fun ρ hρ => ?_
    simp only [hρ, x_c, x_il, x_ll, x_al, x_is, x_as, x_ls, x_inc, x_ii, x_iq, x_i1, x_l2, x_lq, x_lh, x_i2l, x_l2i, x_lcmp, x_dup, x_dup2, x_pop, x_if, x_ifn, x_ic, x_icn, x_go, x_sw, swc, x_l01, x_mx, x_gI, x_gL, x_gR, x_pI, x_pZ, x_pL, x_pR, x_ia, x_za, x_aa, x_ias, x_zas, x_aas, x_fac, x_fa, x_slen, x_sa, x_ac, x_oi, x_new, x_na, x_cS, x_cV, x_cI, x_rI, x_rZ, x_rL, x_r0, pa, short, oc, lg, lset, lset2, wide, cond_true, cond_false, true_and, and_true, ↓reduceIte, Bool.false_eq_true, true_or, or_true, lf_X10_drawn, h1, h1.f, e108, e110, nI_leI (show D < 2 ^ 31 by omega) (show i < 2 ^ 31 by omega), hz, edr, hz2, P_X10_copy]
    refine ⟨fun h => absurd h (by omega), fun _ => ?_⟩
    revert hz2 hL2
    generalize mS L' 108 (vp_updL (L' 108) 14 (drZ (drS (gA g) (gZ g) i).2)) = L2
    intro hz2 hL2
    have key2 := up (P := fun b => J mt_X10_drawn R 64 [some (.ref 108), some (.int (nI D)), some (.int (nI (drS (gA g) (gZ g) i).1)), some (.int (nI i)), some (.int (lushr (drZ (drS (gA g) (gZ g) i).2) 33).toInt32), some (.int (nI b))] [] (S, mS I' 111 (drF (drZ (drS (gA g) (gZ g) i).2) (cpy (I 110) (I' 111) 80) b), L2)) (n := aN (gA g)) (fun b hb ih2 => ?_) 0 (Nat.zero_le _)
    · rw [drF_0] at key2
      exact key2
    have f108 : mS I' 111 (drF (drZ (drS (gA g) (gZ g) i).2) (cpy (I 110) (I' 111) 80) b) 108 = I 108 := by rw [mS_n (by omega), e108]
    by_cases hbl : b < aN (gA g)
    · refine J.of tk_X10_drawn 200 fun ρ hρ => ?_
      simp only [hρ, x_c, x_il, x_ll, x_al, x_is, x_as, x_ls, x_inc, x_ii, x_iq, x_i1, x_l2, x_lq, x_lh, x_i2l, x_l2i, x_lcmp, x_dup, x_dup2, x_pop, x_if, x_ifn, x_ic, x_icn, x_go, x_sw, swc, x_l01, x_mx, x_gI, x_gL, x_gR, x_pI, x_pZ, x_pL, x_pR, x_ia, x_za, x_aa, x_ias, x_zas, x_aas, x_fac, x_fa, x_slen, x_sa, x_ac, x_oi, x_new, x_na, x_cS, x_cV, x_cI, x_rI, x_rZ, x_rL, x_r0, pa, short, oc, lg, lset, lset2, wide, cond_true, cond_false, true_and, and_true, ↓reduceIte, Bool.false_eq_true, true_or, or_true, lf_X10_drawn, h1.f, f108, h3.1, Int32.zero_add, nI_leI (show aN (gA g) < 2 ^ 31 by omega) (show b < 2 ^ 31 by omega), ncl (show b < 2 ^ 31 by omega), nI_1, mS_s, mS_ss, drF_s]
      exact ⟨fun h => absurd h (by omega), fun _ => ⟨vp_in_nI (by omega) (by omega), ih2 hbl⟩⟩
    · have : b = aN (gA g) := by omega
      subst this
      have hra : RW (drF (drZ (drS (gA g) (gZ g) i).2) (cpy (I 110) (I' 111) 80) (aN (gA g))) 0 (drA (gA g) (drZ (drS (gA g) (gZ g) i).2)) := (h4.cp hm.2.2).dr hm.2.1 hm.2.2
      have hdA := drA_ok (z := drZ (drS (gA g) (gZ g) i).2) hok
      refine J.of tk_X10_drawn 200 fun ρ hρ => ?_
      simp only [hρ, x_c, x_il, x_ll, x_al, x_is, x_as, x_ls, x_inc, x_ii, x_iq, x_i1, x_l2, x_lq, x_lh, x_i2l, x_l2i, x_lcmp, x_dup, x_dup2, x_pop, x_if, x_ifn, x_ic, x_icn, x_go, x_sw, swc, x_l01, x_mx, x_gI, x_gL, x_gR, x_pI, x_pZ, x_pL, x_pR, x_ia, x_za, x_aa, x_ias, x_zas, x_aas, x_fac, x_fa, x_slen, x_sa, x_ac, x_oi, x_new, x_na, x_cS, x_cV, x_cI, x_rI, x_rZ, x_rL, x_r0, pa, short, oc, lg, lset, lset2, wide, cond_true, cond_false, true_and, and_true, ↓reduceIte, Bool.false_eq_true, true_or, or_true, lf_X10_drawn, h1.f, f108, h3.1, nI_leI (show aN (gA g) < 2 ^ 31 by omega) (show aN (gA g) < 2 ^ 31 by omega), Nat.le_refl, true_implies, not_true_eq_false, false_implies]
      refine J.of tk_X10_drawn 200 fun ρ hρ => ?_
      simp only [hρ, x_c, x_il, x_ll, x_al, x_is, x_as, x_ls, x_inc, x_ii, x_iq, x_i1, x_l2, x_lq, x_lh, x_i2l, x_l2i, x_lcmp, x_dup, x_dup2, x_pop, x_if, x_ifn, x_ic, x_icn, x_go, x_sw, swc, x_l01, x_mx, x_gI, x_gL, x_gR, x_pI, x_pZ, x_pL, x_pR, x_ia, x_za, x_aa, x_ias, x_zas, x_aas, x_fac, x_fa, x_slen, x_sa, x_ac, x_oi, x_new, x_na, x_cS, x_cV, x_cI, x_rI, x_rZ, x_rL, x_r0, pa, short, oc, lg, lset, lset2, wide, cond_true, cond_false, true_and, and_true, ↓reduceIte, Bool.false_eq_true, true_or, or_true, lf_X10_drawn, h1, h1.f, P_X10_solve, nI_1, Int32.add_zero]
      refine ⟨drA (gA g) (drZ (drS (gA g) (gZ g) i).2), id, by rw [mS_s]; exact hra, hdA, by rw [f108]; exact h3.1, by rw [f108]; exact h3.2, fun j hj => by rw [mS_n (by omega), e117]; exact h9.O hm.2.2 j hj, fun I2 r hf2 hr2 => ?_⟩
      have hnx := ih hlt I2 L2 (hf.trans (cp_fr.trans hf2)) hL2 hz2
      refine ⟨fun q => ?_, fun q => ?_⟩
      · rw [drS, if_neg q] at hnx
        exact J.weak (by simp [lsub]) hnx
      · rw [drS, if_pos q] at hnx
        exact J.weak (by simp [lsub]) hnx
  · have : i = D := by omega
    subst this
    refine J.of tk_X10_drawn 200 fun ρ hρ => ?_
    simp only [hρ, x_c, x_il, x_ll, x_al, x_is, x_as, x_ls, x_inc, x_ii, x_iq, x_i1, x_l2, x_lq, x_lh, x_i2l, x_l2i, x_lcmp, x_dup, x_dup2, x_pop, x_if, x_ifn, x_ic, x_icn, x_go, x_sw, swc, x_l01, x_mx, x_gI, x_gL, x_gR, x_pI, x_pZ, x_pL, x_pR, x_ia, x_za, x_aa, x_ias, x_zas, x_aas, x_fac, x_fa, x_slen, x_sa, x_ac, x_oi, x_new, x_na, x_cS, x_cV, x_cI, x_rI, x_rZ, x_rL, x_r0, pa, short, oc, lg, lset, lset2, wide, cond_true, cond_false, true_and, and_true, ↓reduceIte, Bool.false_eq_true, true_or, or_true, lf_X10_drawn, nI_leI (show i < 2 ^ 31 by omega) (show i < 2 ^ 31 by omega), Nat.le_refl, true_implies, not_true_eq_false, false_implies]
    exact hA' I' L' (fun q hq => hf q (by omega) (by omega)) hL ((hc.fr hf.M).seed hz)
