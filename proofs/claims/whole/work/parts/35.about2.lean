/-! ABOUT, the call -/
def abL (g : GS) : List Int32 := [nI (aN (gA g)), nI (aM (gA g)), aO (gA g), aR (gA g), nI (wdA (gA g)), nI (opA (gA g)), bB (opA (gA g) == 0), nn (rcA (gA g) (aM (gA g))), nI (rkA (gA g) 63), (1 : Int32) <<< ((nI (aN (gA g)) - nI (rkA (gA g) 63)) &&& 31), nn (dsF (aV (gA g)) (aM (gA g)) (2 ^ aN (gA g))), (ndO (gA g) id).1, nI (wdA (runA (gA g) id)), (bsA (gA g) 10).1, nI (gC g), nI (gN g), nI (gL g)]
def gAbout (g : GS) (w : Int32) : Int32 := if w.toInt < 0 ∨ 16 < w.toInt then -2 else (abL g).getD w.toInt.toNat (-2)
theorem CR.cnt {S : Sh} {I : MI} {L : Nat → Nat → Int64} {g : GS} (h : CR S I L g) : I 21 2 = nI (gC g) := by obtain ⟨f, hv, -⟩ := h.2.2.2.1; exact hv.2.2.2
def il_X9_about : List (Nat × Instr × Nat) := [(0, .iload_n 1, 1), (1, .tableswitch 225 0 16 #[83, 91, 99, 107, 115, 123, 131, 147, 155, 170, 178, 186, 191, 196, 201, 209, 217], 83), (84, .aload_n 0, 1), (85, .getfield 19, 3), (88, .getfield 101, 3), (91, .ireturn, 1), (92, .aload_n 0, 1), (93, .getfield 19, 3), (96, .getfield 98, 3), (99, .ireturn, 1), (100, .aload_n 0, 1), (101, .getfield 19, 3), (104, .getfield 104, 3), (107, .ireturn, 1), (108, .aload_n 0, 1), (109, .getfield 19, 3), (112, .getfield 107, 3), (115, .ireturn, 1), (116, .aload_n 0, 1), (117, .getfield 19, 3), (120, .invokevirtual 110, 3), (123, .ireturn, 1), (124, .aload_n 0, 1), (125, .getfield 19, 3), (128, .invokevirtual 113, 3), (131, .ireturn, 1), (132, .aload_n 0, 1), (133, .getfield 19, 3), (136, .invokevirtual 116, 3), (139, .ifCond .eq 7, 3), (142, .iconst 1, 1), (143, .goto 4, 3), (146, .iconst 0, 1), (147, .ireturn, 1), (148, .aload_n 0, 1), (149, .getfield 38, 3), (152, .invokevirtual 120, 3), (155, .ireturn, 1), (156, .aload_n 0, 1), (157, .getfield 45, 3), (160, .aload_n 0, 1), (161, .getfield 19, 3), (164, .invokevirtual 123, 3), (167, .invokevirtual 126, 3), (170, .ireturn, 1), (171, .aload_n 0, 1), (172, .getfield 45, 3), (175, .invokevirtual 129, 3), (178, .ireturn, 1), (179, .aload_n 0, 1), (180, .getfield 45, 3), (183, .invokevirtual 132, 3), (186, .ireturn, 1), (187, .aload_n 0, 1), (188, .invokevirtual 135, 3), (191, .ireturn, 1), (192, .aload_n 0, 1), (193, .invokevirtual 138, 3), (196, .ireturn, 1), (197, .aload_n 0, 1), (198, .invokevirtual 141, 3), (201, .ireturn, 1), (202, .aload_n 0, 1), (203, .getfield 52, 3), (206, .getfield 144, 3), (209, .ireturn, 1), (210, .aload_n 0, 1), (211, .getfield 59, 3), (214, .getfield 147, 3), (217, .ireturn, 1), (218, .aload_n 0, 1), (219, .getfield 10, 3), (222, .getfield 75, 3), (225, .ireturn, 1), (226, .bipush (-2), 2), (228, .ireturn, 1)]
def mt_X9_about : Mt := (cX9_about, RX9, 2, (some .int), ({ frames := 6, cells := 0, slots := 0, locals := 140 } : Room), false, none, none)
set_option maxRecDepth 100000 in
theorem dl_X9_about : ∀ q ∈ il_X9_about, decode (mt_X9_about).1 q.1 = .ok q.2 := by decide +kernel
def tb_X9_about : Tb := [(0, x_il 1 1, false),
  (1, x_sw 0 16 [84, 92, 100, 108, 116, 124, 132, 148, 156, 171, 179, 187, 192, 197, 202, 210, 218] 226, false),
  (84, x_al 85 0, false),
  (85, x_gR 9 1 88, false),
  (88, x_gI 5 4 91, false),
  (91, x_rI, false),
  (92, x_al 93 0, false),
  (93, x_gR 9 1 96, false),
  (96, x_gI 5 5 99, false),
  (99, x_rI, false),
  (100, x_al 101 0, false),
  (101, x_gR 9 1 104, false),
  (104, x_gI 5 6 107, false),
  (107, x_rI, false),
  (108, x_al 109 0, false),
  (109, x_gR 9 1 112, false),
  (112, x_gI 5 7 115, false),
  (115, x_rI, false),
  (116, x_al 117 0, false),
  (117, x_gR 9 1 120, false),
  (120, x_cV 5 0 P_X5_word 123, false),
  (123, x_rI, false),
  (124, x_al 125 0, false),
  (125, x_gR 9 1 128, false),
  (128, x_cV 5 0 P_X5_open 131, false),
  (131, x_rI, false),
  (132, x_al 133 0, false),
  (133, x_gR 9 1 136, false),
  (136, x_cV 5 0 P_X5_solved 139, false),
  (139, x_if 146 142 (fun x : Int32 => x = 0), false),
  (142, x_c 143 (.int 1), false),
  (143, x_go 147, false),
  (146, x_c 147 (.int 0), false),
  (147, x_rI, false),
  (148, x_al 149 0, false),
  (149, x_gR 9 4 152, false),
  (152, x_cV 8 0 P_X8_ring 155, false),
  (155, x_rI, false),
  (156, x_al 157 0, false),
  (157, x_gR 9 5 160, false),
  (160, x_al 161 0, false),
  (161, x_gR 9 1 164, false),
  (164, x_cV 5 0 P_X5_allChecks 167, false),
  (167, x_cV 6 1 P_X6_rankOf 170, false),
  (170, x_rI, false),
  (171, x_al 172 0, false),
  (172, x_gR 9 5 175, false),
  (175, x_cV 6 0 P_X6_howManyWords 178, false),
  (178, x_rI, false),
  (179, x_al 180 0, false),
  (180, x_gR 9 5 183, false),
  (183, x_cV 6 0 P_X6_distance 186, false),
  (186, x_rI, false),
  (187, x_al 188 0, false),
  (188, x_cV 9 0 P_X9_needs 191, false),
  (191, x_rI, false),
  (192, x_al 193 0, false),
  (193, x_cV 9 0 P_X9_ends 196, false),
  (196, x_rI, false),
  (197, x_al 198 0, false),
  (198, x_cV 9 0 P_X9_best 201, false),
  (201, x_rI, false),
  (202, x_al 203 0, false),
  (203, x_gR 9 6 206, false),
  (206, x_gI 0 2 209, false),
  (209, x_rI, false),
  (210, x_al 211 0, false),
  (211, x_gR 9 7 214, false),
  (214, x_gI 4 2 217, false),
  (217, x_rI, false),
  (218, x_al 219 0, false),
  (219, x_gR 9 0 222, false),
  (222, x_gI 7 2 225, false),
  (225, x_rI, false),
  (226, x_c 228 (.int (-2)), false),
  (228, x_rI, false)]
set_option maxRecDepth 100000 in
theorem tk_X9_about : TbOk (mt_X9_about) (tb_X9_about) :=
  tkc (s_iload_n (at_ dl_X9_about 0 (ins := .iload_n 1) rfl)) (
  tkc (s_sw (at_ dl_X9_about 1 (ins := .tableswitch 225 0 16 #[83, 91, 99, 107, 115, 123, 131, 147, 155, 170, 178, 186, 191, 196, 201, 209, 217]) rfl) rfl (tsw [84, 92, 100, 108, 116, 124, 132, 148, 156, 171, 179, 187, 192, 197, 202, 210, 218] (by decide +kernel)) (by decide)) (
  tkc (s_aload_n (at_ dl_X9_about 2 (ins := .aload_n 0) rfl)) (
  tkc (s_gR (at_ dl_X9_about 3 (ins := .getfield 19) rfl) (by decide) (by decide) (by decide) (tg 255 (by decide +kernel) (by decide +kernel))) (
  tkc (s_gI (at_ dl_X9_about 4 (ins := .getfield 101) rfl) (by decide) (by decide) (by decide) (tg 137 (by decide +kernel) (by decide +kernel))) (
  tkc (s_rI (at_ dl_X9_about 5 (ins := .ireturn) rfl) rfl) (
  tkc (s_aload_n (at_ dl_X9_about 6 (ins := .aload_n 0) rfl)) (
  tkc (s_gR (at_ dl_X9_about 7 (ins := .getfield 19) rfl) (by decide) (by decide) (by decide) (tg 255 (by decide +kernel) (by decide +kernel))) (
  tkc (s_gI (at_ dl_X9_about 8 (ins := .getfield 98) rfl) (by decide) (by decide) (by decide) (tg 142 (by decide +kernel) (by decide +kernel))) (
  tkc (s_rI (at_ dl_X9_about 9 (ins := .ireturn) rfl) rfl) (
  tkc (s_aload_n (at_ dl_X9_about 10 (ins := .aload_n 0) rfl)) (
  tkc (s_gR (at_ dl_X9_about 11 (ins := .getfield 19) rfl) (by decide) (by decide) (by decide) (tg 255 (by decide +kernel) (by decide +kernel))) (
  tkc (s_gI (at_ dl_X9_about 12 (ins := .getfield 104) rfl) (by decide) (by decide) (by decide) (tg 145 (by decide +kernel) (by decide +kernel))) (
  tkc (s_rI (at_ dl_X9_about 13 (ins := .ireturn) rfl) rfl) (
  tkc (s_aload_n (at_ dl_X9_about 14 (ins := .aload_n 0) rfl)) (
  tkc (s_gR (at_ dl_X9_about 15 (ins := .getfield 19) rfl) (by decide) (by decide) (by decide) (tg 255 (by decide +kernel) (by decide +kernel))) (
  tkc (s_gI (at_ dl_X9_about 16 (ins := .getfield 107) rfl) (by decide) (by decide) (by decide) (tg 150 (by decide +kernel) (by decide +kernel))) (
  tkc (s_rI (at_ dl_X9_about 17 (ins := .ireturn) rfl) rfl) (
  tkc (s_aload_n (at_ dl_X9_about 18 (ins := .aload_n 0) rfl)) (
  tkc (s_gR (at_ dl_X9_about 19 (ins := .getfield 19) rfl) (by decide) (by decide) (by decide) (tg 255 (by decide +kernel) (by decide +kernel))) (
  tkc (s_cV ok_X5_word (at_ dl_X9_about 20 (ins := .invokevirtual 110) rfl) (by decide) rfl (tg 360 (by decide +kernel) (by decide +kernel)) (tg 361 (by decide +kernel) (by decide +kernel)) (tg 362 (by decide +kernel) (by decide +kernel)) (tg 45 (by decide +kernel) (by decide +kernel)) (tg 363 (by decide +kernel) (by decide +kernel)) (⟨by decide, by decide, by decide +kernel⟩) (⟨by decide, by decide⟩) rfl rfl) (
  tkc (s_rI (at_ dl_X9_about 21 (ins := .ireturn) rfl) rfl) (
  tkc (s_aload_n (at_ dl_X9_about 22 (ins := .aload_n 0) rfl)) (
  tkc (s_gR (at_ dl_X9_about 23 (ins := .getfield 19) rfl) (by decide) (by decide) (by decide) (tg 255 (by decide +kernel) (by decide +kernel))) (
  tkc (s_cV ok_X5_open (at_ dl_X9_about 24 (ins := .invokevirtual 113) rfl) (by decide) rfl (tg 364 (by decide +kernel) (by decide +kernel)) (tg 365 (by decide +kernel) (by decide +kernel)) (tg 366 (by decide +kernel) (by decide +kernel)) (tg 45 (by decide +kernel) (by decide +kernel)) (tg 367 (by decide +kernel) (by decide +kernel)) (⟨by decide, by decide, by decide +kernel⟩) (⟨by decide, by decide⟩) rfl rfl) (
  tkc (s_rI (at_ dl_X9_about 25 (ins := .ireturn) rfl) rfl) (
  tkc (s_aload_n (at_ dl_X9_about 26 (ins := .aload_n 0) rfl)) (
  tkc (s_gR (at_ dl_X9_about 27 (ins := .getfield 19) rfl) (by decide) (by decide) (by decide) (tg 255 (by decide +kernel) (by decide +kernel))) (
  tkc (s_cV ok_X5_solved (at_ dl_X9_about 28 (ins := .invokevirtual 116) rfl) (by decide) rfl (tg 379 (by decide +kernel) (by decide +kernel)) (tg 380 (by decide +kernel) (by decide +kernel)) (tg 381 (by decide +kernel) (by decide +kernel)) (tg 45 (by decide +kernel) (by decide +kernel)) (tg 382 (by decide +kernel) (by decide +kernel)) (⟨by decide, by decide, by decide +kernel⟩) (⟨by decide, by decide⟩) rfl rfl) (
  tkc (s_if_eq (at_ dl_X9_about 29 (ins := .ifCond .eq 7) rfl) (by decide)) (
  tkc (s_iconst (at_ dl_X9_about 30 (ins := .iconst 1) rfl) (by first | rfl | decide)) (
  tkc (s_goto (at_ dl_X9_about 31 (ins := .goto 4) rfl) (by decide)) (
  tkc (s_iconst (at_ dl_X9_about 32 (ins := .iconst 0) rfl) (by first | rfl | decide)) (
  tkc (s_rI (at_ dl_X9_about 33 (ins := .ireturn) rfl) rfl) (
  tkc (s_aload_n (at_ dl_X9_about 34 (ins := .aload_n 0) rfl)) (
  tkc (s_gR (at_ dl_X9_about 35 (ins := .getfield 38) rfl) (by decide) (by decide) (by decide) (tg 258 (by decide +kernel) (by decide +kernel))) (
  tkc (s_cV ok_X8_ring (at_ dl_X9_about 36 (ins := .invokevirtual 120) rfl) (by decide) rfl (tg 383 (by decide +kernel) (by decide +kernel)) (tg 384 (by decide +kernel) (by decide +kernel)) (tg 385 (by decide +kernel) (by decide +kernel)) (tg 47 (by decide +kernel) (by decide +kernel)) (tg 386 (by decide +kernel) (by decide +kernel)) (⟨by decide, by decide, by decide +kernel⟩) (⟨by decide, by decide⟩) rfl rfl) (
  tkc (s_rI (at_ dl_X9_about 37 (ins := .ireturn) rfl) rfl) (
  tkc (s_aload_n (at_ dl_X9_about 38 (ins := .aload_n 0) rfl)) (
  tkc (s_gR (at_ dl_X9_about 39 (ins := .getfield 45) rfl) (by decide) (by decide) (by decide) (tg 259 (by decide +kernel) (by decide +kernel))) (
  tkc (s_aload_n (at_ dl_X9_about 40 (ins := .aload_n 0) rfl)) (
  tkc (s_gR (at_ dl_X9_about 41 (ins := .getfield 19) rfl) (by decide) (by decide) (by decide) (tg 255 (by decide +kernel) (by decide +kernel))) (
  tkc (s_cV ok_X5_allChecks (at_ dl_X9_about 42 (ins := .invokevirtual 123) rfl) (by decide) rfl (tg 415 (by decide +kernel) (by decide +kernel)) (tg 416 (by decide +kernel) (by decide +kernel)) (tg 417 (by decide +kernel) (by decide +kernel)) (tg 45 (by decide +kernel) (by decide +kernel)) (tg 418 (by decide +kernel) (by decide +kernel)) (⟨by decide, by decide, by decide +kernel⟩) (⟨by decide, by decide⟩) rfl rfl) (
  tkc (s_cV ok_X6_rankOf (at_ dl_X9_about 43 (ins := .invokevirtual 126) rfl) (by decide) rfl (tg 419 (by decide +kernel) (by decide +kernel)) (tg 420 (by decide +kernel) (by decide +kernel)) (tg 421 (by decide +kernel) (by decide +kernel)) (tg 48 (by decide +kernel) (by decide +kernel)) (tg 422 (by decide +kernel) (by decide +kernel)) (⟨by decide, by decide, by decide +kernel⟩) (⟨by decide, by decide⟩) rfl rfl) (
  tkc (s_rI (at_ dl_X9_about 44 (ins := .ireturn) rfl) rfl) (
  tkc (s_aload_n (at_ dl_X9_about 45 (ins := .aload_n 0) rfl)) (
  tkc (s_gR (at_ dl_X9_about 46 (ins := .getfield 45) rfl) (by decide) (by decide) (by decide) (tg 259 (by decide +kernel) (by decide +kernel))) (
  tkc (s_cV ok_X6_howManyWords (at_ dl_X9_about 47 (ins := .invokevirtual 129) rfl) (by decide) rfl (tg 427 (by decide +kernel) (by decide +kernel)) (tg 428 (by decide +kernel) (by decide +kernel)) (tg 429 (by decide +kernel) (by decide +kernel)) (tg 48 (by decide +kernel) (by decide +kernel)) (tg 430 (by decide +kernel) (by decide +kernel)) (⟨by decide, by decide, by decide +kernel⟩) (⟨by decide, by decide⟩) rfl rfl) (
  tkc (s_rI (at_ dl_X9_about 48 (ins := .ireturn) rfl) rfl) (
  tkc (s_aload_n (at_ dl_X9_about 49 (ins := .aload_n 0) rfl)) (
  tkc (s_gR (at_ dl_X9_about 50 (ins := .getfield 45) rfl) (by decide) (by decide) (by decide) (tg 259 (by decide +kernel) (by decide +kernel))) (
  tkc (s_cV ok_X6_distance (at_ dl_X9_about 51 (ins := .invokevirtual 132) rfl) (by decide) rfl (tg 433 (by decide +kernel) (by decide +kernel)) (tg 434 (by decide +kernel) (by decide +kernel)) (tg 435 (by decide +kernel) (by decide +kernel)) (tg 48 (by decide +kernel) (by decide +kernel)) (tg 436 (by decide +kernel) (by decide +kernel)) (⟨by decide, by decide, by decide +kernel⟩) (⟨by decide, by decide⟩) rfl rfl) (
  tkc (s_rI (at_ dl_X9_about 52 (ins := .ireturn) rfl) rfl) (
  tkc (s_aload_n (at_ dl_X9_about 53 (ins := .aload_n 0) rfl)) (
  tkc (s_cV ok_X9_needs (at_ dl_X9_about 54 (ins := .invokevirtual 135) rfl) (by decide) rfl (tg 439 (by decide +kernel) (by decide +kernel)) (tg 441 (by decide +kernel) (by decide +kernel)) (tg 8 (by decide +kernel) (by decide +kernel)) (tg 42 (by decide +kernel) (by decide +kernel)) (tg 442 (by decide +kernel) (by decide +kernel)) (⟨by decide, by decide, by decide +kernel⟩) (⟨by decide, by decide⟩) rfl rfl) (
  tkc (s_rI (at_ dl_X9_about 55 (ins := .ireturn) rfl) rfl) (
  tkc (s_aload_n (at_ dl_X9_about 56 (ins := .aload_n 0) rfl)) (
  tkc (s_cV ok_X9_ends (at_ dl_X9_about 57 (ins := .invokevirtual 138) rfl) (by decide) rfl (tg 468 (by decide +kernel) (by decide +kernel)) (tg 470 (by decide +kernel) (by decide +kernel)) (tg 11 (by decide +kernel) (by decide +kernel)) (tg 42 (by decide +kernel) (by decide +kernel)) (tg 471 (by decide +kernel) (by decide +kernel)) (⟨by decide, by decide, by decide +kernel⟩) (⟨by decide, by decide⟩) rfl rfl) (
  tkc (s_rI (at_ dl_X9_about 58 (ins := .ireturn) rfl) rfl) (
  tkc (s_aload_n (at_ dl_X9_about 59 (ins := .aload_n 0) rfl)) (
  tkc (s_cV ok_X9_best (at_ dl_X9_about 60 (ins := .invokevirtual 141) rfl) (by decide) rfl (tg 472 (by decide +kernel) (by decide +kernel)) (tg 474 (by decide +kernel) (by decide +kernel)) (tg 12 (by decide +kernel) (by decide +kernel)) (tg 42 (by decide +kernel) (by decide +kernel)) (tg 475 (by decide +kernel) (by decide +kernel)) (⟨by decide, by decide, by decide +kernel⟩) (⟨by decide, by decide⟩) rfl rfl) (
  tkc (s_rI (at_ dl_X9_about 61 (ins := .ireturn) rfl) rfl) (
  tkc (s_aload_n (at_ dl_X9_about 62 (ins := .aload_n 0) rfl)) (
  tkc (s_gR (at_ dl_X9_about 63 (ins := .getfield 52) rfl) (by decide) (by decide) (by decide) (tg 260 (by decide +kernel) (by decide +kernel))) (
  tkc (s_gI (at_ dl_X9_about 64 (ins := .getfield 144) rfl) (by decide) (by decide) (by decide) (tg 229 (by decide +kernel) (by decide +kernel))) (
  tkc (s_rI (at_ dl_X9_about 65 (ins := .ireturn) rfl) rfl) (
  tkc (s_aload_n (at_ dl_X9_about 66 (ins := .aload_n 0) rfl)) (
  tkc (s_gR (at_ dl_X9_about 67 (ins := .getfield 59) rfl) (by decide) (by decide) (by decide) (tg 261 (by decide +kernel) (by decide +kernel))) (
  tkc (s_gI (at_ dl_X9_about 68 (ins := .getfield 147) rfl) (by decide) (by decide) (by decide) (tg 246 (by decide +kernel) (by decide +kernel))) (
  tkc (s_rI (at_ dl_X9_about 69 (ins := .ireturn) rfl) rfl) (
  tkc (s_aload_n (at_ dl_X9_about 70 (ins := .aload_n 0) rfl)) (
  tkc (s_gR (at_ dl_X9_about 71 (ins := .getfield 10) rfl) (by decide) (by decide) (by decide) (tg 254 (by decide +kernel) (by decide +kernel))) (
  tkc (s_gI (at_ dl_X9_about 72 (ins := .getfield 75) rfl) (by decide) (by decide) (by decide) (tg 107 (by decide +kernel) (by decide +kernel))) (
  tkc (s_rI (at_ dl_X9_about 73 (ins := .ireturn) rfl) rfl) (
  tkc (s_bipush (at_ dl_X9_about 74 (ins := .bipush (-2)) rfl) (by first | rfl | decide)) (
  tkc (s_rI (at_ dl_X9_about 75 (ins := .ireturn) rfl) rfl) ( tk0))))))))))))))))))))))))))))))))))))))))))))))))))))))))))))))))))))))))))))
theorem lf_X9_about : lk (tb_X9_about) 0 = (x_il 1 1, false) ∧ lk (tb_X9_about) 1 = (x_sw 0 16 [84, 92, 100, 108, 116, 124, 132, 148, 156, 171, 179, 187, 192, 197, 202, 210, 218] 226, false) ∧ lk (tb_X9_about) 84 = (x_al 85 0, false) ∧ lk (tb_X9_about) 85 = (x_gR 9 1 88, false) ∧ lk (tb_X9_about) 88 = (x_gI 5 4 91, false) ∧ lk (tb_X9_about) 91 = (x_rI, false) ∧ lk (tb_X9_about) 92 = (x_al 93 0, false) ∧ lk (tb_X9_about) 93 = (x_gR 9 1 96, false) ∧ lk (tb_X9_about) 96 = (x_gI 5 5 99, false) ∧ lk (tb_X9_about) 99 = (x_rI, false) ∧ lk (tb_X9_about) 100 = (x_al 101 0, false) ∧ lk (tb_X9_about) 101 = (x_gR 9 1 104, false) ∧ lk (tb_X9_about) 104 = (x_gI 5 6 107, false) ∧ lk (tb_X9_about) 107 = (x_rI, false) ∧ lk (tb_X9_about) 108 = (x_al 109 0, false) ∧ lk (tb_X9_about) 109 = (x_gR 9 1 112, false) ∧ lk (tb_X9_about) 112 = (x_gI 5 7 115, false) ∧ lk (tb_X9_about) 115 = (x_rI, false) ∧ lk (tb_X9_about) 116 = (x_al 117 0, false) ∧ lk (tb_X9_about) 117 = (x_gR 9 1 120, false) ∧ lk (tb_X9_about) 120 = (x_cV 5 0 P_X5_word 123, false) ∧ lk (tb_X9_about) 123 = (x_rI, false) ∧ lk (tb_X9_about) 124 = (x_al 125 0, false) ∧ lk (tb_X9_about) 125 = (x_gR 9 1 128, false) ∧ lk (tb_X9_about) 128 = (x_cV 5 0 P_X5_open 131, false) ∧ lk (tb_X9_about) 131 = (x_rI, false) ∧ lk (tb_X9_about) 132 = (x_al 133 0, false) ∧ lk (tb_X9_about) 133 = (x_gR 9 1 136, false) ∧ lk (tb_X9_about) 136 = (x_cV 5 0 P_X5_solved 139, false) ∧ lk (tb_X9_about) 139 = (x_if 146 142 (fun x : Int32 => x = 0), false) ∧ lk (tb_X9_about) 142 = (x_c 143 (.int 1), false) ∧ lk (tb_X9_about) 143 = (x_go 147, false) ∧ lk (tb_X9_about) 146 = (x_c 147 (.int 0), false) ∧ lk (tb_X9_about) 147 = (x_rI, false) ∧ lk (tb_X9_about) 148 = (x_al 149 0, false) ∧ lk (tb_X9_about) 149 = (x_gR 9 4 152, false) ∧ lk (tb_X9_about) 152 = (x_cV 8 0 P_X8_ring 155, false) ∧ lk (tb_X9_about) 155 = (x_rI, false) ∧ lk (tb_X9_about) 156 = (x_al 157 0, false) ∧ lk (tb_X9_about) 157 = (x_gR 9 5 160, false) ∧ lk (tb_X9_about) 160 = (x_al 161 0, false) ∧ lk (tb_X9_about) 161 = (x_gR 9 1 164, false) ∧ lk (tb_X9_about) 164 = (x_cV 5 0 P_X5_allChecks 167, false) ∧ lk (tb_X9_about) 167 = (x_cV 6 1 P_X6_rankOf 170, false) ∧ lk (tb_X9_about) 170 = (x_rI, false) ∧ lk (tb_X9_about) 171 = (x_al 172 0, false) ∧ lk (tb_X9_about) 172 = (x_gR 9 5 175, false) ∧ lk (tb_X9_about) 175 = (x_cV 6 0 P_X6_howManyWords 178, false) ∧ lk (tb_X9_about) 178 = (x_rI, false) ∧ lk (tb_X9_about) 179 = (x_al 180 0, false) ∧ lk (tb_X9_about) 180 = (x_gR 9 5 183, false) ∧ lk (tb_X9_about) 183 = (x_cV 6 0 P_X6_distance 186, false) ∧ lk (tb_X9_about) 186 = (x_rI, false) ∧ lk (tb_X9_about) 187 = (x_al 188 0, false) ∧ lk (tb_X9_about) 188 = (x_cV 9 0 P_X9_needs 191, false) ∧ lk (tb_X9_about) 191 = (x_rI, false) ∧ lk (tb_X9_about) 192 = (x_al 193 0, false) ∧ lk (tb_X9_about) 193 = (x_cV 9 0 P_X9_ends 196, false) ∧ lk (tb_X9_about) 196 = (x_rI, false) ∧ lk (tb_X9_about) 197 = (x_al 198 0, false) ∧ lk (tb_X9_about) 198 = (x_cV 9 0 P_X9_best 201, false) ∧ lk (tb_X9_about) 201 = (x_rI, false) ∧ lk (tb_X9_about) 202 = (x_al 203 0, false) ∧ lk (tb_X9_about) 203 = (x_gR 9 6 206, false) ∧ lk (tb_X9_about) 206 = (x_gI 0 2 209, false) ∧ lk (tb_X9_about) 209 = (x_rI, false) ∧ lk (tb_X9_about) 210 = (x_al 211 0, false) ∧ lk (tb_X9_about) 211 = (x_gR 9 7 214, false) ∧ lk (tb_X9_about) 214 = (x_gI 4 2 217, false) ∧ lk (tb_X9_about) 217 = (x_rI, false) ∧ lk (tb_X9_about) 218 = (x_al 219 0, false) ∧ lk (tb_X9_about) 219 = (x_gR 9 0 222, false) ∧ lk (tb_X9_about) 222 = (x_gI 7 2 225, false) ∧ lk (tb_X9_about) 225 = (x_rI, false) ∧ lk (tb_X9_about) 226 = (x_c 228 (.int (-2)), false) ∧ lk (tb_X9_about) 228 = (x_rI, false) := ⟨rfl, rfl, rfl, rfl, rfl, rfl, rfl, rfl, rfl, rfl, rfl, rfl, rfl, rfl, rfl, rfl, rfl, rfl, rfl, rfl, rfl, rfl, rfl, rfl, rfl, rfl, rfl, rfl, rfl, rfl, rfl, rfl, rfl, rfl, rfl, rfl, rfl, rfl, rfl, rfl, rfl, rfl, rfl, rfl, rfl, rfl, rfl, rfl, rfl, rfl, rfl, rfl, rfl, rfl, rfl, rfl, rfl, rfl, rfl, rfl, rfl, rfl, rfl, rfl, rfl, rfl, rfl, rfl, rfl, rfl, rfl, rfl, rfl, rfl, rfl, rfl⟩
def P_X9_about : PTT := fun as M R => match as with
  | [.ref k, .int w] => k = 0 ∧ ∃ g, CR M.1 M.2.1 M.2.2 g ∧ GOk g ∧ Ans M R (gAbout g w) g
  | _ => False
set_option maxRecDepth 20000 in
theorem ok_X9_about : Ok yX9_about mt_X9_about P_X9_about := by
  refine Ok.of (by decide) rfl rfl rfl rfl fun av ⟨S, I, L⟩ R hP => ?_
  unfold P_X9_about at hP
  split at hP
  case h_2 => exact hP.elim
  rename_i k w
  obtain ⟨k, rfl⟩ : ∃ q : Nat, q = k := ⟨k, rfl⟩
  refine ⟨by simp [ent, wide, mt_X9_about], ?_⟩
  show J mt_X9_about R 0 [some (.ref k), some (.int w)] [] (S, I, L)
  try dsimp only at hP
  obtain ⟨rfl, g, hc, ho, hA⟩ := hP
  obtain ⟨h1, h2, h3, h4, h5, h6, h7, h8⟩ := id hc
  have en : I 5 4 = nI (aN (gA g)) := hc.2.2.1.1
  have em : I 5 5 = nI (aM (gA g)) := hc.2.2.1.2.1
  have hok := ho.2.1
  have h9 := ho.2.1.1
  have hwd : wdF (I (5 + 3)) (tn (nI (aN (gA g)))) = wdA (gA g) := by have := h3.wd hok; rwa [en] at this
  have hn : ∃ n, n ≤ 9 ∧ nI (aN (gA g)) = nI n := ⟨_, h9.2.1, rfl⟩
  have hl := pow6m h9.2.2
  have ht : tn (nI (2 ^ aM (gA g) - 1)) < 512 := by rw [tn_nI (by omega)]; exact hl
  have hfin : ∀ (j : Nat) I' v, frS I I' → w.toInt = (j : Int) → j < 17 → (abL g).getD j (-2) = v → R (some (.int v)) (S, I', L) := fun j I' v hf hw hj hv => by
    have : gAbout g w = v := by rw [gAbout, if_neg (by omega), hw, Int.toNat_natCast]; exact hv
    rw [this] at hA
    exact hA.q hc hf
  have hid := frS.refl I
  refine J.of tk_X9_about 200 fun ρ hρ => ?_
  simp only [hρ, x_c, x_il, x_ll, x_al, x_is, x_as, x_ls, x_inc, x_ii, x_iq, x_i1, x_l2, x_lq, x_lh, x_i2l, x_l2i, x_lcmp, x_dup, x_dup2, x_pop, x_if, x_ifn, x_ic, x_icn, x_go, x_sw, swc, x_l01, x_mx, x_gI, x_gL, x_gR, x_pI, x_pZ, x_pL, x_pR, x_ia, x_za, x_aa, x_ias, x_zas, x_aas, x_fac, x_fa, x_slen, x_sa, x_ac, x_oi, x_new, x_na, x_cS, x_cV, x_cI, x_rI, x_rZ, x_rL, x_r0, pa, short, oc, lg, lset, lset2, wide, cond_true, cond_false, true_and, and_true, ↓reduceIte, Bool.false_eq_true, true_or, or_true, lf_X9_about, h1, h1.1.f, h1.2.1, h1.2.1.f, hc.ac, hc.ac.1.f, hc.ac.2.f, h1.2.2.2.2.2.2.1, h1.2.2.2.2.2.2.1.f, h1.2.2.2.2.2.2.2.1, h1.2.2.2.2.2.2.2.1.f, h1.2.2.2.2.2.2.2.2.2.1.f, en, em, hn, hwd, h3.op hok, h3.q hok, h3.2.2.1, h3.2.2.2.1, hc.cnt, h6.1, h2.1, P_X5_word, P_X5_open, P_X5_solved, P_X8_ring, P_X6_rankOf, P_X5_allChecks, allC h9.2.2, eq_true ht, P_X6_howManyWords, P_X6_distance, P_X9_needs, P_X9_ends, P_X9_best, bI_0, Classical.not_not]
  refine ⟨⟨?_, ?_, ?_, ?_, ?_, ?_, ?_, ?_, ?_, ?_, ?_, ?_, ?_, ?_, ?_, ?_, ?_⟩, ?_⟩
  · exact fun h => hfin 0 I _ hid (by omega) (by omega) rfl
  · exact fun h => hfin 1 I _ hid (by omega) (by omega) rfl
  · exact fun h => hfin 2 I _ hid (by omega) (by omega) rfl
  · exact fun h => hfin 3 I _ hid (by omega) (by omega) rfl
  · exact fun h => hfin 4 I _ hid (by omega) (by omega) rfl
  · exact fun h => hfin 5 I _ hid (by omega) (by omega) rfl
  · exact fun h => ⟨fun h0 => hfin 6 I _ hid (by omega) (by omega) (bB_f (by simpa using h0)), fun h0 => hfin 6 I _ hid (by omega) (by omega) (bB_t (by simpa using h0))⟩
  · exact fun h => ⟨gA g, h3, hok, hfin 7 I _ hid (by omega) (by omega) rfl⟩
  · refine fun h => ⟨gA g, h3, hok, fun I' hf => hfin 8 I' _ (fun q a b c d e f => hf q f) (by omega) (by omega) ?_⟩
    show nI (rkA (gA g) 63) = _
    rw [rkA_all hok, tn_nI (by omega)]
    rfl
  · exact fun h => ⟨gA g, h3, hok, fun I' hf => hfin 9 I' _ (fun q a b c d e f => hf q f) (by omega) (by omega) rfl⟩
  · exact fun h => ⟨gA g, h3, hok, hfin 10 I _ hid (by omega) (by omega) rfl⟩
  · exact fun h => ⟨gA g, id, h3, hok, h8.O h9.2.2, fun I' hf _ => hfin 11 I' _ hf (by omega) (by omega) rfl⟩
  · exact fun h => ⟨gA g, id, h3, hok, h8.O h9.2.2, fun I' hf => hfin 12 I' _ hf (by omega) (by omega) rfl⟩
  · exact fun h => ⟨gA g, h3, hok, h8, fun I' hf => hfin 13 I' _ hf (by omega) (by omega) rfl⟩
  · exact fun h => hfin 14 I _ hid (by omega) (by omega) rfl
  · exact fun h => hfin 15 I _ hid (by omega) (by omega) rfl
  · exact fun h => hfin 16 I _ hid (by omega) (by omega) rfl
  · intro h
    have : gAbout g w = -2 := by rw [gAbout, if_pos (by omega)]
    rw [this] at hA
    exact hA.s hc
