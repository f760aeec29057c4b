/-! GROW: where a bit comes to next -/
def Cp (ov : Nat → Nat) (m b : Nat) : Nat → Nat
  | 0 => 0
  | s + 1 => (cW ov m b s).2
/-- the checks met by the step s first -/
def lyW (ov : Nat → Nat) (m b s : Nat) : Nat := df (cW ov m b s).2 (Cp ov m b s)
/-- the step at which nothing is new, and the last that was -/
def fsW (ov : Nat → Nat) (m b : Nat) : Nat → Nat → Nat → Nat × Nat
  | 0, s, last => (s, last)
  | l + 1, s, last => if lyW ov m b s = 0 then (s, last) else fsW ov m b l (s + 1) (lyW ov m b s)
def faW (ov : Nat → Nat) (m b : Nat) : Nat := if df (2 ^ m - 1) (cW ov m b (fsW ov m b 6 0 (cW ov m b 0).2).1).2 ≠ 0 then df (2 ^ m - 1) (cW ov m b (fsW ov m b 6 0 (cW ov m b 0).2).1).2 else (fsW ov m b 6 0 (cW ov m b 0).2).2
theorem WI.all (ov : Nat → Nat) (m b : Nat) : ∀ s, WI ov m (cW ov m b s).1 (cW ov m b s).2 (Cp ov m b s)
  | 0 => WI.zero ov m b
  | s + 1 => ((WI.all ov m b s).step (ov := ov) (fun _ _ _ => rfl) (fun _ _ _ _ => rfl)).2.2.2
def il_X8_farthestChecks : List (Nat × Instr × Nat) := [(0, .iconst 1, 1), (1, .iload_n 1, 1), (2, .ishl, 1), (3, .istore_n 2, 1), (4, .aload_n 0, 1), (5, .getfield 9, 3), (8, .iload_n 1, 1), (9, .invokevirtual 32, 3), (12, .istore_n 3, 1), (13, .iload_n 3, 1), (14, .istore 4, 2), (16, .iload 4, 2), (18, .istore 5, 2), (20, .iconst 1, 1), (21, .istore 6, 2), (23, .iload 6, 2), (25, .bipush 6, 2), (27, .if_icmp .gt 52, 3), (30, .iload 5, 2), (32, .ifCond .eq 47, 3), (35, .iload 5, 2), (37, .istore 4, 2), (39, .aload_n 0, 1), (40, .iload 4, 2), (42, .invokevirtual 36, 3), (45, .iload_n 2, 1), (46, .iconst (-1), 1), (47, .ixor, 1), (48, .iand, 1), (49, .istore 7, 2), (51, .iload_n 2, 1), (52, .iload 7, 2), (54, .ior, 1), (55, .istore_n 2, 1), (56, .aload_n 0, 1), (57, .iload 7, 2), (59, .invokevirtual 39, 3), (62, .iload_n 3, 1), (63, .iconst (-1), 1), (64, .ixor, 1), (65, .iand, 1), (66, .istore 5, 2), (68, .iload_n 3, 1), (69, .iload 5, 2), (71, .ior, 1), (72, .istore_n 3, 1), (73, .iinc 6 1, 3), (76, .goto (-53), 3), (79, .aload_n 0, 1), (80, .getfield 9, 3), (83, .invokevirtual 54, 3), (86, .iload_n 3, 1), (87, .iconst (-1), 1), (88, .ixor, 1), (89, .iand, 1), (90, .istore 6, 2), (92, .iload 6, 2), (94, .ifCond .eq 8, 3), (97, .iload 6, 2), (99, .goto 5, 3), (102, .iload 4, 2), (104, .ireturn, 1)]
def mt_X8_farthestChecks : Mt := (cX8_farthestChecks, RX8, 8, (some .int), ({ frames := 1, cells := 0, slots := 0, locals := 23 } : Room), false, none, none)
set_option maxRecDepth 100000 in
theorem dl_X8_farthestChecks : ∀ q ∈ il_X8_farthestChecks, decode (mt_X8_farthestChecks).1 q.1 = .ok q.2 := by decide +kernel
def tb_X8_farthestChecks : Tb := [(0, x_c 1 (.int 1), false),
  (1, x_il 2 1, false),
  (2, x_ii 3 (fun x y : Int32 => x <<< (y &&& 31)), false),
  (3, x_is 4 2, false),
  (4, x_al 5 0, false),
  (5, x_gR 8 0 8, false),
  (8, x_il 9 1, false),
  (9, x_cV 5 1 P_X5_checksOver 12, false),
  (12, x_is 13 3, false),
  (13, x_il 14 3, false),
  (14, x_is 16 4, false),
  (16, x_il 18 4, false),
  (18, x_is 20 5, false),
  (20, x_c 21 (.int 1), false),
  (21, x_is 23 6, false),
  (23, x_il 25 6, true),
  (25, x_c 27 (.int 6), false),
  (27, x_ic 79 30 (fun x y : Int32 => y < x), false),
  (30, x_il 32 5, false),
  (32, x_if 79 35 (fun x : Int32 => x = 0), false),
  (35, x_il 37 5, false),
  (37, x_is 39 4, false),
  (39, x_al 40 0, false),
  (40, x_il 42 4, false),
  (42, x_cV 8 1 P_X8_bitsUnder 45, false),
  (45, x_il 46 2, false),
  (46, x_c 47 (.int (-1)), false),
  (47, x_ii 48 (fun x y : Int32 => x ^^^ y), false),
  (48, x_ii 49 (fun x y : Int32 => x &&& y), false),
  (49, x_is 51 7, false),
  (51, x_il 52 2, false),
  (52, x_il 54 7, false),
  (54, x_ii 55 (fun x y : Int32 => x ||| y), false),
  (55, x_is 56 2, false),
  (56, x_al 57 0, false),
  (57, x_il 59 7, false),
  (59, x_cV 8 1 P_X8_checksOverAny 62, false),
  (62, x_il 63 3, false),
  (63, x_c 64 (.int (-1)), false),
  (64, x_ii 65 (fun x y : Int32 => x ^^^ y), false),
  (65, x_ii 66 (fun x y : Int32 => x &&& y), false),
  (66, x_is 68 5, false),
  (68, x_il 69 3, false),
  (69, x_il 71 5, false),
  (71, x_ii 72 (fun x y : Int32 => x ||| y), false),
  (72, x_is 73 3, false),
  (73, x_inc 76 6 1, false),
  (76, x_go 23, false),
  (79, x_al 80 0, true),
  (80, x_gR 8 0 83, false),
  (83, x_cV 5 0 P_X5_allChecks 86, false),
  (86, x_il 87 3, false),
  (87, x_c 88 (.int (-1)), false),
  (88, x_ii 89 (fun x y : Int32 => x ^^^ y), false),
  (89, x_ii 90 (fun x y : Int32 => x &&& y), false),
  (90, x_is 92 6, false),
  (92, x_il 94 6, false),
  (94, x_if 102 97 (fun x : Int32 => x = 0), false),
  (97, x_il 99 6, false),
  (99, x_go 104, false),
  (102, x_il 104 4, false),
  (104, x_rI, false)]
set_option maxRecDepth 100000 in
theorem tk_X8_farthestChecks : TbOk (mt_X8_farthestChecks) (tb_X8_farthestChecks) :=
  tkc (s_iconst (at_ dl_X8_farthestChecks 0 (ins := .iconst 1) rfl) (by first | rfl | decide)) (
  tkc (s_iload_n (at_ dl_X8_farthestChecks 1 (ins := .iload_n 1) rfl)) (
  tkc (s_ishl (at_ dl_X8_farthestChecks 2 (ins := .ishl) rfl)) (
  tkc (s_istore_n (at_ dl_X8_farthestChecks 3 (ins := .istore_n 2) rfl) (by decide)) (
  tkc (s_aload_n (at_ dl_X8_farthestChecks 4 (ins := .aload_n 0) rfl)) (
  tkc (s_gR (at_ dl_X8_farthestChecks 5 (ins := .getfield 9) rfl) (by decide) (by decide) (by decide) (tg 200 (by decide +kernel) (by decide +kernel))) (
  tkc (s_iload_n (at_ dl_X8_farthestChecks 6 (ins := .iload_n 1) rfl)) (
  tkc (s_cV ok_X5_checksOver (at_ dl_X8_farthestChecks 7 (ins := .invokevirtual 32) rfl) (by decide) rfl (tg 403 (by decide +kernel) (by decide +kernel)) (tg 404 (by decide +kernel) (by decide +kernel)) (tg 405 (by decide +kernel) (by decide +kernel)) (tg 45 (by decide +kernel) (by decide +kernel)) (tg 406 (by decide +kernel) (by decide +kernel)) (⟨by decide, by decide, by decide +kernel⟩) (⟨by decide, by decide⟩) rfl rfl) (
  tkc (s_istore_n (at_ dl_X8_farthestChecks 8 (ins := .istore_n 3) rfl) (by decide)) (
  tkc (s_iload_n (at_ dl_X8_farthestChecks 9 (ins := .iload_n 3) rfl)) (
  tkc (s_istore (at_ dl_X8_farthestChecks 10 (ins := .istore 4) rfl) (by decide)) (
  tkc (s_iload (at_ dl_X8_farthestChecks 11 (ins := .iload 4) rfl)) (
  tkc (s_istore (at_ dl_X8_farthestChecks 12 (ins := .istore 5) rfl) (by decide)) (
  tkc (s_iconst (at_ dl_X8_farthestChecks 13 (ins := .iconst 1) rfl) (by first | rfl | decide)) (
  tkc (s_istore (at_ dl_X8_farthestChecks 14 (ins := .istore 6) rfl) (by decide)) (
  tkc (s_iload (at_ dl_X8_farthestChecks 15 (ins := .iload 6) rfl)) (
  tkc (s_bipush (at_ dl_X8_farthestChecks 16 (ins := .bipush 6) rfl) (by first | rfl | decide)) (
  tkc (s_ic_gt (at_ dl_X8_farthestChecks 17 (ins := .if_icmp .gt 52) rfl) (by decide)) (
  tkc (s_iload (at_ dl_X8_farthestChecks 18 (ins := .iload 5) rfl)) (
  tkc (s_if_eq (at_ dl_X8_farthestChecks 19 (ins := .ifCond .eq 47) rfl) (by decide)) (
  tkc (s_iload (at_ dl_X8_farthestChecks 20 (ins := .iload 5) rfl)) (
  tkc (s_istore (at_ dl_X8_farthestChecks 21 (ins := .istore 4) rfl) (by decide)) (
  tkc (s_aload_n (at_ dl_X8_farthestChecks 22 (ins := .aload_n 0) rfl)) (
  tkc (s_iload (at_ dl_X8_farthestChecks 23 (ins := .iload 4) rfl)) (
  tkc (s_cV ok_X8_bitsUnder (at_ dl_X8_farthestChecks 24 (ins := .invokevirtual 36) rfl) (by decide) rfl (tg 407 (by decide +kernel) (by decide +kernel)) (tg 409 (by decide +kernel) (by decide +kernel)) (tg 5 (by decide +kernel) (by decide +kernel)) (tg 47 (by decide +kernel) (by decide +kernel)) (tg 410 (by decide +kernel) (by decide +kernel)) (⟨by decide, by decide, by decide +kernel⟩) (⟨by decide, by decide⟩) rfl rfl) (
  tkc (s_iload_n (at_ dl_X8_farthestChecks 25 (ins := .iload_n 2) rfl)) (
  tkc (s_iconst (at_ dl_X8_farthestChecks 26 (ins := .iconst (-1)) rfl) (by first | rfl | decide)) (
  tkc (s_ixor (at_ dl_X8_farthestChecks 27 (ins := .ixor) rfl)) (
  tkc (s_iand (at_ dl_X8_farthestChecks 28 (ins := .iand) rfl)) (
  tkc (s_istore (at_ dl_X8_farthestChecks 29 (ins := .istore 7) rfl) (by decide)) (
  tkc (s_iload_n (at_ dl_X8_farthestChecks 30 (ins := .iload_n 2) rfl)) (
  tkc (s_iload (at_ dl_X8_farthestChecks 31 (ins := .iload 7) rfl)) (
  tkc (s_ior (at_ dl_X8_farthestChecks 32 (ins := .ior) rfl)) (
  tkc (s_istore_n (at_ dl_X8_farthestChecks 33 (ins := .istore_n 2) rfl) (by decide)) (
  tkc (s_aload_n (at_ dl_X8_farthestChecks 34 (ins := .aload_n 0) rfl)) (
  tkc (s_iload (at_ dl_X8_farthestChecks 35 (ins := .iload 7) rfl)) (
  tkc (s_cV ok_X8_checksOverAny (at_ dl_X8_farthestChecks 36 (ins := .invokevirtual 39) rfl) (by decide) rfl (tg 411 (by decide +kernel) (by decide +kernel)) (tg 413 (by decide +kernel) (by decide +kernel)) (tg 6 (by decide +kernel) (by decide +kernel)) (tg 47 (by decide +kernel) (by decide +kernel)) (tg 414 (by decide +kernel) (by decide +kernel)) (⟨by decide, by decide, by decide +kernel⟩) (⟨by decide, by decide⟩) rfl rfl) (
  tkc (s_iload_n (at_ dl_X8_farthestChecks 37 (ins := .iload_n 3) rfl)) (
  tkc (s_iconst (at_ dl_X8_farthestChecks 38 (ins := .iconst (-1)) rfl) (by first | rfl | decide)) (
  tkc (s_ixor (at_ dl_X8_farthestChecks 39 (ins := .ixor) rfl)) (
  tkc (s_iand (at_ dl_X8_farthestChecks 40 (ins := .iand) rfl)) (
  tkc (s_istore (at_ dl_X8_farthestChecks 41 (ins := .istore 5) rfl) (by decide)) (
  tkc (s_iload_n (at_ dl_X8_farthestChecks 42 (ins := .iload_n 3) rfl)) (
  tkc (s_iload (at_ dl_X8_farthestChecks 43 (ins := .iload 5) rfl)) (
  tkc (s_ior (at_ dl_X8_farthestChecks 44 (ins := .ior) rfl)) (
  tkc (s_istore_n (at_ dl_X8_farthestChecks 45 (ins := .istore_n 3) rfl) (by decide)) (
  tkc (s_iinc (at_ dl_X8_farthestChecks 46 (ins := .iinc 6 1) rfl) (by decide) (by first | rfl | decide)) (
  tkc (s_goto (at_ dl_X8_farthestChecks 47 (ins := .goto (-53)) rfl) (by decide)) (
  tkc (s_aload_n (at_ dl_X8_farthestChecks 48 (ins := .aload_n 0) rfl)) (
  tkc (s_gR (at_ dl_X8_farthestChecks 49 (ins := .getfield 9) rfl) (by decide) (by decide) (by decide) (tg 200 (by decide +kernel) (by decide +kernel))) (
  tkc (s_cV ok_X5_allChecks (at_ dl_X8_farthestChecks 50 (ins := .invokevirtual 54) rfl) (by decide) rfl (tg 535 (by decide +kernel) (by decide +kernel)) (tg 416 (by decide +kernel) (by decide +kernel)) (tg 417 (by decide +kernel) (by decide +kernel)) (tg 45 (by decide +kernel) (by decide +kernel)) (tg 418 (by decide +kernel) (by decide +kernel)) (⟨by decide, by decide, by decide +kernel⟩) (⟨by decide, by decide⟩) rfl rfl) (
  tkc (s_iload_n (at_ dl_X8_farthestChecks 51 (ins := .iload_n 3) rfl)) (
  tkc (s_iconst (at_ dl_X8_farthestChecks 52 (ins := .iconst (-1)) rfl) (by first | rfl | decide)) (
  tkc (s_ixor (at_ dl_X8_farthestChecks 53 (ins := .ixor) rfl)) (
  tkc (s_iand (at_ dl_X8_farthestChecks 54 (ins := .iand) rfl)) (
  tkc (s_istore (at_ dl_X8_farthestChecks 55 (ins := .istore 6) rfl) (by decide)) (
  tkc (s_iload (at_ dl_X8_farthestChecks 56 (ins := .iload 6) rfl)) (
  tkc (s_if_eq (at_ dl_X8_farthestChecks 57 (ins := .ifCond .eq 8) rfl) (by decide)) (
  tkc (s_iload (at_ dl_X8_farthestChecks 58 (ins := .iload 6) rfl)) (
  tkc (s_goto (at_ dl_X8_farthestChecks 59 (ins := .goto 5) rfl) (by decide)) (
  tkc (s_iload (at_ dl_X8_farthestChecks 60 (ins := .iload 4) rfl)) (
  tkc (s_rI (at_ dl_X8_farthestChecks 61 (ins := .ireturn) rfl) rfl) ( tk0))))))))))))))))))))))))))))))))))))))))))))))))))))))))))))))
theorem lf_X8_farthestChecks : lk (tb_X8_farthestChecks) 0 = (x_c 1 (.int 1), false) ∧ lk (tb_X8_farthestChecks) 1 = (x_il 2 1, false) ∧ lk (tb_X8_farthestChecks) 2 = (x_ii 3 (fun x y : Int32 => x <<< (y &&& 31)), false) ∧ lk (tb_X8_farthestChecks) 3 = (x_is 4 2, false) ∧ lk (tb_X8_farthestChecks) 4 = (x_al 5 0, false) ∧ lk (tb_X8_farthestChecks) 5 = (x_gR 8 0 8, false) ∧ lk (tb_X8_farthestChecks) 8 = (x_il 9 1, false) ∧ lk (tb_X8_farthestChecks) 9 = (x_cV 5 1 P_X5_checksOver 12, false) ∧ lk (tb_X8_farthestChecks) 12 = (x_is 13 3, false) ∧ lk (tb_X8_farthestChecks) 13 = (x_il 14 3, false) ∧ lk (tb_X8_farthestChecks) 14 = (x_is 16 4, false) ∧ lk (tb_X8_farthestChecks) 16 = (x_il 18 4, false) ∧ lk (tb_X8_farthestChecks) 18 = (x_is 20 5, false) ∧ lk (tb_X8_farthestChecks) 20 = (x_c 21 (.int 1), false) ∧ lk (tb_X8_farthestChecks) 21 = (x_is 23 6, false) ∧ lk (tb_X8_farthestChecks) 23 = (x_il 25 6, true) ∧ lk (tb_X8_farthestChecks) 25 = (x_c 27 (.int 6), false) ∧ lk (tb_X8_farthestChecks) 27 = (x_ic 79 30 (fun x y : Int32 => y < x), false) ∧ lk (tb_X8_farthestChecks) 30 = (x_il 32 5, false) ∧ lk (tb_X8_farthestChecks) 32 = (x_if 79 35 (fun x : Int32 => x = 0), false) ∧ lk (tb_X8_farthestChecks) 35 = (x_il 37 5, false) ∧ lk (tb_X8_farthestChecks) 37 = (x_is 39 4, false) ∧ lk (tb_X8_farthestChecks) 39 = (x_al 40 0, false) ∧ lk (tb_X8_farthestChecks) 40 = (x_il 42 4, false) ∧ lk (tb_X8_farthestChecks) 42 = (x_cV 8 1 P_X8_bitsUnder 45, false) ∧ lk (tb_X8_farthestChecks) 45 = (x_il 46 2, false) ∧ lk (tb_X8_farthestChecks) 46 = (x_c 47 (.int (-1)), false) ∧ lk (tb_X8_farthestChecks) 47 = (x_ii 48 (fun x y : Int32 => x ^^^ y), false) ∧ lk (tb_X8_farthestChecks) 48 = (x_ii 49 (fun x y : Int32 => x &&& y), false) ∧ lk (tb_X8_farthestChecks) 49 = (x_is 51 7, false) ∧ lk (tb_X8_farthestChecks) 51 = (x_il 52 2, false) ∧ lk (tb_X8_farthestChecks) 52 = (x_il 54 7, false) ∧ lk (tb_X8_farthestChecks) 54 = (x_ii 55 (fun x y : Int32 => x ||| y), false) ∧ lk (tb_X8_farthestChecks) 55 = (x_is 56 2, false) ∧ lk (tb_X8_farthestChecks) 56 = (x_al 57 0, false) ∧ lk (tb_X8_farthestChecks) 57 = (x_il 59 7, false) ∧ lk (tb_X8_farthestChecks) 59 = (x_cV 8 1 P_X8_checksOverAny 62, false) ∧ lk (tb_X8_farthestChecks) 62 = (x_il 63 3, false) ∧ lk (tb_X8_farthestChecks) 63 = (x_c 64 (.int (-1)), false) ∧ lk (tb_X8_farthestChecks) 64 = (x_ii 65 (fun x y : Int32 => x ^^^ y), false) ∧ lk (tb_X8_farthestChecks) 65 = (x_ii 66 (fun x y : Int32 => x &&& y), false) ∧ lk (tb_X8_farthestChecks) 66 = (x_is 68 5, false) ∧ lk (tb_X8_farthestChecks) 68 = (x_il 69 3, false) ∧ lk (tb_X8_farthestChecks) 69 = (x_il 71 5, false) ∧ lk (tb_X8_farthestChecks) 71 = (x_ii 72 (fun x y : Int32 => x ||| y), false) ∧ lk (tb_X8_farthestChecks) 72 = (x_is 73 3, false) ∧ lk (tb_X8_farthestChecks) 73 = (x_inc 76 6 1, false) ∧ lk (tb_X8_farthestChecks) 76 = (x_go 23, false) ∧ lk (tb_X8_farthestChecks) 79 = (x_al 80 0, true) ∧ lk (tb_X8_farthestChecks) 80 = (x_gR 8 0 83, false) ∧ lk (tb_X8_farthestChecks) 83 = (x_cV 5 0 P_X5_allChecks 86, false) ∧ lk (tb_X8_farthestChecks) 86 = (x_il 87 3, false) ∧ lk (tb_X8_farthestChecks) 87 = (x_c 88 (.int (-1)), false) ∧ lk (tb_X8_farthestChecks) 88 = (x_ii 89 (fun x y : Int32 => x ^^^ y), false) ∧ lk (tb_X8_farthestChecks) 89 = (x_ii 90 (fun x y : Int32 => x &&& y), false) ∧ lk (tb_X8_farthestChecks) 90 = (x_is 92 6, false) ∧ lk (tb_X8_farthestChecks) 92 = (x_il 94 6, false) ∧ lk (tb_X8_farthestChecks) 94 = (x_if 102 97 (fun x : Int32 => x = 0), false) ∧ lk (tb_X8_farthestChecks) 97 = (x_il 99 6, false) ∧ lk (tb_X8_farthestChecks) 99 = (x_go 104, false) ∧ lk (tb_X8_farthestChecks) 102 = (x_il 104 4, false) ∧ lk (tb_X8_farthestChecks) 104 = (x_rI, false) := ⟨rfl, rfl, rfl, rfl, rfl, rfl, rfl, rfl, rfl, rfl, rfl, rfl, rfl, rfl, rfl, rfl, rfl, rfl, rfl, rfl, rfl, rfl, rfl, rfl, rfl, rfl, rfl, rfl, rfl, rfl, rfl, rfl, rfl, rfl, rfl, rfl, rfl, rfl, rfl, rfl, rfl, rfl, rfl, rfl, rfl, rfl, rfl, rfl, rfl, rfl, rfl, rfl, rfl, rfl, rfl, rfl, rfl, rfl, rfl, rfl, rfl, rfl⟩
def P_X8_farthestChecks : PTT := fun as M R => match as with
  | [.ref k, .int b] => k = 18 ∧ IsWa M.1 ∧ IsSt M.1 5 ∧ ∃ a, SR M.2.1 5 a ∧ AOk a ∧ tn b < aN a ∧ R (some (.int (nI (faW (aV a) (aM a) (tn b))))) M
  | _ => False
set_option maxRecDepth 20000 in
theorem ok_X8_farthestChecks : Ok yX8_farthestChecks mt_X8_farthestChecks P_X8_farthestChecks := by
  refine Ok.of (by decide) rfl rfl rfl rfl fun av ⟨S, I, L⟩ R hP => ?_
  unfold P_X8_farthestChecks at hP
  split at hP
  case h_2 => exact hP.elim
  rename_i k b
  obtain ⟨k, rfl⟩ : ∃ q : Nat, q = k := ⟨k, rfl⟩
  refine ⟨by simp [ent, wide, mt_X8_farthestChecks], ?_⟩
  show J mt_X8_farthestChecks R 0 [some (.ref k), some (.int b), none, none, none, none, none, none] [] (S, I, L)
  try dsimp only at hP
  obtain ⟨rfl, hk, h5, a, hsr, ha, hb, hR⟩ := hP
  have h9 := ha.1
  obtain ⟨j, hj, rfl⟩ := tn_ex (Nat.lt_trans hb (show aN a < 512 by omega))
  rw [tn_nI (n := j) (by omega)] at hR hb
  have hp9 := pow9 h9.2.1
  have hp6 := pow6 h9.2.2
  have hW := cW_lt (ov := aV a) h9.2.2 hb ha.2.1
  have em : I 5 5 = nI (aM a) := hsr.2.1
  have hend : ∀ s last x, last < 64 → fsW (aV a) (aM a) j 6 0 (cW (aV a) (aM a) j 0).2 = (s, last) → J mt_X8_farthestChecks R 79 [some (.ref 18), some (.int (nI j)), some (.int (nI (cW (aV a) (aM a) j s).1)), some (.int (nI (cW (aV a) (aM a) j s).2)), some (.int (nI last)), some (.int x), some (.int (nI (s + 1))), none] [] (S, I, L) := by
    intro s last x hla hfs
    unfold faW at hR
    rw [hfs] at hR
    have hd : df (2 ^ aM a - 1) (cW (aV a) (aM a) j s).2 < 64 := df_lt (N := 6) (by omega)
    refine J.of tk_X8_farthestChecks 200 fun ρ hρ => ?_
    simp only [hρ, x_c, x_il, x_ll, x_al, x_is, x_as, x_ls, x_inc, x_ii, x_iq, x_i1, x_l2, x_lq, x_lh, x_i2l, x_l2i, x_lcmp, x_dup, x_dup2, x_pop, x_if, x_ifn, x_ic, x_icn, x_go, x_sw, swc, x_l01, x_mx, x_gI, x_gL, x_gR, x_pI, x_pZ, x_pL, x_pR, x_ia, x_za, x_aa, x_ias, x_zas, x_aas, x_fac, x_fa, x_slen, x_sa, x_ac, x_oi, x_new, x_na, x_cS, x_cV, x_cI, x_rI, x_rZ, x_rL, x_r0, pa, short, oc, lg, lset, lset2, wide, cond_true, cond_false, true_and, and_true, ↓reduceIte, Bool.false_eq_true, true_or, or_true, lf_X8_farthestChecks, hk, hk.f, h5, h5.f, em, P_X5_allChecks, allC h9.2.2, nI_df, nI_z (show df (2 ^ aM a - 1) (cW (aV a) (aM a) j s).2 < 2 ^ 31 by omega)]
    refine ⟨fun h => ?_, fun h => ?_⟩
    · rwa [if_neg (fun q => q h)] at hR
    · rwa [if_pos h] at hR
  have key : ∀ l s last, l + s = 6 → last < 64 → fsW (aV a) (aM a) j l s last = fsW (aV a) (aM a) j 6 0 (cW (aV a) (aM a) j 0).2 → J mt_X8_farthestChecks R 23 [some (.ref 18), some (.int (nI j)), some (.int (nI (cW (aV a) (aM a) j s).1)), some (.int (nI (cW (aV a) (aM a) j s).2)), some (.int (nI last)), some (.int (nI (lyW (aV a) (aM a) j s))), some (.int (nI (s + 1))), none] [] (S, I, L) := by
    intro l
    induction l with
    | zero =>
      intro s last hl hla hr
      have : s = 6 := by omega
      subst this
      have e6 : (6 : Int32) < nI (6 + 1) ↔ True := by decide
      refine J.of tk_X8_farthestChecks 200 fun ρ hρ => ?_
      simp only [hρ, x_c, x_il, x_ll, x_al, x_is, x_as, x_ls, x_inc, x_ii, x_iq, x_i1, x_l2, x_lq, x_lh, x_i2l, x_l2i, x_lcmp, x_dup, x_dup2, x_pop, x_if, x_ifn, x_ic, x_icn, x_go, x_sw, swc, x_l01, x_mx, x_gI, x_gL, x_gR, x_pI, x_pZ, x_pL, x_pR, x_ia, x_za, x_aa, x_ias, x_zas, x_aas, x_fac, x_fa, x_slen, x_sa, x_ac, x_oi, x_new, x_na, x_cS, x_cV, x_cI, x_rI, x_rZ, x_rL, x_r0, pa, short, oc, lg, lset, lset2, wide, cond_true, cond_false, true_and, and_true, ↓reduceIte, Bool.false_eq_true, true_or, or_true, lf_X8_farthestChecks, hk, hk.f, h5, h5.f, e6, true_implies, not_true_eq_false, false_implies]
      exact hend 6 last _ hla (by rw [← hr]; rfl)
    | succ l ih =>
      intro s last hl hla hr
      obtain ⟨w1, w2⟩ := hW s
      obtain ⟨e1, e2, e3, e4⟩ := (WI.all (aV a) (aM a) j s).step (ov := aV a) (fun _ _ _ => rfl) (fun _ _ _ _ => rfl)
      have hD : lyW (aV a) (aM a) j s < 64 := df_lt (N := 6) w2
      have hu : uS (aV a) (lyW (aV a) (aM a) j s) (aM a) < 2 ^ aN a := uS_lt ha.2.1
      have hbn : df (uS (aV a) (lyW (aV a) (aM a) j s) (aM a)) (cW (aV a) (aM a) j s).1 < 2 ^ aN a := df_lt hu
      obtain ⟨v1, v2⟩ := hW (s + 1)
      have e6 : (6 : Int32) < nI (s + 1) ↔ False := by
        rw [show (6 : Int32) = nI 6 by decide, nI_ltI (by omega) (by omega)]
        exact ⟨fun h => by omega, False.elim⟩
      have t1 : tn (nI (lyW (aV a) (aM a) j s)) = lyW (aV a) (aM a) j s := tn_nI (by omega)
      have t2 : tn (nI (df (uS (aV a) (lyW (aV a) (aM a) j s) (aM a)) (cW (aV a) (aM a) j s).1)) = df (uS (aV a) (lyW (aV a) (aM a) j s) (aM a)) (cW (aV a) (aM a) j s).1 := tn_nI (by omega)
      refine J.of tk_X8_farthestChecks 200 fun ρ hρ => ?_
      simp only [hρ, x_c, x_il, x_ll, x_al, x_is, x_as, x_ls, x_inc, x_ii, x_iq, x_i1, x_l2, x_lq, x_lh, x_i2l, x_l2i, x_lcmp, x_dup, x_dup2, x_pop, x_if, x_ifn, x_ic, x_icn, x_go, x_sw, swc, x_l01, x_mx, x_gI, x_gL, x_gR, x_pI, x_pZ, x_pL, x_pR, x_ia, x_za, x_aa, x_ias, x_zas, x_aas, x_fac, x_fa, x_slen, x_sa, x_ac, x_oi, x_new, x_na, x_cS, x_cV, x_cI, x_rI, x_rZ, x_rL, x_r0, pa, short, oc, lg, lset, lset2, wide, cond_true, cond_false, true_and, and_true, ↓reduceIte, Bool.false_eq_true, true_or, or_true, lf_X8_farthestChecks, hk, hk.f, h5, h5.f, e6, false_implies, not_false_eq_true, true_implies, P_X8_bitsUnder, P_X8_checksOverAny, t1, t2, nI_z (show lyW (aV a) (aM a) j s < 2 ^ 31 by omega), nI_df, eq_true (show lyW (aV a) (aM a) j s < 512 by omega)]
      refine ⟨fun h0 => ?_, fun h0 => ⟨a, hsr, ha, by rw [t2]; omega, a, hsr, ha, ?_⟩⟩
      · exact hend s last _ hla (by rw [← hr, fsW, if_pos h0])
      · have g1 : (cW (aV a) (aM a) j (s + 1)).1 = (stW (aV a) (aM a) ((cW (aV a) (aM a) j s).1, (cW (aV a) (aM a) j s).2)).1 := rfl
        have g2 : (cW (aV a) (aM a) j (s + 1)).2 = (stW (aV a) (aM a) ((cW (aV a) (aM a) j s).1, (cW (aV a) (aM a) j s).2)).2 := rfl
        have g3 : df (cW (aV a) (aM a) j s).2 (Cp (aV a) (aM a) j s) = lyW (aV a) (aM a) j s := rfl
        rw [← g1, g3] at e1
        rw [← g2, g3] at e2 e3
        rw [t2, nI_or, nI_or, e1, e3, e2, nI_1]
        rw [fsW, if_neg h0] at hr
        exact J.weak (by simp [lsub, lyW, Cp]) (ih (s + 1) _ (by omega) hD hr)
  refine J.of tk_X8_farthestChecks 200 fun ρ hρ => ?_
  simp only [hρ, x_c, x_il, x_ll, x_al, x_is, x_as, x_ls, x_inc, x_ii, x_iq, x_i1, x_l2, x_lq, x_lh, x_i2l, x_l2i, x_lcmp, x_dup, x_dup2, x_pop, x_if, x_ifn, x_ic, x_icn, x_go, x_sw, swc, x_l01, x_mx, x_gI, x_gL, x_gR, x_pI, x_pZ, x_pL, x_pR, x_ia, x_za, x_aa, x_ias, x_zas, x_aas, x_fac, x_fa, x_slen, x_sa, x_ac, x_oi, x_new, x_na, x_cS, x_cV, x_cI, x_rI, x_rZ, x_rL, x_r0, pa, short, oc, lg, lset, lset2, wide, cond_true, cond_false, true_and, and_true, ↓reduceIte, Bool.false_eq_true, true_or, or_true, lf_X8_farthestChecks, hk, hk.f, h5, h5.f, P_X5_checksOver, eq_true (hsr.ovq ha)]
  refine ⟨⟨j, by omega, rfl⟩, ?_⟩
  rw [tn_nI (n := j) (by omega), hsr.co ha, shl1 (by omega), co_0]
  have := key 6 0 (cW (aV a) (aM a) j 0).2 rfl (hW 0).2 rfl
  rw [lyW, Cp, df_0] at this
  exact this
/-- of some checks the first of those over the fewest bits -/
def gcF (ov : Nat → Nat) (F : Nat) : Nat → Nat × Int32
  | 0 => (10, -1)
  | c + 1 => if F.testBit c = true ∧ ones9 (ov c) < (gcF ov F c).1 then (ones9 (ov c), nI c) else gcF ov F c
theorem gcF_le (ov : Nat → Nat) (F : Nat) : ∀ c, (gcF ov F c).1 ≤ 10
  | 0 => Nat.le_refl _
  | c + 1 => by
    have := ones9_le (ov c)
    have := gcF_le ov F c
    simp only [gcF]
    split
    · simp only; omega
    · assumption
theorem faW_lt {ov : Nat → Nat} {m b : Nat} (hm : m ≤ 6) (hW : ∀ s, (cW ov m b s).2 < 64) : faW ov m b < 64 := by
  have hf : ∀ l s last, last < 64 → (fsW ov m b l s last).2 < 64 := by
    intro l
    induction l with
    | zero => intro s last h; exact h
    | succ l ih =>
      intro s last h
      simp only [fsW]
      split
      · exact h
      · exact ih _ _ (df_lt (N := 6) (hW s))
  unfold faW
  split
  · exact df_lt (N := 6) (by have := pow6 hm; omega)
  · exact hf _ _ _ (hW 0)
def cgA (a : AS) (b : Nat) : Int32 := (gcF (aV a) (faW (aV a) (aM a) b) (aM a)).2
def il_X8_checkToGrowInto : List (Nat × Instr × Nat) := [(0, .aload_n 0, 1), (1, .iload_n 1, 1), (2, .invokevirtual 42, 3), (5, .istore_n 2, 1), (6, .iconst (-1), 1), (7, .istore_n 3, 1), (8, .bipush 10, 2), (10, .istore 4, 2), (12, .iconst 0, 1), (13, .istore 5, 2), (15, .iload 5, 2), (17, .aload_n 0, 1), (18, .getfield 9, 3), (21, .getfield 15, 3), (24, .if_icmp .ge 47, 3), (27, .aload_n 0, 1), (28, .getfield 9, 3), (31, .getfield 45, 3), (34, .iload 5, 2), (36, .iaload, 1), (37, .invokestatic 49, 3), (40, .istore 6, 2), (42, .iload_n 2, 1), (43, .iload 5, 2), (45, .ishr, 1), (46, .iconst 1, 1), (47, .iand, 1), (48, .ifCond .eq 17, 3), (51, .iload 6, 2), (53, .iload 4, 2), (55, .if_icmp .ge 10, 3), (58, .iload 6, 2), (60, .istore 4, 2), (62, .iload 5, 2), (64, .istore_n 3, 1), (65, .iinc 5 1, 3), (68, .goto (-53), 3), (71, .iload_n 3, 1), (72, .ireturn, 1)]
def mt_X8_checkToGrowInto : Mt := (cX8_checkToGrowInto, RX8, 7, (some .int), ({ frames := 2, cells := 0, slots := 0, locals := 50 } : Room), false, none, none)
set_option maxRecDepth 100000 in
theorem dl_X8_checkToGrowInto : ∀ q ∈ il_X8_checkToGrowInto, decode (mt_X8_checkToGrowInto).1 q.1 = .ok q.2 := by decide +kernel
def tb_X8_checkToGrowInto : Tb := [(0, x_al 1 0, false),
  (1, x_il 2 1, false),
  (2, x_cV 8 1 P_X8_farthestChecks 5, false),
  (5, x_is 6 2, false),
  (6, x_c 7 (.int (-1)), false),
  (7, x_is 8 3, false),
  (8, x_c 10 (.int 10), false),
  (10, x_is 12 4, false),
  (12, x_c 13 (.int 0), false),
  (13, x_is 15 5, false),
  (15, x_il 17 5, true),
  (17, x_al 18 0, false),
  (18, x_gR 8 0 21, false),
  (21, x_gI 5 5 24, false),
  (24, x_ic 71 27 (fun x y : Int32 => y ≤ x), false),
  (27, x_al 28 0, false),
  (28, x_gR 8 0 31, false),
  (31, x_gR 5 0 34, false),
  (34, x_il 36 5, false),
  (36, x_ia 37, false),
  (37, x_cS 1 P_J6_bitCount_0f7a4 40, false),
  (40, x_is 42 6, false),
  (42, x_il 43 2, false),
  (43, x_il 45 5, false),
  (45, x_ii 46 (fun x y : Int32 => x >>> (y &&& 31)), false),
  (46, x_c 47 (.int 1), false),
  (47, x_ii 48 (fun x y : Int32 => x &&& y), false),
  (48, x_if 65 51 (fun x : Int32 => x = 0), false),
  (51, x_il 53 6, false),
  (53, x_il 55 4, false),
  (55, x_ic 65 58 (fun x y : Int32 => y ≤ x), false),
  (58, x_il 60 6, false),
  (60, x_is 62 4, false),
  (62, x_il 64 5, false),
  (64, x_is 65 3, false),
  (65, x_inc 68 5 1, false),
  (68, x_go 15, false),
  (71, x_il 72 3, false),
  (72, x_rI, false)]
set_option maxRecDepth 100000 in
theorem tk_X8_checkToGrowInto : TbOk (mt_X8_checkToGrowInto) (tb_X8_checkToGrowInto) :=
  tkc (s_aload_n (at_ dl_X8_checkToGrowInto 0 (ins := .aload_n 0) rfl)) (
  tkc (s_iload_n (at_ dl_X8_checkToGrowInto 1 (ins := .iload_n 1) rfl)) (
  tkc (s_cV ok_X8_farthestChecks (at_ dl_X8_checkToGrowInto 2 (ins := .invokevirtual 42) rfl) (by decide) rfl (tg 531 (by decide +kernel) (by decide +kernel)) (tg 533 (by decide +kernel) (by decide +kernel)) (tg 13 (by decide +kernel) (by decide +kernel)) (tg 47 (by decide +kernel) (by decide +kernel)) (tg 534 (by decide +kernel) (by decide +kernel)) (⟨by decide, by decide, by decide +kernel⟩) (⟨by decide, by decide⟩) rfl rfl) (
  tkc (s_istore_n (at_ dl_X8_checkToGrowInto 3 (ins := .istore_n 2) rfl) (by decide)) (
  tkc (s_iconst (at_ dl_X8_checkToGrowInto 4 (ins := .iconst (-1)) rfl) (by first | rfl | decide)) (
  tkc (s_istore_n (at_ dl_X8_checkToGrowInto 5 (ins := .istore_n 3) rfl) (by decide)) (
  tkc (s_bipush (at_ dl_X8_checkToGrowInto 6 (ins := .bipush 10) rfl) (by first | rfl | decide)) (
  tkc (s_istore (at_ dl_X8_checkToGrowInto 7 (ins := .istore 4) rfl) (by decide)) (
  tkc (s_iconst (at_ dl_X8_checkToGrowInto 8 (ins := .iconst 0) rfl) (by first | rfl | decide)) (
  tkc (s_istore (at_ dl_X8_checkToGrowInto 9 (ins := .istore 5) rfl) (by decide)) (
  tkc (s_iload (at_ dl_X8_checkToGrowInto 10 (ins := .iload 5) rfl)) (
  tkc (s_aload_n (at_ dl_X8_checkToGrowInto 11 (ins := .aload_n 0) rfl)) (
  tkc (s_gR (at_ dl_X8_checkToGrowInto 12 (ins := .getfield 9) rfl) (by decide) (by decide) (by decide) (tg 200 (by decide +kernel) (by decide +kernel))) (
  tkc (s_gI (at_ dl_X8_checkToGrowInto 13 (ins := .getfield 15) rfl) (by decide) (by decide) (by decide) (tg 140 (by decide +kernel) (by decide +kernel))) (
  tkc (s_ic_ge (at_ dl_X8_checkToGrowInto 14 (ins := .if_icmp .ge 47) rfl) (by decide)) (
  tkc (s_aload_n (at_ dl_X8_checkToGrowInto 15 (ins := .aload_n 0) rfl)) (
  tkc (s_gR (at_ dl_X8_checkToGrowInto 16 (ins := .getfield 9) rfl) (by decide) (by decide) (by decide) (tg 200 (by decide +kernel) (by decide +kernel))) (
  tkc (s_gR (at_ dl_X8_checkToGrowInto 17 (ins := .getfield 45) rfl) (by decide) (by decide) (by decide) (tg 123 (by decide +kernel) (by decide +kernel))) (
  tkc (s_iload (at_ dl_X8_checkToGrowInto 18 (ins := .iload 5) rfl)) (
  tkc (s_ia (at_ dl_X8_checkToGrowInto 19 (ins := .iaload) rfl)) (
  tkc (s_cS ok_J6_bitCount_0f7a4 (at_ dl_X8_checkToGrowInto 20 (ins := .invokestatic 49) rfl) (tg 536 (by decide +kernel) (by decide +kernel)) (tg 374 (by decide +kernel) (by decide +kernel)) (tg 53 (by decide +kernel) (by decide +kernel)) (tg 375 (by decide +kernel) (by decide +kernel)) (⟨by decide, by decide, by decide +kernel⟩) (⟨by decide, by decide⟩) rfl rfl) (
  tkc (s_istore (at_ dl_X8_checkToGrowInto 21 (ins := .istore 6) rfl) (by decide)) (
  tkc (s_iload_n (at_ dl_X8_checkToGrowInto 22 (ins := .iload_n 2) rfl)) (
  tkc (s_iload (at_ dl_X8_checkToGrowInto 23 (ins := .iload 5) rfl)) (
  tkc (s_ishr (at_ dl_X8_checkToGrowInto 24 (ins := .ishr) rfl)) (
  tkc (s_iconst (at_ dl_X8_checkToGrowInto 25 (ins := .iconst 1) rfl) (by first | rfl | decide)) (
  tkc (s_iand (at_ dl_X8_checkToGrowInto 26 (ins := .iand) rfl)) (
  tkc (s_if_eq (at_ dl_X8_checkToGrowInto 27 (ins := .ifCond .eq 17) rfl) (by decide)) (
  tkc (s_iload (at_ dl_X8_checkToGrowInto 28 (ins := .iload 6) rfl)) (
  tkc (s_iload (at_ dl_X8_checkToGrowInto 29 (ins := .iload 4) rfl)) (
  tkc (s_ic_ge (at_ dl_X8_checkToGrowInto 30 (ins := .if_icmp .ge 10) rfl) (by decide)) (
  tkc (s_iload (at_ dl_X8_checkToGrowInto 31 (ins := .iload 6) rfl)) (
  tkc (s_istore (at_ dl_X8_checkToGrowInto 32 (ins := .istore 4) rfl) (by decide)) (
  tkc (s_iload (at_ dl_X8_checkToGrowInto 33 (ins := .iload 5) rfl)) (
  tkc (s_istore_n (at_ dl_X8_checkToGrowInto 34 (ins := .istore_n 3) rfl) (by decide)) (
  tkc (s_iinc (at_ dl_X8_checkToGrowInto 35 (ins := .iinc 5 1) rfl) (by decide) (by first | rfl | decide)) (
  tkc (s_goto (at_ dl_X8_checkToGrowInto 36 (ins := .goto (-53)) rfl) (by decide)) (
  tkc (s_iload_n (at_ dl_X8_checkToGrowInto 37 (ins := .iload_n 3) rfl)) (
  tkc (s_rI (at_ dl_X8_checkToGrowInto 38 (ins := .ireturn) rfl) rfl) ( tk0)))))))))))))))))))))))))))))))))))))))
theorem lf_X8_checkToGrowInto : lk (tb_X8_checkToGrowInto) 0 = (x_al 1 0, false) ∧ lk (tb_X8_checkToGrowInto) 1 = (x_il 2 1, false) ∧ lk (tb_X8_checkToGrowInto) 2 = (x_cV 8 1 P_X8_farthestChecks 5, false) ∧ lk (tb_X8_checkToGrowInto) 5 = (x_is 6 2, false) ∧ lk (tb_X8_checkToGrowInto) 6 = (x_c 7 (.int (-1)), false) ∧ lk (tb_X8_checkToGrowInto) 7 = (x_is 8 3, false) ∧ lk (tb_X8_checkToGrowInto) 8 = (x_c 10 (.int 10), false) ∧ lk (tb_X8_checkToGrowInto) 10 = (x_is 12 4, false) ∧ lk (tb_X8_checkToGrowInto) 12 = (x_c 13 (.int 0), false) ∧ lk (tb_X8_checkToGrowInto) 13 = (x_is 15 5, false) ∧ lk (tb_X8_checkToGrowInto) 15 = (x_il 17 5, true) ∧ lk (tb_X8_checkToGrowInto) 17 = (x_al 18 0, false) ∧ lk (tb_X8_checkToGrowInto) 18 = (x_gR 8 0 21, false) ∧ lk (tb_X8_checkToGrowInto) 21 = (x_gI 5 5 24, false) ∧ lk (tb_X8_checkToGrowInto) 24 = (x_ic 71 27 (fun x y : Int32 => y ≤ x), false) ∧ lk (tb_X8_checkToGrowInto) 27 = (x_al 28 0, false) ∧ lk (tb_X8_checkToGrowInto) 28 = (x_gR 8 0 31, false) ∧ lk (tb_X8_checkToGrowInto) 31 = (x_gR 5 0 34, false) ∧ lk (tb_X8_checkToGrowInto) 34 = (x_il 36 5, false) ∧ lk (tb_X8_checkToGrowInto) 36 = (x_ia 37, false) ∧ lk (tb_X8_checkToGrowInto) 37 = (x_cS 1 P_J6_bitCount_0f7a4 40, false) ∧ lk (tb_X8_checkToGrowInto) 40 = (x_is 42 6, false) ∧ lk (tb_X8_checkToGrowInto) 42 = (x_il 43 2, false) ∧ lk (tb_X8_checkToGrowInto) 43 = (x_il 45 5, false) ∧ lk (tb_X8_checkToGrowInto) 45 = (x_ii 46 (fun x y : Int32 => x >>> (y &&& 31)), false) ∧ lk (tb_X8_checkToGrowInto) 46 = (x_c 47 (.int 1), false) ∧ lk (tb_X8_checkToGrowInto) 47 = (x_ii 48 (fun x y : Int32 => x &&& y), false) ∧ lk (tb_X8_checkToGrowInto) 48 = (x_if 65 51 (fun x : Int32 => x = 0), false) ∧ lk (tb_X8_checkToGrowInto) 51 = (x_il 53 6, false) ∧ lk (tb_X8_checkToGrowInto) 53 = (x_il 55 4, false) ∧ lk (tb_X8_checkToGrowInto) 55 = (x_ic 65 58 (fun x y : Int32 => y ≤ x), false) ∧ lk (tb_X8_checkToGrowInto) 58 = (x_il 60 6, false) ∧ lk (tb_X8_checkToGrowInto) 60 = (x_is 62 4, false) ∧ lk (tb_X8_checkToGrowInto) 62 = (x_il 64 5, false) ∧ lk (tb_X8_checkToGrowInto) 64 = (x_is 65 3, false) ∧ lk (tb_X8_checkToGrowInto) 65 = (x_inc 68 5 1, false) ∧ lk (tb_X8_checkToGrowInto) 68 = (x_go 15, false) ∧ lk (tb_X8_checkToGrowInto) 71 = (x_il 72 3, false) ∧ lk (tb_X8_checkToGrowInto) 72 = (x_rI, false) := ⟨rfl, rfl, rfl, rfl, rfl, rfl, rfl, rfl, rfl, rfl, rfl, rfl, rfl, rfl, rfl, rfl, rfl, rfl, rfl, rfl, rfl, rfl, rfl, rfl, rfl, rfl, rfl, rfl, rfl, rfl, rfl, rfl, rfl, rfl, rfl, rfl, rfl, rfl, rfl⟩
def P_X8_checkToGrowInto : PTT := fun as M R => match as with
  | [.ref k, .int b] => k = 18 ∧ IsWa M.1 ∧ IsSt M.1 5 ∧ ∃ a, SR M.2.1 5 a ∧ AOk a ∧ tn b < aN a ∧ R (some (.int (cgA a (tn b)))) M
  | _ => False
set_option maxRecDepth 20000 in
theorem ok_X8_checkToGrowInto : Ok yX8_checkToGrowInto mt_X8_checkToGrowInto P_X8_checkToGrowInto := by
  refine Ok.of (by decide) rfl rfl rfl rfl fun av ⟨S, I, L⟩ R hP => ?_
  unfold P_X8_checkToGrowInto at hP
  split at hP
  case h_2 => exact hP.elim
  rename_i k b
  obtain ⟨k, rfl⟩ : ∃ q : Nat, q = k := ⟨k, rfl⟩
  refine ⟨by simp [ent, wide, mt_X8_checkToGrowInto], ?_⟩
  show J mt_X8_checkToGrowInto R 0 [some (.ref k), some (.int b), none, none, none, none, none] [] (S, I, L)
  try dsimp only at hP
  obtain ⟨rfl, hk, h5, a, hsr, ha, hb, hR⟩ := hP
  have h9 := ha.1
  obtain ⟨j, hj, rfl⟩ := tn_ex (Nat.lt_trans hb (show aN a < 512 by omega))
  have tj : tn (nI j) = j := tn_nI (by omega)
  rw [tj] at hR hb
  have em : I 5 5 = nI (aM a) := hsr.2.1
  have hF := faW_lt (ov := aV a) (b := j) h9.2.2 (fun s => (cW_lt (ov := aV a) h9.2.2 hb ha.2.1 s).2)
  have key := up (P := fun c => J mt_X8_checkToGrowInto R 15 [some (.ref 18), some (.int (nI j)), some (.int (nI (faW (aV a) (aM a) j))), some (.int (gcF (aV a) (faW (aV a) (aM a) j) c).2), some (.int (nI (gcF (aV a) (faW (aV a) (aM a) j) c).1)), some (.int (nI c)), none] [] (S, I, L)) (n := aM a) (fun c hc ih => ?_) 0 (Nat.zero_le _)
  · refine J.of tk_X8_checkToGrowInto 200 fun ρ hρ => ?_
    simp only [hρ, x_c, x_il, x_ll, x_al, x_is, x_as, x_ls, x_inc, x_ii, x_iq, x_i1, x_l2, x_lq, x_lh, x_i2l, x_l2i, x_lcmp, x_dup, x_dup2, x_pop, x_if, x_ifn, x_ic, x_icn, x_go, x_sw, swc, x_l01, x_mx, x_gI, x_gL, x_gR, x_pI, x_pZ, x_pL, x_pR, x_ia, x_za, x_aa, x_ias, x_zas, x_aas, x_fac, x_fa, x_slen, x_sa, x_ac, x_oi, x_new, x_na, x_cS, x_cV, x_cI, x_rI, x_rZ, x_rL, x_r0, pa, short, oc, lg, lset, lset2, wide, cond_true, cond_false, true_and, and_true, ↓reduceIte, Bool.false_eq_true, true_or, or_true, lf_X8_checkToGrowInto, hk, hk.f, h5, h5.f, P_X8_farthestChecks, tj]
    exact ⟨a, hsr, ha, hb, key⟩
  by_cases hlt : c < aM a
  · have ov : I 6 c = nI (aV a c) := hsr.2.2.2.2.1 c hlt
    have hv := ha.v hlt
    have tv : tn (nI (aV a c)) = aV a c := tn_nI (by omega)
    have o9 := ones9_le (aV a c)
    have g9 := gcF_le (aV a) (faW (aV a) (aM a) j) c
    refine J.of tk_X8_checkToGrowInto 200 fun ρ hρ => ?_
    simp only [hρ, x_c, x_il, x_ll, x_al, x_is, x_as, x_ls, x_inc, x_ii, x_iq, x_i1, x_l2, x_lq, x_lh, x_i2l, x_l2i, x_lcmp, x_dup, x_dup2, x_pop, x_if, x_ifn, x_ic, x_icn, x_go, x_sw, swc, x_l01, x_mx, x_gI, x_gL, x_gR, x_pI, x_pZ, x_pL, x_pR, x_ia, x_za, x_aa, x_ias, x_zas, x_aas, x_fac, x_fa, x_slen, x_sa, x_ac, x_oi, x_new, x_na, x_cS, x_cV, x_cI, x_rI, x_rZ, x_rL, x_r0, pa, short, oc, lg, lset, lset2, wide, cond_true, cond_false, true_and, and_true, ↓reduceIte, Bool.false_eq_true, true_or, or_true, lf_X8_checkToGrowInto, hk, hk.f, h5, h5.f, em, ov, tv, hv, Nat.reduceAdd, P_J6_bitCount_0f7a4, nI_leI (show aM a < 2 ^ 31 by omega) (show c < 2 ^ 31 by omega), nI_leI (show (gcF (aV a) (faW (aV a) (aM a) j) c).1 < 2 ^ 31 by omega) (show ones9 (aV a c) < 2 ^ 31 by omega), ncl (show c < 2 ^ 31 by omega), nI_1, bit_c (show faW (aV a) (aM a) j < 2 ^ 31 by omega) (show c < 31 by omega), Classical.not_not]
    have := ih hlt
    refine ⟨fun h => absurd h (by omega), fun _ => ⟨vp_in_nI (by omega) (by omega), fun h => ?_, fun h => ⟨fun h2 => ?_, fun h2 => ?_⟩⟩⟩
    · rw [gcF, if_neg (fun q => h q.1)] at this
      exact J.weak (by simp [lsub]) this
    · rw [gcF, if_neg (fun q => by omega)] at this
      exact J.weak (by simp [lsub]) this
    · rw [gcF, if_pos ⟨h, by omega⟩] at this
      exact J.weak (by simp [lsub]) this
  · have : c = aM a := by omega
    subst this
    refine J.of tk_X8_checkToGrowInto 200 fun ρ hρ => ?_
    simp only [hρ, x_c, x_il, x_ll, x_al, x_is, x_as, x_ls, x_inc, x_ii, x_iq, x_i1, x_l2, x_lq, x_lh, x_i2l, x_l2i, x_lcmp, x_dup, x_dup2, x_pop, x_if, x_ifn, x_ic, x_icn, x_go, x_sw, swc, x_l01, x_mx, x_gI, x_gL, x_gR, x_pI, x_pZ, x_pL, x_pR, x_ia, x_za, x_aa, x_ias, x_zas, x_aas, x_fac, x_fa, x_slen, x_sa, x_ac, x_oi, x_new, x_na, x_cS, x_cV, x_cI, x_rI, x_rZ, x_rL, x_r0, pa, short, oc, lg, lset, lset2, wide, cond_true, cond_false, true_and, and_true, ↓reduceIte, Bool.false_eq_true, true_or, or_true, lf_X8_checkToGrowInto, hk, hk.f, h5, h5.f, em, nI_leI (show aM a < 2 ^ 31 by omega) (show aM a < 2 ^ 31 by omega), Nat.le_refl, true_implies, not_true_eq_false, false_implies]
    exact hR
