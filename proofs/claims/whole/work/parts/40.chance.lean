/-! CHANCE, DRAWN -/
def wtN (n x s : Nat) : Nat := x ^ ones9 s * (10 - x) ^ (n - ones9 s)
def wtS (n x : Nat) : Nat → Nat
  | 0 => 0
  | s + 1 => wtS n x s + wtN n x s
set_option maxRecDepth 100000 in
theorem wtS_all : ∀ n, n < 10 → ∀ x, x < 11 → wtS n x (2 ^ n) = 10 ^ n := by decide +kernel
theorem wtS_mono {n x s : Nat} : ∀ {t : Nat}, s ≤ t → wtS n x s ≤ wtS n x t
  | 0, h => by have : s = 0 := by omega
               subst this; exact Nat.le_refl _
  | t + 1, h => by
    by_cases e : s = t + 1
    · subst e; exact Nat.le_refl _
    · exact Nat.le_trans (wtS_mono (show s ≤ t by omega)) (Nat.le_add_right _ _)
/-- the weights of the sets below s by which it ends empty -/
def chS (a : AS) (v : Int32) (x : Nat) : Nat → Nat
  | 0 => 0
  | s + 1 => chS a v x s + (if wdA (runA (slA a s v) id) = 0 then wtN (aN a) x s else 0)
theorem chS_le (a : AS) (v : Int32) (x : Nat) : ∀ s, chS a v x s ≤ wtS (aN a) x s
  | 0 => Nat.le_refl _
  | s + 1 => by
    have := chS_le a v x s
    simp only [chS, wtS]
    split <;> omega
theorem ten9 {n : Nat} (h : n ≤ 9) : 10 ^ n ≤ 10 ^ 9 := Nat.pow_le_pow_right (by omega) h
theorem chS_lt {a : AS} {v : Int32} {x s : Nat} (hn : aN a ≤ 9) (hx : x ≤ 10) (hs : s ≤ 2 ^ aN a) : chS a v x s ≤ 10 ^ 9 := by
  refine Nat.le_trans (chS_le a v x s) (Nat.le_trans (wtS_mono hs) ?_)
  rw [wtS_all (aN a) (by omega) x (by omega)]
  exact ten9 hn
theorem ones_n : ∀ n, n < 10 → ∀ s, s < 2 ^ n → ones9 s ≤ n := by decide +kernel
def gChance (g : GS) (v x u : Int32) : Int32 := if (v < 1 ∨ 31 < v) ∨ x < 0 ∨ ¬ x ≤ 10 then -2 else ltA (chS (gA g) v (tn x) (2 ^ aN (gA g))) (10 ^ aN (gA g)) u
theorem le10 {x : Int32} (h1 : ¬ x < 0) (h2 : x ≤ 10) : ∃ r, r ≤ 10 ∧ x = nI r := by
  rcases pk_ix x (n := 11) (by omega) with h | h | ⟨j, hj, rfl⟩
  · exact absurd h h1
  · exact absurd (Int32.le_trans h h2) (by decide)
  · exact ⟨j, by omega, rfl⟩
theorem wtN_lt {n x s : Nat} (hn : n ≤ 9) (hx : x ≤ 10) (hs : s < 2 ^ n) : wtN n x s ≤ 10 ^ 9 := by
  have h1 : wtN n x s ≤ wtS n x (s + 1) := by simp only [wtS]; omega
  have h2 := wtS_mono (n := n) (x := x) (show s + 1 ≤ 2 ^ n by omega)
  rw [wtS_all n (by omega) x (by omega)] at h2
  exact Nat.le_trans h1 (Nat.le_trans h2 (ten9 hn))
theorem slF_eq {l l' : Nat → Int32} {s n : Nat} {v : Int32} (h : ∀ b, n ≤ b → l b = l' b) : slF l s v n = slF l' s v n := by
  funext b
  simp only [slF]
  split
  · rfl
  · exact h b (by omega)
def il_X9_chance : List (Nat × Instr × Nat) := [(0, .iload_n 1, 1), (1, .iconst 1, 1), (2, .if_icmp .lt 19, 3), (5, .iload_n 1, 1), (6, .bipush 31, 2), (8, .if_icmp .gt 13, 3), (11, .iload_n 2, 1), (12, .ifCond .lt 9, 3), (15, .iload_n 2, 1), (16, .bipush 10, 2), (18, .if_icmp .le 6, 3), (21, .bipush (-2), 2), (23, .ireturn, 1), (24, .lconst 0, 1), (25, .lstore 4, 2), (27, .aload_n 0, 1), (28, .getfield 23, 3), (31, .aload_n 0, 1), (32, .getfield 19, 3), (35, .invokevirtual 219, 3), (38, .iconst 0, 1), (39, .istore 6, 2), (41, .iload 6, 2), (43, .iconst 1, 1), (44, .aload_n 0, 1), (45, .getfield 19, 3), (48, .getfield 101, 3), (51, .ishl, 1), (52, .if_icmp .ge 66, 3), (55, .iload 6, 2), (57, .invokestatic 185, 3), (60, .istore 7, 2), (62, .iload_n 2, 1), (63, .iload 7, 2), (65, .invokestatic 245, 3), (68, .bipush 10, 2), (70, .iload_n 2, 1), (71, .isub, 1), (72, .aload_n 0, 1), (73, .getfield 19, 3), (76, .getfield 101, 3), (79, .iload 7, 2), (81, .isub, 1), (82, .invokestatic 245, 3), (85, .lmul, 1), (86, .lstore 8, 2), (88, .lload 8, 2), (90, .lconst 0, 1), (91, .lcmp, 1), (92, .ifCond .eq 20, 3), (95, .aload_n 0, 1), (96, .iload 6, 2), (98, .iload_n 1, 1), (99, .invokevirtual 249, 3), (102, .ifCond .eq 10, 3), (105, .lload 4, 2), (107, .lload 8, 2), (109, .ladd, 1), (110, .lstore 4, 2), (112, .iinc 6 1, 3), (115, .goto (-74), 3), (118, .lload 4, 2), (120, .bipush 10, 2), (122, .aload_n 0, 1), (123, .getfield 19, 3), (126, .getfield 101, 3), (129, .invokestatic 245, 3), (132, .iload_n 3, 1), (133, .invokestatic 241, 3), (136, .ireturn, 1)]
def mt_X9_chance : Mt := (cX9_chance, RX9, 10, (some .int), ({ frames := 5, cells := 0, slots := 0, locals := 123 } : Room), false, none, none)
set_option maxRecDepth 100000 in
theorem dl_X9_chance : ∀ q ∈ il_X9_chance, decode (mt_X9_chance).1 q.1 = .ok q.2 := by decide +kernel
def tb_X9_chance : Tb := [(0, x_il 1 1, false),
  (1, x_c 2 (.int 1), false),
  (2, x_ic 21 5 (fun x y : Int32 => x < y), false),
  (5, x_il 6 1, false),
  (6, x_c 8 (.int 31), false),
  (8, x_ic 21 11 (fun x y : Int32 => y < x), false),
  (11, x_il 12 2, false),
  (12, x_if 21 15 (fun x : Int32 => x < 0), false),
  (15, x_il 16 2, false),
  (16, x_c 18 (.int 10), false),
  (18, x_ic 24 21 (fun x y : Int32 => x ≤ y), false),
  (21, x_c 23 (.int (-2)), false),
  (23, x_rI, false),
  (24, x_c 25 (.long 0), false),
  (25, x_ls 27 4, false),
  (27, x_al 28 0, false),
  (28, x_gR 9 2 31, false),
  (31, x_al 32 0, false),
  (32, x_gR 9 1 35, false),
  (35, x_cV 5 1 P_X5_becomeLike 38, false),
  (38, x_c 39 (.int 0), false),
  (39, x_is 41 6, false),
  (41, x_il 43 6, true),
  (43, x_c 44 (.int 1), false),
  (44, x_al 45 0, false),
  (45, x_gR 9 1 48, false),
  (48, x_gI 5 4 51, false),
  (51, x_ii 52 (fun x y : Int32 => x <<< (y &&& 31)), false),
  (52, x_ic 118 55 (fun x y : Int32 => y ≤ x), false),
  (55, x_il 57 6, false),
  (57, x_cS 1 P_J6_bitCount_0f7a4 60, false),
  (60, x_is 62 7, false),
  (62, x_il 63 2, false),
  (63, x_il 65 7, false),
  (65, x_cS 2 P_X9_power 68, false),
  (68, x_c 70 (.int 10), false),
  (70, x_il 71 2, false),
  (71, x_ii 72 (fun x y : Int32 => x - y), false),
  (72, x_al 73 0, false),
  (73, x_gR 9 1 76, false),
  (76, x_gI 5 4 79, false),
  (79, x_il 81 7, false),
  (81, x_ii 82 (fun x y : Int32 => x - y), false),
  (82, x_cS 2 P_X9_power 85, false),
  (85, x_l2 86 (fun x y : Int64 => x * y), false),
  (86, x_ls 88 8, false),
  (88, x_ll 90 8, false),
  (90, x_c 91 (.long 0), false),
  (91, x_lcmp 92, false),
  (92, x_if 112 95 (fun x : Int32 => x = 0), false),
  (95, x_al 96 0, false),
  (96, x_il 98 6, false),
  (98, x_il 99 1, false),
  (99, x_cV 9 2 P_X9_endsEmpty 102, false),
  (102, x_if 112 105 (fun x : Int32 => x = 0), false),
  (105, x_ll 107 4, false),
  (107, x_ll 109 8, false),
  (109, x_l2 110 (fun x y : Int64 => x + y), false),
  (110, x_ls 112 4, false),
  (112, x_inc 115 6 1, false),
  (115, x_go 41, false),
  (118, x_ll 120 4, true),
  (120, x_c 122 (.int 10), false),
  (122, x_al 123 0, false),
  (123, x_gR 9 1 126, false),
  (126, x_gI 5 4 129, false),
  (129, x_cS 2 P_X9_power 132, false),
  (132, x_il 133 3, false),
  (133, x_cS 3 P_X9_inLeastTerms 136, false),
  (136, x_rI, false)]
set_option maxRecDepth 100000 in
theorem tk_X9_chance : TbOk (mt_X9_chance) (tb_X9_chance) :=
  tkc (s_iload_n (at_ dl_X9_chance 0 (ins := .iload_n 1) rfl)) (
  tkc (s_iconst (at_ dl_X9_chance 1 (ins := .iconst 1) rfl) (by first | rfl | decide)) (
  tkc (s_ic_lt (at_ dl_X9_chance 2 (ins := .if_icmp .lt 19) rfl) (by decide)) (
  tkc (s_iload_n (at_ dl_X9_chance 3 (ins := .iload_n 1) rfl)) (
  tkc (s_bipush (at_ dl_X9_chance 4 (ins := .bipush 31) rfl) (by first | rfl | decide)) (
  tkc (s_ic_gt (at_ dl_X9_chance 5 (ins := .if_icmp .gt 13) rfl) (by decide)) (
  tkc (s_iload_n (at_ dl_X9_chance 6 (ins := .iload_n 2) rfl)) (
  tkc (s_if_lt (at_ dl_X9_chance 7 (ins := .ifCond .lt 9) rfl) (by decide)) (
  tkc (s_iload_n (at_ dl_X9_chance 8 (ins := .iload_n 2) rfl)) (
  tkc (s_bipush (at_ dl_X9_chance 9 (ins := .bipush 10) rfl) (by first | rfl | decide)) (
  tkc (s_ic_le (at_ dl_X9_chance 10 (ins := .if_icmp .le 6) rfl) (by decide)) (
  tkc (s_bipush (at_ dl_X9_chance 11 (ins := .bipush (-2)) rfl) (by first | rfl | decide)) (
  tkc (s_rI (at_ dl_X9_chance 12 (ins := .ireturn) rfl) rfl) (
  tkc (s_lconst (at_ dl_X9_chance 13 (ins := .lconst 0) rfl) (by first | rfl | decide)) (
  tkc (s_lstore (at_ dl_X9_chance 14 (ins := .lstore 4) rfl) (by decide)) (
  tkc (s_aload_n (at_ dl_X9_chance 15 (ins := .aload_n 0) rfl)) (
  tkc (s_gR (at_ dl_X9_chance 16 (ins := .getfield 23) rfl) (by decide) (by decide) (by decide) (tg 256 (by decide +kernel) (by decide +kernel))) (
  tkc (s_aload_n (at_ dl_X9_chance 17 (ins := .aload_n 0) rfl)) (
  tkc (s_gR (at_ dl_X9_chance 18 (ins := .getfield 19) rfl) (by decide) (by decide) (by decide) (tg 255 (by decide +kernel) (by decide +kernel))) (
  tkc (s_cV ok_X5_becomeLike (at_ dl_X9_chance 19 (ins := .invokevirtual 219) rfl) (by decide) rfl (tg 443 (by decide +kernel) (by decide +kernel)) (tg 444 (by decide +kernel) (by decide +kernel)) (tg 445 (by decide +kernel) (by decide +kernel)) (tg 45 (by decide +kernel) (by decide +kernel)) (tg 446 (by decide +kernel) (by decide +kernel)) (⟨by decide, by decide, by decide +kernel⟩) (⟨by decide, by decide⟩) rfl rfl) (
  tkc (s_iconst (at_ dl_X9_chance 20 (ins := .iconst 0) rfl) (by first | rfl | decide)) (
  tkc (s_istore (at_ dl_X9_chance 21 (ins := .istore 6) rfl) (by decide)) (
  tkc (s_iload (at_ dl_X9_chance 22 (ins := .iload 6) rfl)) (
  tkc (s_iconst (at_ dl_X9_chance 23 (ins := .iconst 1) rfl) (by first | rfl | decide)) (
  tkc (s_aload_n (at_ dl_X9_chance 24 (ins := .aload_n 0) rfl)) (
  tkc (s_gR (at_ dl_X9_chance 25 (ins := .getfield 19) rfl) (by decide) (by decide) (by decide) (tg 255 (by decide +kernel) (by decide +kernel))) (
  tkc (s_gI (at_ dl_X9_chance 26 (ins := .getfield 101) rfl) (by decide) (by decide) (by decide) (tg 137 (by decide +kernel) (by decide +kernel))) (
  tkc (s_ishl (at_ dl_X9_chance 27 (ins := .ishl) rfl)) (
  tkc (s_ic_ge (at_ dl_X9_chance 28 (ins := .if_icmp .ge 66) rfl) (by decide)) (
  tkc (s_iload (at_ dl_X9_chance 29 (ins := .iload 6) rfl)) (
  tkc (s_cS ok_J6_bitCount_0f7a4 (at_ dl_X9_chance 30 (ins := .invokestatic 185) rfl) (tg 514 (by decide +kernel) (by decide +kernel)) (tg 374 (by decide +kernel) (by decide +kernel)) (tg 53 (by decide +kernel) (by decide +kernel)) (tg 375 (by decide +kernel) (by decide +kernel)) (⟨by decide, by decide, by decide +kernel⟩) (⟨by decide, by decide⟩) rfl rfl) (
  tkc (s_istore (at_ dl_X9_chance 31 (ins := .istore 7) rfl) (by decide)) (
  tkc (s_iload_n (at_ dl_X9_chance 32 (ins := .iload_n 2) rfl)) (
  tkc (s_iload (at_ dl_X9_chance 33 (ins := .iload 7) rfl)) (
  tkc (s_cS ok_X9_power (at_ dl_X9_chance 34 (ins := .invokestatic 245) rfl) (tg 661 (by decide +kernel) (by decide +kernel)) (tg 662 (by decide +kernel) (by decide +kernel)) (tg 42 (by decide +kernel) (by decide +kernel)) (tg 663 (by decide +kernel) (by decide +kernel)) (⟨by decide, by decide, by decide +kernel⟩) (⟨by decide, by decide⟩) rfl rfl) (
  tkc (s_bipush (at_ dl_X9_chance 35 (ins := .bipush 10) rfl) (by first | rfl | decide)) (
  tkc (s_iload_n (at_ dl_X9_chance 36 (ins := .iload_n 2) rfl)) (
  tkc (s_isub (at_ dl_X9_chance 37 (ins := .isub) rfl)) (
  tkc (s_aload_n (at_ dl_X9_chance 38 (ins := .aload_n 0) rfl)) (
  tkc (s_gR (at_ dl_X9_chance 39 (ins := .getfield 19) rfl) (by decide) (by decide) (by decide) (tg 255 (by decide +kernel) (by decide +kernel))) (
  tkc (s_gI (at_ dl_X9_chance 40 (ins := .getfield 101) rfl) (by decide) (by decide) (by decide) (tg 137 (by decide +kernel) (by decide +kernel))) (
  tkc (s_iload (at_ dl_X9_chance 41 (ins := .iload 7) rfl)) (
  tkc (s_isub (at_ dl_X9_chance 42 (ins := .isub) rfl)) (
  tkc (s_cS ok_X9_power (at_ dl_X9_chance 43 (ins := .invokestatic 245) rfl) (tg 661 (by decide +kernel) (by decide +kernel)) (tg 662 (by decide +kernel) (by decide +kernel)) (tg 42 (by decide +kernel) (by decide +kernel)) (tg 663 (by decide +kernel) (by decide +kernel)) (⟨by decide, by decide, by decide +kernel⟩) (⟨by decide, by decide⟩) rfl rfl) (
  tkc (s_lmul (at_ dl_X9_chance 44 (ins := .lmul) rfl)) (
  tkc (s_lstore (at_ dl_X9_chance 45 (ins := .lstore 8) rfl) (by decide)) (
  tkc (s_lload (at_ dl_X9_chance 46 (ins := .lload 8) rfl)) (
  tkc (s_lconst (at_ dl_X9_chance 47 (ins := .lconst 0) rfl) (by first | rfl | decide)) (
  tkc (s_lcmp (at_ dl_X9_chance 48 (ins := .lcmp) rfl)) (
  tkc (s_if_eq (at_ dl_X9_chance 49 (ins := .ifCond .eq 20) rfl) (by decide)) (
  tkc (s_aload_n (at_ dl_X9_chance 50 (ins := .aload_n 0) rfl)) (
  tkc (s_iload (at_ dl_X9_chance 51 (ins := .iload 6) rfl)) (
  tkc (s_iload_n (at_ dl_X9_chance 52 (ins := .iload_n 1) rfl)) (
  tkc (s_cV ok_X9_endsEmpty (at_ dl_X9_chance 53 (ins := .invokevirtual 249) rfl) (by decide) rfl (tg 664 (by decide +kernel) (by decide +kernel)) (tg 666 (by decide +kernel) (by decide +kernel)) (tg 17 (by decide +kernel) (by decide +kernel)) (tg 42 (by decide +kernel) (by decide +kernel)) (tg 667 (by decide +kernel) (by decide +kernel)) (⟨by decide, by decide, by decide +kernel⟩) (⟨by decide, by decide⟩) rfl rfl) (
  tkc (s_if_eq (at_ dl_X9_chance 54 (ins := .ifCond .eq 10) rfl) (by decide)) (
  tkc (s_lload (at_ dl_X9_chance 55 (ins := .lload 4) rfl)) (
  tkc (s_lload (at_ dl_X9_chance 56 (ins := .lload 8) rfl)) (
  tkc (s_ladd (at_ dl_X9_chance 57 (ins := .ladd) rfl)) (
  tkc (s_lstore (at_ dl_X9_chance 58 (ins := .lstore 4) rfl) (by decide)) (
  tkc (s_iinc (at_ dl_X9_chance 59 (ins := .iinc 6 1) rfl) (by decide) (by first | rfl | decide)) (
  tkc (s_goto (at_ dl_X9_chance 60 (ins := .goto (-74)) rfl) (by decide)) (
  tkc (s_lload (at_ dl_X9_chance 61 (ins := .lload 4) rfl)) (
  tkc (s_bipush (at_ dl_X9_chance 62 (ins := .bipush 10) rfl) (by first | rfl | decide)) (
  tkc (s_aload_n (at_ dl_X9_chance 63 (ins := .aload_n 0) rfl)) (
  tkc (s_gR (at_ dl_X9_chance 64 (ins := .getfield 19) rfl) (by decide) (by decide) (by decide) (tg 255 (by decide +kernel) (by decide +kernel))) (
  tkc (s_gI (at_ dl_X9_chance 65 (ins := .getfield 101) rfl) (by decide) (by decide) (by decide) (tg 137 (by decide +kernel) (by decide +kernel))) (
  tkc (s_cS ok_X9_power (at_ dl_X9_chance 66 (ins := .invokestatic 245) rfl) (tg 661 (by decide +kernel) (by decide +kernel)) (tg 662 (by decide +kernel) (by decide +kernel)) (tg 42 (by decide +kernel) (by decide +kernel)) (tg 663 (by decide +kernel) (by decide +kernel)) (⟨by decide, by decide, by decide +kernel⟩) (⟨by decide, by decide⟩) rfl rfl) (
  tkc (s_iload_n (at_ dl_X9_chance 67 (ins := .iload_n 3) rfl)) (
  tkc (s_cS ok_X9_inLeastTerms (at_ dl_X9_chance 68 (ins := .invokestatic 241) rfl) (tg 651 (by decide +kernel) (by decide +kernel)) (tg 652 (by decide +kernel) (by decide +kernel)) (tg 42 (by decide +kernel) (by decide +kernel)) (tg 653 (by decide +kernel) (by decide +kernel)) (⟨by decide, by decide, by decide +kernel⟩) (⟨by decide, by decide⟩) rfl rfl) (
  tkc (s_rI (at_ dl_X9_chance 69 (ins := .ireturn) rfl) rfl) ( tk0))))))))))))))))))))))))))))))))))))))))))))))))))))))))))))))))))))))
theorem lf_X9_chance : lk (tb_X9_chance) 0 = (x_il 1 1, false) ∧ lk (tb_X9_chance) 1 = (x_c 2 (.int 1), false) ∧ lk (tb_X9_chance) 2 = (x_ic 21 5 (fun x y : Int32 => x < y), false) ∧ lk (tb_X9_chance) 5 = (x_il 6 1, false) ∧ lk (tb_X9_chance) 6 = (x_c 8 (.int 31), false) ∧ lk (tb_X9_chance) 8 = (x_ic 21 11 (fun x y : Int32 => y < x), false) ∧ lk (tb_X9_chance) 11 = (x_il 12 2, false) ∧ lk (tb_X9_chance) 12 = (x_if 21 15 (fun x : Int32 => x < 0), false) ∧ lk (tb_X9_chance) 15 = (x_il 16 2, false) ∧ lk (tb_X9_chance) 16 = (x_c 18 (.int 10), false) ∧ lk (tb_X9_chance) 18 = (x_ic 24 21 (fun x y : Int32 => x ≤ y), false) ∧ lk (tb_X9_chance) 21 = (x_c 23 (.int (-2)), false) ∧ lk (tb_X9_chance) 23 = (x_rI, false) ∧ lk (tb_X9_chance) 24 = (x_c 25 (.long 0), false) ∧ lk (tb_X9_chance) 25 = (x_ls 27 4, false) ∧ lk (tb_X9_chance) 27 = (x_al 28 0, false) ∧ lk (tb_X9_chance) 28 = (x_gR 9 2 31, false) ∧ lk (tb_X9_chance) 31 = (x_al 32 0, false) ∧ lk (tb_X9_chance) 32 = (x_gR 9 1 35, false) ∧ lk (tb_X9_chance) 35 = (x_cV 5 1 P_X5_becomeLike 38, false) ∧ lk (tb_X9_chance) 38 = (x_c 39 (.int 0), false) ∧ lk (tb_X9_chance) 39 = (x_is 41 6, false) ∧ lk (tb_X9_chance) 41 = (x_il 43 6, true) ∧ lk (tb_X9_chance) 43 = (x_c 44 (.int 1), false) ∧ lk (tb_X9_chance) 44 = (x_al 45 0, false) ∧ lk (tb_X9_chance) 45 = (x_gR 9 1 48, false) ∧ lk (tb_X9_chance) 48 = (x_gI 5 4 51, false) ∧ lk (tb_X9_chance) 51 = (x_ii 52 (fun x y : Int32 => x <<< (y &&& 31)), false) ∧ lk (tb_X9_chance) 52 = (x_ic 118 55 (fun x y : Int32 => y ≤ x), false) ∧ lk (tb_X9_chance) 55 = (x_il 57 6, false) ∧ lk (tb_X9_chance) 57 = (x_cS 1 P_J6_bitCount_0f7a4 60, false) ∧ lk (tb_X9_chance) 60 = (x_is 62 7, false) ∧ lk (tb_X9_chance) 62 = (x_il 63 2, false) ∧ lk (tb_X9_chance) 63 = (x_il 65 7, false) ∧ lk (tb_X9_chance) 65 = (x_cS 2 P_X9_power 68, false) ∧ lk (tb_X9_chance) 68 = (x_c 70 (.int 10), false) ∧ lk (tb_X9_chance) 70 = (x_il 71 2, false) ∧ lk (tb_X9_chance) 71 = (x_ii 72 (fun x y : Int32 => x - y), false) ∧ lk (tb_X9_chance) 72 = (x_al 73 0, false) ∧ lk (tb_X9_chance) 73 = (x_gR 9 1 76, false) ∧ lk (tb_X9_chance) 76 = (x_gI 5 4 79, false) ∧ lk (tb_X9_chance) 79 = (x_il 81 7, false) ∧ lk (tb_X9_chance) 81 = (x_ii 82 (fun x y : Int32 => x - y), false) ∧ lk (tb_X9_chance) 82 = (x_cS 2 P_X9_power 85, false) ∧ lk (tb_X9_chance) 85 = (x_l2 86 (fun x y : Int64 => x * y), false) ∧ lk (tb_X9_chance) 86 = (x_ls 88 8, false) ∧ lk (tb_X9_chance) 88 = (x_ll 90 8, false) ∧ lk (tb_X9_chance) 90 = (x_c 91 (.long 0), false) ∧ lk (tb_X9_chance) 91 = (x_lcmp 92, false) ∧ lk (tb_X9_chance) 92 = (x_if 112 95 (fun x : Int32 => x = 0), false) ∧ lk (tb_X9_chance) 95 = (x_al 96 0, false) ∧ lk (tb_X9_chance) 96 = (x_il 98 6, false) ∧ lk (tb_X9_chance) 98 = (x_il 99 1, false) ∧ lk (tb_X9_chance) 99 = (x_cV 9 2 P_X9_endsEmpty 102, false) ∧ lk (tb_X9_chance) 102 = (x_if 112 105 (fun x : Int32 => x = 0), false) ∧ lk (tb_X9_chance) 105 = (x_ll 107 4, false) ∧ lk (tb_X9_chance) 107 = (x_ll 109 8, false) ∧ lk (tb_X9_chance) 109 = (x_l2 110 (fun x y : Int64 => x + y), false) ∧ lk (tb_X9_chance) 110 = (x_ls 112 4, false) ∧ lk (tb_X9_chance) 112 = (x_inc 115 6 1, false) ∧ lk (tb_X9_chance) 115 = (x_go 41, false) ∧ lk (tb_X9_chance) 118 = (x_ll 120 4, true) ∧ lk (tb_X9_chance) 120 = (x_c 122 (.int 10), false) ∧ lk (tb_X9_chance) 122 = (x_al 123 0, false) ∧ lk (tb_X9_chance) 123 = (x_gR 9 1 126, false) ∧ lk (tb_X9_chance) 126 = (x_gI 5 4 129, false) ∧ lk (tb_X9_chance) 129 = (x_cS 2 P_X9_power 132, false) ∧ lk (tb_X9_chance) 132 = (x_il 133 3, false) ∧ lk (tb_X9_chance) 133 = (x_cS 3 P_X9_inLeastTerms 136, false) ∧ lk (tb_X9_chance) 136 = (x_rI, false) := ⟨rfl, rfl, rfl, rfl, rfl, rfl, rfl, rfl, rfl, rfl, rfl, rfl, rfl, rfl, rfl, rfl, rfl, rfl, rfl, rfl, rfl, rfl, rfl, rfl, rfl, rfl, rfl, rfl, rfl, rfl, rfl, rfl, rfl, rfl, rfl, rfl, rfl, rfl, rfl, rfl, rfl, rfl, rfl, rfl, rfl, rfl, rfl, rfl, rfl, rfl, rfl, rfl, rfl, rfl, rfl, rfl, rfl, rfl, rfl, rfl, rfl, rfl, rfl, rfl, rfl, rfl, rfl, rfl, rfl, rfl⟩
def P_X9_chance : PTT := fun as M R => match as with
  | [.ref k, .int v, .int x, .int u] => k = 0 ∧ ∃ g, CR M.1 M.2.1 M.2.2 g ∧ GOk g ∧ Ans M R (gChance g v x u) g
  | _ => False
set_option maxRecDepth 20000 in
theorem ok_X9_chance : Ok yX9_chance mt_X9_chance P_X9_chance := by
  refine Ok.of (by decide) rfl rfl rfl rfl fun av ⟨S, I, L⟩ R hP => ?_
  unfold P_X9_chance at hP
  split at hP
  case h_2 => exact hP.elim
  rename_i k v x u
  obtain ⟨k, rfl⟩ : ∃ q : Nat, q = k := ⟨k, rfl⟩
  refine ⟨by simp [ent, wide, mt_X9_chance], ?_⟩
  show J mt_X9_chance R 0 [some (.ref k), some (.int v), some (.int x), some (.int u), none, none, none, none, none, none] [] (S, I, L)
  try dsimp only at hP
  obtain ⟨rfl, g, hc, ho, hA⟩ := hP
  have h1 := hc.1
  have hok := ho.2.1
  have h9 := ho.2.1.1
  have hp := pow9 h9.2.1
  have hap : apart5 10 5 := Or.inr (by omega)
  have hfin : ∀ w I', gChance g v x u = w → frS I I' → R (some (.int w)) (S, I', L) := fun w I' hw hf => (hw ▸ hA).q hc hf
  have hbad : ((v < 1 ∨ 31 < v) ∨ x < 0 ∨ ¬ x ≤ 10) → R (some (.int (-2))) (S, I, L) := fun h => hfin _ I (if_pos h) (frS.refl I)
  refine J.of tk_X9_chance 200 fun ρ hρ => ?_
  simp only [hρ, x_c, x_il, x_ll, x_al, x_is, x_as, x_ls, x_inc, x_ii, x_iq, x_i1, x_l2, x_lq, x_lh, x_i2l, x_l2i, x_lcmp, x_dup, x_dup2, x_pop, x_if, x_ifn, x_ic, x_icn, x_go, x_sw, swc, x_l01, x_mx, x_gI, x_gL, x_gR, x_pI, x_pZ, x_pL, x_pR, x_ia, x_za, x_aa, x_ias, x_zas, x_aas, x_fac, x_fa, x_slen, x_sa, x_ac, x_oi, x_new, x_na, x_cS, x_cV, x_cI, x_rI, x_rZ, x_rL, x_r0, pa, short, oc, lg, lset, lset2, wide, cond_true, cond_false, true_and, and_true, ↓reduceIte, Bool.false_eq_true, true_or, or_true, lf_X9_chance, h1.1.f, hc.ac.2, hc.ac.2.f, h1.2.2.2.2.1, h1.2.2.2.2.1.f, hap, P_X5_becomeLike, Classical.not_not]
  refine ⟨fun h => hbad (.inl (.inl h)), fun q1 => ⟨fun h => hbad (.inl (.inr h)), fun q2 => ⟨fun h => hbad (.inr (.inl h)), fun q3 => ⟨fun q4 => ?_, fun h => hbad (.inr (.inr h))⟩⟩⟩⟩
  have hno : ¬ ((v < 1 ∨ 31 < v) ∨ x < 0 ∨ ¬ x ≤ 10) := fun q => q.elim (fun q => q.elim q1 q2) (fun q => q.elim q3 (fun r => r q4))
  obtain ⟨X, hX, rfl⟩ := le10 q3 q4
  have htX : tn (nI X) = X := tn_nI (by omega)
  have hg : gChance g v (nI X) u = ltA (chS (gA g) v X (2 ^ aN (gA g))) (10 ^ aN (gA g)) u := by rw [gChance, if_neg hno, htX]
  have hv31 : inR 31 v := by
    rw [Int32.lt_iff_toInt_lt] at q1 q2
    have e1 : (1 : Int32).toInt = 1 := by decide
    have e2 : (31 : Int32).toInt = 31 := by decide
    exact ⟨by omega, by omega⟩
  have t9 := ten9 h9.2.1
  have key := up (P := fun s => ∀ I' r l d, frS I I' → DSok d → (∀ b, b < 9 → inR 31 (l b)) → (∀ b, aN (gA g) ≤ b → l b = aL (gA g) b) → SR I' 10 ((gA g).1, (gA g).2.1, (gA g).2.2.1, r, (gA g).2.2.2.2.1, l, d) → J mt_X9_chance R 41 [some (.ref 0), some (.int v), some (.int (nI X)), some (.int u), some (.long (lN (chS (gA g) v X s))), none, some (.int (nI s)), none, none, none] [] (S, I', L)) (n := 2 ^ aN (gA g)) (fun s hs ih I' r l d hf hd hl hl2 hs' => ?_) 0 (Nat.zero_le _) (cpI I 10 5) (gA g).2.2.2.1 (aL (gA g)) (gA g).2.2.2.2.2.2 (fun q a b c d e f => cpI_fr (by omega)) hok.2.2.2.2 hok.2.2.2.1 (fun _ _ => rfl) (hc.2.2.1.cpI h9.2.2)
  · exact key
  have hc' := hc.fr hf
  have en : I' 5 4 = nI (aN (gA g)) := hc'.2.2.1.1
  by_cases hlt : s < 2 ^ aN (gA g)
  · have o9 := ones_n (aN (gA g)) (by omega) s hlt
    have ts : tn (nI s) = s := tn_nI (by omega)
    have es : (10 : Int32) - nI X = nI (10 - X) := by rw [nI10, nI_sub hX]
    have es2 : nI (aN (gA g)) - nI (ones9 s) = nI (aN (gA g) - ones9 s) := nI_sub o9
    have hw := wtN_lt (x := X) h9.2.1 hX hlt
    have hch := chS_lt (v := v) (a := gA g) (s := s + 1) h9.2.1 hX (by omega)
    refine J.of tk_X9_chance 200 fun ρ hρ => ?_
    simp only [hρ, x_c, x_il, x_ll, x_al, x_is, x_as, x_ls, x_inc, x_ii, x_iq, x_i1, x_l2, x_lq, x_lh, x_i2l, x_l2i, x_lcmp, x_dup, x_dup2, x_pop, x_if, x_ifn, x_ic, x_icn, x_go, x_sw, swc, x_l01, x_mx, x_gI, x_gL, x_gR, x_pI, x_pZ, x_pL, x_pR, x_ia, x_za, x_aa, x_ias, x_zas, x_aas, x_fac, x_fa, x_slen, x_sa, x_ac, x_oi, x_new, x_na, x_cS, x_cV, x_cI, x_rI, x_rZ, x_rL, x_r0, pa, short, oc, lg, lset, lset2, wide, cond_true, cond_false, true_and, and_true, ↓reduceIte, Bool.false_eq_true, true_or, or_true, lf_X9_chance, h1, h1.1.f, hc.ac.2, hc.ac.2.f, en, shl1 (show aN (gA g) < 31 by omega), nI_leI (show 2 ^ aN (gA g) < 2 ^ 31 by omega) (show s < 2 ^ 31 by omega), P_J6_bitCount_0f7a4, P_X9_power, P_X9_endsEmpty, ts, es, es2, lg_cmp_eq, nI_1, bB_0, Classical.not_not, eq_true (show s < 512 by omega)]
    have hsame : runA (slA ((gA g).1, (gA g).2.1, (gA g).2.2.1, r, (gA g).2.2.2.2.1, l, d) s v) id = runA (slA (gA g) s v) id := by
      have e : slF l s v (aN (gA g)) = slF (aL (gA g)) s v (aN (gA g)) := slF_eq hl2
      show runA ((gA g).1, (gA g).2.1, (gA g).2.2.1, r, (gA g).2.2.2.2.1, slF l s v (aN (gA g)), d) id = _
      rw [e]; rfl
    have hal : AOk ((gA g).1, (gA g).2.1, (gA g).2.2.1, r, (gA g).2.2.2.2.1, l, d) := ⟨hok.1, hok.2.1, hok.2.2.1, hl, hd⟩
    refine ⟨fun h => absurd h (by omega), fun _ => ⟨X, ones9 s, rfl, rfl, hX, by omega, 10 - X, aN (gA g) - ones9 s, rfl, rfl, by omega, by omega, ?_⟩⟩
    rw [lN_mul, show X ^ ones9 s * (10 - X) ^ (aN (gA g) - ones9 s) = wtN (aN (gA g)) X s from rfl, lN_z (by omega)]
    have hgo : ∀ I2 r l d y w1 w2, chS (gA g) v X (s + 1) = y → frS I I2 → DSok d → (∀ b, b < 9 → inR 31 (l b)) → (∀ b, aN (gA g) ≤ b → l b = aL (gA g) b) → SR I2 10 ((gA g).1, (gA g).2.1, (gA g).2.2.1, r, (gA g).2.2.2.2.1, l, d) → J mt_X9_chance R 41 [some (.ref 0), some (.int v), some (.int (nI X)), some (.int u), some (.long (lN y)), none, some (.int (nI (s + 1))), some w1, some w2, none] [] (S, I2, L) := fun I2 r l d y w1 w2 hy a1 a2 a3 a4 a5 => J.weak (by simp [lsub]) (hy ▸ ih hlt I2 r l d a1 a2 a3 a4 a5)
    refine ⟨fun h0 => hgo I' r l d _ _ _ ?_ hf hd hl hl2 hs', fun h0 => ⟨s, _, by omega, rfl, hs', hal, hv31, hc'.2.2.2.2.2.2.2, fun I2 hf2 hs2 => ?_⟩⟩
    · simp only [chS]
      rw [h0]
      split <;> rfl
    · rw [hsame] at hs2 ⊢
      have hr := runA_ok (ord := id) (slA_ok (s := s) hok hv31)
      have hgo2 := fun y w1 w2 hy => hgo I2 _ _ _ y w1 w2 hy (hf.trans hf2) hr.2.2.2.2 hr.2.2.2.1 (fun b hb => by show slF (aL (gA g)) s v (aN (gA g)) b = _; rw [slF, if_neg (by omega)]) hs2
      refine ⟨fun h => hgo2 _ _ _ ?_, fun h => ?_⟩
      · rw [chS, if_neg (by simpa using h)]; rfl
      · rw [lN_add]
        exact hgo2 _ _ _ (by rw [chS, if_pos (by simpa using h)])
  · have : s = 2 ^ aN (gA g) := by omega
    subst this
    have hch := chS_lt (v := v) (a := gA g) (s := 2 ^ aN (gA g)) h9.2.1 hX (Nat.le_refl _)
    refine J.of tk_X9_chance 200 fun ρ hρ => ?_
    simp only [hρ, x_c, x_il, x_ll, x_al, x_is, x_as, x_ls, x_inc, x_ii, x_iq, x_i1, x_l2, x_lq, x_lh, x_i2l, x_l2i, x_lcmp, x_dup, x_dup2, x_pop, x_if, x_ifn, x_ic, x_icn, x_go, x_sw, swc, x_l01, x_mx, x_gI, x_gL, x_gR, x_pI, x_pZ, x_pL, x_pR, x_ia, x_za, x_aa, x_ias, x_zas, x_aas, x_fac, x_fa, x_slen, x_sa, x_ac, x_oi, x_new, x_na, x_cS, x_cV, x_cI, x_rI, x_rZ, x_rL, x_r0, pa, short, oc, lg, lset, lset2, wide, cond_true, cond_false, true_and, and_true, ↓reduceIte, Bool.false_eq_true, true_or, or_true, lf_X9_chance, h1.1.f, hc.ac.2.f, en, shl1 (show aN (gA g) < 31 by omega), nI_leI (show 2 ^ aN (gA g) < 2 ^ 31 by omega) (show 2 ^ aN (gA g) < 2 ^ 31 by omega), Nat.le_refl, true_implies, not_true_eq_false, false_implies]
    refine J.of tk_X9_chance 200 fun ρ hρ => ?_
    simp only [hρ, x_c, x_il, x_ll, x_al, x_is, x_as, x_ls, x_inc, x_ii, x_iq, x_i1, x_l2, x_lq, x_lh, x_i2l, x_l2i, x_lcmp, x_dup, x_dup2, x_pop, x_if, x_ifn, x_ic, x_icn, x_go, x_sw, swc, x_l01, x_mx, x_gI, x_gL, x_gR, x_pI, x_pZ, x_pL, x_pR, x_ia, x_za, x_aa, x_ias, x_zas, x_aas, x_fac, x_fa, x_slen, x_sa, x_ac, x_oi, x_new, x_na, x_cS, x_cV, x_cI, x_rI, x_rZ, x_rL, x_r0, pa, short, oc, lg, lset, lset2, wide, cond_true, cond_false, true_and, and_true, ↓reduceIte, Bool.false_eq_true, true_or, or_true, lf_X9_chance, h1.1.f, hc.ac.2.f, en, P_X9_power, P_X9_inLeastTerms]
    refine ⟨10, aN (gA g), nI10, rfl, by omega, h9.2.1, _, _, rfl, rfl, by omega, Nat.pow_pos (by omega), by omega, hfin _ I' hg hf⟩
/-- drawn -/
def drZ (z : Int64) : Int64 := z * 6364136223846793005 + 1442695040888963407
def drF (z : Int64) (l : Nat → Int32) (n : Nat) : Nat → Int32 := fun b => if b < n then (((lushr z 33).toInt32 >>> ((3 * nI b) &&& 31)) &&& 7) - 2 else l b
theorem drF_0 (z : Int64) (l : Nat → Int32) : drF z l 0 = l := by funext j; simp [drF]
theorem drF_s (z : Int64) (l : Nat → Int32) (i : Nat) : upd (drF z l i) i ((((lushr z 33).toInt32 >>> ((3 * nI i) &&& 31)) &&& 7) - 2) = drF z l (i + 1) := by
  funext j
  simp only [upd_app, drF]
  by_cases h : j = i
  · subst h; simp
  · by_cases h2 : j < i
    · simp [h, h2, show j < i + 1 by omega]
    · simp [h, h2, show ¬ j < i + 1 by omega]
theorem in7' : ∀ k, k < 8 → -31 ≤ (nI k - 2).toInt ∧ (nI k - 2).toInt ≤ 31 := by decide
theorem in7 (k : Nat) (h : k < 8) : inR 31 (nI k - 2) := in7' k h
theorem and7 (x : Int32) : inR 31 ((x &&& 7) - 2) := by
  have h : ∃ k, k < 8 ∧ x &&& 7 = nI k := by
    refine ⟨tn x &&& 7, Nat.lt_of_le_of_lt Nat.and_le_right (by omega), ?_⟩
    rw [← nI_and, nI_tn]; rfl
  obtain ⟨k, hk, e⟩ := h
  rw [e]; exact in7 k hk
def drA (a : AS) (z : Int64) : AS := (a.1, a.2.1, a.2.2.1, a.2.2.2.1, a.2.2.2.2.1, drF z a.2.2.2.2.2.1 (aN a), a.2.2.2.2.2.2)
theorem drA_ok {a : AS} {z : Int64} (h : AOk a) : AOk (drA a z) := by
  refine ⟨h.1, h.2.1, h.2.2.1, fun x hx => ?_, h.2.2.2.2⟩
  show inR 31 (drF z (aL a) (aN a) x)
  unfold drF
  split
  · exact and7 _
  · exact h.2.2.2.1 x hx
/-- how many are solved of so many draws, and the seed then -/
def drS (a : AS) (z : Int64) : Nat → Nat × Int64
  | 0 => (0, z)
  | i + 1 => ((drS a z i).1 + (if (ndO (drA a (drZ (drS a z i).2)) id).1 = -9 then 0 else 1), drZ (drS a z i).2)
def gDrawn (g : GS) (m : Int32) : Int32 × GS := if m < 1 ∨ ¬ m ≤ 20 then (-2, g) else (nI (drS (gA g) (gZ g) (tn m)).1, GZ g (drS (gA g) (gZ g) (tn m)).2)
theorem CR.seed {S : Sh} {I : MI} {L L' : Nat → Nat → Int64} {g : GS} {z : Int64} (h : CR S I L g) (hz : L' 0 10 = z) : CR S I L' (GZ g z) := ⟨h.1, h.2.1, h.2.2.1, h.2.2.2.1, h.2.2.2.2.1, h.2.2.2.2.2.1, hz, h.2.2.2.2.2.2.2⟩
theorem drF_eq {l l' : Nat → Int32} {n : Nat} {z : Int64} (h : ∀ b, n ≤ b → l b = l' b) : drF z l n = drF z l' n := by
  funext b
  simp only [drF]
  split
  · rfl
  · exact h b (by omega)
def il_X9_drawn : List (Nat × Instr × Nat) := [(0, .iload_n 1, 1), (1, .iconst 1, 1), (2, .if_icmp .lt 9, 3), (5, .iload_n 1, 1), (6, .bipush 20, 2), (8, .if_icmp .le 6, 3), (11, .bipush (-2), 2), (13, .ireturn, 1), (14, .iconst 0, 1), (15, .istore_n 2, 1), (16, .aload_n 0, 1), (17, .getfield 23, 3), (20, .aload_n 0, 1), (21, .getfield 19, 3), (24, .invokevirtual 219, 3), (27, .iconst 0, 1), (28, .istore_n 3, 1), (29, .iload_n 3, 1), (30, .iload_n 1, 1), (31, .if_icmp .ge 97, 3), (34, .aload_n 0, 1), (35, .aload_n 0, 1), (36, .getfield 71, 3), (39, .ldc2_w 252, 3), (42, .lmul, 1), (43, .ldc2_w 254, 3), (46, .ladd, 1), (47, .putfield 71, 3), (50, .aload_n 0, 1), (51, .getfield 71, 3), (54, .bipush 33, 2), (56, .lushr, 1), (57, .l2i, 1), (58, .istore 4, 2), (60, .iconst 0, 1), (61, .istore 5, 2), (63, .iload 5, 2), (65, .aload_n 0, 1), (66, .getfield 19, 3), (69, .getfield 101, 3), (72, .if_icmp .ge 31, 3), (75, .aload_n 0, 1), (76, .getfield 23, 3), (79, .getfield 152, 3), (82, .iload 5, 2), (84, .iload 4, 2), (86, .iconst 3, 1), (87, .iload 5, 2), (89, .imul, 1), (90, .ishr, 1), (91, .bipush 7, 2), (93, .iand, 1), (94, .iconst 2, 1), (95, .isub, 1), (96, .iastore, 1), (97, .iinc 5 1, 3), (100, .goto (-37), 3), (103, .aload_n 0, 1), (104, .getfield 29, 3), (107, .aload_n 0, 1), (108, .getfield 23, 3), (111, .invokevirtual 256, 3), (114, .bipush (-9), 2), (116, .if_icmp .eq 6, 3), (119, .iinc 2 1, 3), (122, .iinc 3 1, 3), (125, .goto (-96), 3), (128, .iload_n 2, 1), (129, .ireturn, 1)]
def mt_X9_drawn : Mt := (cX9_drawn, RX9, 6, (some .int), ({ frames := 4, cells := 0, slots := 0, locals := 100 } : Room), false, none, none)
set_option maxRecDepth 100000 in
theorem dl_X9_drawn : ∀ q ∈ il_X9_drawn, decode (mt_X9_drawn).1 q.1 = .ok q.2 := by decide +kernel
def tb_X9_drawn : Tb := [(0, x_il 1 1, false),
  (1, x_c 2 (.int 1), false),
  (2, x_ic 11 5 (fun x y : Int32 => x < y), false),
  (5, x_il 6 1, false),
  (6, x_c 8 (.int 20), false),
  (8, x_ic 14 11 (fun x y : Int32 => x ≤ y), false),
  (11, x_c 13 (.int (-2)), false),
  (13, x_rI, false),
  (14, x_c 15 (.int 0), false),
  (15, x_is 16 2, false),
  (16, x_al 17 0, false),
  (17, x_gR 9 2 20, false),
  (20, x_al 21 0, false),
  (21, x_gR 9 1 24, false),
  (24, x_cV 5 1 P_X5_becomeLike 27, false),
  (27, x_c 28 (.int 0), false),
  (28, x_is 29 3, false),
  (29, x_il 30 3, true),
  (30, x_il 31 1, false),
  (31, x_ic 128 34 (fun x y : Int32 => y ≤ x), false),
  (34, x_al 35 0, false),
  (35, x_al 36 0, false),
  (36, x_gL 9 10 39, false),
  (39, x_c 42 (.long 6364136223846793005), false),
  (42, x_l2 43 (fun x y : Int64 => x * y), false),
  (43, x_c 46 (.long 1442695040888963407), false),
  (46, x_l2 47 (fun x y : Int64 => x + y), false),
  (47, x_pL 9 10 50, false),
  (50, x_al 51 0, false),
  (51, x_gL 9 10 54, false),
  (54, x_c 56 (.int 33), false),
  (56, x_lh 57 lushr, false),
  (57, x_l2i 58, false),
  (58, x_is 60 4, false),
  (60, x_c 61 (.int 0), false),
  (61, x_is 63 5, false),
  (63, x_il 65 5, true),
  (65, x_al 66 0, false),
  (66, x_gR 9 1 69, false),
  (69, x_gI 5 4 72, false),
  (72, x_ic 103 75 (fun x y : Int32 => y ≤ x), false),
  (75, x_al 76 0, false),
  (76, x_gR 9 2 79, false),
  (79, x_gR 5 1 82, false),
  (82, x_il 84 5, false),
  (84, x_il 86 4, false),
  (86, x_c 87 (.int 3), false),
  (87, x_il 89 5, false),
  (89, x_ii 90 (fun x y : Int32 => x * y), false),
  (90, x_ii 91 (fun x y : Int32 => x >>> (y &&& 31)), false),
  (91, x_c 93 (.int 7), false),
  (93, x_ii 94 (fun x y : Int32 => x &&& y), false),
  (94, x_c 95 (.int 2), false),
  (95, x_ii 96 (fun x y : Int32 => x - y), false),
  (96, x_ias 97, false),
  (97, x_inc 100 5 1, false),
  (100, x_go 63, false),
  (103, x_al 104 0, true),
  (104, x_gR 9 3 107, false),
  (107, x_al 108 0, false),
  (108, x_gR 9 2 111, false),
  (111, x_cV 1 1 P_X1_runUntilSolved 114, false),
  (114, x_c 116 (.int (-9)), false),
  (116, x_ic 122 119 (fun x y : Int32 => x = y), false),
  (119, x_inc 122 2 1, false),
  (122, x_inc 125 3 1, false),
  (125, x_go 29, false),
  (128, x_il 129 2, false),
  (129, x_rI, false)]
set_option maxRecDepth 100000 in
theorem tk_X9_drawn : TbOk (mt_X9_drawn) (tb_X9_drawn) :=
  tkc (s_iload_n (at_ dl_X9_drawn 0 (ins := .iload_n 1) rfl)) (
  tkc (s_iconst (at_ dl_X9_drawn 1 (ins := .iconst 1) rfl) (by first | rfl | decide)) (
  tkc (s_ic_lt (at_ dl_X9_drawn 2 (ins := .if_icmp .lt 9) rfl) (by decide)) (
  tkc (s_iload_n (at_ dl_X9_drawn 3 (ins := .iload_n 1) rfl)) (
  tkc (s_bipush (at_ dl_X9_drawn 4 (ins := .bipush 20) rfl) (by first | rfl | decide)) (
  tkc (s_ic_le (at_ dl_X9_drawn 5 (ins := .if_icmp .le 6) rfl) (by decide)) (
  tkc (s_bipush (at_ dl_X9_drawn 6 (ins := .bipush (-2)) rfl) (by first | rfl | decide)) (
  tkc (s_rI (at_ dl_X9_drawn 7 (ins := .ireturn) rfl) rfl) (
  tkc (s_iconst (at_ dl_X9_drawn 8 (ins := .iconst 0) rfl) (by first | rfl | decide)) (
  tkc (s_istore_n (at_ dl_X9_drawn 9 (ins := .istore_n 2) rfl) (by decide)) (
  tkc (s_aload_n (at_ dl_X9_drawn 10 (ins := .aload_n 0) rfl)) (
  tkc (s_gR (at_ dl_X9_drawn 11 (ins := .getfield 23) rfl) (by decide) (by decide) (by decide) (tg 256 (by decide +kernel) (by decide +kernel))) (
  tkc (s_aload_n (at_ dl_X9_drawn 12 (ins := .aload_n 0) rfl)) (
  tkc (s_gR (at_ dl_X9_drawn 13 (ins := .getfield 19) rfl) (by decide) (by decide) (by decide) (tg 255 (by decide +kernel) (by decide +kernel))) (
  tkc (s_cV ok_X5_becomeLike (at_ dl_X9_drawn 14 (ins := .invokevirtual 219) rfl) (by decide) rfl (tg 443 (by decide +kernel) (by decide +kernel)) (tg 444 (by decide +kernel) (by decide +kernel)) (tg 445 (by decide +kernel) (by decide +kernel)) (tg 45 (by decide +kernel) (by decide +kernel)) (tg 446 (by decide +kernel) (by decide +kernel)) (⟨by decide, by decide, by decide +kernel⟩) (⟨by decide, by decide⟩) rfl rfl) (
  tkc (s_iconst (at_ dl_X9_drawn 15 (ins := .iconst 0) rfl) (by first | rfl | decide)) (
  tkc (s_istore_n (at_ dl_X9_drawn 16 (ins := .istore_n 3) rfl) (by decide)) (
  tkc (s_iload_n (at_ dl_X9_drawn 17 (ins := .iload_n 3) rfl)) (
  tkc (s_iload_n (at_ dl_X9_drawn 18 (ins := .iload_n 1) rfl)) (
  tkc (s_ic_ge (at_ dl_X9_drawn 19 (ins := .if_icmp .ge 97) rfl) (by decide)) (
  tkc (s_aload_n (at_ dl_X9_drawn 20 (ins := .aload_n 0) rfl)) (
  tkc (s_aload_n (at_ dl_X9_drawn 21 (ins := .aload_n 0) rfl)) (
  tkc (s_gL (at_ dl_X9_drawn 22 (ins := .getfield 71) rfl) (by decide) (by decide) (by decide) (tg 264 (by decide +kernel) (by decide +kernel))) (
  tkc (s_ldc2 (at_ dl_X9_drawn 23 (ins := .ldc2_w 252) rfl) (tg 676 (by decide +kernel) (by decide +kernel))) (
  tkc (s_lmul (at_ dl_X9_drawn 24 (ins := .lmul) rfl)) (
  tkc (s_ldc2 (at_ dl_X9_drawn 25 (ins := .ldc2_w 254) rfl) (tg 677 (by decide +kernel) (by decide +kernel))) (
  tkc (s_ladd (at_ dl_X9_drawn 26 (ins := .ladd) rfl)) (
  tkc (s_pL (at_ dl_X9_drawn 27 (ins := .putfield 71) rfl) (by decide) (by decide) (by decide) (by decide) (tg 264 (by decide +kernel) (by decide +kernel))) (
  tkc (s_aload_n (at_ dl_X9_drawn 28 (ins := .aload_n 0) rfl)) (
  tkc (s_gL (at_ dl_X9_drawn 29 (ins := .getfield 71) rfl) (by decide) (by decide) (by decide) (tg 264 (by decide +kernel) (by decide +kernel))) (
  tkc (s_bipush (at_ dl_X9_drawn 30 (ins := .bipush 33) rfl) (by first | rfl | decide)) (
  tkc (s_lushr (at_ dl_X9_drawn 31 (ins := .lushr) rfl)) (
  tkc (s_l2i (at_ dl_X9_drawn 32 (ins := .l2i) rfl)) (
  tkc (s_istore (at_ dl_X9_drawn 33 (ins := .istore 4) rfl) (by decide)) (
  tkc (s_iconst (at_ dl_X9_drawn 34 (ins := .iconst 0) rfl) (by first | rfl | decide)) (
  tkc (s_istore (at_ dl_X9_drawn 35 (ins := .istore 5) rfl) (by decide)) (
  tkc (s_iload (at_ dl_X9_drawn 36 (ins := .iload 5) rfl)) (
  tkc (s_aload_n (at_ dl_X9_drawn 37 (ins := .aload_n 0) rfl)) (
  tkc (s_gR (at_ dl_X9_drawn 38 (ins := .getfield 19) rfl) (by decide) (by decide) (by decide) (tg 255 (by decide +kernel) (by decide +kernel))) (
  tkc (s_gI (at_ dl_X9_drawn 39 (ins := .getfield 101) rfl) (by decide) (by decide) (by decide) (tg 137 (by decide +kernel) (by decide +kernel))) (
  tkc (s_ic_ge (at_ dl_X9_drawn 40 (ins := .if_icmp .ge 31) rfl) (by decide)) (
  tkc (s_aload_n (at_ dl_X9_drawn 41 (ins := .aload_n 0) rfl)) (
  tkc (s_gR (at_ dl_X9_drawn 42 (ins := .getfield 23) rfl) (by decide) (by decide) (by decide) (tg 256 (by decide +kernel) (by decide +kernel))) (
  tkc (s_gR (at_ dl_X9_drawn 43 (ins := .getfield 152) rfl) (by decide) (by decide) (by decide) (tg 127 (by decide +kernel) (by decide +kernel))) (
  tkc (s_iload (at_ dl_X9_drawn 44 (ins := .iload 5) rfl)) (
  tkc (s_iload (at_ dl_X9_drawn 45 (ins := .iload 4) rfl)) (
  tkc (s_iconst (at_ dl_X9_drawn 46 (ins := .iconst 3) rfl) (by first | rfl | decide)) (
  tkc (s_iload (at_ dl_X9_drawn 47 (ins := .iload 5) rfl)) (
  tkc (s_imul (at_ dl_X9_drawn 48 (ins := .imul) rfl)) (
  tkc (s_ishr (at_ dl_X9_drawn 49 (ins := .ishr) rfl)) (
  tkc (s_bipush (at_ dl_X9_drawn 50 (ins := .bipush 7) rfl) (by first | rfl | decide)) (
  tkc (s_iand (at_ dl_X9_drawn 51 (ins := .iand) rfl)) (
  tkc (s_iconst (at_ dl_X9_drawn 52 (ins := .iconst 2) rfl) (by first | rfl | decide)) (
  tkc (s_isub (at_ dl_X9_drawn 53 (ins := .isub) rfl)) (
  tkc (s_ias (at_ dl_X9_drawn 54 (ins := .iastore) rfl)) (
  tkc (s_iinc (at_ dl_X9_drawn 55 (ins := .iinc 5 1) rfl) (by decide) (by first | rfl | decide)) (
  tkc (s_goto (at_ dl_X9_drawn 56 (ins := .goto (-37)) rfl) (by decide)) (
  tkc (s_aload_n (at_ dl_X9_drawn 57 (ins := .aload_n 0) rfl)) (
  tkc (s_gR (at_ dl_X9_drawn 58 (ins := .getfield 29) rfl) (by decide) (by decide) (by decide) (tg 257 (by decide +kernel) (by decide +kernel))) (
  tkc (s_aload_n (at_ dl_X9_drawn 59 (ins := .aload_n 0) rfl)) (
  tkc (s_gR (at_ dl_X9_drawn 60 (ins := .getfield 23) rfl) (by decide) (by decide) (by decide) (tg 256 (by decide +kernel) (by decide +kernel))) (
  tkc (s_cV ok_X1_runUntilSolved (at_ dl_X9_drawn 61 (ins := .invokevirtual 256) rfl) (by decide) rfl (tg 447 (by decide +kernel) (by decide +kernel)) (tg 448 (by decide +kernel) (by decide +kernel)) (tg 449 (by decide +kernel) (by decide +kernel)) (tg 46 (by decide +kernel) (by decide +kernel)) (tg 450 (by decide +kernel) (by decide +kernel)) (⟨by decide, by decide, by decide +kernel⟩) (⟨by decide, by decide⟩) rfl rfl) (
  tkc (s_bipush (at_ dl_X9_drawn 62 (ins := .bipush (-9)) rfl) (by first | rfl | decide)) (
  tkc (s_ic_eq (at_ dl_X9_drawn 63 (ins := .if_icmp .eq 6) rfl) (by decide)) (
  tkc (s_iinc (at_ dl_X9_drawn 64 (ins := .iinc 2 1) rfl) (by decide) (by first | rfl | decide)) (
  tkc (s_iinc (at_ dl_X9_drawn 65 (ins := .iinc 3 1) rfl) (by decide) (by first | rfl | decide)) (
  tkc (s_goto (at_ dl_X9_drawn 66 (ins := .goto (-96)) rfl) (by decide)) (
  tkc (s_iload_n (at_ dl_X9_drawn 67 (ins := .iload_n 2) rfl)) (
  tkc (s_rI (at_ dl_X9_drawn 68 (ins := .ireturn) rfl) rfl) ( tk0)))))))))))))))))))))))))))))))))))))))))))))))))))))))))))))))))))))
theorem lf_X9_drawn : lk (tb_X9_drawn) 0 = (x_il 1 1, false) ∧ lk (tb_X9_drawn) 1 = (x_c 2 (.int 1), false) ∧ lk (tb_X9_drawn) 2 = (x_ic 11 5 (fun x y : Int32 => x < y), false) ∧ lk (tb_X9_drawn) 5 = (x_il 6 1, false) ∧ lk (tb_X9_drawn) 6 = (x_c 8 (.int 20), false) ∧ lk (tb_X9_drawn) 8 = (x_ic 14 11 (fun x y : Int32 => x ≤ y), false) ∧ lk (tb_X9_drawn) 11 = (x_c 13 (.int (-2)), false) ∧ lk (tb_X9_drawn) 13 = (x_rI, false) ∧ lk (tb_X9_drawn) 14 = (x_c 15 (.int 0), false) ∧ lk (tb_X9_drawn) 15 = (x_is 16 2, false) ∧ lk (tb_X9_drawn) 16 = (x_al 17 0, false) ∧ lk (tb_X9_drawn) 17 = (x_gR 9 2 20, false) ∧ lk (tb_X9_drawn) 20 = (x_al 21 0, false) ∧ lk (tb_X9_drawn) 21 = (x_gR 9 1 24, false) ∧ lk (tb_X9_drawn) 24 = (x_cV 5 1 P_X5_becomeLike 27, false) ∧ lk (tb_X9_drawn) 27 = (x_c 28 (.int 0), false) ∧ lk (tb_X9_drawn) 28 = (x_is 29 3, false) ∧ lk (tb_X9_drawn) 29 = (x_il 30 3, true) ∧ lk (tb_X9_drawn) 30 = (x_il 31 1, false) ∧ lk (tb_X9_drawn) 31 = (x_ic 128 34 (fun x y : Int32 => y ≤ x), false) ∧ lk (tb_X9_drawn) 34 = (x_al 35 0, false) ∧ lk (tb_X9_drawn) 35 = (x_al 36 0, false) ∧ lk (tb_X9_drawn) 36 = (x_gL 9 10 39, false) ∧ lk (tb_X9_drawn) 39 = (x_c 42 (.long 6364136223846793005), false) ∧ lk (tb_X9_drawn) 42 = (x_l2 43 (fun x y : Int64 => x * y), false) ∧ lk (tb_X9_drawn) 43 = (x_c 46 (.long 1442695040888963407), false) ∧ lk (tb_X9_drawn) 46 = (x_l2 47 (fun x y : Int64 => x + y), false) ∧ lk (tb_X9_drawn) 47 = (x_pL 9 10 50, false) ∧ lk (tb_X9_drawn) 50 = (x_al 51 0, false) ∧ lk (tb_X9_drawn) 51 = (x_gL 9 10 54, false) ∧ lk (tb_X9_drawn) 54 = (x_c 56 (.int 33), false) ∧ lk (tb_X9_drawn) 56 = (x_lh 57 lushr, false) ∧ lk (tb_X9_drawn) 57 = (x_l2i 58, false) ∧ lk (tb_X9_drawn) 58 = (x_is 60 4, false) ∧ lk (tb_X9_drawn) 60 = (x_c 61 (.int 0), false) ∧ lk (tb_X9_drawn) 61 = (x_is 63 5, false) ∧ lk (tb_X9_drawn) 63 = (x_il 65 5, true) ∧ lk (tb_X9_drawn) 65 = (x_al 66 0, false) ∧ lk (tb_X9_drawn) 66 = (x_gR 9 1 69, false) ∧ lk (tb_X9_drawn) 69 = (x_gI 5 4 72, false) ∧ lk (tb_X9_drawn) 72 = (x_ic 103 75 (fun x y : Int32 => y ≤ x), false) ∧ lk (tb_X9_drawn) 75 = (x_al 76 0, false) ∧ lk (tb_X9_drawn) 76 = (x_gR 9 2 79, false) ∧ lk (tb_X9_drawn) 79 = (x_gR 5 1 82, false) ∧ lk (tb_X9_drawn) 82 = (x_il 84 5, false) ∧ lk (tb_X9_drawn) 84 = (x_il 86 4, false) ∧ lk (tb_X9_drawn) 86 = (x_c 87 (.int 3), false) ∧ lk (tb_X9_drawn) 87 = (x_il 89 5, false) ∧ lk (tb_X9_drawn) 89 = (x_ii 90 (fun x y : Int32 => x * y), false) ∧ lk (tb_X9_drawn) 90 = (x_ii 91 (fun x y : Int32 => x >>> (y &&& 31)), false) ∧ lk (tb_X9_drawn) 91 = (x_c 93 (.int 7), false) ∧ lk (tb_X9_drawn) 93 = (x_ii 94 (fun x y : Int32 => x &&& y), false) ∧ lk (tb_X9_drawn) 94 = (x_c 95 (.int 2), false) ∧ lk (tb_X9_drawn) 95 = (x_ii 96 (fun x y : Int32 => x - y), false) ∧ lk (tb_X9_drawn) 96 = (x_ias 97, false) ∧ lk (tb_X9_drawn) 97 = (x_inc 100 5 1, false) ∧ lk (tb_X9_drawn) 100 = (x_go 63, false) ∧ lk (tb_X9_drawn) 103 = (x_al 104 0, true) ∧ lk (tb_X9_drawn) 104 = (x_gR 9 3 107, false) ∧ lk (tb_X9_drawn) 107 = (x_al 108 0, false) ∧ lk (tb_X9_drawn) 108 = (x_gR 9 2 111, false) ∧ lk (tb_X9_drawn) 111 = (x_cV 1 1 P_X1_runUntilSolved 114, false) ∧ lk (tb_X9_drawn) 114 = (x_c 116 (.int (-9)), false) ∧ lk (tb_X9_drawn) 116 = (x_ic 122 119 (fun x y : Int32 => x = y), false) ∧ lk (tb_X9_drawn) 119 = (x_inc 122 2 1, false) ∧ lk (tb_X9_drawn) 122 = (x_inc 125 3 1, false) ∧ lk (tb_X9_drawn) 125 = (x_go 29, false) ∧ lk (tb_X9_drawn) 128 = (x_il 129 2, false) ∧ lk (tb_X9_drawn) 129 = (x_rI, false) := ⟨rfl, rfl, rfl, rfl, rfl, rfl, rfl, rfl, rfl, rfl, rfl, rfl, rfl, rfl, rfl, rfl, rfl, rfl, rfl, rfl, rfl, rfl, rfl, rfl, rfl, rfl, rfl, rfl, rfl, rfl, rfl, rfl, rfl, rfl, rfl, rfl, rfl, rfl, rfl, rfl, rfl, rfl, rfl, rfl, rfl, rfl, rfl, rfl, rfl, rfl, rfl, rfl, rfl, rfl, rfl, rfl, rfl, rfl, rfl, rfl, rfl, rfl, rfl, rfl, rfl, rfl, rfl, rfl, rfl⟩
def P_X9_drawn : PTT := fun as M R => match as with
  | [.ref k, .int m] => k = 0 ∧ ∃ g, CR M.1 M.2.1 M.2.2 g ∧ GOk g ∧ Ans M R (gDrawn g m).1 (gDrawn g m).2
  | _ => False
set_option maxRecDepth 20000 in
theorem ok_X9_drawn : Ok yX9_drawn mt_X9_drawn P_X9_drawn := by
  refine Ok.of (by decide) rfl rfl rfl rfl fun av ⟨S, I, L⟩ R hP => ?_
  unfold P_X9_drawn at hP
  split at hP
  case h_2 => exact hP.elim
  rename_i k m
  obtain ⟨k, rfl⟩ : ∃ q : Nat, q = k := ⟨k, rfl⟩
  refine ⟨by simp [ent, wide, mt_X9_drawn], ?_⟩
  show J mt_X9_drawn R 0 [some (.ref k), some (.int m), none, none, none, none] [] (S, I, L)
  try dsimp only at hP
  obtain ⟨rfl, g, hc, ho, hA⟩ := hP
  have h1 := hc.1
  have hok := ho.2.1
  have h9 := ho.2.1.1
  have hap : apart5 10 5 := Or.inr (by omega)
  have ha15 : ap15 10 := Or.inl (by omega)
  refine J.of tk_X9_drawn 200 fun ρ hρ => ?_
  simp only [hρ, x_c, x_il, x_ll, x_al, x_is, x_as, x_ls, x_inc, x_ii, x_iq, x_i1, x_l2, x_lq, x_lh, x_i2l, x_l2i, x_lcmp, x_dup, x_dup2, x_pop, x_if, x_ifn, x_ic, x_icn, x_go, x_sw, swc, x_l01, x_mx, x_gI, x_gL, x_gR, x_pI, x_pZ, x_pL, x_pR, x_ia, x_za, x_aa, x_ias, x_zas, x_aas, x_fac, x_fa, x_slen, x_sa, x_ac, x_oi, x_new, x_na, x_cS, x_cV, x_cI, x_rI, x_rZ, x_rL, x_r0, pa, short, oc, lg, lset, lset2, wide, cond_true, cond_false, true_and, and_true, ↓reduceIte, Bool.false_eq_true, true_or, or_true, lf_X9_drawn, h1.1.f, hc.ac.2, hc.ac.2.f, h1.2.2.2.2.1, h1.2.2.2.2.1.f, hap, P_X5_becomeLike, Classical.not_not]
  refine ⟨fun h => (hA.e (by rw [gDrawn, if_pos (.inl h)])).s hc, fun h => ⟨fun h' => ?_, fun h' => (hA.e (by rw [gDrawn, if_pos (.inr h')])).s hc⟩⟩
  have hA' := hA.e (show gDrawn g m = (nI (drS (gA g) (gZ g) (tn m)).1, GZ g (drS (gA g) (gZ g) (tn m)).2) by rw [gDrawn, if_neg (fun q => q.elim h (fun r => r h'))])
  obtain ⟨D, hD1, hD2, rfl⟩ := le99 h (Int32.le_trans h' (by decide))
  rw [tn_nI (n := D) (by omega)] at hA'
  have key := up (P := fun i => ∀ I' L' r l d, frS I I' → (∀ q, q ≠ 0 → L' q = L q) → L' 0 10 = (drS (gA g) (gZ g) i).2 → DSok d → (∀ b, b < 9 → inR 31 (l b)) → (∀ b, aN (gA g) ≤ b → l b = aL (gA g) b) → SR I' 10 ((gA g).1, (gA g).2.1, (gA g).2.2.1, r, (gA g).2.2.2.2.1, l, d) → J mt_X9_drawn R 29 [some (.ref 0), some (.int (nI D)), some (.int (nI (drS (gA g) (gZ g) i).1)), some (.int (nI i)), none, none] [] (S, I', L')) (n := D) (fun i hi ih I' L' r l d hf hL hz hd hl hl2 hs' => ?_) 0 (Nat.zero_le _) (cpI I 10 5) L (gA g).2.2.2.1 (aL (gA g)) (gA g).2.2.2.2.2.2 (fun q a b c d e f => cpI_fr (by omega)) (fun _ _ => rfl) hc.2.2.2.2.2.2.1 hok.2.2.2.2 hok.2.2.2.1 (fun _ _ => rfl) (hc.2.2.1.cpI h9.2.2)
  · exact key
  have hc' := hc.fr hf
  have en : I' 5 4 = nI (aN (gA g)) := hc'.2.2.1.1
  by_cases hlt : i < D
  · refine J.of tk_X9_drawn 200 fun ρ hρ => ?_
    simp only [hρ, x_c, x_il, x_ll, x_al, x_is, x_as, x_ls, x_inc, x_ii, x_iq, x_i1, x_l2, x_lq, x_lh, x_i2l, x_l2i, x_lcmp, x_dup, x_dup2, x_pop, x_if, x_ifn, x_ic, x_icn, x_go, x_sw, swc, x_l01, x_mx, x_gI, x_gL, x_gR, x_pI, x_pZ, x_pL, x_pR, x_ia, x_za, x_aa, x_ias, x_zas, x_aas, x_fac, x_fa, x_slen, x_sa, x_ac, x_oi, x_new, x_na, x_cS, x_cV, x_cI, x_rI, x_rZ, x_rL, x_r0, pa, short, oc, lg, lset, lset2, wide, cond_true, cond_false, true_and, and_true, ↓reduceIte, Bool.false_eq_true, true_or, or_true, lf_X9_drawn, h1.1.f, nI_leI (show D < 2 ^ 31 by omega) (show i < 2 ^ 31 by omega), hz]
    refine ⟨fun h => absurd h (by omega), fun _ => ?_⟩
    have hz2 : mS L' 0 (vp_updL (L' 0) 10 (drZ (drS (gA g) (gZ g) i).2)) 0 10 = drZ (drS (gA g) (gZ g) i).2 := by rw [mS_s]; simp [vp_updL]
    show J mt_X9_drawn R 63 [some (.ref 0), some (.int (nI D)), some (.int (nI (drS (gA g) (gZ g) i).1)), some (.int (nI i)), some (.int (lushr (mS L' 0 (vp_updL (L' 0) 10 (drZ (drS (gA g) (gZ g) i).2)) 0 10) 33).toInt32), some (.int 0)] [] (S, I', mS L' 0 (vp_updL (L' 0) 10 (drZ (drS (gA g) (gZ g) i).2)))
    rw [hz2]
    have hL2 : ∀ q, q ≠ 0 → mS L' 0 (vp_updL (L' 0) 10 (drZ (drS (gA g) (gZ g) i).2)) q = L q := fun q hq => by rw [mS_n hq, hL q hq]
    revert hz2 hL2
    generalize mS L' 0 (vp_updL (L' 0) 10 (drZ (drS (gA g) (gZ g) i).2)) = L2
    intro hz2 hL2
    have key2 := up (P := fun b => J mt_X9_drawn R 63 [some (.ref 0), some (.int (nI D)), some (.int (nI (drS (gA g) (gZ g) i).1)), some (.int (nI i)), some (.int (lushr (drZ (drS (gA g) (gZ g) i).2) 33).toInt32), some (.int (nI b))] [] (S, mS I' 12 (drF (drZ (drS (gA g) (gZ g) i).2) (I' 12) b), L2)) (n := aN (gA g)) (fun b hb ih2 => ?_) 0 (Nat.zero_le _)
    · rw [drF_0, mS_id] at key2
      exact key2
    have en2 : mS I' 12 (drF (drZ (drS (gA g) (gZ g) i).2) (I' 12) b) 5 4 = nI (aN (gA g)) := en
    by_cases hbl : b < aN (gA g)
    · refine J.of tk_X9_drawn 200 fun ρ hρ => ?_
      simp only [hρ, x_c, x_il, x_ll, x_al, x_is, x_as, x_ls, x_inc, x_ii, x_iq, x_i1, x_l2, x_lq, x_lh, x_i2l, x_l2i, x_lcmp, x_dup, x_dup2, x_pop, x_if, x_ifn, x_ic, x_icn, x_go, x_sw, swc, x_l01, x_mx, x_gI, x_gL, x_gR, x_pI, x_pZ, x_pL, x_pR, x_ia, x_za, x_aa, x_ias, x_zas, x_aas, x_fac, x_fa, x_slen, x_sa, x_ac, x_oi, x_new, x_na, x_cS, x_cV, x_cI, x_rI, x_rZ, x_rL, x_r0, pa, short, oc, lg, lset, lset2, wide, cond_true, cond_false, true_and, and_true, ↓reduceIte, Bool.false_eq_true, true_or, or_true, lf_X9_drawn, h1.1.f, hc.ac.2.f, h1.2.2.2.2.1.f, en2, Nat.reduceAdd, nI_leI (show aN (gA g) < 2 ^ 31 by omega) (show b < 2 ^ 31 by omega), ncl (show b < 2 ^ 31 by omega), nI_1, mS_s, mS_ss, drF_s]
      exact ⟨fun h => absurd h (by omega), fun _ => ⟨vp_in_nI (by omega) (by omega), ih2 hbl⟩⟩
    · have : b = aN (gA g) := by omega
      subst this
      have hal : AOk ((gA g).1, (gA g).2.1, (gA g).2.2.1, r, (gA g).2.2.2.2.1, l, d) := ⟨hok.1, hok.2.1, hok.2.2.1, hl, hd⟩
      have hsl : SR (mS I' 12 (drF (drZ (drS (gA g) (gZ g) i).2) (I' 12) (aN (gA g)))) 10 (drA ((gA g).1, (gA g).2.1, (gA g).2.2.1, r, (gA g).2.2.2.2.1, l, d) (drZ (drS (gA g) (gZ g) i).2)) := hs'.lev (fun b hb => by
        simp only [drF]
        split
        · rfl
        · exact hs'.2.2.2.2.2.1 b hb)
      have hdA := drA_ok (z := drZ (drS (gA g) (gZ g) i).2) hal
      have hsame : ndO (drA ((gA g).1, (gA g).2.1, (gA g).2.2.1, r, (gA g).2.2.2.2.1, l, d) (drZ (drS (gA g) (gZ g) i).2)) id = ndO (drA (gA g) (drZ (drS (gA g) (gZ g) i).2)) id := by
        have e : drF (drZ (drS (gA g) (gZ g) i).2) l (aN (gA g)) = drF (drZ (drS (gA g) (gZ g) i).2) (aL (gA g)) (aN (gA g)) := drF_eq hl2
        show ndO ((gA g).1, (gA g).2.1, (gA g).2.2.1, r, (gA g).2.2.2.2.1, drF (drZ (drS (gA g) (gZ g) i).2) l (aN (gA g)), d) id = _
        rw [e]; rfl
      have hor2 : OrdO (mS I' 12 (drF (drZ (drS (gA g) (gZ g) i).2) (I' 12) (aN (gA g)))) (aM (gA g)) id := (hc'.2.2.2.2.2.2.2.fr (mS_n (by omega))).O h9.2.2
      refine J.of tk_X9_drawn 200 fun ρ hρ => ?_
      simp only [hρ, x_c, x_il, x_ll, x_al, x_is, x_as, x_ls, x_inc, x_ii, x_iq, x_i1, x_l2, x_lq, x_lh, x_i2l, x_l2i, x_lcmp, x_dup, x_dup2, x_pop, x_if, x_ifn, x_ic, x_icn, x_go, x_sw, swc, x_l01, x_mx, x_gI, x_gL, x_gR, x_pI, x_pZ, x_pL, x_pR, x_ia, x_za, x_aa, x_ias, x_zas, x_aas, x_fac, x_fa, x_slen, x_sa, x_ac, x_oi, x_new, x_na, x_cS, x_cV, x_cI, x_rI, x_rZ, x_rL, x_r0, pa, short, oc, lg, lset, lset2, wide, cond_true, cond_false, true_and, and_true, ↓reduceIte, Bool.false_eq_true, true_or, or_true, lf_X9_drawn, h1.1.f, hc.ac.2.f, en2, nI_leI (show aN (gA g) < 2 ^ 31 by omega) (show aN (gA g) < 2 ^ 31 by omega), Nat.le_refl, true_implies, not_true_eq_false, false_implies]
      refine J.of tk_X9_drawn 200 fun ρ hρ => ?_
      simp only [hρ, x_c, x_il, x_ll, x_al, x_is, x_as, x_ls, x_inc, x_ii, x_iq, x_i1, x_l2, x_lq, x_lh, x_i2l, x_l2i, x_lcmp, x_dup, x_dup2, x_pop, x_if, x_ifn, x_ic, x_icn, x_go, x_sw, swc, x_l01, x_mx, x_gI, x_gL, x_gR, x_pI, x_pZ, x_pL, x_pR, x_ia, x_za, x_aa, x_ias, x_zas, x_aas, x_fac, x_fa, x_slen, x_sa, x_ac, x_oi, x_new, x_na, x_cS, x_cV, x_cI, x_rI, x_rZ, x_rL, x_r0, pa, short, oc, lg, lset, lset2, wide, cond_true, cond_false, true_and, and_true, ↓reduceIte, Bool.false_eq_true, true_or, or_true, lf_X9_drawn, h1.1.f, h1.2.2.2.2.1, h1.2.2.2.2.1.f, h1.2.2.2.2.2.1, h1.2.2.2.2.2.1.f, ha15, P_X1_runUntilSolved, nI_1, Classical.not_not]
      refine run10 hsl hdA hor2 (Q := fun I2 nd => (nd = -9 → J mt_X9_drawn R 29 [some (.ref 0), some (.int (nI D)), some (.int (nI (drS (gA g) (gZ g) i).1)), some (.int (nI (i + 1))), some (.int (lushr (drZ (drS (gA g) (gZ g) i).2) 33).toInt32), some (.int (nI (aN (gA g))))] [] (S, I2, L2)) ∧ (¬ nd = -9 → J mt_X9_drawn R 29 [some (.ref 0), some (.int (nI D)), some (.int (nI ((drS (gA g) (gZ g) i).1 + 1))), some (.int (nI (i + 1))), some (.int (lushr (drZ (drS (gA g) (gZ g) i).2) 33).toInt32), some (.int (nI (aN (gA g))))] [] (S, I2, L2))) fun I2 g1 g2 => ?_
      rw [hsame]
      have hr := runA_ok (ord := id) hdA
      have hf2 : frS I I2 := hf.trans (fun q a b c d e f => by rw [g1 q (by omega) (by omega) (by omega) (by omega) (by omega), mS_n (by omega)])
      have := ih hlt I2 L2 _ _ _ hf2 hL2 hz2 hr.2.2.2.2 hr.2.2.2.1 (fun b hb => by show drF _ l (aN (gA g)) b = _; rw [drF, if_neg (by omega)]; exact hl2 b hb) g2
      refine ⟨fun h => ?_, fun h => ?_⟩
      · rw [drS, if_pos h] at this
        exact J.weak (by simp [lsub]) this
      · rw [drS, if_neg h] at this
        exact J.weak (by simp [lsub]) this
  · have : i = D := by omega
    subst this
    refine J.of tk_X9_drawn 200 fun ρ hρ => ?_
    simp only [hρ, x_c, x_il, x_ll, x_al, x_is, x_as, x_ls, x_inc, x_ii, x_iq, x_i1, x_l2, x_lq, x_lh, x_i2l, x_l2i, x_lcmp, x_dup, x_dup2, x_pop, x_if, x_ifn, x_ic, x_icn, x_go, x_sw, swc, x_l01, x_mx, x_gI, x_gL, x_gR, x_pI, x_pZ, x_pL, x_pR, x_ia, x_za, x_aa, x_ias, x_zas, x_aas, x_fac, x_fa, x_slen, x_sa, x_ac, x_oi, x_new, x_na, x_cS, x_cV, x_cI, x_rI, x_rZ, x_rL, x_r0, pa, short, oc, lg, lset, lset2, wide, cond_true, cond_false, true_and, and_true, ↓reduceIte, Bool.false_eq_true, true_or, or_true, lf_X9_drawn, nI_leI (show i < 2 ^ 31 by omega) (show i < 2 ^ 31 by omega), Nat.le_refl, true_implies, not_true_eq_false, false_implies]
    exact hA' I' L' hf.f8 hL (hc'.seed hz)
