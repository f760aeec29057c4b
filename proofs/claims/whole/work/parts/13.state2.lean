/-! STATE, the rest -/
theorem in_of {c : Int32} {m N : Nat} (h : ¬ c < 0 ∧ ¬ nI m ≤ c) (hm : m ≤ N) (hN : N < 2 ^ 31) : ∃ j, j < m ∧ c = nI j := by
  rcases pk_ix c (n := m) (by omega) with h1 | h1 | h1
  · exact absurd h1 h.1
  · exact absurd h1 h.2
  · exact h1
def inC (I : MI) (k : Nat) (c : Int32) : Prop := ¬ c < 0 ∧ ¬ I k 5 ≤ c
def inB (I : MI) (k : Nat) (b : Int32) : Prop := ¬ b < 0 ∧ ¬ I k 4 ≤ b
def il_X5_isOver : List (Nat × Instr × Nat) := [(0, .aload_n 0, 1), (1, .iload_n 1, 1), (2, .invokevirtual 52, 3), (5, .ifCond .eq 28, 3), (8, .aload_n 0, 1), (9, .iload_n 2, 1), (10, .invokevirtual 56, 3), (13, .ifCond .eq 20, 3), (16, .aload_n 0, 1), (17, .getfield 9, 3), (20, .iload_n 1, 1), (21, .iaload, 1), (22, .iload_n 2, 1), (23, .ishr, 1), (24, .iconst 1, 1), (25, .iand, 1), (26, .ifCond .eq 7, 3), (29, .iconst 1, 1), (30, .goto 4, 3), (33, .iconst 0, 1), (34, .ireturn, 1)]
def mt_X5_isOver : Mt := (cX5_isOver, RX5, 3, (some .boolean), ({ frames := 1, cells := 0, slots := 0, locals := 21 } : Room), false, none, none)
set_option maxRecDepth 100000 in
theorem dl_X5_isOver : ∀ q ∈ il_X5_isOver, decode (mt_X5_isOver).1 q.1 = .ok q.2 := by decide +kernel
def tb_X5_isOver : Tb := [(0, x_al 1 0, false),
  (1, x_il 2 1, false),
  (2, x_cV 5 1 P_X5_hasCheck 5, false),
  (5, x_if 33 8 (fun x : Int32 => x = 0), false),
  (8, x_al 9 0, false),
  (9, x_il 10 2, false),
  (10, x_cV 5 1 P_X5_hasBit 13, false),
  (13, x_if 33 16 (fun x : Int32 => x = 0), false),
  (16, x_al 17 0, false),
  (17, x_gR 5 0 20, false),
  (20, x_il 21 1, false),
  (21, x_ia 22, false),
  (22, x_il 23 2, false),
  (23, x_ii 24 (fun x y : Int32 => x >>> (y &&& 31)), false),
  (24, x_c 25 (.int 1), false),
  (25, x_ii 26 (fun x y : Int32 => x &&& y), false),
  (26, x_if 33 29 (fun x : Int32 => x = 0), false),
  (29, x_c 30 (.int 1), false),
  (30, x_go 34, false),
  (33, x_c 34 (.int 0), false),
  (34, x_rZ, false)]
set_option maxRecDepth 100000 in
theorem tk_X5_isOver : TbOk (mt_X5_isOver) (tb_X5_isOver) :=
  tkc (s_aload_n (at_ dl_X5_isOver 0 (ins := .aload_n 0) rfl)) (
  tkc (s_iload_n (at_ dl_X5_isOver 1 (ins := .iload_n 1) rfl)) (
  tkc (s_cV ok_X5_hasCheck (at_ dl_X5_isOver 2 (ins := .invokevirtual 52) rfl) (by decide) rfl (tg 391 (by decide +kernel) (by decide +kernel)) (tg 392 (by decide +kernel) (by decide +kernel)) (tg 393 (by decide +kernel) (by decide +kernel)) (tg 45 (by decide +kernel) (by decide +kernel)) (tg 394 (by decide +kernel) (by decide +kernel)) (⟨by decide, by decide, by decide +kernel⟩) (⟨by decide, by decide⟩) rfl rfl) (
  tkc (s_if_eq (at_ dl_X5_isOver 3 (ins := .ifCond .eq 28) rfl) (by decide)) (
  tkc (s_aload_n (at_ dl_X5_isOver 4 (ins := .aload_n 0) rfl)) (
  tkc (s_iload_n (at_ dl_X5_isOver 5 (ins := .iload_n 2) rfl)) (
  tkc (s_cV ok_X5_hasBit (at_ dl_X5_isOver 6 (ins := .invokevirtual 56) rfl) (by decide) rfl (tg 395 (by decide +kernel) (by decide +kernel)) (tg 396 (by decide +kernel) (by decide +kernel)) (tg 397 (by decide +kernel) (by decide +kernel)) (tg 45 (by decide +kernel) (by decide +kernel)) (tg 398 (by decide +kernel) (by decide +kernel)) (⟨by decide, by decide, by decide +kernel⟩) (⟨by decide, by decide⟩) rfl rfl) (
  tkc (s_if_eq (at_ dl_X5_isOver 7 (ins := .ifCond .eq 20) rfl) (by decide)) (
  tkc (s_aload_n (at_ dl_X5_isOver 8 (ins := .aload_n 0) rfl)) (
  tkc (s_gR (at_ dl_X5_isOver 9 (ins := .getfield 9) rfl) (by decide) (by decide) (by decide) (tg 121 (by decide +kernel) (by decide +kernel))) (
  tkc (s_iload_n (at_ dl_X5_isOver 10 (ins := .iload_n 1) rfl)) (
  tkc (s_ia (at_ dl_X5_isOver 11 (ins := .iaload) rfl)) (
  tkc (s_iload_n (at_ dl_X5_isOver 12 (ins := .iload_n 2) rfl)) (
  tkc (s_ishr (at_ dl_X5_isOver 13 (ins := .ishr) rfl)) (
  tkc (s_iconst (at_ dl_X5_isOver 14 (ins := .iconst 1) rfl) (by first | rfl | decide)) (
  tkc (s_iand (at_ dl_X5_isOver 15 (ins := .iand) rfl)) (
  tkc (s_if_eq (at_ dl_X5_isOver 16 (ins := .ifCond .eq 7) rfl) (by decide)) (
  tkc (s_iconst (at_ dl_X5_isOver 17 (ins := .iconst 1) rfl) (by first | rfl | decide)) (
  tkc (s_goto (at_ dl_X5_isOver 18 (ins := .goto 4) rfl) (by decide)) (
  tkc (s_iconst (at_ dl_X5_isOver 19 (ins := .iconst 0) rfl) (by first | rfl | decide)) (
  tkc (s_rZ (at_ dl_X5_isOver 20 (ins := .ireturn) rfl) rfl) ( tk0)))))))))))))))))))))
theorem lf_X5_isOver : lk (tb_X5_isOver) 0 = (x_al 1 0, false) ∧ lk (tb_X5_isOver) 1 = (x_il 2 1, false) ∧ lk (tb_X5_isOver) 2 = (x_cV 5 1 P_X5_hasCheck 5, false) ∧ lk (tb_X5_isOver) 5 = (x_if 33 8 (fun x : Int32 => x = 0), false) ∧ lk (tb_X5_isOver) 8 = (x_al 9 0, false) ∧ lk (tb_X5_isOver) 9 = (x_il 10 2, false) ∧ lk (tb_X5_isOver) 10 = (x_cV 5 1 P_X5_hasBit 13, false) ∧ lk (tb_X5_isOver) 13 = (x_if 33 16 (fun x : Int32 => x = 0), false) ∧ lk (tb_X5_isOver) 16 = (x_al 17 0, false) ∧ lk (tb_X5_isOver) 17 = (x_gR 5 0 20, false) ∧ lk (tb_X5_isOver) 20 = (x_il 21 1, false) ∧ lk (tb_X5_isOver) 21 = (x_ia 22, false) ∧ lk (tb_X5_isOver) 22 = (x_il 23 2, false) ∧ lk (tb_X5_isOver) 23 = (x_ii 24 (fun x y : Int32 => x >>> (y &&& 31)), false) ∧ lk (tb_X5_isOver) 24 = (x_c 25 (.int 1), false) ∧ lk (tb_X5_isOver) 25 = (x_ii 26 (fun x y : Int32 => x &&& y), false) ∧ lk (tb_X5_isOver) 26 = (x_if 33 29 (fun x : Int32 => x = 0), false) ∧ lk (tb_X5_isOver) 29 = (x_c 30 (.int 1), false) ∧ lk (tb_X5_isOver) 30 = (x_go 34, false) ∧ lk (tb_X5_isOver) 33 = (x_c 34 (.int 0), false) ∧ lk (tb_X5_isOver) 34 = (x_rZ, false) := ⟨rfl, rfl, rfl, rfl, rfl, rfl, rfl, rfl, rfl, rfl, rfl, rfl, rfl, rfl, rfl, rfl, rfl, rfl, rfl, rfl, rfl⟩
def P_X5_isOver : PTT := fun as M R => match as with
  | [.ref k, .int c, .int b] => IsSt M.1 k ∧ (∃ m, m ≤ 6 ∧ M.2.1 k 5 = nI m) ∧ R (some (.int (bI ((¬ c < 0 ∧ ¬ M.2.1 k 5 ≤ c) ∧ (¬ b < 0 ∧ ¬ M.2.1 k 4 ≤ b) ∧ ¬ (M.2.1 (k + 1) c.toNatClampNeg >>> (b &&& 31)) &&& 1 = 0)))) M
  | _ => False
set_option maxRecDepth 20000 in
theorem ok_X5_isOver : Ok yX5_isOver mt_X5_isOver P_X5_isOver := by
  refine Ok.of (by decide) rfl rfl rfl rfl fun av ⟨S, I, L⟩ R hP => ?_
  unfold P_X5_isOver at hP
  split at hP
  case h_2 => exact hP.elim
  rename_i k c b
  obtain ⟨k, rfl⟩ : ∃ q : Nat, q = k := ⟨k, rfl⟩
  refine ⟨by simp [ent, wide, mt_X5_isOver], ?_⟩
  show J mt_X5_isOver R 0 [some (.ref k), some (.int c), some (.int b)] [] (S, I, L)
  try dsimp only at hP
  obtain ⟨hk, ⟨m, h6, hm⟩, hR⟩ := hP
  refine J.of tk_X5_isOver 200 fun ρ hρ => ?_
  simp only [hρ, x_c, x_il, x_ll, x_al, x_is, x_as, x_ls, x_inc, x_ii, x_iq, x_i1, x_l2, x_lq, x_lh, x_i2l, x_l2i, x_lcmp, x_dup, x_dup2, x_pop, x_if, x_ifn, x_ic, x_icn, x_go, x_sw, swc, x_l01, x_mx, x_gI, x_gL, x_gR, x_pI, x_pZ, x_pL, x_pR, x_ia, x_za, x_aa, x_ias, x_zas, x_aas, x_fac, x_fa, x_slen, x_sa, x_ac, x_oi, x_new, x_na, x_cS, x_cV, x_cI, x_rI, x_rZ, x_rL, x_r0, pa, short, oc, lg, lset, lset2, wide, cond_true, cond_false, true_and, and_true, ↓reduceIte, Bool.false_eq_true, true_or, or_true, lf_X5_isOver, hk, hk.f, P_X5_hasCheck, P_X5_hasBit, bI_0, Classical.not_not]
  refine ⟨fun h => ?_, fun h => ⟨fun h2 => ?_, fun h2 => ⟨?_, fun h3 => ?_, fun h3 => ?_⟩⟩⟩
  · rwa [bI_f (fun q => h q.1)] at hR
  · rwa [bI_f (fun q => h2 q.2.1)] at hR
  · rw [hm] at h
    obtain ⟨j, hj, rfl⟩ := in_of h h6 (by omega)
    exact vp_in_nI (by omega) (by omega)
  · rwa [bI_f (fun q => q.2.2 h3)] at hR
  · rwa [bI_t ⟨h, h2, h3⟩] at hR
/-- PUT on a state -/
def putI (I : MI) (k : Nat) (c b : Int32) : MI := mS (mS I (k + 1) (upd (I (k + 1)) c.toNatClampNeg (I (k + 1) c.toNatClampNeg ^^^ (1 : Int32) <<< (b &&& 31)))) (k + 4) (upd (I (k + 4)) (c * 9 + b).toNatClampNeg 0)
theorem mS_o1 {I : MI} {k : Nat} {r : Nat → Int32} : mS I (k + 1) r (k + 4) = I (k + 4) := mS_n (by omega)
theorem mS_k1 {I : MI} {k : Nat} {r : Nat → Int32} : mS I (k + 1) r k = I k := mS_n (by omega)
def il_X5_turnOver : List (Nat × Instr × Nat) := [(0, .aload_n 0, 1), (1, .iload_n 1, 1), (2, .invokevirtual 52, 3), (5, .ifCond .eq 35, 3), (8, .aload_n 0, 1), (9, .iload_n 2, 1), (10, .invokevirtual 56, 3), (13, .ifCond .eq 27, 3), (16, .aload_n 0, 1), (17, .getfield 9, 3), (20, .iload_n 1, 1), (21, .dup2, 1), (22, .iaload, 1), (23, .iconst 1, 1), (24, .iload_n 2, 1), (25, .ishl, 1), (26, .ixor, 1), (27, .iastore, 1), (28, .aload_n 0, 1), (29, .getfield 21, 3), (32, .iload_n 1, 1), (33, .bipush 9, 2), (35, .imul, 1), (36, .iload_n 2, 1), (37, .iadd, 1), (38, .iconst 0, 1), (39, .iastore, 1), (40, .return_, 1)]
def mt_X5_turnOver : Mt := (cX5_turnOver, RX5, 3, none, ({ frames := 1, cells := 0, slots := 0, locals := 21 } : Room), false, none, none)
set_option maxRecDepth 100000 in
theorem dl_X5_turnOver : ∀ q ∈ il_X5_turnOver, decode (mt_X5_turnOver).1 q.1 = .ok q.2 := by decide +kernel
def tb_X5_turnOver : Tb := [(0, x_al 1 0, false),
  (1, x_il 2 1, false),
  (2, x_cV 5 1 P_X5_hasCheck 5, false),
  (5, x_if 40 8 (fun x : Int32 => x = 0), false),
  (8, x_al 9 0, false),
  (9, x_il 10 2, false),
  (10, x_cV 5 1 P_X5_hasBit 13, false),
  (13, x_if 40 16 (fun x : Int32 => x = 0), false),
  (16, x_al 17 0, false),
  (17, x_gR 5 0 20, false),
  (20, x_il 21 1, false),
  (21, x_dup2 22, false),
  (22, x_ia 23, false),
  (23, x_c 24 (.int 1), false),
  (24, x_il 25 2, false),
  (25, x_ii 26 (fun x y : Int32 => x <<< (y &&& 31)), false),
  (26, x_ii 27 (fun x y : Int32 => x ^^^ y), false),
  (27, x_ias 28, false),
  (28, x_al 29 0, false),
  (29, x_gR 5 3 32, false),
  (32, x_il 33 1, false),
  (33, x_c 35 (.int 9), false),
  (35, x_ii 36 (fun x y : Int32 => x * y), false),
  (36, x_il 37 2, false),
  (37, x_ii 38 (fun x y : Int32 => x + y), false),
  (38, x_c 39 (.int 0), false),
  (39, x_ias 40, false),
  (40, x_r0, false)]
set_option maxRecDepth 100000 in
theorem tk_X5_turnOver : TbOk (mt_X5_turnOver) (tb_X5_turnOver) :=
  tkc (s_aload_n (at_ dl_X5_turnOver 0 (ins := .aload_n 0) rfl)) (
  tkc (s_iload_n (at_ dl_X5_turnOver 1 (ins := .iload_n 1) rfl)) (
  tkc (s_cV ok_X5_hasCheck (at_ dl_X5_turnOver 2 (ins := .invokevirtual 52) rfl) (by decide) rfl (tg 391 (by decide +kernel) (by decide +kernel)) (tg 392 (by decide +kernel) (by decide +kernel)) (tg 393 (by decide +kernel) (by decide +kernel)) (tg 45 (by decide +kernel) (by decide +kernel)) (tg 394 (by decide +kernel) (by decide +kernel)) (⟨by decide, by decide, by decide +kernel⟩) (⟨by decide, by decide⟩) rfl rfl) (
  tkc (s_if_eq (at_ dl_X5_turnOver 3 (ins := .ifCond .eq 35) rfl) (by decide)) (
  tkc (s_aload_n (at_ dl_X5_turnOver 4 (ins := .aload_n 0) rfl)) (
  tkc (s_iload_n (at_ dl_X5_turnOver 5 (ins := .iload_n 2) rfl)) (
  tkc (s_cV ok_X5_hasBit (at_ dl_X5_turnOver 6 (ins := .invokevirtual 56) rfl) (by decide) rfl (tg 395 (by decide +kernel) (by decide +kernel)) (tg 396 (by decide +kernel) (by decide +kernel)) (tg 397 (by decide +kernel) (by decide +kernel)) (tg 45 (by decide +kernel) (by decide +kernel)) (tg 398 (by decide +kernel) (by decide +kernel)) (⟨by decide, by decide, by decide +kernel⟩) (⟨by decide, by decide⟩) rfl rfl) (
  tkc (s_if_eq (at_ dl_X5_turnOver 7 (ins := .ifCond .eq 27) rfl) (by decide)) (
  tkc (s_aload_n (at_ dl_X5_turnOver 8 (ins := .aload_n 0) rfl)) (
  tkc (s_gR (at_ dl_X5_turnOver 9 (ins := .getfield 9) rfl) (by decide) (by decide) (by decide) (tg 121 (by decide +kernel) (by decide +kernel))) (
  tkc (s_iload_n (at_ dl_X5_turnOver 10 (ins := .iload_n 1) rfl)) (
  tkc (s_dup2 (at_ dl_X5_turnOver 11 (ins := .dup2) rfl)) (
  tkc (s_ia (at_ dl_X5_turnOver 12 (ins := .iaload) rfl)) (
  tkc (s_iconst (at_ dl_X5_turnOver 13 (ins := .iconst 1) rfl) (by first | rfl | decide)) (
  tkc (s_iload_n (at_ dl_X5_turnOver 14 (ins := .iload_n 2) rfl)) (
  tkc (s_ishl (at_ dl_X5_turnOver 15 (ins := .ishl) rfl)) (
  tkc (s_ixor (at_ dl_X5_turnOver 16 (ins := .ixor) rfl)) (
  tkc (s_ias (at_ dl_X5_turnOver 17 (ins := .iastore) rfl)) (
  tkc (s_aload_n (at_ dl_X5_turnOver 18 (ins := .aload_n 0) rfl)) (
  tkc (s_gR (at_ dl_X5_turnOver 19 (ins := .getfield 21) rfl) (by decide) (by decide) (by decide) (tg 131 (by decide +kernel) (by decide +kernel))) (
  tkc (s_iload_n (at_ dl_X5_turnOver 20 (ins := .iload_n 1) rfl)) (
  tkc (s_bipush (at_ dl_X5_turnOver 21 (ins := .bipush 9) rfl) (by first | rfl | decide)) (
  tkc (s_imul (at_ dl_X5_turnOver 22 (ins := .imul) rfl)) (
  tkc (s_iload_n (at_ dl_X5_turnOver 23 (ins := .iload_n 2) rfl)) (
  tkc (s_iadd (at_ dl_X5_turnOver 24 (ins := .iadd) rfl)) (
  tkc (s_iconst (at_ dl_X5_turnOver 25 (ins := .iconst 0) rfl) (by first | rfl | decide)) (
  tkc (s_ias (at_ dl_X5_turnOver 26 (ins := .iastore) rfl)) (
  tkc (s_r0 (at_ dl_X5_turnOver 27 (ins := .return_) rfl) rfl) ( tk0))))))))))))))))))))))))))))
theorem lf_X5_turnOver : lk (tb_X5_turnOver) 0 = (x_al 1 0, false) ∧ lk (tb_X5_turnOver) 1 = (x_il 2 1, false) ∧ lk (tb_X5_turnOver) 2 = (x_cV 5 1 P_X5_hasCheck 5, false) ∧ lk (tb_X5_turnOver) 5 = (x_if 40 8 (fun x : Int32 => x = 0), false) ∧ lk (tb_X5_turnOver) 8 = (x_al 9 0, false) ∧ lk (tb_X5_turnOver) 9 = (x_il 10 2, false) ∧ lk (tb_X5_turnOver) 10 = (x_cV 5 1 P_X5_hasBit 13, false) ∧ lk (tb_X5_turnOver) 13 = (x_if 40 16 (fun x : Int32 => x = 0), false) ∧ lk (tb_X5_turnOver) 16 = (x_al 17 0, false) ∧ lk (tb_X5_turnOver) 17 = (x_gR 5 0 20, false) ∧ lk (tb_X5_turnOver) 20 = (x_il 21 1, false) ∧ lk (tb_X5_turnOver) 21 = (x_dup2 22, false) ∧ lk (tb_X5_turnOver) 22 = (x_ia 23, false) ∧ lk (tb_X5_turnOver) 23 = (x_c 24 (.int 1), false) ∧ lk (tb_X5_turnOver) 24 = (x_il 25 2, false) ∧ lk (tb_X5_turnOver) 25 = (x_ii 26 (fun x y : Int32 => x <<< (y &&& 31)), false) ∧ lk (tb_X5_turnOver) 26 = (x_ii 27 (fun x y : Int32 => x ^^^ y), false) ∧ lk (tb_X5_turnOver) 27 = (x_ias 28, false) ∧ lk (tb_X5_turnOver) 28 = (x_al 29 0, false) ∧ lk (tb_X5_turnOver) 29 = (x_gR 5 3 32, false) ∧ lk (tb_X5_turnOver) 32 = (x_il 33 1, false) ∧ lk (tb_X5_turnOver) 33 = (x_c 35 (.int 9), false) ∧ lk (tb_X5_turnOver) 35 = (x_ii 36 (fun x y : Int32 => x * y), false) ∧ lk (tb_X5_turnOver) 36 = (x_il 37 2, false) ∧ lk (tb_X5_turnOver) 37 = (x_ii 38 (fun x y : Int32 => x + y), false) ∧ lk (tb_X5_turnOver) 38 = (x_c 39 (.int 0), false) ∧ lk (tb_X5_turnOver) 39 = (x_ias 40, false) ∧ lk (tb_X5_turnOver) 40 = (x_r0, false) := ⟨rfl, rfl, rfl, rfl, rfl, rfl, rfl, rfl, rfl, rfl, rfl, rfl, rfl, rfl, rfl, rfl, rfl, rfl, rfl, rfl, rfl, rfl, rfl, rfl, rfl, rfl, rfl, rfl⟩
def P_X5_turnOver : PTT := fun as M R => match as with
  | [.ref k, .int c, .int b] => IsSt M.1 k ∧ (∃ n, n ≤ 9 ∧ M.2.1 k 4 = nI n) ∧ (∃ m, m ≤ 6 ∧ M.2.1 k 5 = nI m) ∧ ((¬ c < 0 ∧ ¬ M.2.1 k 5 ≤ c) ∧ (¬ b < 0 ∧ ¬ M.2.1 k 4 ≤ b) → R none (M.1, putI M.2.1 k c b, M.2.2)) ∧ (¬ ((¬ c < 0 ∧ ¬ M.2.1 k 5 ≤ c) ∧ (¬ b < 0 ∧ ¬ M.2.1 k 4 ≤ b)) → R none M)
  | _ => False
set_option maxRecDepth 20000 in
theorem ok_X5_turnOver : Ok yX5_turnOver mt_X5_turnOver P_X5_turnOver := by
  refine Ok.of (by decide) rfl rfl rfl rfl fun av ⟨S, I, L⟩ R hP => ?_
  unfold P_X5_turnOver at hP
  split at hP
  case h_2 => exact hP.elim
  rename_i k c b
  obtain ⟨k, rfl⟩ : ∃ q : Nat, q = k := ⟨k, rfl⟩
  refine ⟨by simp [ent, wide, mt_X5_turnOver], ?_⟩
  show J mt_X5_turnOver R 0 [some (.ref k), some (.int c), some (.int b)] [] (S, I, L)
  try dsimp only at hP
  obtain ⟨hk, ⟨n, h9, hn⟩, ⟨m, h6, hm⟩, hR1, hR2⟩ := hP
  refine J.of tk_X5_turnOver 200 fun ρ hρ => ?_
  simp only [hρ, x_c, x_il, x_ll, x_al, x_is, x_as, x_ls, x_inc, x_ii, x_iq, x_i1, x_l2, x_lq, x_lh, x_i2l, x_l2i, x_lcmp, x_dup, x_dup2, x_pop, x_if, x_ifn, x_ic, x_icn, x_go, x_sw, swc, x_l01, x_mx, x_gI, x_gL, x_gR, x_pI, x_pZ, x_pL, x_pR, x_ia, x_za, x_aa, x_ias, x_zas, x_aas, x_fac, x_fa, x_slen, x_sa, x_ac, x_oi, x_new, x_na, x_cS, x_cV, x_cI, x_rI, x_rZ, x_rL, x_r0, pa, short, oc, lg, lset, lset2, wide, cond_true, cond_false, true_and, and_true, ↓reduceIte, Bool.false_eq_true, true_or, or_true, lf_X5_turnOver, hk, hk.f, P_X5_hasCheck, P_X5_hasBit, bI_0, Classical.not_not, mS_o1]
  refine ⟨fun h => hR2 (fun q => h q.1), fun h => ⟨fun h2 => hR2 (fun q => h2 q.2), fun h2 => ?_⟩⟩
  have hR := hR1 ⟨h, h2⟩
  rw [hm] at h
  rw [hn] at h2
  obtain ⟨j, hj, rfl⟩ := in_of h h6 (by omega)
  obtain ⟨i, hi, rfl⟩ := in_of h2 h9 (by omega)
  have hv : vp_in (nI j) 6 := vp_in_nI (by omega) (by omega)
  refine ⟨hv, hv, ?_, hR⟩
  rw [show (9 : Int32) = nI 9 by decide, pk_mul, nI_add]
  exact vp_in_nI (by omega) (by omega)
def il_X5_checksOver : List (Nat × Instr × Nat) := [(0, .iconst 0, 1), (1, .istore_n 2, 1), (2, .iconst 0, 1), (3, .istore_n 3, 1), (4, .iload_n 3, 1), (5, .aload_n 0, 1), (6, .getfield 28, 3), (9, .if_icmp .ge 24, 3), (12, .iload_n 2, 1), (13, .aload_n 0, 1), (14, .getfield 9, 3), (17, .iload_n 3, 1), (18, .iaload, 1), (19, .iload_n 1, 1), (20, .ishr, 1), (21, .iconst 1, 1), (22, .iand, 1), (23, .iload_n 3, 1), (24, .ishl, 1), (25, .ior, 1), (26, .istore_n 2, 1), (27, .iinc 3 1, 3), (30, .goto (-26), 3), (33, .iload_n 2, 1), (34, .ireturn, 1)]
def mt_X5_checksOver : Mt := (cX5_checksOver, RX5, 4, (some .int), ({ frames := 0, cells := 0, slots := 0, locals := 0 } : Room), false, none, none)
set_option maxRecDepth 100000 in
theorem dl_X5_checksOver : ∀ q ∈ il_X5_checksOver, decode (mt_X5_checksOver).1 q.1 = .ok q.2 := by decide +kernel
def tb_X5_checksOver : Tb := [(0, x_c 1 (.int 0), false),
  (1, x_is 2 2, false),
  (2, x_c 3 (.int 0), false),
  (3, x_is 4 3, false),
  (4, x_il 5 3, true),
  (5, x_al 6 0, false),
  (6, x_gI 5 5 9, false),
  (9, x_ic 33 12 (fun x y : Int32 => y ≤ x), false),
  (12, x_il 13 2, false),
  (13, x_al 14 0, false),
  (14, x_gR 5 0 17, false),
  (17, x_il 18 3, false),
  (18, x_ia 19, false),
  (19, x_il 20 1, false),
  (20, x_ii 21 (fun x y : Int32 => x >>> (y &&& 31)), false),
  (21, x_c 22 (.int 1), false),
  (22, x_ii 23 (fun x y : Int32 => x &&& y), false),
  (23, x_il 24 3, false),
  (24, x_ii 25 (fun x y : Int32 => x <<< (y &&& 31)), false),
  (25, x_ii 26 (fun x y : Int32 => x ||| y), false),
  (26, x_is 27 2, false),
  (27, x_inc 30 3 1, false),
  (30, x_go 4, false),
  (33, x_il 34 2, false),
  (34, x_rI, false)]
set_option maxRecDepth 100000 in
theorem tk_X5_checksOver : TbOk (mt_X5_checksOver) (tb_X5_checksOver) :=
  tkc (s_iconst (at_ dl_X5_checksOver 0 (ins := .iconst 0) rfl) (by first | rfl | decide)) (
  tkc (s_istore_n (at_ dl_X5_checksOver 1 (ins := .istore_n 2) rfl) (by decide)) (
  tkc (s_iconst (at_ dl_X5_checksOver 2 (ins := .iconst 0) rfl) (by first | rfl | decide)) (
  tkc (s_istore_n (at_ dl_X5_checksOver 3 (ins := .istore_n 3) rfl) (by decide)) (
  tkc (s_iload_n (at_ dl_X5_checksOver 4 (ins := .iload_n 3) rfl)) (
  tkc (s_aload_n (at_ dl_X5_checksOver 5 (ins := .aload_n 0) rfl)) (
  tkc (s_gI (at_ dl_X5_checksOver 6 (ins := .getfield 28) rfl) (by decide) (by decide) (by decide) (tg 139 (by decide +kernel) (by decide +kernel))) (
  tkc (s_ic_ge (at_ dl_X5_checksOver 7 (ins := .if_icmp .ge 24) rfl) (by decide)) (
  tkc (s_iload_n (at_ dl_X5_checksOver 8 (ins := .iload_n 2) rfl)) (
  tkc (s_aload_n (at_ dl_X5_checksOver 9 (ins := .aload_n 0) rfl)) (
  tkc (s_gR (at_ dl_X5_checksOver 10 (ins := .getfield 9) rfl) (by decide) (by decide) (by decide) (tg 121 (by decide +kernel) (by decide +kernel))) (
  tkc (s_iload_n (at_ dl_X5_checksOver 11 (ins := .iload_n 3) rfl)) (
  tkc (s_ia (at_ dl_X5_checksOver 12 (ins := .iaload) rfl)) (
  tkc (s_iload_n (at_ dl_X5_checksOver 13 (ins := .iload_n 1) rfl)) (
  tkc (s_ishr (at_ dl_X5_checksOver 14 (ins := .ishr) rfl)) (
  tkc (s_iconst (at_ dl_X5_checksOver 15 (ins := .iconst 1) rfl) (by first | rfl | decide)) (
  tkc (s_iand (at_ dl_X5_checksOver 16 (ins := .iand) rfl)) (
  tkc (s_iload_n (at_ dl_X5_checksOver 17 (ins := .iload_n 3) rfl)) (
  tkc (s_ishl (at_ dl_X5_checksOver 18 (ins := .ishl) rfl)) (
  tkc (s_ior (at_ dl_X5_checksOver 19 (ins := .ior) rfl)) (
  tkc (s_istore_n (at_ dl_X5_checksOver 20 (ins := .istore_n 2) rfl) (by decide)) (
  tkc (s_iinc (at_ dl_X5_checksOver 21 (ins := .iinc 3 1) rfl) (by decide) (by first | rfl | decide)) (
  tkc (s_goto (at_ dl_X5_checksOver 22 (ins := .goto (-26)) rfl) (by decide)) (
  tkc (s_iload_n (at_ dl_X5_checksOver 23 (ins := .iload_n 2) rfl)) (
  tkc (s_rI (at_ dl_X5_checksOver 24 (ins := .ireturn) rfl) rfl) ( tk0)))))))))))))))))))))))))
theorem lf_X5_checksOver : lk (tb_X5_checksOver) 0 = (x_c 1 (.int 0), false) ∧ lk (tb_X5_checksOver) 1 = (x_is 2 2, false) ∧ lk (tb_X5_checksOver) 2 = (x_c 3 (.int 0), false) ∧ lk (tb_X5_checksOver) 3 = (x_is 4 3, false) ∧ lk (tb_X5_checksOver) 4 = (x_il 5 3, true) ∧ lk (tb_X5_checksOver) 5 = (x_al 6 0, false) ∧ lk (tb_X5_checksOver) 6 = (x_gI 5 5 9, false) ∧ lk (tb_X5_checksOver) 9 = (x_ic 33 12 (fun x y : Int32 => y ≤ x), false) ∧ lk (tb_X5_checksOver) 12 = (x_il 13 2, false) ∧ lk (tb_X5_checksOver) 13 = (x_al 14 0, false) ∧ lk (tb_X5_checksOver) 14 = (x_gR 5 0 17, false) ∧ lk (tb_X5_checksOver) 17 = (x_il 18 3, false) ∧ lk (tb_X5_checksOver) 18 = (x_ia 19, false) ∧ lk (tb_X5_checksOver) 19 = (x_il 20 1, false) ∧ lk (tb_X5_checksOver) 20 = (x_ii 21 (fun x y : Int32 => x >>> (y &&& 31)), false) ∧ lk (tb_X5_checksOver) 21 = (x_c 22 (.int 1), false) ∧ lk (tb_X5_checksOver) 22 = (x_ii 23 (fun x y : Int32 => x &&& y), false) ∧ lk (tb_X5_checksOver) 23 = (x_il 24 3, false) ∧ lk (tb_X5_checksOver) 24 = (x_ii 25 (fun x y : Int32 => x <<< (y &&& 31)), false) ∧ lk (tb_X5_checksOver) 25 = (x_ii 26 (fun x y : Int32 => x ||| y), false) ∧ lk (tb_X5_checksOver) 26 = (x_is 27 2, false) ∧ lk (tb_X5_checksOver) 27 = (x_inc 30 3 1, false) ∧ lk (tb_X5_checksOver) 30 = (x_go 4, false) ∧ lk (tb_X5_checksOver) 33 = (x_il 34 2, false) ∧ lk (tb_X5_checksOver) 34 = (x_rI, false) := ⟨rfl, rfl, rfl, rfl, rfl, rfl, rfl, rfl, rfl, rfl, rfl, rfl, rfl, rfl, rfl, rfl, rfl, rfl, rfl, rfl, rfl, rfl, rfl, rfl, rfl⟩
def coF (ov : Nat → Nat) (m b : Nat) : Nat := bs (fun c => (ov c).testBit b) m
def P_X5_checksOver : PTT := fun as M R => match as with
  | [.ref k, .int b] => IsSt M.1 k ∧ (∃ m, m ≤ 6 ∧ M.2.1 k 5 = nI m ∧ ∀ c, c < m → ovS M.2.1 k c < 512) ∧ (∃ j, j < 31 ∧ b = nI j) ∧ R (some (.int (nI (coF (ovS M.2.1 k) (tn (M.2.1 k 5)) (tn b))))) M
  | _ => False
theorem bit01 {v b : Nat} (hv : v < 2 ^ 31) (hb : b < 31) : (nI v >>> (nI b &&& 31)) &&& 1 = nI (if v.testBit b then 1 else 0) := bitAt hv hb
set_option maxRecDepth 20000 in
theorem ok_X5_checksOver : Ok yX5_checksOver mt_X5_checksOver P_X5_checksOver := by
  refine Ok.of (by decide) rfl rfl rfl rfl fun av ⟨S, I, L⟩ R hP => ?_
  unfold P_X5_checksOver at hP
  split at hP
  case h_2 => exact hP.elim
  rename_i k b
  obtain ⟨k, rfl⟩ : ∃ q : Nat, q = k := ⟨k, rfl⟩
  refine ⟨by simp [ent, wide, mt_X5_checksOver], ?_⟩
  show J mt_X5_checksOver R 0 [some (.ref k), some (.int b), none, none] [] (S, I, L)
  try dsimp only at hP
  obtain ⟨hk, ⟨m, h6, hm, hov⟩, ⟨j, hj, rfl⟩, hR⟩ := hP
  rw [hm, tn_nI (by omega), tn_nI (by omega)] at hR
  refine J.of tk_X5_checksOver 200 fun ρ hρ => ?_
  simp only [hρ, x_c, x_il, x_ll, x_al, x_is, x_as, x_ls, x_inc, x_ii, x_iq, x_i1, x_l2, x_lq, x_lh, x_i2l, x_l2i, x_lcmp, x_dup, x_dup2, x_pop, x_if, x_ifn, x_ic, x_icn, x_go, x_sw, swc, x_l01, x_mx, x_gI, x_gL, x_gR, x_pI, x_pZ, x_pL, x_pR, x_ia, x_za, x_aa, x_ias, x_zas, x_aas, x_fac, x_fa, x_slen, x_sa, x_ac, x_oi, x_new, x_na, x_cS, x_cV, x_cI, x_rI, x_rZ, x_rL, x_r0, pa, short, oc, lg, lset, lset2, wide, cond_true, cond_false, true_and, and_true, ↓reduceIte, Bool.false_eq_true, true_or, or_true, lf_X5_checksOver]
  refine up (P := fun i => J mt_X5_checksOver R 4 [some (.ref k), some (.int (nI j)), some (.int (nI (bs (fun c => (ovS I k c).testBit j) i))), some (.int (nI i))] [] (S, I, L)) (n := m) (fun i hi ih => ?_) 0 (Nat.zero_le _)
  refine J.of tk_X5_checksOver 200 fun ρ hρ => ?_
  simp only [hρ, x_c, x_il, x_ll, x_al, x_is, x_as, x_ls, x_inc, x_ii, x_iq, x_i1, x_l2, x_lq, x_lh, x_i2l, x_l2i, x_lcmp, x_dup, x_dup2, x_pop, x_if, x_ifn, x_ic, x_icn, x_go, x_sw, swc, x_l01, x_mx, x_gI, x_gL, x_gR, x_pI, x_pZ, x_pL, x_pR, x_ia, x_za, x_aa, x_ias, x_zas, x_aas, x_fac, x_fa, x_slen, x_sa, x_ac, x_oi, x_new, x_na, x_cS, x_cV, x_cI, x_rI, x_rZ, x_rL, x_r0, pa, short, oc, lg, lset, lset2, wide, cond_true, cond_false, true_and, and_true, ↓reduceIte, Bool.false_eq_true, true_or, or_true, lf_X5_checksOver, hk, hk.f, hm, ncl (show i < 2 ^ 31 by omega), nI_leI (show m < 2 ^ 31 by omega) (show i < 2 ^ 31 by omega), nI_1]
  refine ⟨fun h => ?_, fun h => ⟨vp_in_nI (by omega) (by omega), ?_⟩⟩
  · have : i = m := by omega
    subst this
    exact hR
  · have hv := hov i (by omega)
    have e : I (k + 1) i = nI (ovS I k i) := (nI_tn _).symm
    rw [e, bit01 (by omega) hj, bs_b (f := fun c => (ovS I k c).testBit j) (by omega) rfl]
    exact ih (by omega)
def il_X5_openBy : List (Nat × Instr × Nat) := [(0, .iconst 0, 1), (1, .istore_n 2, 1), (2, .iconst 0, 1), (3, .istore_n 3, 1), (4, .iload_n 3, 1), (5, .aload_n 0, 1), (6, .getfield 28, 3), (9, .if_icmp .ge 27, 3), (12, .iload_n 2, 1), (13, .aload_n 0, 1), (14, .getfield 9, 3), (17, .iload_n 3, 1), (18, .iaload, 1), (19, .iload_n 1, 1), (20, .iand, 1), (21, .invokestatic 67, 3), (24, .iconst 1, 1), (25, .iand, 1), (26, .iload_n 3, 1), (27, .ishl, 1), (28, .ior, 1), (29, .istore_n 2, 1), (30, .iinc 3 1, 3), (33, .goto (-29), 3), (36, .iload_n 2, 1), (37, .ireturn, 1)]
def mt_X5_openBy : Mt := (cX5_openBy, RX5, 4, (some .int), ({ frames := 1, cells := 0, slots := 0, locals := 20 } : Room), false, none, none)
set_option maxRecDepth 100000 in
theorem dl_X5_openBy : ∀ q ∈ il_X5_openBy, decode (mt_X5_openBy).1 q.1 = .ok q.2 := by decide +kernel
def tb_X5_openBy : Tb := [(0, x_c 1 (.int 0), false),
  (1, x_is 2 2, false),
  (2, x_c 3 (.int 0), false),
  (3, x_is 4 3, false),
  (4, x_il 5 3, true),
  (5, x_al 6 0, false),
  (6, x_gI 5 5 9, false),
  (9, x_ic 36 12 (fun x y : Int32 => y ≤ x), false),
  (12, x_il 13 2, false),
  (13, x_al 14 0, false),
  (14, x_gR 5 0 17, false),
  (17, x_il 18 3, false),
  (18, x_ia 19, false),
  (19, x_il 20 1, false),
  (20, x_ii 21 (fun x y : Int32 => x &&& y), false),
  (21, x_cS 1 P_J6_bitCount_0f7a4 24, false),
  (24, x_c 25 (.int 1), false),
  (25, x_ii 26 (fun x y : Int32 => x &&& y), false),
  (26, x_il 27 3, false),
  (27, x_ii 28 (fun x y : Int32 => x <<< (y &&& 31)), false),
  (28, x_ii 29 (fun x y : Int32 => x ||| y), false),
  (29, x_is 30 2, false),
  (30, x_inc 33 3 1, false),
  (33, x_go 4, false),
  (36, x_il 37 2, false),
  (37, x_rI, false)]
set_option maxRecDepth 100000 in
theorem tk_X5_openBy : TbOk (mt_X5_openBy) (tb_X5_openBy) :=
  tkc (s_iconst (at_ dl_X5_openBy 0 (ins := .iconst 0) rfl) (by first | rfl | decide)) (
  tkc (s_istore_n (at_ dl_X5_openBy 1 (ins := .istore_n 2) rfl) (by decide)) (
  tkc (s_iconst (at_ dl_X5_openBy 2 (ins := .iconst 0) rfl) (by first | rfl | decide)) (
  tkc (s_istore_n (at_ dl_X5_openBy 3 (ins := .istore_n 3) rfl) (by decide)) (
  tkc (s_iload_n (at_ dl_X5_openBy 4 (ins := .iload_n 3) rfl)) (
  tkc (s_aload_n (at_ dl_X5_openBy 5 (ins := .aload_n 0) rfl)) (
  tkc (s_gI (at_ dl_X5_openBy 6 (ins := .getfield 28) rfl) (by decide) (by decide) (by decide) (tg 139 (by decide +kernel) (by decide +kernel))) (
  tkc (s_ic_ge (at_ dl_X5_openBy 7 (ins := .if_icmp .ge 27) rfl) (by decide)) (
  tkc (s_iload_n (at_ dl_X5_openBy 8 (ins := .iload_n 2) rfl)) (
  tkc (s_aload_n (at_ dl_X5_openBy 9 (ins := .aload_n 0) rfl)) (
  tkc (s_gR (at_ dl_X5_openBy 10 (ins := .getfield 9) rfl) (by decide) (by decide) (by decide) (tg 121 (by decide +kernel) (by decide +kernel))) (
  tkc (s_iload_n (at_ dl_X5_openBy 11 (ins := .iload_n 3) rfl)) (
  tkc (s_ia (at_ dl_X5_openBy 12 (ins := .iaload) rfl)) (
  tkc (s_iload_n (at_ dl_X5_openBy 13 (ins := .iload_n 1) rfl)) (
  tkc (s_iand (at_ dl_X5_openBy 14 (ins := .iand) rfl)) (
  tkc (s_cS ok_J6_bitCount_0f7a4 (at_ dl_X5_openBy 15 (ins := .invokestatic 67) rfl) (tg 373 (by decide +kernel) (by decide +kernel)) (tg 374 (by decide +kernel) (by decide +kernel)) (tg 53 (by decide +kernel) (by decide +kernel)) (tg 375 (by decide +kernel) (by decide +kernel)) (⟨by decide, by decide, by decide +kernel⟩) (⟨by decide, by decide⟩) rfl rfl) (
  tkc (s_iconst (at_ dl_X5_openBy 16 (ins := .iconst 1) rfl) (by first | rfl | decide)) (
  tkc (s_iand (at_ dl_X5_openBy 17 (ins := .iand) rfl)) (
  tkc (s_iload_n (at_ dl_X5_openBy 18 (ins := .iload_n 3) rfl)) (
  tkc (s_ishl (at_ dl_X5_openBy 19 (ins := .ishl) rfl)) (
  tkc (s_ior (at_ dl_X5_openBy 20 (ins := .ior) rfl)) (
  tkc (s_istore_n (at_ dl_X5_openBy 21 (ins := .istore_n 2) rfl) (by decide)) (
  tkc (s_iinc (at_ dl_X5_openBy 22 (ins := .iinc 3 1) rfl) (by decide) (by first | rfl | decide)) (
  tkc (s_goto (at_ dl_X5_openBy 23 (ins := .goto (-29)) rfl) (by decide)) (
  tkc (s_iload_n (at_ dl_X5_openBy 24 (ins := .iload_n 2) rfl)) (
  tkc (s_rI (at_ dl_X5_openBy 25 (ins := .ireturn) rfl) rfl) ( tk0))))))))))))))))))))))))))
theorem lf_X5_openBy : lk (tb_X5_openBy) 0 = (x_c 1 (.int 0), false) ∧ lk (tb_X5_openBy) 1 = (x_is 2 2, false) ∧ lk (tb_X5_openBy) 2 = (x_c 3 (.int 0), false) ∧ lk (tb_X5_openBy) 3 = (x_is 4 3, false) ∧ lk (tb_X5_openBy) 4 = (x_il 5 3, true) ∧ lk (tb_X5_openBy) 5 = (x_al 6 0, false) ∧ lk (tb_X5_openBy) 6 = (x_gI 5 5 9, false) ∧ lk (tb_X5_openBy) 9 = (x_ic 36 12 (fun x y : Int32 => y ≤ x), false) ∧ lk (tb_X5_openBy) 12 = (x_il 13 2, false) ∧ lk (tb_X5_openBy) 13 = (x_al 14 0, false) ∧ lk (tb_X5_openBy) 14 = (x_gR 5 0 17, false) ∧ lk (tb_X5_openBy) 17 = (x_il 18 3, false) ∧ lk (tb_X5_openBy) 18 = (x_ia 19, false) ∧ lk (tb_X5_openBy) 19 = (x_il 20 1, false) ∧ lk (tb_X5_openBy) 20 = (x_ii 21 (fun x y : Int32 => x &&& y), false) ∧ lk (tb_X5_openBy) 21 = (x_cS 1 P_J6_bitCount_0f7a4 24, false) ∧ lk (tb_X5_openBy) 24 = (x_c 25 (.int 1), false) ∧ lk (tb_X5_openBy) 25 = (x_ii 26 (fun x y : Int32 => x &&& y), false) ∧ lk (tb_X5_openBy) 26 = (x_il 27 3, false) ∧ lk (tb_X5_openBy) 27 = (x_ii 28 (fun x y : Int32 => x <<< (y &&& 31)), false) ∧ lk (tb_X5_openBy) 28 = (x_ii 29 (fun x y : Int32 => x ||| y), false) ∧ lk (tb_X5_openBy) 29 = (x_is 30 2, false) ∧ lk (tb_X5_openBy) 30 = (x_inc 33 3 1, false) ∧ lk (tb_X5_openBy) 33 = (x_go 4, false) ∧ lk (tb_X5_openBy) 36 = (x_il 37 2, false) ∧ lk (tb_X5_openBy) 37 = (x_rI, false) := ⟨rfl, rfl, rfl, rfl, rfl, rfl, rfl, rfl, rfl, rfl, rfl, rfl, rfl, rfl, rfl, rfl, rfl, rfl, rfl, rfl, rfl, rfl, rfl, rfl, rfl, rfl⟩
def P_X5_openBy : PTT := fun as M R => match as with
  | [.ref k, .int w] => IsSt M.1 k ∧ (∃ m, m ≤ 6 ∧ M.2.1 k 5 = nI m ∧ ∀ c, c < m → ovS M.2.1 k c < 512) ∧ tn w < 512 ∧ R (some (.int (nI (opB (ovS M.2.1 k) (tn (M.2.1 k 5)) (tn w))))) M
  | _ => False
theorem and512 {a b : Nat} (h : a < 512) : a &&& b < 512 := Nat.lt_of_le_of_lt Nat.and_le_left h
theorem par01 (v : Nat) : nI v &&& 1 = nI (if v % 2 == 1 then 1 else 0) := by
  rw [one_nI, nI_and, Nat.and_one_is_mod]
  congr 1
  by_cases h : v % 2 = 1
  · simp [h]
  · simp [h]; omega
set_option maxRecDepth 20000 in
theorem ok_X5_openBy : Ok yX5_openBy mt_X5_openBy P_X5_openBy := by
  refine Ok.of (by decide) rfl rfl rfl rfl fun av ⟨S, I, L⟩ R hP => ?_
  unfold P_X5_openBy at hP
  split at hP
  case h_2 => exact hP.elim
  rename_i k w
  obtain ⟨k, rfl⟩ : ∃ q : Nat, q = k := ⟨k, rfl⟩
  refine ⟨by simp [ent, wide, mt_X5_openBy], ?_⟩
  show J mt_X5_openBy R 0 [some (.ref k), some (.int w), none, none] [] (S, I, L)
  try dsimp only at hP
  obtain ⟨hk, ⟨m, h6, hm, hov⟩, hw, hR⟩ := hP
  rw [hm, tn_nI (by omega)] at hR
  refine J.of tk_X5_openBy 200 fun ρ hρ => ?_
  simp only [hρ, x_c, x_il, x_ll, x_al, x_is, x_as, x_ls, x_inc, x_ii, x_iq, x_i1, x_l2, x_lq, x_lh, x_i2l, x_l2i, x_lcmp, x_dup, x_dup2, x_pop, x_if, x_ifn, x_ic, x_icn, x_go, x_sw, swc, x_l01, x_mx, x_gI, x_gL, x_gR, x_pI, x_pZ, x_pL, x_pR, x_ia, x_za, x_aa, x_ias, x_zas, x_aas, x_fac, x_fa, x_slen, x_sa, x_ac, x_oi, x_new, x_na, x_cS, x_cV, x_cI, x_rI, x_rZ, x_rL, x_r0, pa, short, oc, lg, lset, lset2, wide, cond_true, cond_false, true_and, and_true, ↓reduceIte, Bool.false_eq_true, true_or, or_true, lf_X5_openBy]
  refine up (P := fun i => J mt_X5_openBy R 4 [some (.ref k), some (.int w), some (.int (nI (bs (fun c => ones9 (ovS I k c &&& tn w) % 2 == 1) i))), some (.int (nI i))] [] (S, I, L)) (n := m) (fun i hi ih => ?_) 0 (Nat.zero_le _)
  refine J.of tk_X5_openBy 200 fun ρ hρ => ?_
  simp only [hρ, x_c, x_il, x_ll, x_al, x_is, x_as, x_ls, x_inc, x_ii, x_iq, x_i1, x_l2, x_lq, x_lh, x_i2l, x_l2i, x_lcmp, x_dup, x_dup2, x_pop, x_if, x_ifn, x_ic, x_icn, x_go, x_sw, swc, x_l01, x_mx, x_gI, x_gL, x_gR, x_pI, x_pZ, x_pL, x_pR, x_ia, x_za, x_aa, x_ias, x_zas, x_aas, x_fac, x_fa, x_slen, x_sa, x_ac, x_oi, x_new, x_na, x_cS, x_cV, x_cI, x_rI, x_rZ, x_rL, x_r0, pa, short, oc, lg, lset, lset2, wide, cond_true, cond_false, true_and, and_true, ↓reduceIte, Bool.false_eq_true, true_or, or_true, lf_X5_openBy, hk, hk.f, hm, ncl (show i < 2 ^ 31 by omega), nI_leI (show m < 2 ^ 31 by omega) (show i < 2 ^ 31 by omega), nI_1, P_J6_bitCount_0f7a4]
  refine ⟨fun h => ?_, fun h => ⟨vp_in_nI (by omega) (by omega), ?_, ?_⟩⟩
  · have : i = m := by omega
    subst this
    exact hR
  · rw [tn_and]; exact and512 (hov i (by omega))
  · rw [tn_and, par01, show tn (I (k + 1) i) = ovS I k i from rfl, bs_b (f := fun c => ones9 (ovS I k c &&& tn w) % 2 == 1) (i := i) (by omega) rfl]
    exact ih (by omega)
def il_X5_open : List (Nat × Instr × Nat) := [(0, .aload_n 0, 1), (1, .aload_n 0, 1), (2, .invokevirtual 59, 3), (5, .invokevirtual 63, 3), (8, .ireturn, 1)]
def mt_X5_open : Mt := (cX5_open, RX5, 1, (some .int), ({ frames := 2, cells := 0, slots := 0, locals := 43 } : Room), false, none, none)
set_option maxRecDepth 100000 in
theorem dl_X5_open : ∀ q ∈ il_X5_open, decode (mt_X5_open).1 q.1 = .ok q.2 := by decide +kernel
def tb_X5_open : Tb := [(0, x_al 1 0, false),
  (1, x_al 2 0, false),
  (2, x_cV 5 0 P_X5_word 5, false),
  (5, x_cV 5 1 P_X5_openBy 8, false),
  (8, x_rI, false)]
set_option maxRecDepth 100000 in
theorem tk_X5_open : TbOk (mt_X5_open) (tb_X5_open) :=
  tkc (s_aload_n (at_ dl_X5_open 0 (ins := .aload_n 0) rfl)) (
  tkc (s_aload_n (at_ dl_X5_open 1 (ins := .aload_n 0) rfl)) (
  tkc (s_cV ok_X5_word (at_ dl_X5_open 2 (ins := .invokevirtual 59) rfl) (by decide) rfl (tg 368 (by decide +kernel) (by decide +kernel)) (tg 361 (by decide +kernel) (by decide +kernel)) (tg 362 (by decide +kernel) (by decide +kernel)) (tg 45 (by decide +kernel) (by decide +kernel)) (tg 363 (by decide +kernel) (by decide +kernel)) (⟨by decide, by decide, by decide +kernel⟩) (⟨by decide, by decide⟩) rfl rfl) (
  tkc (s_cV ok_X5_openBy (at_ dl_X5_open 3 (ins := .invokevirtual 63) rfl) (by decide) rfl (tg 369 (by decide +kernel) (by decide +kernel)) (tg 370 (by decide +kernel) (by decide +kernel)) (tg 371 (by decide +kernel) (by decide +kernel)) (tg 45 (by decide +kernel) (by decide +kernel)) (tg 372 (by decide +kernel) (by decide +kernel)) (⟨by decide, by decide, by decide +kernel⟩) (⟨by decide, by decide⟩) rfl rfl) (
  tkc (s_rI (at_ dl_X5_open 4 (ins := .ireturn) rfl) rfl) ( tk0)))))
theorem lf_X5_open : lk (tb_X5_open) 0 = (x_al 1 0, false) ∧ lk (tb_X5_open) 1 = (x_al 2 0, false) ∧ lk (tb_X5_open) 2 = (x_cV 5 0 P_X5_word 5, false) ∧ lk (tb_X5_open) 5 = (x_cV 5 1 P_X5_openBy 8, false) ∧ lk (tb_X5_open) 8 = (x_rI, false) := ⟨rfl, rfl, rfl, rfl, rfl⟩
def opS (I : MI) (k : Nat) : Nat := opB (ovS I k) (tn (I k 5)) (wdF (I (k + 3)) (tn (I k 4)))
def SVq (I : MI) (k : Nat) : Prop := (∃ n, n ≤ 9 ∧ I k 4 = nI n) ∧ (∃ m, m ≤ 6 ∧ I k 5 = nI m ∧ ∀ c, c < m → ovS I k c < 512)
theorem SV.q {I : MI} {k n m : Nat} (h : SV I k n m) : SVq I k := ⟨⟨n, h.1.2.1, h.2.1.1⟩, m, h.1.2.2, h.2.1.2, fun _ hc => h.ov hc⟩
def P_X5_open : PTT := fun as M R => match as with
  | [.ref k] => IsSt M.1 k ∧ SVq M.2.1 k ∧ R (some (.int (nI (opS M.2.1 k)))) M
  | _ => False
theorem wd_tn {I : MI} {k : Nat} (h : SVq I k) : tn (nI (wdF (I (k + 3)) (tn (I k 4)))) = wdF (I (k + 3)) (tn (I k 4)) ∧ wdF (I (k + 3)) (tn (I k 4)) < 512 := by
  obtain ⟨⟨n, h9, hn⟩, -⟩ := h
  rw [hn, tn_nI (n := n) (by omega)]
  have := wdF_lt (I (k + 3)) h9
  exact ⟨tn_nI (by omega), this⟩
set_option maxRecDepth 20000 in
theorem ok_X5_open : Ok yX5_open mt_X5_open P_X5_open := by
  refine Ok.of (by decide) rfl rfl rfl rfl fun av ⟨S, I, L⟩ R hP => ?_
  unfold P_X5_open at hP
  split at hP
  case h_2 => exact hP.elim
  rename_i k
  obtain ⟨k, rfl⟩ : ∃ q : Nat, q = k := ⟨k, rfl⟩
  refine ⟨by simp [ent, wide, mt_X5_open], ?_⟩
  show J mt_X5_open R 0 [some (.ref k)] [] (S, I, L)
  try dsimp only at hP
  obtain ⟨hk, hq, hR⟩ := hP
  refine J.of tk_X5_open 200 fun ρ hρ => ?_
  simp only [hρ, x_c, x_il, x_ll, x_al, x_is, x_as, x_ls, x_inc, x_ii, x_iq, x_i1, x_l2, x_lq, x_lh, x_i2l, x_l2i, x_lcmp, x_dup, x_dup2, x_pop, x_if, x_ifn, x_ic, x_icn, x_go, x_sw, swc, x_l01, x_mx, x_gI, x_gL, x_gR, x_pI, x_pZ, x_pL, x_pR, x_ia, x_za, x_aa, x_ias, x_zas, x_aas, x_fac, x_fa, x_slen, x_sa, x_ac, x_oi, x_new, x_na, x_cS, x_cV, x_cI, x_rI, x_rZ, x_rL, x_r0, pa, short, oc, lg, lset, lset2, wide, cond_true, cond_false, true_and, and_true, ↓reduceIte, Bool.false_eq_true, true_or, or_true, lf_X5_open, hk, hk.f, P_X5_word, P_X5_openBy, eq_true hq.1, eq_true hq.2, wd_tn hq]
  exact hR
def il_X5_solved : List (Nat × Instr × Nat) := [(0, .aload_n 0, 1), (1, .aload_n 0, 1), (2, .invokevirtual 59, 3), (5, .invokevirtual 63, 3), (8, .ifCond .ne 7, 3), (11, .iconst 1, 1), (12, .goto 4, 3), (15, .iconst 0, 1), (16, .ireturn, 1)]
def mt_X5_solved : Mt := (cX5_solved, RX5, 1, (some .boolean), ({ frames := 2, cells := 0, slots := 0, locals := 43 } : Room), false, none, none)
set_option maxRecDepth 100000 in
theorem dl_X5_solved : ∀ q ∈ il_X5_solved, decode (mt_X5_solved).1 q.1 = .ok q.2 := by decide +kernel
def tb_X5_solved : Tb := [(0, x_al 1 0, false),
  (1, x_al 2 0, false),
  (2, x_cV 5 0 P_X5_word 5, false),
  (5, x_cV 5 1 P_X5_openBy 8, false),
  (8, x_ifn 15 11 (fun x : Int32 => x = 0), false),
  (11, x_c 12 (.int 1), false),
  (12, x_go 16, false),
  (15, x_c 16 (.int 0), false),
  (16, x_rZ, false)]
set_option maxRecDepth 100000 in
theorem tk_X5_solved : TbOk (mt_X5_solved) (tb_X5_solved) :=
  tkc (s_aload_n (at_ dl_X5_solved 0 (ins := .aload_n 0) rfl)) (
  tkc (s_aload_n (at_ dl_X5_solved 1 (ins := .aload_n 0) rfl)) (
  tkc (s_cV ok_X5_word (at_ dl_X5_solved 2 (ins := .invokevirtual 59) rfl) (by decide) rfl (tg 368 (by decide +kernel) (by decide +kernel)) (tg 361 (by decide +kernel) (by decide +kernel)) (tg 362 (by decide +kernel) (by decide +kernel)) (tg 45 (by decide +kernel) (by decide +kernel)) (tg 363 (by decide +kernel) (by decide +kernel)) (⟨by decide, by decide, by decide +kernel⟩) (⟨by decide, by decide⟩) rfl rfl) (
  tkc (s_cV ok_X5_openBy (at_ dl_X5_solved 3 (ins := .invokevirtual 63) rfl) (by decide) rfl (tg 369 (by decide +kernel) (by decide +kernel)) (tg 370 (by decide +kernel) (by decide +kernel)) (tg 371 (by decide +kernel) (by decide +kernel)) (tg 45 (by decide +kernel) (by decide +kernel)) (tg 372 (by decide +kernel) (by decide +kernel)) (⟨by decide, by decide, by decide +kernel⟩) (⟨by decide, by decide⟩) rfl rfl) (
  tkc (s_if_ne (at_ dl_X5_solved 4 (ins := .ifCond .ne 7) rfl) (by decide)) (
  tkc (s_iconst (at_ dl_X5_solved 5 (ins := .iconst 1) rfl) (by first | rfl | decide)) (
  tkc (s_goto (at_ dl_X5_solved 6 (ins := .goto 4) rfl) (by decide)) (
  tkc (s_iconst (at_ dl_X5_solved 7 (ins := .iconst 0) rfl) (by first | rfl | decide)) (
  tkc (s_rZ (at_ dl_X5_solved 8 (ins := .ireturn) rfl) rfl) ( tk0)))))))))
theorem lf_X5_solved : lk (tb_X5_solved) 0 = (x_al 1 0, false) ∧ lk (tb_X5_solved) 1 = (x_al 2 0, false) ∧ lk (tb_X5_solved) 2 = (x_cV 5 0 P_X5_word 5, false) ∧ lk (tb_X5_solved) 5 = (x_cV 5 1 P_X5_openBy 8, false) ∧ lk (tb_X5_solved) 8 = (x_ifn 15 11 (fun x : Int32 => x = 0), false) ∧ lk (tb_X5_solved) 11 = (x_c 12 (.int 1), false) ∧ lk (tb_X5_solved) 12 = (x_go 16, false) ∧ lk (tb_X5_solved) 15 = (x_c 16 (.int 0), false) ∧ lk (tb_X5_solved) 16 = (x_rZ, false) := ⟨rfl, rfl, rfl, rfl, rfl, rfl, rfl, rfl, rfl⟩
def P_X5_solved : PTT := fun as M R => match as with
  | [.ref k] => IsSt M.1 k ∧ SVq M.2.1 k ∧ R (some (.int (bI (opS M.2.1 k = 0)))) M
  | _ => False
theorem pow6 {m : Nat} (h : m ≤ 6) : 2 ^ m ≤ 64 := by
  have : 2 ^ m ≤ 2 ^ 6 := Nat.pow_le_pow_right (by omega) h
  omega
theorem opB_lt {ov : Nat → Nat} {m w : Nat} (h : m ≤ 6) : opB ov m w < 64 := Nat.lt_of_lt_of_le (bs_lt _ _) (pow6 h)
theorem opS_lt {I : MI} {k : Nat} (h : SVq I k) : opS I k < 64 := by
  obtain ⟨-, m, h6, hm, -⟩ := h
  unfold opS
  rw [hm, tn_nI (by omega)]
  exact opB_lt h6
theorem nI_z {n : Nat} (h : n < 2 ^ 31) : nI n = 0 ↔ n = 0 := by rw [zero_nI]; exact nI_eq h (by omega)
set_option maxRecDepth 20000 in
theorem ok_X5_solved : Ok yX5_solved mt_X5_solved P_X5_solved := by
  refine Ok.of (by decide) rfl rfl rfl rfl fun av ⟨S, I, L⟩ R hP => ?_
  unfold P_X5_solved at hP
  split at hP
  case h_2 => exact hP.elim
  rename_i k
  obtain ⟨k, rfl⟩ : ∃ q : Nat, q = k := ⟨k, rfl⟩
  refine ⟨by simp [ent, wide, mt_X5_solved], ?_⟩
  show J mt_X5_solved R 0 [some (.ref k)] [] (S, I, L)
  try dsimp only at hP
  obtain ⟨hk, hq, hR⟩ := hP
  refine J.of tk_X5_solved 200 fun ρ hρ => ?_
  simp only [hρ, x_c, x_il, x_ll, x_al, x_is, x_as, x_ls, x_inc, x_ii, x_iq, x_i1, x_l2, x_lq, x_lh, x_i2l, x_l2i, x_lcmp, x_dup, x_dup2, x_pop, x_if, x_ifn, x_ic, x_icn, x_go, x_sw, swc, x_l01, x_mx, x_gI, x_gL, x_gR, x_pI, x_pZ, x_pL, x_pR, x_ia, x_za, x_aa, x_ias, x_zas, x_aas, x_fac, x_fa, x_slen, x_sa, x_ac, x_oi, x_new, x_na, x_cS, x_cV, x_cI, x_rI, x_rZ, x_rL, x_r0, pa, short, oc, lg, lset, lset2, wide, cond_true, cond_false, true_and, and_true, ↓reduceIte, Bool.false_eq_true, true_or, or_true, lf_X5_solved, hk, hk.f, P_X5_word, P_X5_openBy, eq_true hq.1, eq_true hq.2, wd_tn hq]
  have hl := opS_lt hq
  unfold opS at hl hR
  refine ⟨fun h => ?_, fun h => ?_⟩
  · rwa [bI_f (fun q => h (by rw [q]; rfl))] at hR
  · rwa [bI_t ((nI_z (by omega)).mp h)] at hR
