/-! DOINGS, on the trial state at 10 -/
def il_X2_withoutLast : List (Nat × Instr × Nat) := [(0, .lload_n 0, 1), (1, .lstore_n 3, 1), (2, .iconst 0, 1), (3, .istore 5, 2), (5, .iload 5, 2), (7, .iload_n 2, 1), (8, .if_icmp .ge 15, 3), (11, .lload_n 3, 1), (12, .ldc2_w 9, 3), (15, .ldiv, 1), (16, .lstore_n 3, 1), (17, .iinc 5 1, 3), (20, .goto (-15), 3), (23, .lload_n 3, 1), (24, .lreturn, 1)]
def mt_X2_withoutLast : Mt := (cX2_withoutLast, RX2, 6, (some .long), ({ frames := 0, cells := 0, slots := 0, locals := 0 } : Room), false, none, none)
set_option maxRecDepth 100000 in
theorem dl_X2_withoutLast : ∀ q ∈ il_X2_withoutLast, decode (mt_X2_withoutLast).1 q.1 = .ok q.2 := by decide +kernel
def tb_X2_withoutLast : Tb := [(0, x_ll 1 0, false),
  (1, x_ls 2 3, false),
  (2, x_c 3 (.int 0), false),
  (3, x_is 5 5, false),
  (5, x_il 7 5, true),
  (7, x_il 8 2, false),
  (8, x_ic 23 11 (fun x y : Int32 => y ≤ x), false),
  (11, x_ll 12 3, false),
  (12, x_c 15 (.long 1000), false),
  (15, x_lq 16 (fun x y : Int64 => x / y), false),
  (16, x_ls 17 3, false),
  (17, x_inc 20 5 1, false),
  (20, x_go 5, false),
  (23, x_ll 24 3, false),
  (24, x_rL, false)]
set_option maxRecDepth 100000 in
theorem tk_X2_withoutLast : TbOk (mt_X2_withoutLast) (tb_X2_withoutLast) :=
  tkc (s_lload_n (at_ dl_X2_withoutLast 0 (ins := .lload_n 0) rfl)) (
  tkc (s_lstore_n (at_ dl_X2_withoutLast 1 (ins := .lstore_n 3) rfl) (by decide)) (
  tkc (s_iconst (at_ dl_X2_withoutLast 2 (ins := .iconst 0) rfl) (by first | rfl | decide)) (
  tkc (s_istore (at_ dl_X2_withoutLast 3 (ins := .istore 5) rfl) (by decide)) (
  tkc (s_iload (at_ dl_X2_withoutLast 4 (ins := .iload 5) rfl)) (
  tkc (s_iload_n (at_ dl_X2_withoutLast 5 (ins := .iload_n 2) rfl)) (
  tkc (s_ic_ge (at_ dl_X2_withoutLast 6 (ins := .if_icmp .ge 15) rfl) (by decide)) (
  tkc (s_lload_n (at_ dl_X2_withoutLast 7 (ins := .lload_n 3) rfl)) (
  tkc (s_ldc2 (at_ dl_X2_withoutLast 8 (ins := .ldc2_w 9) rfl) (tg 581 (by decide +kernel) (by decide +kernel))) (
  tkc (s_ldiv (at_ dl_X2_withoutLast 9 (ins := .ldiv) rfl)) (
  tkc (s_lstore_n (at_ dl_X2_withoutLast 10 (ins := .lstore_n 3) rfl) (by decide)) (
  tkc (s_iinc (at_ dl_X2_withoutLast 11 (ins := .iinc 5 1) rfl) (by decide) (by first | rfl | decide)) (
  tkc (s_goto (at_ dl_X2_withoutLast 12 (ins := .goto (-15)) rfl) (by decide)) (
  tkc (s_lload_n (at_ dl_X2_withoutLast 13 (ins := .lload_n 3) rfl)) (
  tkc (s_rL (at_ dl_X2_withoutLast 14 (ins := .lreturn) rfl) rfl) ( tk0)))))))))))))))
theorem lf_X2_withoutLast : lk (tb_X2_withoutLast) 0 = (x_ll 1 0, false) ∧ lk (tb_X2_withoutLast) 1 = (x_ls 2 3, false) ∧ lk (tb_X2_withoutLast) 2 = (x_c 3 (.int 0), false) ∧ lk (tb_X2_withoutLast) 3 = (x_is 5 5, false) ∧ lk (tb_X2_withoutLast) 5 = (x_il 7 5, true) ∧ lk (tb_X2_withoutLast) 7 = (x_il 8 2, false) ∧ lk (tb_X2_withoutLast) 8 = (x_ic 23 11 (fun x y : Int32 => y ≤ x), false) ∧ lk (tb_X2_withoutLast) 11 = (x_ll 12 3, false) ∧ lk (tb_X2_withoutLast) 12 = (x_c 15 (.long 1000), false) ∧ lk (tb_X2_withoutLast) 15 = (x_lq 16 (fun x y : Int64 => x / y), false) ∧ lk (tb_X2_withoutLast) 16 = (x_ls 17 3, false) ∧ lk (tb_X2_withoutLast) 17 = (x_inc 20 5 1, false) ∧ lk (tb_X2_withoutLast) 20 = (x_go 5, false) ∧ lk (tb_X2_withoutLast) 23 = (x_ll 24 3, false) ∧ lk (tb_X2_withoutLast) 24 = (x_rL, false) := ⟨rfl, rfl, rfl, rfl, rfl, rfl, rfl, rfl, rfl, rfl, rfl, rfl, rfl, rfl, rfl⟩
def P_X2_withoutLast : PTT := fun as M R => match as with
  | [.long x, .int n] => ∃ r d, r < 2 ^ 63 ∧ x = lN r ∧ d ≤ 4 ∧ n = nI d ∧ R (some (.long (lN (r / 1000 ^ d)))) M
  | _ => False
theorem k1000 : (1000 : Int64) = lN 1000 := by decide
theorem k1000n : ¬ lN 1000 = 0 := by decide
set_option maxRecDepth 20000 in
theorem ok_X2_withoutLast : Ok yX2_withoutLast mt_X2_withoutLast P_X2_withoutLast := by
  refine Ok.of (by decide) rfl rfl rfl rfl fun av ⟨S, I, L⟩ R hP => ?_
  unfold P_X2_withoutLast at hP
  split at hP
  case h_2 => exact hP.elim
  rename_i x n
  refine ⟨by simp [ent, wide, mt_X2_withoutLast], ?_⟩
  show J mt_X2_withoutLast R 0 [some (.long x), none, some (.int n), none, none, none] [] (S, I, L)
  try dsimp only at hP
  obtain ⟨r, d, hr, rfl, hd, rfl, hR⟩ := hP
  refine J.of tk_X2_withoutLast 200 fun ρ hρ => ?_
  simp only [hρ, x_c, x_il, x_ll, x_al, x_is, x_as, x_ls, x_inc, x_ii, x_iq, x_i1, x_l2, x_lq, x_lh, x_i2l, x_l2i, x_lcmp, x_dup, x_dup2, x_pop, x_if, x_ifn, x_ic, x_icn, x_go, x_sw, swc, x_l01, x_mx, x_gI, x_gL, x_gR, x_pI, x_pZ, x_pL, x_pR, x_ia, x_za, x_aa, x_ias, x_zas, x_aas, x_fac, x_fa, x_slen, x_sa, x_ac, x_oi, x_new, x_na, x_cS, x_cV, x_cI, x_rI, x_rZ, x_rL, x_r0, pa, short, oc, lg, lset, lset2, wide, cond_true, cond_false, true_and, and_true, ↓reduceIte, Bool.false_eq_true, true_or, or_true, lf_X2_withoutLast]
  have key := up (P := fun i => J mt_X2_withoutLast R 5 [some (.long (lN r)), none, some (.int (nI d)), some (.long (lN (r / 1000 ^ i))), none, some (.int (nI i))] [] (S, I, L)) (n := d) (fun i hi ih => ?_) 0 (Nat.zero_le _)
  · rw [Nat.pow_zero, Nat.div_one] at key
    exact key
  have h1 : r / 1000 ^ i < 2 ^ 63 := Nat.lt_of_le_of_lt (Nat.div_le_self _ _) hr
  have h2 : lN (r / 1000 ^ i) / lN 1000 = lN (r / 1000 ^ (i + 1)) := by rw [pk_lDiv h1 (by omega) (by omega), Nat.div_div_eq_div_mul, Nat.pow_succ]
  refine J.of tk_X2_withoutLast 200 fun ρ hρ => ?_
  simp only [hρ, x_c, x_il, x_ll, x_al, x_is, x_as, x_ls, x_inc, x_ii, x_iq, x_i1, x_l2, x_lq, x_lh, x_i2l, x_l2i, x_lcmp, x_dup, x_dup2, x_pop, x_if, x_ifn, x_ic, x_icn, x_go, x_sw, swc, x_l01, x_mx, x_gI, x_gL, x_gR, x_pI, x_pZ, x_pL, x_pR, x_ia, x_za, x_aa, x_ias, x_zas, x_aas, x_fac, x_fa, x_slen, x_sa, x_ac, x_oi, x_new, x_na, x_cS, x_cV, x_cI, x_rI, x_rZ, x_rL, x_r0, pa, short, oc, lg, lset, lset2, wide, cond_true, cond_false, true_and, and_true, ↓reduceIte, Bool.false_eq_true, true_or, or_true, lf_X2_withoutLast, nI_leI (show d < 2 ^ 31 by omega) (show i < 2 ^ 31 by omega), k1000, k1000n, h2, nI_1, not_false_eq_true]
  refine ⟨fun h => ?_, fun h => ih (by omega)⟩
  have : i = d := by omega
  subst this
  exact hR
def il_X2_begins : List (Nat × Instr × Nat) := [(0, .aload_n 0, 1), (1, .invokevirtual 53, 3), (4, .iconst 1, 1), (5, .ireturn, 1)]
def mt_X2_begins : Mt := (cX2_begins, RX2, 1, (some .boolean), ({ frames := 2, cells := 0, slots := 0, locals := 39 } : Room), false, none, none)
set_option maxRecDepth 100000 in
theorem dl_X2_begins : ∀ q ∈ il_X2_begins, decode (mt_X2_begins).1 q.1 = .ok q.2 := by decide +kernel
def tb_X2_begins : Tb := [(0, x_al 1 0, false),
  (1, x_cV 5 0 P_X5_beginAnew 4, false),
  (4, x_c 5 (.int 1), false),
  (5, x_rZ, false)]
set_option maxRecDepth 100000 in
theorem tk_X2_begins : TbOk (mt_X2_begins) (tb_X2_begins) :=
  tkc (s_aload_n (at_ dl_X2_begins 0 (ins := .aload_n 0) rfl)) (
  tkc (s_cV ok_X5_beginAnew (at_ dl_X2_begins 1 (ins := .invokevirtual 53) rfl) (by decide) rfl (tg 593 (by decide +kernel) (by decide +kernel)) (tg 349 (by decide +kernel) (by decide +kernel)) (tg 350 (by decide +kernel) (by decide +kernel)) (tg 45 (by decide +kernel) (by decide +kernel)) (tg 351 (by decide +kernel) (by decide +kernel)) (⟨by decide, by decide, by decide +kernel⟩) (⟨by decide, by decide⟩) rfl rfl) (
  tkc (s_iconst (at_ dl_X2_begins 2 (ins := .iconst 1) rfl) (by first | rfl | decide)) (
  tkc (s_rZ (at_ dl_X2_begins 3 (ins := .ireturn) rfl) rfl) ( tk0))))
theorem lf_X2_begins : lk (tb_X2_begins) 0 = (x_al 1 0, false) ∧ lk (tb_X2_begins) 1 = (x_cV 5 0 P_X5_beginAnew 4, false) ∧ lk (tb_X2_begins) 4 = (x_c 5 (.int 1), false) ∧ lk (tb_X2_begins) 5 = (x_rZ, false) := ⟨rfl, rfl, rfl, rfl⟩
def P_X2_begins : PTT := fun as M R => match as with
  | [.ref k] => IsSt M.1 k ∧ R (some (.int 1)) (M.1, begI M.2.1 k, M.2.2)
  | _ => False
set_option maxRecDepth 20000 in
theorem ok_X2_begins : Ok yX2_begins mt_X2_begins P_X2_begins := by
  refine Ok.of (by decide) rfl rfl rfl rfl fun av ⟨S, I, L⟩ R hP => ?_
  unfold P_X2_begins at hP
  split at hP
  case h_2 => exact hP.elim
  rename_i k
  obtain ⟨k, rfl⟩ : ∃ q : Nat, q = k := ⟨k, rfl⟩
  refine ⟨by simp [ent, wide, mt_X2_begins], ?_⟩
  show J mt_X2_begins R 0 [some (.ref k)] [] (S, I, L)
  try dsimp only at hP
  refine J.of tk_X2_begins 200 fun ρ hρ => ?_
  simp only [hρ, x_c, x_il, x_ll, x_al, x_is, x_as, x_ls, x_inc, x_ii, x_iq, x_i1, x_l2, x_lq, x_lh, x_i2l, x_l2i, x_lcmp, x_dup, x_dup2, x_pop, x_if, x_ifn, x_ic, x_icn, x_go, x_sw, swc, x_l01, x_mx, x_gI, x_gL, x_gR, x_pI, x_pZ, x_pL, x_pR, x_ia, x_za, x_aa, x_ias, x_zas, x_aas, x_fac, x_fa, x_slen, x_sa, x_ac, x_oi, x_new, x_na, x_cS, x_cV, x_cI, x_rI, x_rZ, x_rL, x_r0, pa, short, oc, lg, lset, lset2, wide, cond_true, cond_false, true_and, and_true, ↓reduceIte, Bool.false_eq_true, true_or, or_true, lf_X2_begins, hP.1, hP.1.f, P_X5_beginAnew]
  exact hP.2
def il_X2_offsets : List (Nat × Instr × Nat) := [(0, .aload_n 1, 1), (1, .iload_n 0, 1), (2, .putfield 60, 3), (5, .iconst 1, 1), (6, .ireturn, 1)]
def mt_X2_offsets : Mt := (cX2_offsets, RX2, 2, (some .boolean), ({ frames := 0, cells := 0, slots := 0, locals := 0 } : Room), false, none, none)
set_option maxRecDepth 100000 in
theorem dl_X2_offsets : ∀ q ∈ il_X2_offsets, decode (mt_X2_offsets).1 q.1 = .ok q.2 := by decide +kernel
def tb_X2_offsets : Tb := [(0, x_al 1 1, false),
  (1, x_il 2 0, false),
  (2, x_pI 5 6 5, false),
  (5, x_c 6 (.int 1), false),
  (6, x_rZ, false)]
set_option maxRecDepth 100000 in
theorem tk_X2_offsets : TbOk (mt_X2_offsets) (tb_X2_offsets) :=
  tkc (s_aload_n (at_ dl_X2_offsets 0 (ins := .aload_n 1) rfl)) (
  tkc (s_iload_n (at_ dl_X2_offsets 1 (ins := .iload_n 0) rfl)) (
  tkc (s_pI (at_ dl_X2_offsets 2 (ins := .putfield 60) rfl) (by decide) (by decide) (by decide) (by decide) (tg 146 (by decide +kernel) (by decide +kernel))) (
  tkc (s_iconst (at_ dl_X2_offsets 3 (ins := .iconst 1) rfl) (by first | rfl | decide)) (
  tkc (s_rZ (at_ dl_X2_offsets 4 (ins := .ireturn) rfl) rfl) ( tk0)))))
theorem lf_X2_offsets : lk (tb_X2_offsets) 0 = (x_al 1 1, false) ∧ lk (tb_X2_offsets) 1 = (x_il 2 0, false) ∧ lk (tb_X2_offsets) 2 = (x_pI 5 6 5, false) ∧ lk (tb_X2_offsets) 5 = (x_c 6 (.int 1), false) ∧ lk (tb_X2_offsets) 6 = (x_rZ, false) := ⟨rfl, rfl, rfl, rfl, rfl⟩
def P_X2_offsets : PTT := fun as M R => match as with
  | [.int v, .ref k] => IsSt M.1 k ∧ R (some (.int 1)) (M.1, mS M.2.1 k (upd (M.2.1 k) 6 v), M.2.2)
  | _ => False
set_option maxRecDepth 20000 in
theorem ok_X2_offsets : Ok yX2_offsets mt_X2_offsets P_X2_offsets := by
  refine Ok.of (by decide) rfl rfl rfl rfl fun av ⟨S, I, L⟩ R hP => ?_
  unfold P_X2_offsets at hP
  split at hP
  case h_2 => exact hP.elim
  rename_i v k
  obtain ⟨k, rfl⟩ : ∃ q : Nat, q = k := ⟨k, rfl⟩
  refine ⟨by simp [ent, wide, mt_X2_offsets], ?_⟩
  show J mt_X2_offsets R 0 [some (.int v), some (.ref k)] [] (S, I, L)
  try dsimp only at hP
  refine J.of tk_X2_offsets 200 fun ρ hρ => ?_
  simp only [hρ, x_c, x_il, x_ll, x_al, x_is, x_as, x_ls, x_inc, x_ii, x_iq, x_i1, x_l2, x_lq, x_lh, x_i2l, x_l2i, x_lcmp, x_dup, x_dup2, x_pop, x_if, x_ifn, x_ic, x_icn, x_go, x_sw, swc, x_l01, x_mx, x_gI, x_gL, x_gR, x_pI, x_pZ, x_pL, x_pR, x_ia, x_za, x_aa, x_ias, x_zas, x_aas, x_fac, x_fa, x_slen, x_sa, x_ac, x_oi, x_new, x_na, x_cS, x_cV, x_cI, x_rI, x_rZ, x_rL, x_r0, pa, short, oc, lg, lset, lset2, wide, cond_true, cond_false, true_and, and_true, ↓reduceIte, Bool.false_eq_true, true_or, or_true, lf_X2_offsets, hP.1.f]
  exact hP.2
def il_X2_runs : List (Nat × Instr × Nat) := [(0, .aload_n 2, 1), (1, .aload_n 1, 1), (2, .iload_n 0, 1), (3, .invokevirtual 47, 3), (6, .iload_n 0, 1), (7, .ifCond .le 7, 3), (10, .iconst 1, 1), (11, .goto 4, 3), (14, .iconst 0, 1), (15, .ireturn, 1)]
def mt_X2_runs : Mt := (cX2_runs, RX2, 3, (some .boolean), ({ frames := 4, cells := 0, slots := 0, locals := 101 } : Room), false, none, none)
set_option maxRecDepth 100000 in
theorem dl_X2_runs : ∀ q ∈ il_X2_runs, decode (mt_X2_runs).1 q.1 = .ok q.2 := by decide +kernel
def tb_X2_runs : Tb := [(0, x_al 1 2, false),
  (1, x_al 2 1, false),
  (2, x_il 3 0, false),
  (3, x_cV 1 2 P_X1_runRounds 6, false),
  (6, x_il 7 0, false),
  (7, x_if 14 10 (fun x : Int32 => x ≤ 0), false),
  (10, x_c 11 (.int 1), false),
  (11, x_go 15, false),
  (14, x_c 15 (.int 0), false),
  (15, x_rZ, false)]
set_option maxRecDepth 100000 in
theorem tk_X2_runs : TbOk (mt_X2_runs) (tb_X2_runs) :=
  tkc (s_aload_n (at_ dl_X2_runs 0 (ins := .aload_n 2) rfl)) (
  tkc (s_aload_n (at_ dl_X2_runs 1 (ins := .aload_n 1) rfl)) (
  tkc (s_iload_n (at_ dl_X2_runs 2 (ins := .iload_n 0) rfl)) (
  tkc (s_cV ok_X1_runRounds (at_ dl_X2_runs 3 (ins := .invokevirtual 47) rfl) (by decide) rfl (tg 589 (by decide +kernel) (by decide +kernel)) (tg 511 (by decide +kernel) (by decide +kernel)) (tg 512 (by decide +kernel) (by decide +kernel)) (tg 46 (by decide +kernel) (by decide +kernel)) (tg 513 (by decide +kernel) (by decide +kernel)) (⟨by decide, by decide, by decide +kernel⟩) (⟨by decide, by decide⟩) rfl rfl) (
  tkc (s_iload_n (at_ dl_X2_runs 4 (ins := .iload_n 0) rfl)) (
  tkc (s_if_le (at_ dl_X2_runs 5 (ins := .ifCond .le 7) rfl) (by decide)) (
  tkc (s_iconst (at_ dl_X2_runs 6 (ins := .iconst 1) rfl) (by first | rfl | decide)) (
  tkc (s_goto (at_ dl_X2_runs 7 (ins := .goto 4) rfl) (by decide)) (
  tkc (s_iconst (at_ dl_X2_runs 8 (ins := .iconst 0) rfl) (by first | rfl | decide)) (
  tkc (s_rZ (at_ dl_X2_runs 9 (ins := .ireturn) rfl) rfl) ( tk0))))))))))
theorem lf_X2_runs : lk (tb_X2_runs) 0 = (x_al 1 2, false) ∧ lk (tb_X2_runs) 1 = (x_al 2 1, false) ∧ lk (tb_X2_runs) 2 = (x_il 3 0, false) ∧ lk (tb_X2_runs) 3 = (x_cV 1 2 P_X1_runRounds 6, false) ∧ lk (tb_X2_runs) 6 = (x_il 7 0, false) ∧ lk (tb_X2_runs) 7 = (x_if 14 10 (fun x : Int32 => x ≤ 0), false) ∧ lk (tb_X2_runs) 10 = (x_c 11 (.int 1), false) ∧ lk (tb_X2_runs) 11 = (x_go 15, false) ∧ lk (tb_X2_runs) 14 = (x_c 15 (.int 0), false) ∧ lk (tb_X2_runs) 15 = (x_rZ, false) := ⟨rfl, rfl, rfl, rfl, rfl, rfl, rfl, rfl, rfl, rfl⟩
def P_X2_runs : PTT := fun as M R => match as with
  | [.int x, .ref k, .ref d] => d = 15 ∧ IsDc M.1 ∧ IsSt M.1 k ∧ ap15 k ∧ ∃ n m r, SV M.2.1 k n m ∧ OrdV M.2.1 m ∧ r ≤ 99 ∧ x = nI r ∧ ∀ I', frR k M.2.1 I' → I' k = upd (M.2.1 k) 7 (M.2.1 k 7 + nI r) → (I' (k + 3), I' (k + 4)) = itD n m (M.2.1 k 6) (ovS M.2.1 k) (ordI M.2.1) r (M.2.1 (k + 3), M.2.1 (k + 4)) → R (some (.int (bI (¬ r = 0)))) (M.1, I', M.2.2)
  | _ => False
set_option maxRecDepth 20000 in
theorem ok_X2_runs : Ok yX2_runs mt_X2_runs P_X2_runs := by
  refine Ok.of (by decide) rfl rfl rfl rfl fun av ⟨S, I, L⟩ R hP => ?_
  unfold P_X2_runs at hP
  split at hP
  case h_2 => exact hP.elim
  rename_i x k d
  obtain ⟨k, rfl⟩ : ∃ q : Nat, q = k := ⟨k, rfl⟩
  obtain ⟨d, rfl⟩ : ∃ q : Nat, q = d := ⟨d, rfl⟩
  refine ⟨by simp [ent, wide, mt_X2_runs], ?_⟩
  show J mt_X2_runs R 0 [some (.int x), some (.ref k), some (.ref d)] [] (S, I, L)
  try dsimp only at hP
  obtain ⟨rfl, hd, hk, hj, n, m, r, hv, ho, hr, rfl, hR⟩ := hP
  have hz : nI r ≤ 0 ↔ r = 0 := by rw [zero_nI, nI_leI (by omega) (by omega)]; omega
  refine J.of tk_X2_runs 200 fun ρ hρ => ?_
  simp only [hρ, x_c, x_il, x_ll, x_al, x_is, x_as, x_ls, x_inc, x_ii, x_iq, x_i1, x_l2, x_lq, x_lh, x_i2l, x_l2i, x_lcmp, x_dup, x_dup2, x_pop, x_if, x_ifn, x_ic, x_icn, x_go, x_sw, swc, x_l01, x_mx, x_gI, x_gL, x_gR, x_pI, x_pZ, x_pL, x_pR, x_ia, x_za, x_aa, x_ias, x_zas, x_aas, x_fac, x_fa, x_slen, x_sa, x_ac, x_oi, x_new, x_na, x_cS, x_cV, x_cI, x_rI, x_rZ, x_rL, x_r0, pa, short, oc, lg, lset, lset2, wide, cond_true, cond_false, true_and, and_true, ↓reduceIte, Bool.false_eq_true, true_or, or_true, lf_X2_runs, hd, hk, hj, hd.f, P_X1_runRounds, hz]
  refine ⟨n, m, r, hv, ho, hr, rfl, fun I' h1 h2 h3 => ⟨fun h => ?_, fun h => ?_⟩⟩
  · have := hR I' h1 h2 h3
    rwa [bI_f (fun q => q h)] at this
  · have := hR I' h1 h2 h3
    rwa [bI_t h] at this
def il_X2_puts : List (Nat × Instr × Nat) := [(0, .aload_n 2, 1), (1, .iload_n 0, 1), (2, .iload_n 1, 1), (3, .invokevirtual 56, 3), (6, .aload_n 2, 1), (7, .iload_n 0, 1), (8, .invokevirtual 37, 3), (11, .ifCond .eq 15, 3), (14, .aload_n 2, 1), (15, .iload_n 1, 1), (16, .invokevirtual 23, 3), (19, .ifCond .eq 7, 3), (22, .iconst 1, 1), (23, .goto 4, 3), (26, .iconst 0, 1), (27, .ireturn, 1)]
def mt_X2_puts : Mt := (cX2_puts, RX2, 3, (some .boolean), ({ frames := 2, cells := 0, slots := 0, locals := 43 } : Room), false, none, none)
set_option maxRecDepth 100000 in
theorem dl_X2_puts : ∀ q ∈ il_X2_puts, decode (mt_X2_puts).1 q.1 = .ok q.2 := by decide +kernel
def tb_X2_puts : Tb := [(0, x_al 1 2, false),
  (1, x_il 2 0, false),
  (2, x_il 3 1, false),
  (3, x_cV 5 2 P_X5_turnOver 6, false),
  (6, x_al 7 2, false),
  (7, x_il 8 0, false),
  (8, x_cV 5 1 P_X5_hasCheck 11, false),
  (11, x_if 26 14 (fun x : Int32 => x = 0), false),
  (14, x_al 15 2, false),
  (15, x_il 16 1, false),
  (16, x_cV 5 1 P_X5_hasBit 19, false),
  (19, x_if 26 22 (fun x : Int32 => x = 0), false),
  (22, x_c 23 (.int 1), false),
  (23, x_go 27, false),
  (26, x_c 27 (.int 0), false),
  (27, x_rZ, false)]
set_option maxRecDepth 100000 in
theorem tk_X2_puts : TbOk (mt_X2_puts) (tb_X2_puts) :=
  tkc (s_aload_n (at_ dl_X2_puts 0 (ins := .aload_n 2) rfl)) (
  tkc (s_iload_n (at_ dl_X2_puts 1 (ins := .iload_n 0) rfl)) (
  tkc (s_iload_n (at_ dl_X2_puts 2 (ins := .iload_n 1) rfl)) (
  tkc (s_cV ok_X5_turnOver (at_ dl_X2_puts 3 (ins := .invokevirtual 56) rfl) (by decide) rfl (tg 597 (by decide +kernel) (by decide +kernel)) (tg 520 (by decide +kernel) (by decide +kernel)) (tg 521 (by decide +kernel) (by decide +kernel)) (tg 45 (by decide +kernel) (by decide +kernel)) (tg 522 (by decide +kernel) (by decide +kernel)) (⟨by decide, by decide, by decide +kernel⟩) (⟨by decide, by decide⟩) rfl rfl) (
  tkc (s_aload_n (at_ dl_X2_puts 4 (ins := .aload_n 2) rfl)) (
  tkc (s_iload_n (at_ dl_X2_puts 5 (ins := .iload_n 0) rfl)) (
  tkc (s_cV ok_X5_hasCheck (at_ dl_X2_puts 6 (ins := .invokevirtual 37) rfl) (by decide) rfl (tg 598 (by decide +kernel) (by decide +kernel)) (tg 392 (by decide +kernel) (by decide +kernel)) (tg 393 (by decide +kernel) (by decide +kernel)) (tg 45 (by decide +kernel) (by decide +kernel)) (tg 394 (by decide +kernel) (by decide +kernel)) (⟨by decide, by decide, by decide +kernel⟩) (⟨by decide, by decide⟩) rfl rfl) (
  tkc (s_if_eq (at_ dl_X2_puts 7 (ins := .ifCond .eq 15) rfl) (by decide)) (
  tkc (s_aload_n (at_ dl_X2_puts 8 (ins := .aload_n 2) rfl)) (
  tkc (s_iload_n (at_ dl_X2_puts 9 (ins := .iload_n 1) rfl)) (
  tkc (s_cV ok_X5_hasBit (at_ dl_X2_puts 10 (ins := .invokevirtual 23) rfl) (by decide) rfl (tg 599 (by decide +kernel) (by decide +kernel)) (tg 396 (by decide +kernel) (by decide +kernel)) (tg 397 (by decide +kernel) (by decide +kernel)) (tg 45 (by decide +kernel) (by decide +kernel)) (tg 398 (by decide +kernel) (by decide +kernel)) (⟨by decide, by decide, by decide +kernel⟩) (⟨by decide, by decide⟩) rfl rfl) (
  tkc (s_if_eq (at_ dl_X2_puts 11 (ins := .ifCond .eq 7) rfl) (by decide)) (
  tkc (s_iconst (at_ dl_X2_puts 12 (ins := .iconst 1) rfl) (by first | rfl | decide)) (
  tkc (s_goto (at_ dl_X2_puts 13 (ins := .goto 4) rfl) (by decide)) (
  tkc (s_iconst (at_ dl_X2_puts 14 (ins := .iconst 0) rfl) (by first | rfl | decide)) (
  tkc (s_rZ (at_ dl_X2_puts 15 (ins := .ireturn) rfl) rfl) ( tk0))))))))))))))))
theorem lf_X2_puts : lk (tb_X2_puts) 0 = (x_al 1 2, false) ∧ lk (tb_X2_puts) 1 = (x_il 2 0, false) ∧ lk (tb_X2_puts) 2 = (x_il 3 1, false) ∧ lk (tb_X2_puts) 3 = (x_cV 5 2 P_X5_turnOver 6, false) ∧ lk (tb_X2_puts) 6 = (x_al 7 2, false) ∧ lk (tb_X2_puts) 7 = (x_il 8 0, false) ∧ lk (tb_X2_puts) 8 = (x_cV 5 1 P_X5_hasCheck 11, false) ∧ lk (tb_X2_puts) 11 = (x_if 26 14 (fun x : Int32 => x = 0), false) ∧ lk (tb_X2_puts) 14 = (x_al 15 2, false) ∧ lk (tb_X2_puts) 15 = (x_il 16 1, false) ∧ lk (tb_X2_puts) 16 = (x_cV 5 1 P_X5_hasBit 19, false) ∧ lk (tb_X2_puts) 19 = (x_if 26 22 (fun x : Int32 => x = 0), false) ∧ lk (tb_X2_puts) 22 = (x_c 23 (.int 1), false) ∧ lk (tb_X2_puts) 23 = (x_go 27, false) ∧ lk (tb_X2_puts) 26 = (x_c 27 (.int 0), false) ∧ lk (tb_X2_puts) 27 = (x_rZ, false) := ⟨rfl, rfl, rfl, rfl, rfl, rfl, rfl, rfl, rfl, rfl, rfl, rfl, rfl, rfl, rfl, rfl⟩
def P_X2_puts : PTT := fun as M R => match as with
  | [.int c, .int b, .ref k] => IsSt M.1 k ∧ ∃ n m, n ≤ 9 ∧ m ≤ 6 ∧ M.2.1 k 4 = nI n ∧ M.2.1 k 5 = nI m ∧ ((¬ c < 0 ∧ ¬ nI m ≤ c) ∧ (¬ b < 0 ∧ ¬ nI n ≤ b) → R (some (.int 1)) (M.1, putI M.2.1 k c b, M.2.2)) ∧ (¬ ((¬ c < 0 ∧ ¬ nI m ≤ c) ∧ (¬ b < 0 ∧ ¬ nI n ≤ b)) → R (some (.int 0)) M)
  | _ => False
set_option maxRecDepth 20000 in
theorem ok_X2_puts : Ok yX2_puts mt_X2_puts P_X2_puts := by
  refine Ok.of (by decide) rfl rfl rfl rfl fun av ⟨S, I, L⟩ R hP => ?_
  unfold P_X2_puts at hP
  split at hP
  case h_2 => exact hP.elim
  rename_i c b k
  obtain ⟨k, rfl⟩ : ∃ q : Nat, q = k := ⟨k, rfl⟩
  refine ⟨by simp [ent, wide, mt_X2_puts], ?_⟩
  show J mt_X2_puts R 0 [some (.int c), some (.int b), some (.ref k)] [] (S, I, L)
  try dsimp only at hP
  obtain ⟨hk, n, m, n9, m6, hn, hm, h1, h2⟩ := hP
  have e0 : putI I k c b k = I k := by unfold putI; rw [mS_n (by omega), mS_n (by omega)]
  have x1 : ∃ n', n' ≤ 9 ∧ nI n = nI n' := ⟨n, n9, rfl⟩
  have x2 : ∃ m', m' ≤ 6 ∧ nI m = nI m' := ⟨m, m6, rfl⟩
  refine J.of tk_X2_puts 200 fun ρ hρ => ?_
  simp only [hρ, x_c, x_il, x_ll, x_al, x_is, x_as, x_ls, x_inc, x_ii, x_iq, x_i1, x_l2, x_lq, x_lh, x_i2l, x_l2i, x_lcmp, x_dup, x_dup2, x_pop, x_if, x_ifn, x_ic, x_icn, x_go, x_sw, swc, x_l01, x_mx, x_gI, x_gL, x_gR, x_pI, x_pZ, x_pL, x_pR, x_ia, x_za, x_aa, x_ias, x_zas, x_aas, x_fac, x_fa, x_slen, x_sa, x_ac, x_oi, x_new, x_na, x_cS, x_cV, x_cI, x_rI, x_rZ, x_rL, x_r0, pa, short, oc, lg, lset, lset2, wide, cond_true, cond_false, true_and, and_true, ↓reduceIte, Bool.false_eq_true, true_or, or_true, lf_X2_puts, hk, hk.f, hn, hm, x1, x2, e0, P_X5_turnOver, P_X5_hasCheck, P_X5_hasBit, bI_0, Classical.not_not]
  refine ⟨fun h => ⟨fun q => absurd h.1 q, fun q => ⟨fun q2 => absurd h.2 q2, fun q2 => h1 h⟩⟩, fun h => ⟨fun _ => h2 h, fun q => ⟨fun _ => h2 h, fun q2 => absurd ⟨q, q2⟩ h⟩⟩⟩
/-- a doing, three figures: whether it can be (is so), and what is then -/
def doJ (a : AS) (w : Nat) : Bool × AS :=
  if w / 100 = 1 then (decide (¬ 10 * (w / 10 % 10) + w % 10 = 0), itA (10 * (w / 10 % 10) + w % 10) a)
  else if w / 100 = 2 then (if w / 10 % 10 = 0 ∧ w % 10 = 0 then (true, begA a) else (false, a))
  else if w / 100 = 3 then (if w / 10 % 10 < aM a ∧ w % 10 < aN a then (true, putA a (w / 10 % 10) (w % 10)) else (false, a))
  else if w / 100 = 4 then (decide (w / 10 % 10 < aN a ∧ w % 10 = if (wdA a).testBit (w / 10 % 10) then 1 else 0), a)
  else if w / 100 = 5 then (decide ((w / 10 % 10 = 0 ∧ w % 10 = 0) ∧ opA a = 0), a)
  else if w / 100 = 6 then (decide (w / 10 % 10 < aM a ∧ w % 10 = if (opA a).testBit (w / 10 % 10) then 1 else 0), a)
  else if w / 100 = 7 then (if w / 10 % 10 = 0 then (true, (a.1, a.2.1, nI (w % 10), a.2.2.2)) else (false, a))
  else (false, a)
theorem doJ_1 {a : AS} {w : Nat} (hh : w / 100 = 1) : doJ a w = (decide (¬ 10 * (w / 10 % 10) + w % 10 = 0), itA (10 * (w / 10 % 10) + w % 10) a) := by unfold doJ; rw [if_pos hh]
theorem doJ_4 {a : AS} {w : Nat} (hh : w / 100 = 4) : doJ a w = (decide (w / 10 % 10 < aN a ∧ w % 10 = if (wdA a).testBit (w / 10 % 10) then 1 else 0), a) := by unfold doJ; rw [if_neg (by omega), if_neg (by omega), if_neg (by omega), if_pos hh]
theorem doJ_5 {a : AS} {w : Nat} (hh : w / 100 = 5) : doJ a w = (decide ((w / 10 % 10 = 0 ∧ w % 10 = 0) ∧ opA a = 0), a) := by unfold doJ; rw [if_neg (by omega), if_neg (by omega), if_neg (by omega), if_neg (by omega), if_pos hh]
theorem doJ_6 {a : AS} {w : Nat} (hh : w / 100 = 6) : doJ a w = (decide (w / 10 % 10 < aM a ∧ w % 10 = if (opA a).testBit (w / 10 % 10) then 1 else 0), a) := by unfold doJ; rw [if_neg (by omega), if_neg (by omega), if_neg (by omega), if_neg (by omega), if_neg (by omega), if_pos hh]
theorem doJ_ok {a : AS} {w : Nat} (h : AOk a) : AOk (doJ a w).2 := by
  unfold doJ
  split
  · exact itA_ok h
  split
  · split
    · exact begA_ok h
    · exact h
  split
  · split
    · next h1 => exact putA_ok h h1.1 h1.2
    · exact h
  split
  · exact h
  split
  · exact h
  split
  · exact h
  split
  · split
    · exact ⟨h.1, h.2.1, ⟨w % 10, by omega, rfl⟩, h.2.2.2.1, h.2.2.2.2⟩
    · exact h
  · exact h
/-- nothing but the trial state and the decoder's own places is another -/
def frT (I I' : MI) : Prop := ∀ q, (q < 10 ∨ 15 ≤ q) → q ≠ 15 → q ≠ 17 → I' q = I q
def il_X2_goesThrough : List (Nat × Instr × Nat) := [(0, .iload_n 0, 1), (1, .bipush 10, 2), (3, .idiv, 1), (4, .bipush 10, 2), (6, .irem, 1), (7, .istore_n 3, 1), (8, .iload_n 0, 1), (9, .bipush 10, 2), (11, .irem, 1), (12, .istore 4, 2), (14, .iload_n 0, 1), (15, .bipush 100, 2), (17, .idiv, 1), (18, .tableswitch 180 1 7 #[42, 55, 77, 85, 112, 134, 161], 42), (60, .iload_n 3, 1), (61, .bipush 10, 2), (63, .imul, 1), (64, .iload 4, 2), (66, .iadd, 1), (67, .aload_n 1, 1), (68, .aload_n 2, 1), (69, .invokestatic 11, 3), (72, .ireturn, 1), (73, .iload_n 3, 1), (74, .ifCond .ne 19, 3), (77, .iload 4, 2), (79, .ifCond .ne 14, 3), (82, .aload_n 1, 1), (83, .invokestatic 15, 3), (86, .ifCond .eq 7, 3), (89, .iconst 1, 1), (90, .goto 4, 3), (93, .iconst 0, 1), (94, .ireturn, 1), (95, .iload_n 3, 1), (96, .iload 4, 2), (98, .aload_n 1, 1), (99, .invokestatic 19, 3), (102, .ireturn, 1), (103, .aload_n 1, 1), (104, .iload_n 3, 1), (105, .invokevirtual 23, 3), (108, .ifCond .eq 20, 3), (111, .iload 4, 2), (113, .aload_n 1, 1), (114, .invokevirtual 29, 3), (117, .iload_n 3, 1), (118, .ishr, 1), (119, .iconst 1, 1), (120, .iand, 1), (121, .if_icmp .ne 7, 3), (124, .iconst 1, 1), (125, .goto 4, 3), (128, .iconst 0, 1), (129, .ireturn, 1), (130, .iload_n 3, 1), (131, .ifCond .ne 19, 3), (134, .iload 4, 2), (136, .ifCond .ne 14, 3), (139, .aload_n 1, 1), (140, .invokevirtual 33, 3), (143, .ifCond .eq 7, 3), (146, .iconst 1, 1), (147, .goto 4, 3), (150, .iconst 0, 1), (151, .ireturn, 1), (152, .aload_n 1, 1), (153, .iload_n 3, 1), (154, .invokevirtual 37, 3), (157, .ifCond .eq 20, 3), (160, .iload 4, 2), (162, .aload_n 1, 1), (163, .invokevirtual 40, 3), (166, .iload_n 3, 1), (167, .ishr, 1), (168, .iconst 1, 1), (169, .iand, 1), (170, .if_icmp .ne 7, 3), (173, .iconst 1, 1), (174, .goto 4, 3), (177, .iconst 0, 1), (178, .ireturn, 1), (179, .iload_n 3, 1), (180, .ifCond .ne 16, 3), (183, .iload 4, 2), (185, .aload_n 1, 1), (186, .invokestatic 43, 3), (189, .ifCond .eq 7, 3), (192, .iconst 1, 1), (193, .goto 4, 3), (196, .iconst 0, 1), (197, .ireturn, 1), (198, .iconst 0, 1), (199, .ireturn, 1)]
def mt_X2_goesThrough : Mt := (cX2_goesThrough, RX2, 5, (some .boolean), ({ frames := 5, cells := 0, slots := 0, locals := 123 } : Room), false, none, none)
set_option maxRecDepth 100000 in
theorem dl_X2_goesThrough : ∀ q ∈ il_X2_goesThrough, decode (mt_X2_goesThrough).1 q.1 = .ok q.2 := by decide +kernel
def tb_X2_goesThrough : Tb := [(0, x_il 1 0, false),
  (1, x_c 3 (.int 10), false),
  (3, x_iq 4 (fun x y : Int32 => x / y), false),
  (4, x_c 6 (.int 10), false),
  (6, x_iq 7 (fun x y : Int32 => x - x / y * y), false),
  (7, x_is 8 3, false),
  (8, x_il 9 0, false),
  (9, x_c 11 (.int 10), false),
  (11, x_iq 12 (fun x y : Int32 => x - x / y * y), false),
  (12, x_is 14 4, false),
  (14, x_il 15 0, false),
  (15, x_c 17 (.int 100), false),
  (17, x_iq 18 (fun x y : Int32 => x / y), false),
  (18, x_sw 1 7 [60, 73, 95, 103, 130, 152, 179] 198, false),
  (60, x_il 61 3, false),
  (61, x_c 63 (.int 10), false),
  (63, x_ii 64 (fun x y : Int32 => x * y), false),
  (64, x_il 66 4, false),
  (66, x_ii 67 (fun x y : Int32 => x + y), false),
  (67, x_al 68 1, false),
  (68, x_al 69 2, false),
  (69, x_cS 3 P_X2_runs 72, false),
  (72, x_rZ, false),
  (73, x_il 74 3, false),
  (74, x_ifn 93 77 (fun x : Int32 => x = 0), false),
  (77, x_il 79 4, false),
  (79, x_ifn 93 82 (fun x : Int32 => x = 0), false),
  (82, x_al 83 1, false),
  (83, x_cS 1 P_X2_begins 86, false),
  (86, x_if 93 89 (fun x : Int32 => x = 0), false),
  (89, x_c 90 (.int 1), false),
  (90, x_go 94, false),
  (93, x_c 94 (.int 0), false),
  (94, x_rZ, false),
  (95, x_il 96 3, false),
  (96, x_il 98 4, false),
  (98, x_al 99 1, false),
  (99, x_cS 3 P_X2_puts 102, false),
  (102, x_rZ, false),
  (103, x_al 104 1, false),
  (104, x_il 105 3, false),
  (105, x_cV 5 1 P_X5_hasBit 108, false),
  (108, x_if 128 111 (fun x : Int32 => x = 0), false),
  (111, x_il 113 4, false),
  (113, x_al 114 1, false),
  (114, x_cV 5 0 P_X5_word 117, false),
  (117, x_il 118 3, false),
  (118, x_ii 119 (fun x y : Int32 => x >>> (y &&& 31)), false),
  (119, x_c 120 (.int 1), false),
  (120, x_ii 121 (fun x y : Int32 => x &&& y), false),
  (121, x_icn 128 124 (fun x y : Int32 => x = y), false),
  (124, x_c 125 (.int 1), false),
  (125, x_go 129, false),
  (128, x_c 129 (.int 0), false),
  (129, x_rZ, false),
  (130, x_il 131 3, false),
  (131, x_ifn 150 134 (fun x : Int32 => x = 0), false),
  (134, x_il 136 4, false),
  (136, x_ifn 150 139 (fun x : Int32 => x = 0), false),
  (139, x_al 140 1, false),
  (140, x_cV 5 0 P_X5_solved 143, false),
  (143, x_if 150 146 (fun x : Int32 => x = 0), false),
  (146, x_c 147 (.int 1), false),
  (147, x_go 151, false),
  (150, x_c 151 (.int 0), false),
  (151, x_rZ, false),
  (152, x_al 153 1, false),
  (153, x_il 154 3, false),
  (154, x_cV 5 1 P_X5_hasCheck 157, false),
  (157, x_if 177 160 (fun x : Int32 => x = 0), false),
  (160, x_il 162 4, false),
  (162, x_al 163 1, false),
  (163, x_cV 5 0 P_X5_open 166, false),
  (166, x_il 167 3, false),
  (167, x_ii 168 (fun x y : Int32 => x >>> (y &&& 31)), false),
  (168, x_c 169 (.int 1), false),
  (169, x_ii 170 (fun x y : Int32 => x &&& y), false),
  (170, x_icn 177 173 (fun x y : Int32 => x = y), false),
  (173, x_c 174 (.int 1), false),
  (174, x_go 178, false),
  (177, x_c 178 (.int 0), false),
  (178, x_rZ, false),
  (179, x_il 180 3, false),
  (180, x_ifn 196 183 (fun x : Int32 => x = 0), false),
  (183, x_il 185 4, false),
  (185, x_al 186 1, false),
  (186, x_cS 2 P_X2_offsets 189, false),
  (189, x_if 196 192 (fun x : Int32 => x = 0), false),
  (192, x_c 193 (.int 1), false),
  (193, x_go 197, false),
  (196, x_c 197 (.int 0), false),
  (197, x_rZ, false),
  (198, x_c 199 (.int 0), false),
  (199, x_rZ, false)]
set_option maxRecDepth 100000 in
theorem tk_X2_goesThrough : TbOk (mt_X2_goesThrough) (tb_X2_goesThrough) :=
  tkc (s_iload_n (at_ dl_X2_goesThrough 0 (ins := .iload_n 0) rfl)) (
  tkc (s_bipush (at_ dl_X2_goesThrough 1 (ins := .bipush 10) rfl) (by first | rfl | decide)) (
  tkc (s_idiv (at_ dl_X2_goesThrough 2 (ins := .idiv) rfl)) (
  tkc (s_bipush (at_ dl_X2_goesThrough 3 (ins := .bipush 10) rfl) (by first | rfl | decide)) (
  tkc (s_irem (at_ dl_X2_goesThrough 4 (ins := .irem) rfl)) (
  tkc (s_istore_n (at_ dl_X2_goesThrough 5 (ins := .istore_n 3) rfl) (by decide)) (
  tkc (s_iload_n (at_ dl_X2_goesThrough 6 (ins := .iload_n 0) rfl)) (
  tkc (s_bipush (at_ dl_X2_goesThrough 7 (ins := .bipush 10) rfl) (by first | rfl | decide)) (
  tkc (s_irem (at_ dl_X2_goesThrough 8 (ins := .irem) rfl)) (
  tkc (s_istore (at_ dl_X2_goesThrough 9 (ins := .istore 4) rfl) (by decide)) (
  tkc (s_iload_n (at_ dl_X2_goesThrough 10 (ins := .iload_n 0) rfl)) (
  tkc (s_bipush (at_ dl_X2_goesThrough 11 (ins := .bipush 100) rfl) (by first | rfl | decide)) (
  tkc (s_idiv (at_ dl_X2_goesThrough 12 (ins := .idiv) rfl)) (
  tkc (s_sw (at_ dl_X2_goesThrough 13 (ins := .tableswitch 180 1 7 #[42, 55, 77, 85, 112, 134, 161]) rfl) rfl (tsw [60, 73, 95, 103, 130, 152, 179] (by decide +kernel)) (by decide)) (
  tkc (s_iload_n (at_ dl_X2_goesThrough 14 (ins := .iload_n 3) rfl)) (
  tkc (s_bipush (at_ dl_X2_goesThrough 15 (ins := .bipush 10) rfl) (by first | rfl | decide)) (
  tkc (s_imul (at_ dl_X2_goesThrough 16 (ins := .imul) rfl)) (
  tkc (s_iload (at_ dl_X2_goesThrough 17 (ins := .iload 4) rfl)) (
  tkc (s_iadd (at_ dl_X2_goesThrough 18 (ins := .iadd) rfl)) (
  tkc (s_aload_n (at_ dl_X2_goesThrough 19 (ins := .aload_n 1) rfl)) (
  tkc (s_aload_n (at_ dl_X2_goesThrough 20 (ins := .aload_n 2) rfl)) (
  tkc (s_cS ok_X2_runs (at_ dl_X2_goesThrough 21 (ins := .invokestatic 11) rfl) (tg 586 (by decide +kernel) (by decide +kernel)) (tg 587 (by decide +kernel) (by decide +kernel)) (tg 54 (by decide +kernel) (by decide +kernel)) (tg 588 (by decide +kernel) (by decide +kernel)) (⟨by decide, by decide, by decide +kernel⟩) (⟨by decide, by decide⟩) rfl rfl) (
  tkc (s_rZ (at_ dl_X2_goesThrough 22 (ins := .ireturn) rfl) rfl) (
  tkc (s_iload_n (at_ dl_X2_goesThrough 23 (ins := .iload_n 3) rfl)) (
  tkc (s_if_ne (at_ dl_X2_goesThrough 24 (ins := .ifCond .ne 19) rfl) (by decide)) (
  tkc (s_iload (at_ dl_X2_goesThrough 25 (ins := .iload 4) rfl)) (
  tkc (s_if_ne (at_ dl_X2_goesThrough 26 (ins := .ifCond .ne 14) rfl) (by decide)) (
  tkc (s_aload_n (at_ dl_X2_goesThrough 27 (ins := .aload_n 1) rfl)) (
  tkc (s_cS ok_X2_begins (at_ dl_X2_goesThrough 28 (ins := .invokestatic 15) rfl) (tg 590 (by decide +kernel) (by decide +kernel)) (tg 591 (by decide +kernel) (by decide +kernel)) (tg 54 (by decide +kernel) (by decide +kernel)) (tg 592 (by decide +kernel) (by decide +kernel)) (⟨by decide, by decide, by decide +kernel⟩) (⟨by decide, by decide⟩) rfl rfl) (
  tkc (s_if_eq (at_ dl_X2_goesThrough 29 (ins := .ifCond .eq 7) rfl) (by decide)) (
  tkc (s_iconst (at_ dl_X2_goesThrough 30 (ins := .iconst 1) rfl) (by first | rfl | decide)) (
  tkc (s_goto (at_ dl_X2_goesThrough 31 (ins := .goto 4) rfl) (by decide)) (
  tkc (s_iconst (at_ dl_X2_goesThrough 32 (ins := .iconst 0) rfl) (by first | rfl | decide)) (
  tkc (s_rZ (at_ dl_X2_goesThrough 33 (ins := .ireturn) rfl) rfl) (
  tkc (s_iload_n (at_ dl_X2_goesThrough 34 (ins := .iload_n 3) rfl)) (
  tkc (s_iload (at_ dl_X2_goesThrough 35 (ins := .iload 4) rfl)) (
  tkc (s_aload_n (at_ dl_X2_goesThrough 36 (ins := .aload_n 1) rfl)) (
  tkc (s_cS ok_X2_puts (at_ dl_X2_goesThrough 37 (ins := .invokestatic 19) rfl) (tg 594 (by decide +kernel) (by decide +kernel)) (tg 595 (by decide +kernel) (by decide +kernel)) (tg 54 (by decide +kernel) (by decide +kernel)) (tg 596 (by decide +kernel) (by decide +kernel)) (⟨by decide, by decide, by decide +kernel⟩) (⟨by decide, by decide⟩) rfl rfl) (
  tkc (s_rZ (at_ dl_X2_goesThrough 38 (ins := .ireturn) rfl) rfl) (
  tkc (s_aload_n (at_ dl_X2_goesThrough 39 (ins := .aload_n 1) rfl)) (
  tkc (s_iload_n (at_ dl_X2_goesThrough 40 (ins := .iload_n 3) rfl)) (
  tkc (s_cV ok_X5_hasBit (at_ dl_X2_goesThrough 41 (ins := .invokevirtual 23) rfl) (by decide) rfl (tg 599 (by decide +kernel) (by decide +kernel)) (tg 396 (by decide +kernel) (by decide +kernel)) (tg 397 (by decide +kernel) (by decide +kernel)) (tg 45 (by decide +kernel) (by decide +kernel)) (tg 398 (by decide +kernel) (by decide +kernel)) (⟨by decide, by decide, by decide +kernel⟩) (⟨by decide, by decide⟩) rfl rfl) (
  tkc (s_if_eq (at_ dl_X2_goesThrough 42 (ins := .ifCond .eq 20) rfl) (by decide)) (
  tkc (s_iload (at_ dl_X2_goesThrough 43 (ins := .iload 4) rfl)) (
  tkc (s_aload_n (at_ dl_X2_goesThrough 44 (ins := .aload_n 1) rfl)) (
  tkc (s_cV ok_X5_word (at_ dl_X2_goesThrough 45 (ins := .invokevirtual 29) rfl) (by decide) rfl (tg 600 (by decide +kernel) (by decide +kernel)) (tg 361 (by decide +kernel) (by decide +kernel)) (tg 362 (by decide +kernel) (by decide +kernel)) (tg 45 (by decide +kernel) (by decide +kernel)) (tg 363 (by decide +kernel) (by decide +kernel)) (⟨by decide, by decide, by decide +kernel⟩) (⟨by decide, by decide⟩) rfl rfl) (
  tkc (s_iload_n (at_ dl_X2_goesThrough 46 (ins := .iload_n 3) rfl)) (
  tkc (s_ishr (at_ dl_X2_goesThrough 47 (ins := .ishr) rfl)) (
  tkc (s_iconst (at_ dl_X2_goesThrough 48 (ins := .iconst 1) rfl) (by first | rfl | decide)) (
  tkc (s_iand (at_ dl_X2_goesThrough 49 (ins := .iand) rfl)) (
  tkc (s_ic_ne (at_ dl_X2_goesThrough 50 (ins := .if_icmp .ne 7) rfl) (by decide)) (
  tkc (s_iconst (at_ dl_X2_goesThrough 51 (ins := .iconst 1) rfl) (by first | rfl | decide)) (
  tkc (s_goto (at_ dl_X2_goesThrough 52 (ins := .goto 4) rfl) (by decide)) (
  tkc (s_iconst (at_ dl_X2_goesThrough 53 (ins := .iconst 0) rfl) (by first | rfl | decide)) (
  tkc (s_rZ (at_ dl_X2_goesThrough 54 (ins := .ireturn) rfl) rfl) (
  tkc (s_iload_n (at_ dl_X2_goesThrough 55 (ins := .iload_n 3) rfl)) (
  tkc (s_if_ne (at_ dl_X2_goesThrough 56 (ins := .ifCond .ne 19) rfl) (by decide)) (
  tkc (s_iload (at_ dl_X2_goesThrough 57 (ins := .iload 4) rfl)) (
  tkc (s_if_ne (at_ dl_X2_goesThrough 58 (ins := .ifCond .ne 14) rfl) (by decide)) (
  tkc (s_aload_n (at_ dl_X2_goesThrough 59 (ins := .aload_n 1) rfl)) (
  tkc (s_cV ok_X5_solved (at_ dl_X2_goesThrough 60 (ins := .invokevirtual 33) rfl) (by decide) rfl (tg 601 (by decide +kernel) (by decide +kernel)) (tg 380 (by decide +kernel) (by decide +kernel)) (tg 381 (by decide +kernel) (by decide +kernel)) (tg 45 (by decide +kernel) (by decide +kernel)) (tg 382 (by decide +kernel) (by decide +kernel)) (⟨by decide, by decide, by decide +kernel⟩) (⟨by decide, by decide⟩) rfl rfl) (
  tkc (s_if_eq (at_ dl_X2_goesThrough 61 (ins := .ifCond .eq 7) rfl) (by decide)) (
  tkc (s_iconst (at_ dl_X2_goesThrough 62 (ins := .iconst 1) rfl) (by first | rfl | decide)) (
  tkc (s_goto (at_ dl_X2_goesThrough 63 (ins := .goto 4) rfl) (by decide)) (
  tkc (s_iconst (at_ dl_X2_goesThrough 64 (ins := .iconst 0) rfl) (by first | rfl | decide)) (
  tkc (s_rZ (at_ dl_X2_goesThrough 65 (ins := .ireturn) rfl) rfl) (
  tkc (s_aload_n (at_ dl_X2_goesThrough 66 (ins := .aload_n 1) rfl)) (
  tkc (s_iload_n (at_ dl_X2_goesThrough 67 (ins := .iload_n 3) rfl)) (
  tkc (s_cV ok_X5_hasCheck (at_ dl_X2_goesThrough 68 (ins := .invokevirtual 37) rfl) (by decide) rfl (tg 598 (by decide +kernel) (by decide +kernel)) (tg 392 (by decide +kernel) (by decide +kernel)) (tg 393 (by decide +kernel) (by decide +kernel)) (tg 45 (by decide +kernel) (by decide +kernel)) (tg 394 (by decide +kernel) (by decide +kernel)) (⟨by decide, by decide, by decide +kernel⟩) (⟨by decide, by decide⟩) rfl rfl) (
  tkc (s_if_eq (at_ dl_X2_goesThrough 69 (ins := .ifCond .eq 20) rfl) (by decide)) (
  tkc (s_iload (at_ dl_X2_goesThrough 70 (ins := .iload 4) rfl)) (
  tkc (s_aload_n (at_ dl_X2_goesThrough 71 (ins := .aload_n 1) rfl)) (
  tkc (s_cV ok_X5_open (at_ dl_X2_goesThrough 72 (ins := .invokevirtual 40) rfl) (by decide) rfl (tg 602 (by decide +kernel) (by decide +kernel)) (tg 365 (by decide +kernel) (by decide +kernel)) (tg 366 (by decide +kernel) (by decide +kernel)) (tg 45 (by decide +kernel) (by decide +kernel)) (tg 367 (by decide +kernel) (by decide +kernel)) (⟨by decide, by decide, by decide +kernel⟩) (⟨by decide, by decide⟩) rfl rfl) (
  tkc (s_iload_n (at_ dl_X2_goesThrough 73 (ins := .iload_n 3) rfl)) (
  tkc (s_ishr (at_ dl_X2_goesThrough 74 (ins := .ishr) rfl)) (
  tkc (s_iconst (at_ dl_X2_goesThrough 75 (ins := .iconst 1) rfl) (by first | rfl | decide)) (
  tkc (s_iand (at_ dl_X2_goesThrough 76 (ins := .iand) rfl)) (
  tkc (s_ic_ne (at_ dl_X2_goesThrough 77 (ins := .if_icmp .ne 7) rfl) (by decide)) (
  tkc (s_iconst (at_ dl_X2_goesThrough 78 (ins := .iconst 1) rfl) (by first | rfl | decide)) (
  tkc (s_goto (at_ dl_X2_goesThrough 79 (ins := .goto 4) rfl) (by decide)) (
  tkc (s_iconst (at_ dl_X2_goesThrough 80 (ins := .iconst 0) rfl) (by first | rfl | decide)) (
  tkc (s_rZ (at_ dl_X2_goesThrough 81 (ins := .ireturn) rfl) rfl) (
  tkc (s_iload_n (at_ dl_X2_goesThrough 82 (ins := .iload_n 3) rfl)) (
  tkc (s_if_ne (at_ dl_X2_goesThrough 83 (ins := .ifCond .ne 16) rfl) (by decide)) (
  tkc (s_iload (at_ dl_X2_goesThrough 84 (ins := .iload 4) rfl)) (
  tkc (s_aload_n (at_ dl_X2_goesThrough 85 (ins := .aload_n 1) rfl)) (
  tkc (s_cS ok_X2_offsets (at_ dl_X2_goesThrough 86 (ins := .invokestatic 43) rfl) (tg 603 (by decide +kernel) (by decide +kernel)) (tg 604 (by decide +kernel) (by decide +kernel)) (tg 54 (by decide +kernel) (by decide +kernel)) (tg 605 (by decide +kernel) (by decide +kernel)) (⟨by decide, by decide, by decide +kernel⟩) (⟨by decide, by decide⟩) rfl rfl) (
  tkc (s_if_eq (at_ dl_X2_goesThrough 87 (ins := .ifCond .eq 7) rfl) (by decide)) (
  tkc (s_iconst (at_ dl_X2_goesThrough 88 (ins := .iconst 1) rfl) (by first | rfl | decide)) (
  tkc (s_goto (at_ dl_X2_goesThrough 89 (ins := .goto 4) rfl) (by decide)) (
  tkc (s_iconst (at_ dl_X2_goesThrough 90 (ins := .iconst 0) rfl) (by first | rfl | decide)) (
  tkc (s_rZ (at_ dl_X2_goesThrough 91 (ins := .ireturn) rfl) rfl) (
  tkc (s_iconst (at_ dl_X2_goesThrough 92 (ins := .iconst 0) rfl) (by first | rfl | decide)) (
  tkc (s_rZ (at_ dl_X2_goesThrough 93 (ins := .ireturn) rfl) rfl) ( tk0))))))))))))))))))))))))))))))))))))))))))))))))))))))))))))))))))))))))))))))))))))))))))))))
theorem lf_X2_goesThrough : lk (tb_X2_goesThrough) 0 = (x_il 1 0, false) ∧ lk (tb_X2_goesThrough) 1 = (x_c 3 (.int 10), false) ∧ lk (tb_X2_goesThrough) 3 = (x_iq 4 (fun x y : Int32 => x / y), false) ∧ lk (tb_X2_goesThrough) 4 = (x_c 6 (.int 10), false) ∧ lk (tb_X2_goesThrough) 6 = (x_iq 7 (fun x y : Int32 => x - x / y * y), false) ∧ lk (tb_X2_goesThrough) 7 = (x_is 8 3, false) ∧ lk (tb_X2_goesThrough) 8 = (x_il 9 0, false) ∧ lk (tb_X2_goesThrough) 9 = (x_c 11 (.int 10), false) ∧ lk (tb_X2_goesThrough) 11 = (x_iq 12 (fun x y : Int32 => x - x / y * y), false) ∧ lk (tb_X2_goesThrough) 12 = (x_is 14 4, false) ∧ lk (tb_X2_goesThrough) 14 = (x_il 15 0, false) ∧ lk (tb_X2_goesThrough) 15 = (x_c 17 (.int 100), false) ∧ lk (tb_X2_goesThrough) 17 = (x_iq 18 (fun x y : Int32 => x / y), false) ∧ lk (tb_X2_goesThrough) 18 = (x_sw 1 7 [60, 73, 95, 103, 130, 152, 179] 198, false) ∧ lk (tb_X2_goesThrough) 60 = (x_il 61 3, false) ∧ lk (tb_X2_goesThrough) 61 = (x_c 63 (.int 10), false) ∧ lk (tb_X2_goesThrough) 63 = (x_ii 64 (fun x y : Int32 => x * y), false) ∧ lk (tb_X2_goesThrough) 64 = (x_il 66 4, false) ∧ lk (tb_X2_goesThrough) 66 = (x_ii 67 (fun x y : Int32 => x + y), false) ∧ lk (tb_X2_goesThrough) 67 = (x_al 68 1, false) ∧ lk (tb_X2_goesThrough) 68 = (x_al 69 2, false) ∧ lk (tb_X2_goesThrough) 69 = (x_cS 3 P_X2_runs 72, false) ∧ lk (tb_X2_goesThrough) 72 = (x_rZ, false) ∧ lk (tb_X2_goesThrough) 73 = (x_il 74 3, false) ∧ lk (tb_X2_goesThrough) 74 = (x_ifn 93 77 (fun x : Int32 => x = 0), false) ∧ lk (tb_X2_goesThrough) 77 = (x_il 79 4, false) ∧ lk (tb_X2_goesThrough) 79 = (x_ifn 93 82 (fun x : Int32 => x = 0), false) ∧ lk (tb_X2_goesThrough) 82 = (x_al 83 1, false) ∧ lk (tb_X2_goesThrough) 83 = (x_cS 1 P_X2_begins 86, false) ∧ lk (tb_X2_goesThrough) 86 = (x_if 93 89 (fun x : Int32 => x = 0), false) ∧ lk (tb_X2_goesThrough) 89 = (x_c 90 (.int 1), false) ∧ lk (tb_X2_goesThrough) 90 = (x_go 94, false) ∧ lk (tb_X2_goesThrough) 93 = (x_c 94 (.int 0), false) ∧ lk (tb_X2_goesThrough) 94 = (x_rZ, false) ∧ lk (tb_X2_goesThrough) 95 = (x_il 96 3, false) ∧ lk (tb_X2_goesThrough) 96 = (x_il 98 4, false) ∧ lk (tb_X2_goesThrough) 98 = (x_al 99 1, false) ∧ lk (tb_X2_goesThrough) 99 = (x_cS 3 P_X2_puts 102, false) ∧ lk (tb_X2_goesThrough) 102 = (x_rZ, false) ∧ lk (tb_X2_goesThrough) 103 = (x_al 104 1, false) ∧ lk (tb_X2_goesThrough) 104 = (x_il 105 3, false) ∧ lk (tb_X2_goesThrough) 105 = (x_cV 5 1 P_X5_hasBit 108, false) ∧ lk (tb_X2_goesThrough) 108 = (x_if 128 111 (fun x : Int32 => x = 0), false) ∧ lk (tb_X2_goesThrough) 111 = (x_il 113 4, false) ∧ lk (tb_X2_goesThrough) 113 = (x_al 114 1, false) ∧ lk (tb_X2_goesThrough) 114 = (x_cV 5 0 P_X5_word 117, false) ∧ lk (tb_X2_goesThrough) 117 = (x_il 118 3, false) ∧ lk (tb_X2_goesThrough) 118 = (x_ii 119 (fun x y : Int32 => x >>> (y &&& 31)), false) ∧ lk (tb_X2_goesThrough) 119 = (x_c 120 (.int 1), false) ∧ lk (tb_X2_goesThrough) 120 = (x_ii 121 (fun x y : Int32 => x &&& y), false) ∧ lk (tb_X2_goesThrough) 121 = (x_icn 128 124 (fun x y : Int32 => x = y), false) ∧ lk (tb_X2_goesThrough) 124 = (x_c 125 (.int 1), false) ∧ lk (tb_X2_goesThrough) 125 = (x_go 129, false) ∧ lk (tb_X2_goesThrough) 128 = (x_c 129 (.int 0), false) ∧ lk (tb_X2_goesThrough) 129 = (x_rZ, false) ∧ lk (tb_X2_goesThrough) 130 = (x_il 131 3, false) ∧ lk (tb_X2_goesThrough) 131 = (x_ifn 150 134 (fun x : Int32 => x = 0), false) ∧ lk (tb_X2_goesThrough) 134 = (x_il 136 4, false) ∧ lk (tb_X2_goesThrough) 136 = (x_ifn 150 139 (fun x : Int32 => x = 0), false) ∧ lk (tb_X2_goesThrough) 139 = (x_al 140 1, false) ∧ lk (tb_X2_goesThrough) 140 = (x_cV 5 0 P_X5_solved 143, false) ∧ lk (tb_X2_goesThrough) 143 = (x_if 150 146 (fun x : Int32 => x = 0), false) ∧ lk (tb_X2_goesThrough) 146 = (x_c 147 (.int 1), false) ∧ lk (tb_X2_goesThrough) 147 = (x_go 151, false) ∧ lk (tb_X2_goesThrough) 150 = (x_c 151 (.int 0), false) ∧ lk (tb_X2_goesThrough) 151 = (x_rZ, false) ∧ lk (tb_X2_goesThrough) 152 = (x_al 153 1, false) ∧ lk (tb_X2_goesThrough) 153 = (x_il 154 3, false) ∧ lk (tb_X2_goesThrough) 154 = (x_cV 5 1 P_X5_hasCheck 157, false) ∧ lk (tb_X2_goesThrough) 157 = (x_if 177 160 (fun x : Int32 => x = 0), false) ∧ lk (tb_X2_goesThrough) 160 = (x_il 162 4, false) ∧ lk (tb_X2_goesThrough) 162 = (x_al 163 1, false) ∧ lk (tb_X2_goesThrough) 163 = (x_cV 5 0 P_X5_open 166, false) ∧ lk (tb_X2_goesThrough) 166 = (x_il 167 3, false) ∧ lk (tb_X2_goesThrough) 167 = (x_ii 168 (fun x y : Int32 => x >>> (y &&& 31)), false) ∧ lk (tb_X2_goesThrough) 168 = (x_c 169 (.int 1), false) ∧ lk (tb_X2_goesThrough) 169 = (x_ii 170 (fun x y : Int32 => x &&& y), false) ∧ lk (tb_X2_goesThrough) 170 = (x_icn 177 173 (fun x y : Int32 => x = y), false) ∧ lk (tb_X2_goesThrough) 173 = (x_c 174 (.int 1), false) ∧ lk (tb_X2_goesThrough) 174 = (x_go 178, false) ∧ lk (tb_X2_goesThrough) 177 = (x_c 178 (.int 0), false) ∧ lk (tb_X2_goesThrough) 178 = (x_rZ, false) ∧ lk (tb_X2_goesThrough) 179 = (x_il 180 3, false) ∧ lk (tb_X2_goesThrough) 180 = (x_ifn 196 183 (fun x : Int32 => x = 0), false) ∧ lk (tb_X2_goesThrough) 183 = (x_il 185 4, false) ∧ lk (tb_X2_goesThrough) 185 = (x_al 186 1, false) ∧ lk (tb_X2_goesThrough) 186 = (x_cS 2 P_X2_offsets 189, false) ∧ lk (tb_X2_goesThrough) 189 = (x_if 196 192 (fun x : Int32 => x = 0), false) ∧ lk (tb_X2_goesThrough) 192 = (x_c 193 (.int 1), false) ∧ lk (tb_X2_goesThrough) 193 = (x_go 197, false) ∧ lk (tb_X2_goesThrough) 196 = (x_c 197 (.int 0), false) ∧ lk (tb_X2_goesThrough) 197 = (x_rZ, false) ∧ lk (tb_X2_goesThrough) 198 = (x_c 199 (.int 0), false) ∧ lk (tb_X2_goesThrough) 199 = (x_rZ, false) := ⟨rfl, rfl, rfl, rfl, rfl, rfl, rfl, rfl, rfl, rfl, rfl, rfl, rfl, rfl, rfl, rfl, rfl, rfl, rfl, rfl, rfl, rfl, rfl, rfl, rfl, rfl, rfl, rfl, rfl, rfl, rfl, rfl, rfl, rfl, rfl, rfl, rfl, rfl, rfl, rfl, rfl, rfl, rfl, rfl, rfl, rfl, rfl, rfl, rfl, rfl, rfl, rfl, rfl, rfl, rfl, rfl, rfl, rfl, rfl, rfl, rfl, rfl, rfl, rfl, rfl, rfl, rfl, rfl, rfl, rfl, rfl, rfl, rfl, rfl, rfl, rfl, rfl, rfl, rfl, rfl, rfl, rfl, rfl, rfl, rfl, rfl, rfl, rfl, rfl, rfl, rfl, rfl, rfl, rfl⟩
def P_X2_goesThrough : PTT := fun as M R => match as with
  | [.int x, .ref k, .ref d] => k = 10 ∧ d = 15 ∧ IsSt M.1 10 ∧ IsDc M.1 ∧ ∃ w a, w < 1000 ∧ x = nI w ∧ SR M.2.1 10 a ∧ AOk a ∧ OrdId M.2.1 ∧ ∀ I', frT M.2.1 I' → SR I' 10 (doJ a w).2 → R (some (.int (bB (doJ a w).1))) (M.1, I', M.2.2)
  | _ => False
theorem nI100 : (100 : Int32) = nI 100 := by decide
theorem h100 : ¬ nI 100 = 0 := by decide
theorem in_lt {x m : Nat} (hx : x < 2 ^ 31) (hm : m < 2 ^ 31) : (¬ nI x < 0 ∧ ¬ nI m ≤ nI x) ↔ x < m := by
  rw [nI_leI hm hx]
  constructor
  · intro h; omega
  · intro h; exact ⟨nI_pos hx, by omega⟩
set_option maxRecDepth 20000 in
theorem ok_X2_goesThrough : Ok yX2_goesThrough mt_X2_goesThrough P_X2_goesThrough := by
  refine Ok.of (by decide) rfl rfl rfl rfl fun av ⟨S, I, L⟩ R hP => ?_
  unfold P_X2_goesThrough at hP
  split at hP
  case h_2 => exact hP.elim
  rename_i x k d
  obtain ⟨k, rfl⟩ : ∃ q : Nat, q = k := ⟨k, rfl⟩
  obtain ⟨d, rfl⟩ : ∃ q : Nat, q = d := ⟨d, rfl⟩
  refine ⟨by simp [ent, wide, mt_X2_goesThrough], ?_⟩
  show J mt_X2_goesThrough R 0 [some (.int x), some (.ref k), some (.ref d), none, none] [] (S, I, L)
  try dsimp only at hP
  obtain ⟨rfl, rfl, hk, hd, w, a, hw, rfl, hs, ha, hor, hR⟩ := hP
  have hn9 := ha.1
  have f1 : nI w / nI 10 = nI (w / 10) := pk_div (by omega) (by omega) (by omega)
  have f2 : nI (w / 10) / nI 10 = nI (w / 10 / 10) := pk_div (by omega) (by omega) (by omega)
  have f3 : nI (w / 10) - nI (w / 10 / 10) * nI 10 = nI (w / 10 % 10) := by rw [← f2]; exact pk_rem (by omega) (by omega) (by omega)
  have f4 : nI w - nI (w / 10) * nI 10 = nI (w % 10) := by rw [← f1]; exact pk_rem (by omega) (by omega) (by omega)
  have f5 : nI w / nI 100 = nI (w / 100) := pk_div (by omega) (by omega) (by omega)
  have f6 : (nI (w / 100)).toInt = ((w / 100 : Nat) : Int) := nI_toInt (by omega)
  have f7 : nI (w / 10 % 10) * nI 10 + nI (w % 10) = nI (10 * (w / 10 % 10) + w % 10) := by rw [pk_mul, nI_add, Nat.mul_comm]
  have z1 : nI (w / 10 % 10) = 0 ↔ w / 10 % 10 = 0 := nI_z (by omega)
  have z2 : nI (w % 10) = 0 ↔ w % 10 = 0 := nI_z (by omega)
  have hsv := hs.SV ha
  have hap : ap15 10 := Or.inl (by omega)
  have hq := hsv.q
  have hn : I 10 4 = nI (aN a) := hs.1
  have hm : I 10 5 = nI (aM a) := hs.2.1
  have c1 : (¬ nI (w / 10 % 10) < 0 ∧ ¬ nI (aN a) ≤ nI (w / 10 % 10)) ↔ w / 10 % 10 < aN a := in_lt (by omega) (by omega)
  have c2 : (¬ nI (w / 10 % 10) < 0 ∧ ¬ nI (aM a) ≤ nI (w / 10 % 10)) ↔ w / 10 % 10 < aM a := in_lt (by omega) (by omega)
  have x1 : ∃ n', n' ≤ 9 ∧ nI (aN a) = nI n' := ⟨_, hn9.2.1, rfl⟩
  have hwd : wdF (I (10 + 3)) (tn (nI (aN a))) = wdA a := by have := hs.wd ha; rwa [hn] at this
  have hop : opS I 10 = opA a := hs.op ha
  have hwl : wdA a < 512 := wdF_lt _ hn9.2.1
  have hol : opA a < 64 := opB_lt hn9.2.2
  have b1 : (nI (wdA a) >>> (nI (w / 10 % 10) &&& 31)) &&& 1 = nI (if (wdA a).testBit (w / 10 % 10) then 1 else 0) := bitAt (by omega) (by omega)
  have b2 : (nI (opA a) >>> (nI (w / 10 % 10) &&& 31)) &&& 1 = nI (if (opA a).testBit (w / 10 % 10) then 1 else 0) := bitAt (by omega) (by omega)
  have b3 : nI (w % 10) = nI (if (wdA a).testBit (w / 10 % 10) then 1 else 0) ↔ w % 10 = if (wdA a).testBit (w / 10 % 10) then 1 else 0 := nI_eq (by omega) (by split <;> omega)
  have b4 : nI (w % 10) = nI (if (opA a).testBit (w / 10 % 10) then 1 else 0) ↔ w % 10 = if (opA a).testBit (w / 10 % 10) then 1 else 0 := nI_eq (by omega) (by split <;> omega)
  have fin : ∀ I' v, frT I I' → SR I' 10 (doJ a w).2 → bB (doJ a w).1 = v → R (some (.int v)) (S, I', L) := fun I' v h1 h2 h3 => by
    have := hR I' h1 h2; rwa [h3] at this
  have fr0 : frT I I := fun _ _ _ _ => rfl
  refine J.of tk_X2_goesThrough 200 fun ρ hρ => ?_
  simp only [hρ, x_c, x_il, x_ll, x_al, x_is, x_as, x_ls, x_inc, x_ii, x_iq, x_i1, x_l2, x_lq, x_lh, x_i2l, x_l2i, x_lcmp, x_dup, x_dup2, x_pop, x_if, x_ifn, x_ic, x_icn, x_go, x_sw, swc, x_l01, x_mx, x_gI, x_gL, x_gR, x_pI, x_pZ, x_pL, x_pR, x_ia, x_za, x_aa, x_ias, x_zas, x_aas, x_fac, x_fa, x_slen, x_sa, x_ac, x_oi, x_new, x_na, x_cS, x_cV, x_cI, x_rI, x_rZ, x_rL, x_r0, pa, short, oc, lg, lset, lset2, wide, cond_true, cond_false, true_and, and_true, ↓reduceIte, Bool.false_eq_true, true_or, or_true, lf_X2_goesThrough, hk, hd, hk.f, hd.f, hap, hq, nI10, ten0, nI100, h100, f1, f2, f3, f4, f5, f6, f7, hn, hm, x1, P_X2_runs, P_X2_begins, P_X2_puts, P_X2_offsets, P_X5_hasBit, P_X5_hasCheck, P_X5_word, P_X5_solved, P_X5_open, hwd, hop, bI_0, bI_or, Classical.not_not, c1, c2, b1, b2, b3, b4, z1, z2, not_false_eq_true, reduceCtorEq]
  have fin2 : ∀ I' v b a', frT I I' → SR I' 10 a' → doJ a w = (b, a') → bB b = v → R (some (.int v)) (S, I', L) := fun I' v b a' h1 h2 h3 h4 => fin I' v h1 (by rw [h3]; exact h2) (by rw [h3]; exact h4)
  have bd : ∀ (q : Prop) [Decidable q], ¬ q → bB (decide q) = 0 := fun q _ h => by rw [decide_eq_false h]; rfl
  have bt : ∀ (q : Prop) [Decidable q], q → bB (decide q) = 1 := fun q _ h => by rw [decide_eq_true h]; rfl
  refine ⟨⟨fun h => ?_, fun h => ?_, fun h => ?_, fun h => ?_, fun h => ?_, fun h => ?_, fun h => ?_⟩, fun h => ?_⟩
  · have hh : w / 100 = 1 := by omega
    have e := doJ_1 (a := a) hh
    refine ⟨aN a, aM a, 10 * (w / 10 % 10) + w % 10, hsv, hor.V hn9.2.2, by omega, rfl, fun I' g1 g2 g3 => ⟨?_, ?_⟩⟩
    · by_cases hz : 10 * (w / 10 % 10) + w % 10 = 0
      · exact Or.inl hz
      · exact Or.inr (bI_t hz)
    · refine fin2 I' _ _ _ (fun q q1 q2 q3 => g1 q (by omega) (by omega) (by omega) q2 q3) (SR.it hs ha hor (g1 11 (by omega) (by omega) (by omega) (by omega) (by omega)) (g1 12 (by omega) (by omega) (by omega) (by omega) (by omega)) g2 g3) e ?_
      by_cases hz : 10 * (w / 10 % 10) + w % 10 = 0
      · rw [bI_f (fun q => q hz), bd _ (fun q => q hz)]
      · rw [bI_t hz, bt _ hz]
  · have hh : w / 100 = 2 := by omega
    refine ⟨fun h1 => fin2 I 0 false a fr0 hs (by unfold doJ; rw [if_neg (by omega), if_pos hh, if_neg (fun q => h1 q.1)]) rfl, fun h1 => ⟨fun h2 => fin2 I 0 false a fr0 hs (by unfold doJ; rw [if_neg (by omega), if_pos hh, if_neg (fun q => h2 q.2)]) rfl, fun h2 => ⟨fun q => absurd q (by decide), fun _ => ?_⟩⟩⟩
    exact fin2 _ 1 true (begA a) (fun q q1 q2 q3 => beg_r (by omega) (by omega) (by omega)) hs.beg (by unfold doJ; rw [if_neg (by omega), if_pos hh, if_pos ⟨h1, h2⟩]) rfl
  · have hh : w / 100 = 3 := by omega
    refine ⟨aN a, aM a, hn9.2.1, hn9.2.2, rfl, rfl, fun h1 => ?_, fun h1 => ?_⟩
    · rw [in_lt (by omega) (by omega), in_lt (by omega) (by omega)] at h1
      exact fin2 _ 1 true (putA a (w / 10 % 10) (w % 10)) (fun q q1 q2 q3 => by unfold putI; rw [mS_n (by omega), mS_n (by omega)]) (hs.put ha h1.1 h1.2) (by unfold doJ; rw [if_neg (by omega), if_neg (by omega), if_pos hh, if_pos h1]) rfl
    · rw [in_lt (by omega) (by omega), in_lt (by omega) (by omega)] at h1
      exact fin2 I 0 false a fr0 hs (by unfold doJ; rw [if_neg (by omega), if_neg (by omega), if_pos hh, if_neg h1]) rfl
  · have hh : w / 100 = 4 := by omega
    have e := doJ_4 (a := a) hh
    exact ⟨fun h1 => fin2 I 0 _ a fr0 hs e (bd _ (fun q => h1 q.1)), fun h1 => ⟨fun h2 => fin2 I 0 _ a fr0 hs e (bd _ (fun q => h2 q.2)), fun h2 => fin2 I 1 _ a fr0 hs e (bt _ ⟨h1, h2⟩)⟩⟩
  · have hh : w / 100 = 5 := by omega
    have e := doJ_5 (a := a) hh
    exact ⟨fun h1 => fin2 I 0 _ a fr0 hs e (bd _ (fun q => h1 q.1.1)), fun h1 => ⟨fun h2 => fin2 I 0 _ a fr0 hs e (bd _ (fun q => h2 q.1.2)), fun h2 => ⟨fun h3 => fin2 I 0 _ a fr0 hs e (bd _ (fun q => h3 q.2)), fun h3 => fin2 I 1 _ a fr0 hs e (bt _ ⟨⟨h1, h2⟩, h3⟩)⟩⟩⟩
  · have hh : w / 100 = 6 := by omega
    have e := doJ_6 (a := a) hh
    exact ⟨fun h1 => fin2 I 0 _ a fr0 hs e (bd _ (fun q => h1 q.1)), fun h1 => ⟨fun h2 => fin2 I 0 _ a fr0 hs e (bd _ (fun q => h2 q.2)), fun h2 => fin2 I 1 _ a fr0 hs e (bt _ ⟨h1, h2⟩)⟩⟩
  · have hh : w / 100 = 7 := by omega
    refine ⟨fun h1 => fin2 I 0 false a fr0 hs (by unfold doJ; rw [if_neg (by omega), if_neg (by omega), if_neg (by omega), if_neg (by omega), if_neg (by omega), if_neg (by omega), if_pos hh, if_neg h1]) rfl, fun h1 => ⟨fun q => absurd q (by decide), fun _ => ?_⟩⟩
    refine fin2 _ 1 true (a.1, a.2.1, nI (w % 10), a.2.2.2) (fun q q1 q2 q3 => mS_n (by omega)) ?_ (by unfold doJ; rw [if_neg (by omega), if_neg (by omega), if_neg (by omega), if_neg (by omega), if_neg (by omega), if_neg (by omega), if_pos hh, if_pos h1]) rfl
    obtain ⟨g1, g2, g3, g4, g5, g6, g7⟩ := hs
    exact ⟨g1, g2, rfl, g4, g5, g6, g7⟩
  · exact fin2 I 0 false a fr0 hs (by unfold doJ; rw [if_neg (by omega), if_neg (by omega), if_neg (by omega), if_neg (by omega), if_neg (by omega), if_neg (by omega), if_neg (by omega)]) rfl
