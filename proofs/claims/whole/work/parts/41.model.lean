/-! THE MODEL: its statics -/
def il_X10_in : List (Nat × Instr × Nat) := [(0, .lload_n 0, 1), (1, .lload_n 2, 1), (2, .lcmp, 1), (3, .ifCond .lt 14, 3), (6, .lload_n 0, 1), (7, .lload 4, 2), (9, .lcmp, 1), (10, .ifCond .gt 7, 3), (13, .iconst 1, 1), (14, .goto 4, 3), (17, .iconst 0, 1), (18, .ireturn, 1)]
def mt_X10_in : Mt := (cX10_in, RX10, 6, (some .boolean), ({ frames := 0, cells := 0, slots := 0, locals := 0 } : Room), false, none, none)
set_option maxRecDepth 100000 in
theorem dl_X10_in : ∀ q ∈ il_X10_in, decode (mt_X10_in).1 q.1 = .ok q.2 := by decide +kernel
def tb_X10_in : Tb := [(0, x_ll 1 0, false),
  (1, x_ll 2 2, false),
  (2, x_lcmp 3, false),
  (3, x_if 17 6 (fun x : Int32 => x < 0), false),
  (6, x_ll 7 0, false),
  (7, x_ll 9 4, false),
  (9, x_lcmp 10, false),
  (10, x_if 17 13 (fun x : Int32 => 0 < x), false),
  (13, x_c 14 (.int 1), false),
  (14, x_go 18, false),
  (17, x_c 18 (.int 0), false),
  (18, x_rZ, false)]
set_option maxRecDepth 100000 in
theorem tk_X10_in : TbOk (mt_X10_in) (tb_X10_in) :=
  tkc (s_lload_n (at_ dl_X10_in 0 (ins := .lload_n 0) rfl)) (
  tkc (s_lload_n (at_ dl_X10_in 1 (ins := .lload_n 2) rfl)) (
  tkc (s_lcmp (at_ dl_X10_in 2 (ins := .lcmp) rfl)) (
  tkc (s_if_lt (at_ dl_X10_in 3 (ins := .ifCond .lt 14) rfl) (by decide)) (
  tkc (s_lload_n (at_ dl_X10_in 4 (ins := .lload_n 0) rfl)) (
  tkc (s_lload (at_ dl_X10_in 5 (ins := .lload 4) rfl)) (
  tkc (s_lcmp (at_ dl_X10_in 6 (ins := .lcmp) rfl)) (
  tkc (s_if_gt (at_ dl_X10_in 7 (ins := .ifCond .gt 7) rfl) (by decide)) (
  tkc (s_iconst (at_ dl_X10_in 8 (ins := .iconst 1) rfl) (by first | rfl | decide)) (
  tkc (s_goto (at_ dl_X10_in 9 (ins := .goto 4) rfl) (by decide)) (
  tkc (s_iconst (at_ dl_X10_in 10 (ins := .iconst 0) rfl) (by first | rfl | decide)) (
  tkc (s_rZ (at_ dl_X10_in 11 (ins := .ireturn) rfl) rfl) ( tk0))))))))))))
theorem lf_X10_in : lk (tb_X10_in) 0 = (x_ll 1 0, false) ∧ lk (tb_X10_in) 1 = (x_ll 2 2, false) ∧ lk (tb_X10_in) 2 = (x_lcmp 3, false) ∧ lk (tb_X10_in) 3 = (x_if 17 6 (fun x : Int32 => x < 0), false) ∧ lk (tb_X10_in) 6 = (x_ll 7 0, false) ∧ lk (tb_X10_in) 7 = (x_ll 9 4, false) ∧ lk (tb_X10_in) 9 = (x_lcmp 10, false) ∧ lk (tb_X10_in) 10 = (x_if 17 13 (fun x : Int32 => 0 < x), false) ∧ lk (tb_X10_in) 13 = (x_c 14 (.int 1), false) ∧ lk (tb_X10_in) 14 = (x_go 18, false) ∧ lk (tb_X10_in) 17 = (x_c 18 (.int 0), false) ∧ lk (tb_X10_in) 18 = (x_rZ, false) := ⟨rfl, rfl, rfl, rfl, rfl, rfl, rfl, rfl, rfl, rfl, rfl, rfl⟩
def P_X10_in : PTT := fun as M R => match as with
  | [.long v, .long a, .long b] => R (some (.int (bI (¬ v < a ∧ ¬ b < v)))) M
  | _ => False
set_option maxRecDepth 20000 in
theorem ok_X10_in : Ok yX10_in mt_X10_in P_X10_in := by
  refine Ok.of (by decide) rfl rfl rfl rfl fun av ⟨S, I, L⟩ R hP => ?_
  unfold P_X10_in at hP
  split at hP
  case h_2 => exact hP.elim
  rename_i v a b
  refine ⟨by simp [ent, wide, mt_X10_in], ?_⟩
  show J mt_X10_in R 0 [some (.long v), none, some (.long a), none, some (.long b), none] [] (S, I, L)
  try dsimp only at hP
  refine J.of tk_X10_in 200 fun ρ hρ => ?_
  simp only [hρ, x_c, x_il, x_ll, x_al, x_is, x_as, x_ls, x_inc, x_ii, x_iq, x_i1, x_l2, x_lq, x_lh, x_i2l, x_l2i, x_lcmp, x_dup, x_dup2, x_pop, x_if, x_ifn, x_ic, x_icn, x_go, x_sw, swc, x_l01, x_mx, x_gI, x_gL, x_gR, x_pI, x_pZ, x_pL, x_pR, x_ia, x_za, x_aa, x_ias, x_zas, x_aas, x_fac, x_fa, x_slen, x_sa, x_ac, x_oi, x_new, x_na, x_cS, x_cV, x_cI, x_rI, x_rZ, x_rL, x_r0, pa, short, oc, lg, lset, lset2, wide, cond_true, cond_false, true_and, and_true, ↓reduceIte, Bool.false_eq_true, true_or, or_true, lf_X10_in, lg_cmp_lt, lg_cmp_gt, Classical.not_not]
  refine ⟨fun h => ?_, fun h => ⟨fun h2 => ?_, fun h2 => ?_⟩⟩
  · rwa [bI_f (fun q => q.1 h)] at hP
  · rwa [bI_f (fun q => q.2 h2)] at hP
  · rwa [bI_t ⟨h, h2⟩] at hP
def il_X10_has : List (Nat × Instr × Nat) := [(0, .iload_n 0, 1), (1, .iload_n 1, 1), (2, .ishr, 1), (3, .iconst 1, 1), (4, .iand, 1), (5, .iconst 1, 1), (6, .if_icmp .ne 7, 3), (9, .iconst 1, 1), (10, .goto 4, 3), (13, .iconst 0, 1), (14, .ireturn, 1)]
def mt_X10_has : Mt := (cX10_has, RX10, 2, (some .boolean), ({ frames := 0, cells := 0, slots := 0, locals := 0 } : Room), false, none, none)
set_option maxRecDepth 100000 in
theorem dl_X10_has : ∀ q ∈ il_X10_has, decode (mt_X10_has).1 q.1 = .ok q.2 := by decide +kernel
def tb_X10_has : Tb := [(0, x_il 1 0, false),
  (1, x_il 2 1, false),
  (2, x_ii 3 (fun x y : Int32 => x >>> (y &&& 31)), false),
  (3, x_c 4 (.int 1), false),
  (4, x_ii 5 (fun x y : Int32 => x &&& y), false),
  (5, x_c 6 (.int 1), false),
  (6, x_icn 13 9 (fun x y : Int32 => x = y), false),
  (9, x_c 10 (.int 1), false),
  (10, x_go 14, false),
  (13, x_c 14 (.int 0), false),
  (14, x_rZ, false)]
set_option maxRecDepth 100000 in
theorem tk_X10_has : TbOk (mt_X10_has) (tb_X10_has) :=
  tkc (s_iload_n (at_ dl_X10_has 0 (ins := .iload_n 0) rfl)) (
  tkc (s_iload_n (at_ dl_X10_has 1 (ins := .iload_n 1) rfl)) (
  tkc (s_ishr (at_ dl_X10_has 2 (ins := .ishr) rfl)) (
  tkc (s_iconst (at_ dl_X10_has 3 (ins := .iconst 1) rfl) (by first | rfl | decide)) (
  tkc (s_iand (at_ dl_X10_has 4 (ins := .iand) rfl)) (
  tkc (s_iconst (at_ dl_X10_has 5 (ins := .iconst 1) rfl) (by first | rfl | decide)) (
  tkc (s_ic_ne (at_ dl_X10_has 6 (ins := .if_icmp .ne 7) rfl) (by decide)) (
  tkc (s_iconst (at_ dl_X10_has 7 (ins := .iconst 1) rfl) (by first | rfl | decide)) (
  tkc (s_goto (at_ dl_X10_has 8 (ins := .goto 4) rfl) (by decide)) (
  tkc (s_iconst (at_ dl_X10_has 9 (ins := .iconst 0) rfl) (by first | rfl | decide)) (
  tkc (s_rZ (at_ dl_X10_has 10 (ins := .ireturn) rfl) rfl) ( tk0)))))))))))
theorem lf_X10_has : lk (tb_X10_has) 0 = (x_il 1 0, false) ∧ lk (tb_X10_has) 1 = (x_il 2 1, false) ∧ lk (tb_X10_has) 2 = (x_ii 3 (fun x y : Int32 => x >>> (y &&& 31)), false) ∧ lk (tb_X10_has) 3 = (x_c 4 (.int 1), false) ∧ lk (tb_X10_has) 4 = (x_ii 5 (fun x y : Int32 => x &&& y), false) ∧ lk (tb_X10_has) 5 = (x_c 6 (.int 1), false) ∧ lk (tb_X10_has) 6 = (x_icn 13 9 (fun x y : Int32 => x = y), false) ∧ lk (tb_X10_has) 9 = (x_c 10 (.int 1), false) ∧ lk (tb_X10_has) 10 = (x_go 14, false) ∧ lk (tb_X10_has) 13 = (x_c 14 (.int 0), false) ∧ lk (tb_X10_has) 14 = (x_rZ, false) := ⟨rfl, rfl, rfl, rfl, rfl, rfl, rfl, rfl, rfl, rfl, rfl⟩
def P_X10_has : PTT := fun as M R => match as with
  | [.int s, .int k] => ∃ x j, s = nI x ∧ x < 2 ^ 31 ∧ k = nI j ∧ j < 31 ∧ R (some (.int (bB (x.testBit j)))) M
  | _ => False
set_option maxRecDepth 20000 in
theorem ok_X10_has : Ok yX10_has mt_X10_has P_X10_has := by
  refine Ok.of (by decide) rfl rfl rfl rfl fun av ⟨S, I, L⟩ R hP => ?_
  unfold P_X10_has at hP
  split at hP
  case h_2 => exact hP.elim
  rename_i s k
  refine ⟨by simp [ent, wide, mt_X10_has], ?_⟩
  show J mt_X10_has R 0 [some (.int s), some (.int k)] [] (S, I, L)
  try dsimp only at hP
  obtain ⟨x, j, rfl, hx, rfl, hj, hR⟩ := hP
  refine J.of tk_X10_has 200 fun ρ hρ => ?_
  simp only [hρ, x_c, x_il, x_ll, x_al, x_is, x_as, x_ls, x_inc, x_ii, x_iq, x_i1, x_l2, x_lq, x_lh, x_i2l, x_l2i, x_lcmp, x_dup, x_dup2, x_pop, x_if, x_ifn, x_ic, x_icn, x_go, x_sw, swc, x_l01, x_mx, x_gI, x_gL, x_gR, x_pI, x_pZ, x_pL, x_pR, x_ia, x_za, x_aa, x_ias, x_zas, x_aas, x_fac, x_fa, x_slen, x_sa, x_ac, x_oi, x_new, x_na, x_cS, x_cV, x_cI, x_rI, x_rZ, x_rL, x_r0, pa, short, oc, lg, lset, lset2, wide, cond_true, cond_false, true_and, and_true, ↓reduceIte, Bool.false_eq_true, true_or, or_true, lf_X10_has, bitAt hx hj]
  cases h : x.testBit j with
  | true =>
    rw [h] at hR
    exact ⟨fun q => absurd rfl q, fun _ => hR⟩
  | false =>
    rw [h] at hR
    exact ⟨fun _ => hR, fun q => absurd q (by decide)⟩
def il_X10_ones : List (Nat × Instr × Nat) := [(0, .iconst 0, 1), (1, .istore_n 1, 1), (2, .iconst 0, 1), (3, .istore_n 2, 1), (4, .iload_n 2, 1), (5, .bipush 9, 2), (7, .if_icmp .ge 17, 3), (10, .iload_n 1, 1), (11, .iload_n 0, 1), (12, .iload_n 2, 1), (13, .ishr, 1), (14, .iconst 1, 1), (15, .iand, 1), (16, .iadd, 1), (17, .istore_n 1, 1), (18, .iinc 2 1, 3), (21, .goto (-17), 3), (24, .iload_n 1, 1), (25, .ireturn, 1)]
def mt_X10_ones : Mt := (cX10_ones, RX10, 3, (some .int), ({ frames := 0, cells := 0, slots := 0, locals := 0 } : Room), false, none, none)
set_option maxRecDepth 100000 in
theorem dl_X10_ones : ∀ q ∈ il_X10_ones, decode (mt_X10_ones).1 q.1 = .ok q.2 := by decide +kernel
def tb_X10_ones : Tb := [(0, x_c 1 (.int 0), false),
  (1, x_is 2 1, false),
  (2, x_c 3 (.int 0), false),
  (3, x_is 4 2, false),
  (4, x_il 5 2, true),
  (5, x_c 7 (.int 9), false),
  (7, x_ic 24 10 (fun x y : Int32 => y ≤ x), false),
  (10, x_il 11 1, false),
  (11, x_il 12 0, false),
  (12, x_il 13 2, false),
  (13, x_ii 14 (fun x y : Int32 => x >>> (y &&& 31)), false),
  (14, x_c 15 (.int 1), false),
  (15, x_ii 16 (fun x y : Int32 => x &&& y), false),
  (16, x_ii 17 (fun x y : Int32 => x + y), false),
  (17, x_is 18 1, false),
  (18, x_inc 21 2 1, false),
  (21, x_go 4, false),
  (24, x_il 25 1, false),
  (25, x_rI, false)]
set_option maxRecDepth 100000 in
theorem tk_X10_ones : TbOk (mt_X10_ones) (tb_X10_ones) :=
  tkc (s_iconst (at_ dl_X10_ones 0 (ins := .iconst 0) rfl) (by first | rfl | decide)) (
  tkc (s_istore_n (at_ dl_X10_ones 1 (ins := .istore_n 1) rfl) (by decide)) (
  tkc (s_iconst (at_ dl_X10_ones 2 (ins := .iconst 0) rfl) (by first | rfl | decide)) (
  tkc (s_istore_n (at_ dl_X10_ones 3 (ins := .istore_n 2) rfl) (by decide)) (
  tkc (s_iload_n (at_ dl_X10_ones 4 (ins := .iload_n 2) rfl)) (
  tkc (s_bipush (at_ dl_X10_ones 5 (ins := .bipush 9) rfl) (by first | rfl | decide)) (
  tkc (s_ic_ge (at_ dl_X10_ones 6 (ins := .if_icmp .ge 17) rfl) (by decide)) (
  tkc (s_iload_n (at_ dl_X10_ones 7 (ins := .iload_n 1) rfl)) (
  tkc (s_iload_n (at_ dl_X10_ones 8 (ins := .iload_n 0) rfl)) (
  tkc (s_iload_n (at_ dl_X10_ones 9 (ins := .iload_n 2) rfl)) (
  tkc (s_ishr (at_ dl_X10_ones 10 (ins := .ishr) rfl)) (
  tkc (s_iconst (at_ dl_X10_ones 11 (ins := .iconst 1) rfl) (by first | rfl | decide)) (
  tkc (s_iand (at_ dl_X10_ones 12 (ins := .iand) rfl)) (
  tkc (s_iadd (at_ dl_X10_ones 13 (ins := .iadd) rfl)) (
  tkc (s_istore_n (at_ dl_X10_ones 14 (ins := .istore_n 1) rfl) (by decide)) (
  tkc (s_iinc (at_ dl_X10_ones 15 (ins := .iinc 2 1) rfl) (by decide) (by first | rfl | decide)) (
  tkc (s_goto (at_ dl_X10_ones 16 (ins := .goto (-17)) rfl) (by decide)) (
  tkc (s_iload_n (at_ dl_X10_ones 17 (ins := .iload_n 1) rfl)) (
  tkc (s_rI (at_ dl_X10_ones 18 (ins := .ireturn) rfl) rfl) ( tk0)))))))))))))))))))
theorem lf_X10_ones : lk (tb_X10_ones) 0 = (x_c 1 (.int 0), false) ∧ lk (tb_X10_ones) 1 = (x_is 2 1, false) ∧ lk (tb_X10_ones) 2 = (x_c 3 (.int 0), false) ∧ lk (tb_X10_ones) 3 = (x_is 4 2, false) ∧ lk (tb_X10_ones) 4 = (x_il 5 2, true) ∧ lk (tb_X10_ones) 5 = (x_c 7 (.int 9), false) ∧ lk (tb_X10_ones) 7 = (x_ic 24 10 (fun x y : Int32 => y ≤ x), false) ∧ lk (tb_X10_ones) 10 = (x_il 11 1, false) ∧ lk (tb_X10_ones) 11 = (x_il 12 0, false) ∧ lk (tb_X10_ones) 12 = (x_il 13 2, false) ∧ lk (tb_X10_ones) 13 = (x_ii 14 (fun x y : Int32 => x >>> (y &&& 31)), false) ∧ lk (tb_X10_ones) 14 = (x_c 15 (.int 1), false) ∧ lk (tb_X10_ones) 15 = (x_ii 16 (fun x y : Int32 => x &&& y), false) ∧ lk (tb_X10_ones) 16 = (x_ii 17 (fun x y : Int32 => x + y), false) ∧ lk (tb_X10_ones) 17 = (x_is 18 1, false) ∧ lk (tb_X10_ones) 18 = (x_inc 21 2 1, false) ∧ lk (tb_X10_ones) 21 = (x_go 4, false) ∧ lk (tb_X10_ones) 24 = (x_il 25 1, false) ∧ lk (tb_X10_ones) 25 = (x_rI, false) := ⟨rfl, rfl, rfl, rfl, rfl, rfl, rfl, rfl, rfl, rfl, rfl, rfl, rfl, rfl, rfl, rfl, rfl, rfl, rfl⟩
def P_X10_ones : PTT := fun as M R => match as with
  | [.int x] => tn x < 512 ∧ R (some (.int (nI (ones9 (tn x))))) M
  | _ => False
set_option maxRecDepth 20000 in
theorem ok_X10_ones : Ok yX10_ones mt_X10_ones P_X10_ones := by
  refine Ok.of (by decide) rfl rfl rfl rfl fun av ⟨S, I, L⟩ R hP => ?_
  unfold P_X10_ones at hP
  split at hP
  case h_2 => exact hP.elim
  rename_i x
  refine ⟨by simp [ent, wide, mt_X10_ones], ?_⟩
  show J mt_X10_ones R 0 [some (.int x), none, none] [] (S, I, L)
  try dsimp only at hP
  obtain ⟨hx, hR⟩ := hP
  obtain ⟨y, hy, rfl⟩ := tn_ex hx
  rw [tn_nI (n := y) (by omega)] at hR
  have key := up (P := fun i => J mt_X10_ones R 4 [some (.int (nI y)), some (.int (nI (on9 y i))), some (.int (nI i))] [] (S, I, L)) (n := 9) (fun i hi ih => ?_) 0 (Nat.zero_le _)
  · refine J.of tk_X10_ones 200 fun ρ hρ => ?_
    simp only [hρ, x_c, x_il, x_ll, x_al, x_is, x_as, x_ls, x_inc, x_ii, x_iq, x_i1, x_l2, x_lq, x_lh, x_i2l, x_l2i, x_lcmp, x_dup, x_dup2, x_pop, x_if, x_ifn, x_ic, x_icn, x_go, x_sw, swc, x_l01, x_mx, x_gI, x_gL, x_gR, x_pI, x_pZ, x_pL, x_pR, x_ia, x_za, x_aa, x_ias, x_zas, x_aas, x_fac, x_fa, x_slen, x_sa, x_ac, x_oi, x_new, x_na, x_cS, x_cV, x_cI, x_rI, x_rZ, x_rL, x_r0, pa, short, oc, lg, lset, lset2, wide, cond_true, cond_false, true_and, and_true, ↓reduceIte, Bool.false_eq_true, true_or, or_true, lf_X10_ones]
    exact key
  refine J.of tk_X10_ones 200 fun ρ hρ => ?_
  simp only [hρ, x_c, x_il, x_ll, x_al, x_is, x_as, x_ls, x_inc, x_ii, x_iq, x_i1, x_l2, x_lq, x_lh, x_i2l, x_l2i, x_lcmp, x_dup, x_dup2, x_pop, x_if, x_ifn, x_ic, x_icn, x_go, x_sw, swc, x_l01, x_mx, x_gI, x_gL, x_gR, x_pI, x_pZ, x_pL, x_pR, x_ia, x_za, x_aa, x_ias, x_zas, x_aas, x_fac, x_fa, x_slen, x_sa, x_ac, x_oi, x_new, x_na, x_cS, x_cV, x_cI, x_rI, x_rZ, x_rL, x_r0, pa, short, oc, lg, lset, lset2, wide, cond_true, cond_false, true_and, and_true, ↓reduceIte, Bool.false_eq_true, true_or, or_true, lf_X10_ones, nI9, nI_leI (show 9 < 2 ^ 31 by omega) (show i < 2 ^ 31 by omega), nI_1, bitAt (show y < 2 ^ 31 by omega) (show i < 31 by omega), nI_add]
  refine ⟨fun h => ?_, fun h => ih (by omega)⟩
  have : i = 9 := by omega
  subst this
  exact hR
def il_X10_held : List (Nat × Instr × Nat) := [(0, .iload_n 0, 1), (1, .iload_n 1, 1), (2, .if_icmp .ge 7, 3), (5, .iload_n 1, 1), (6, .goto 13, 3), (9, .iload_n 0, 1), (10, .iload_n 2, 1), (11, .if_icmp .le 7, 3), (14, .iload_n 2, 1), (15, .goto 4, 3), (18, .iload_n 0, 1), (19, .ireturn, 1)]
def mt_X10_held : Mt := (cX10_held, RX10, 3, (some .int), ({ frames := 0, cells := 0, slots := 0, locals := 0 } : Room), false, none, none)
set_option maxRecDepth 100000 in
theorem dl_X10_held : ∀ q ∈ il_X10_held, decode (mt_X10_held).1 q.1 = .ok q.2 := by decide +kernel
def tb_X10_held : Tb := [(0, x_il 1 0, false),
  (1, x_il 2 1, false),
  (2, x_ic 9 5 (fun x y : Int32 => y ≤ x), false),
  (5, x_il 6 1, false),
  (6, x_go 19, false),
  (9, x_il 10 0, false),
  (10, x_il 11 2, false),
  (11, x_ic 18 14 (fun x y : Int32 => x ≤ y), false),
  (14, x_il 15 2, false),
  (15, x_go 19, false),
  (18, x_il 19 0, false),
  (19, x_rI, false)]
set_option maxRecDepth 100000 in
theorem tk_X10_held : TbOk (mt_X10_held) (tb_X10_held) :=
  tkc (s_iload_n (at_ dl_X10_held 0 (ins := .iload_n 0) rfl)) (
  tkc (s_iload_n (at_ dl_X10_held 1 (ins := .iload_n 1) rfl)) (
  tkc (s_ic_ge (at_ dl_X10_held 2 (ins := .if_icmp .ge 7) rfl) (by decide)) (
  tkc (s_iload_n (at_ dl_X10_held 3 (ins := .iload_n 1) rfl)) (
  tkc (s_goto (at_ dl_X10_held 4 (ins := .goto 13) rfl) (by decide)) (
  tkc (s_iload_n (at_ dl_X10_held 5 (ins := .iload_n 0) rfl)) (
  tkc (s_iload_n (at_ dl_X10_held 6 (ins := .iload_n 2) rfl)) (
  tkc (s_ic_le (at_ dl_X10_held 7 (ins := .if_icmp .le 7) rfl) (by decide)) (
  tkc (s_iload_n (at_ dl_X10_held 8 (ins := .iload_n 2) rfl)) (
  tkc (s_goto (at_ dl_X10_held 9 (ins := .goto 4) rfl) (by decide)) (
  tkc (s_iload_n (at_ dl_X10_held 10 (ins := .iload_n 0) rfl)) (
  tkc (s_rI (at_ dl_X10_held 11 (ins := .ireturn) rfl) rfl) ( tk0))))))))))))
theorem lf_X10_held : lk (tb_X10_held) 0 = (x_il 1 0, false) ∧ lk (tb_X10_held) 1 = (x_il 2 1, false) ∧ lk (tb_X10_held) 2 = (x_ic 9 5 (fun x y : Int32 => y ≤ x), false) ∧ lk (tb_X10_held) 5 = (x_il 6 1, false) ∧ lk (tb_X10_held) 6 = (x_go 19, false) ∧ lk (tb_X10_held) 9 = (x_il 10 0, false) ∧ lk (tb_X10_held) 10 = (x_il 11 2, false) ∧ lk (tb_X10_held) 11 = (x_ic 18 14 (fun x y : Int32 => x ≤ y), false) ∧ lk (tb_X10_held) 14 = (x_il 15 2, false) ∧ lk (tb_X10_held) 15 = (x_go 19, false) ∧ lk (tb_X10_held) 18 = (x_il 19 0, false) ∧ lk (tb_X10_held) 19 = (x_rI, false) := ⟨rfl, rfl, rfl, rfl, rfl, rfl, rfl, rfl, rfl, rfl, rfl, rfl⟩
def P_X10_held : PTT := fun as M R => match as with
  | [.int v, .int lo, .int hi] => R (some (.int (hld v lo hi))) M
  | _ => False
set_option maxRecDepth 20000 in
theorem ok_X10_held : Ok yX10_held mt_X10_held P_X10_held := by
  refine Ok.of (by decide) rfl rfl rfl rfl fun av ⟨S, I, L⟩ R hP => ?_
  unfold P_X10_held at hP
  split at hP
  case h_2 => exact hP.elim
  rename_i v lo hi
  refine ⟨by simp [ent, wide, mt_X10_held], ?_⟩
  show J mt_X10_held R 0 [some (.int v), some (.int lo), some (.int hi)] [] (S, I, L)
  try dsimp only at hP
  refine J.of tk_X10_held 200 fun ρ hρ => ?_
  simp only [hρ, x_c, x_il, x_ll, x_al, x_is, x_as, x_ls, x_inc, x_ii, x_iq, x_i1, x_l2, x_lq, x_lh, x_i2l, x_l2i, x_lcmp, x_dup, x_dup2, x_pop, x_if, x_ifn, x_ic, x_icn, x_go, x_sw, swc, x_l01, x_mx, x_gI, x_gL, x_gR, x_pI, x_pZ, x_pL, x_pR, x_ia, x_za, x_aa, x_ias, x_zas, x_aas, x_fac, x_fa, x_slen, x_sa, x_ac, x_oi, x_new, x_na, x_cS, x_cV, x_cI, x_rI, x_rZ, x_rL, x_r0, pa, short, oc, lg, lset, lset2, wide, cond_true, cond_false, true_and, and_true, ↓reduceIte, Bool.false_eq_true, true_or, or_true, lf_X10_held]
  unfold hld at hP
  refine ⟨fun h => ⟨fun h2 => ?_, fun h2 => ?_⟩, fun h => ?_⟩
  · rwa [if_pos h, if_pos h2] at hP
  · rwa [if_pos h, if_neg h2] at hP
  · rwa [if_neg h] at hP
def il_X10_power : List (Nat × Instr × Nat) := [(0, .iconst 1, 1), (1, .istore_n 2, 1), (2, .iconst 0, 1), (3, .istore_n 3, 1), (4, .iload_n 3, 1), (5, .iload_n 1, 1), (6, .if_icmp .ge 13, 3), (9, .iload_n 2, 1), (10, .iload_n 0, 1), (11, .imul, 1), (12, .istore_n 2, 1), (13, .iinc 3 1, 3), (16, .goto (-12), 3), (19, .iload_n 2, 1), (20, .ireturn, 1)]
def mt_X10_power : Mt := (cX10_power, RX10, 4, (some .int), ({ frames := 0, cells := 0, slots := 0, locals := 0 } : Room), false, none, none)
set_option maxRecDepth 100000 in
theorem dl_X10_power : ∀ q ∈ il_X10_power, decode (mt_X10_power).1 q.1 = .ok q.2 := by decide +kernel
def tb_X10_power : Tb := [(0, x_c 1 (.int 1), false),
  (1, x_is 2 2, false),
  (2, x_c 3 (.int 0), false),
  (3, x_is 4 3, false),
  (4, x_il 5 3, true),
  (5, x_il 6 1, false),
  (6, x_ic 19 9 (fun x y : Int32 => y ≤ x), false),
  (9, x_il 10 2, false),
  (10, x_il 11 0, false),
  (11, x_ii 12 (fun x y : Int32 => x * y), false),
  (12, x_is 13 2, false),
  (13, x_inc 16 3 1, false),
  (16, x_go 4, false),
  (19, x_il 20 2, false),
  (20, x_rI, false)]
set_option maxRecDepth 100000 in
theorem tk_X10_power : TbOk (mt_X10_power) (tb_X10_power) :=
  tkc (s_iconst (at_ dl_X10_power 0 (ins := .iconst 1) rfl) (by first | rfl | decide)) (
  tkc (s_istore_n (at_ dl_X10_power 1 (ins := .istore_n 2) rfl) (by decide)) (
  tkc (s_iconst (at_ dl_X10_power 2 (ins := .iconst 0) rfl) (by first | rfl | decide)) (
  tkc (s_istore_n (at_ dl_X10_power 3 (ins := .istore_n 3) rfl) (by decide)) (
  tkc (s_iload_n (at_ dl_X10_power 4 (ins := .iload_n 3) rfl)) (
  tkc (s_iload_n (at_ dl_X10_power 5 (ins := .iload_n 1) rfl)) (
  tkc (s_ic_ge (at_ dl_X10_power 6 (ins := .if_icmp .ge 13) rfl) (by decide)) (
  tkc (s_iload_n (at_ dl_X10_power 7 (ins := .iload_n 2) rfl)) (
  tkc (s_iload_n (at_ dl_X10_power 8 (ins := .iload_n 0) rfl)) (
  tkc (s_imul (at_ dl_X10_power 9 (ins := .imul) rfl)) (
  tkc (s_istore_n (at_ dl_X10_power 10 (ins := .istore_n 2) rfl) (by decide)) (
  tkc (s_iinc (at_ dl_X10_power 11 (ins := .iinc 3 1) rfl) (by decide) (by first | rfl | decide)) (
  tkc (s_goto (at_ dl_X10_power 12 (ins := .goto (-12)) rfl) (by decide)) (
  tkc (s_iload_n (at_ dl_X10_power 13 (ins := .iload_n 2) rfl)) (
  tkc (s_rI (at_ dl_X10_power 14 (ins := .ireturn) rfl) rfl) ( tk0)))))))))))))))
theorem lf_X10_power : lk (tb_X10_power) 0 = (x_c 1 (.int 1), false) ∧ lk (tb_X10_power) 1 = (x_is 2 2, false) ∧ lk (tb_X10_power) 2 = (x_c 3 (.int 0), false) ∧ lk (tb_X10_power) 3 = (x_is 4 3, false) ∧ lk (tb_X10_power) 4 = (x_il 5 3, true) ∧ lk (tb_X10_power) 5 = (x_il 6 1, false) ∧ lk (tb_X10_power) 6 = (x_ic 19 9 (fun x y : Int32 => y ≤ x), false) ∧ lk (tb_X10_power) 9 = (x_il 10 2, false) ∧ lk (tb_X10_power) 10 = (x_il 11 0, false) ∧ lk (tb_X10_power) 11 = (x_ii 12 (fun x y : Int32 => x * y), false) ∧ lk (tb_X10_power) 12 = (x_is 13 2, false) ∧ lk (tb_X10_power) 13 = (x_inc 16 3 1, false) ∧ lk (tb_X10_power) 16 = (x_go 4, false) ∧ lk (tb_X10_power) 19 = (x_il 20 2, false) ∧ lk (tb_X10_power) 20 = (x_rI, false) := ⟨rfl, rfl, rfl, rfl, rfl, rfl, rfl, rfl, rfl, rfl, rfl, rfl, rfl, rfl, rfl⟩
def P_X10_power : PTT := fun as M R => match as with
  | [.int b, .int t] => ∃ x n, b = nI x ∧ t = nI n ∧ n ≤ 9 ∧ R (some (.int (nI (x ^ n)))) M
  | _ => False
set_option maxRecDepth 20000 in
theorem ok_X10_power : Ok yX10_power mt_X10_power P_X10_power := by
  refine Ok.of (by decide) rfl rfl rfl rfl fun av ⟨S, I, L⟩ R hP => ?_
  unfold P_X10_power at hP
  split at hP
  case h_2 => exact hP.elim
  rename_i b t
  refine ⟨by simp [ent, wide, mt_X10_power], ?_⟩
  show J mt_X10_power R 0 [some (.int b), some (.int t), none, none] [] (S, I, L)
  try dsimp only at hP
  obtain ⟨x, n, rfl, rfl, hn, hR⟩ := hP
  have key := up (P := fun i => J mt_X10_power R 4 [some (.int (nI x)), some (.int (nI n)), some (.int (nI (x ^ i))), some (.int (nI i))] [] (S, I, L)) (n := n) (fun i hi ih => ?_) 0 (Nat.zero_le _)
  · refine J.of tk_X10_power 200 fun ρ hρ => ?_
    simp only [hρ, x_c, x_il, x_ll, x_al, x_is, x_as, x_ls, x_inc, x_ii, x_iq, x_i1, x_l2, x_lq, x_lh, x_i2l, x_l2i, x_lcmp, x_dup, x_dup2, x_pop, x_if, x_ifn, x_ic, x_icn, x_go, x_sw, swc, x_l01, x_mx, x_gI, x_gL, x_gR, x_pI, x_pZ, x_pL, x_pR, x_ia, x_za, x_aa, x_ias, x_zas, x_aas, x_fac, x_fa, x_slen, x_sa, x_ac, x_oi, x_new, x_na, x_cS, x_cV, x_cI, x_rI, x_rZ, x_rL, x_r0, pa, short, oc, lg, lset, lset2, wide, cond_true, cond_false, true_and, and_true, ↓reduceIte, Bool.false_eq_true, true_or, or_true, lf_X10_power]
    exact key
  refine J.of tk_X10_power 200 fun ρ hρ => ?_
  simp only [hρ, x_c, x_il, x_ll, x_al, x_is, x_as, x_ls, x_inc, x_ii, x_iq, x_i1, x_l2, x_lq, x_lh, x_i2l, x_l2i, x_lcmp, x_dup, x_dup2, x_pop, x_if, x_ifn, x_ic, x_icn, x_go, x_sw, swc, x_l01, x_mx, x_gI, x_gL, x_gR, x_pI, x_pZ, x_pL, x_pR, x_ia, x_za, x_aa, x_ias, x_zas, x_aas, x_fac, x_fa, x_slen, x_sa, x_ac, x_oi, x_new, x_na, x_cS, x_cV, x_cI, x_rI, x_rZ, x_rL, x_r0, pa, short, oc, lg, lset, lset2, wide, cond_true, cond_false, true_and, and_true, ↓reduceIte, Bool.false_eq_true, true_or, or_true, lf_X10_power, nI_leI (show n < 2 ^ 31 by omega) (show i < 2 ^ 31 by omega), pk_mul, nI_1]
  refine ⟨fun h => ?_, fun h => ?_⟩
  · have : i = n := by omega
    subst this
    exact hR
  · rw [← Nat.pow_succ]
    exact ih (by omega)
def il_X10_factorial : List (Nat × Instr × Nat) := [(0, .iconst 1, 1), (1, .istore_n 1, 1), (2, .iconst 2, 1), (3, .istore_n 2, 1), (4, .iload_n 2, 1), (5, .iload_n 0, 1), (6, .if_icmp .gt 13, 3), (9, .iload_n 1, 1), (10, .iload_n 2, 1), (11, .imul, 1), (12, .istore_n 1, 1), (13, .iinc 2 1, 3), (16, .goto (-12), 3), (19, .iload_n 1, 1), (20, .ireturn, 1)]
def mt_X10_factorial : Mt := (cX10_factorial, RX10, 3, (some .int), ({ frames := 0, cells := 0, slots := 0, locals := 0 } : Room), false, none, none)
set_option maxRecDepth 100000 in
theorem dl_X10_factorial : ∀ q ∈ il_X10_factorial, decode (mt_X10_factorial).1 q.1 = .ok q.2 := by decide +kernel
def tb_X10_factorial : Tb := [(0, x_c 1 (.int 1), false),
  (1, x_is 2 1, false),
  (2, x_c 3 (.int 2), false),
  (3, x_is 4 2, false),
  (4, x_il 5 2, true),
  (5, x_il 6 0, false),
  (6, x_ic 19 9 (fun x y : Int32 => y < x), false),
  (9, x_il 10 1, false),
  (10, x_il 11 2, false),
  (11, x_ii 12 (fun x y : Int32 => x * y), false),
  (12, x_is 13 1, false),
  (13, x_inc 16 2 1, false),
  (16, x_go 4, false),
  (19, x_il 20 1, false),
  (20, x_rI, false)]
set_option maxRecDepth 100000 in
theorem tk_X10_factorial : TbOk (mt_X10_factorial) (tb_X10_factorial) :=
  tkc (s_iconst (at_ dl_X10_factorial 0 (ins := .iconst 1) rfl) (by first | rfl | decide)) (
  tkc (s_istore_n (at_ dl_X10_factorial 1 (ins := .istore_n 1) rfl) (by decide)) (
  tkc (s_iconst (at_ dl_X10_factorial 2 (ins := .iconst 2) rfl) (by first | rfl | decide)) (
  tkc (s_istore_n (at_ dl_X10_factorial 3 (ins := .istore_n 2) rfl) (by decide)) (
  tkc (s_iload_n (at_ dl_X10_factorial 4 (ins := .iload_n 2) rfl)) (
  tkc (s_iload_n (at_ dl_X10_factorial 5 (ins := .iload_n 0) rfl)) (
  tkc (s_ic_gt (at_ dl_X10_factorial 6 (ins := .if_icmp .gt 13) rfl) (by decide)) (
  tkc (s_iload_n (at_ dl_X10_factorial 7 (ins := .iload_n 1) rfl)) (
  tkc (s_iload_n (at_ dl_X10_factorial 8 (ins := .iload_n 2) rfl)) (
  tkc (s_imul (at_ dl_X10_factorial 9 (ins := .imul) rfl)) (
  tkc (s_istore_n (at_ dl_X10_factorial 10 (ins := .istore_n 1) rfl) (by decide)) (
  tkc (s_iinc (at_ dl_X10_factorial 11 (ins := .iinc 2 1) rfl) (by decide) (by first | rfl | decide)) (
  tkc (s_goto (at_ dl_X10_factorial 12 (ins := .goto (-12)) rfl) (by decide)) (
  tkc (s_iload_n (at_ dl_X10_factorial 13 (ins := .iload_n 1) rfl)) (
  tkc (s_rI (at_ dl_X10_factorial 14 (ins := .ireturn) rfl) rfl) ( tk0)))))))))))))))
theorem lf_X10_factorial : lk (tb_X10_factorial) 0 = (x_c 1 (.int 1), false) ∧ lk (tb_X10_factorial) 1 = (x_is 2 1, false) ∧ lk (tb_X10_factorial) 2 = (x_c 3 (.int 2), false) ∧ lk (tb_X10_factorial) 3 = (x_is 4 2, false) ∧ lk (tb_X10_factorial) 4 = (x_il 5 2, true) ∧ lk (tb_X10_factorial) 5 = (x_il 6 0, false) ∧ lk (tb_X10_factorial) 6 = (x_ic 19 9 (fun x y : Int32 => y < x), false) ∧ lk (tb_X10_factorial) 9 = (x_il 10 1, false) ∧ lk (tb_X10_factorial) 10 = (x_il 11 2, false) ∧ lk (tb_X10_factorial) 11 = (x_ii 12 (fun x y : Int32 => x * y), false) ∧ lk (tb_X10_factorial) 12 = (x_is 13 1, false) ∧ lk (tb_X10_factorial) 13 = (x_inc 16 2 1, false) ∧ lk (tb_X10_factorial) 16 = (x_go 4, false) ∧ lk (tb_X10_factorial) 19 = (x_il 20 1, false) ∧ lk (tb_X10_factorial) 20 = (x_rI, false) := ⟨rfl, rfl, rfl, rfl, rfl, rfl, rfl, rfl, rfl, rfl, rfl, rfl, rfl, rfl, rfl⟩
def P_X10_factorial : PTT := fun as M R => match as with
  | [.int b] => ∃ n, b = nI n ∧ n ≤ 6 ∧ R (some (.int (nI (facN n)))) M
  | _ => False
theorem fac_s : ∀ i, i < 6 → facN i * (i + 1) = facN (i + 1) := by decide
set_option maxRecDepth 20000 in
theorem ok_X10_factorial : Ok yX10_factorial mt_X10_factorial P_X10_factorial := by
  refine Ok.of (by decide) rfl rfl rfl rfl fun av ⟨S, I, L⟩ R hP => ?_
  unfold P_X10_factorial at hP
  split at hP
  case h_2 => exact hP.elim
  rename_i b
  refine ⟨by simp [ent, wide, mt_X10_factorial], ?_⟩
  show J mt_X10_factorial R 0 [some (.int b), none, none] [] (S, I, L)
  try dsimp only at hP
  obtain ⟨n, rfl, hn, hR⟩ := hP
  by_cases h1 : n ≤ 1
  · have e : (nI n < nI 2) ↔ True := by rw [nI_ltI (by omega) (by omega)]; exact ⟨fun _ => trivial, fun _ => by omega⟩
    have ef : facN n = 1 := by
      rcases (show n = 0 ∨ n = 1 by omega) with rfl | rfl <;> rfl
    rw [ef] at hR
    refine J.of tk_X10_factorial 200 fun ρ hρ => ?_
    simp only [hρ, x_c, x_il, x_ll, x_al, x_is, x_as, x_ls, x_inc, x_ii, x_iq, x_i1, x_l2, x_lq, x_lh, x_i2l, x_l2i, x_lcmp, x_dup, x_dup2, x_pop, x_if, x_ifn, x_ic, x_icn, x_go, x_sw, swc, x_l01, x_mx, x_gI, x_gL, x_gR, x_pI, x_pZ, x_pL, x_pR, x_ia, x_za, x_aa, x_ias, x_zas, x_aas, x_fac, x_fa, x_slen, x_sa, x_ac, x_oi, x_new, x_na, x_cS, x_cV, x_cI, x_rI, x_rZ, x_rL, x_r0, pa, short, oc, lg, lset, lset2, wide, cond_true, cond_false, true_and, and_true, ↓reduceIte, Bool.false_eq_true, true_or, or_true, lf_X10_factorial]
    refine J.of tk_X10_factorial 200 fun ρ hρ => ?_
    simp only [hρ, x_c, x_il, x_ll, x_al, x_is, x_as, x_ls, x_inc, x_ii, x_iq, x_i1, x_l2, x_lq, x_lh, x_i2l, x_l2i, x_lcmp, x_dup, x_dup2, x_pop, x_if, x_ifn, x_ic, x_icn, x_go, x_sw, swc, x_l01, x_mx, x_gI, x_gL, x_gR, x_pI, x_pZ, x_pL, x_pR, x_ia, x_za, x_aa, x_ias, x_zas, x_aas, x_fac, x_fa, x_slen, x_sa, x_ac, x_oi, x_new, x_na, x_cS, x_cV, x_cI, x_rI, x_rZ, x_rL, x_r0, pa, short, oc, lg, lset, lset2, wide, cond_true, cond_false, true_and, and_true, ↓reduceIte, Bool.false_eq_true, true_or, or_true, lf_X10_factorial, show (2 : Int32) = nI 2 by decide, e, true_implies, not_true_eq_false, false_implies]
    exact hR
  · have key := up (P := fun i => 1 ≤ i → J mt_X10_factorial R 4 [some (.int (nI n)), some (.int (nI (facN i))), some (.int (nI (i + 1)))] [] (S, I, L)) (n := n) (fun i hi ih h1 => ?_) 1 (by omega) (Nat.le_refl 1)
    · refine J.of tk_X10_factorial 200 fun ρ hρ => ?_
      simp only [hρ, x_c, x_il, x_ll, x_al, x_is, x_as, x_ls, x_inc, x_ii, x_iq, x_i1, x_l2, x_lq, x_lh, x_i2l, x_l2i, x_lcmp, x_dup, x_dup2, x_pop, x_if, x_ifn, x_ic, x_icn, x_go, x_sw, swc, x_l01, x_mx, x_gI, x_gL, x_gR, x_pI, x_pZ, x_pL, x_pR, x_ia, x_za, x_aa, x_ias, x_zas, x_aas, x_fac, x_fa, x_slen, x_sa, x_ac, x_oi, x_new, x_na, x_cS, x_cV, x_cI, x_rI, x_rZ, x_rL, x_r0, pa, short, oc, lg, lset, lset2, wide, cond_true, cond_false, true_and, and_true, ↓reduceIte, Bool.false_eq_true, true_or, or_true, lf_X10_factorial]
      exact key
    refine J.of tk_X10_factorial 200 fun ρ hρ => ?_
    simp only [hρ, x_c, x_il, x_ll, x_al, x_is, x_as, x_ls, x_inc, x_ii, x_iq, x_i1, x_l2, x_lq, x_lh, x_i2l, x_l2i, x_lcmp, x_dup, x_dup2, x_pop, x_if, x_ifn, x_ic, x_icn, x_go, x_sw, swc, x_l01, x_mx, x_gI, x_gL, x_gR, x_pI, x_pZ, x_pL, x_pR, x_ia, x_za, x_aa, x_ias, x_zas, x_aas, x_fac, x_fa, x_slen, x_sa, x_ac, x_oi, x_new, x_na, x_cS, x_cV, x_cI, x_rI, x_rZ, x_rL, x_r0, pa, short, oc, lg, lset, lset2, wide, cond_true, cond_false, true_and, and_true, ↓reduceIte, Bool.false_eq_true, true_or, or_true, lf_X10_factorial, nI_ltI (show n < 2 ^ 31 by omega) (show i + 1 < 2 ^ 31 by omega), pk_mul, nI_1]
    refine ⟨fun h => ?_, fun h => ?_⟩
    · have : i = n := by omega
      subst this
      exact hR
    · rw [fac_s i (by omega)]
      exact ih (by omega) (by omega)
def il_X10_fraction : List (Nat × Instr × Nat) := [(0, .iload_n 0, 1), (1, .ifCond .ge 8, 3), (4, .iload_n 0, 1), (5, .ineg, 1), (6, .goto 4, 3), (9, .iload_n 0, 1), (10, .istore_n 3, 1), (11, .iload_n 1, 1), (12, .istore 4, 2), (14, .iload 4, 2), (16, .ifCond .eq 19, 3), (19, .iload_n 3, 1), (20, .iload 4, 2), (22, .irem, 1), (23, .istore 5, 2), (25, .iload 4, 2), (27, .istore_n 3, 1), (28, .iload 5, 2), (30, .istore 4, 2), (32, .goto (-18), 3), (35, .iload_n 2, 1), (36, .ifCond .eq 9, 3), (39, .iload_n 0, 1), (40, .iload_n 3, 1), (41, .idiv, 1), (42, .goto 6, 3), (45, .iload_n 1, 1), (46, .iload_n 3, 1), (47, .idiv, 1), (48, .ireturn, 1)]
def mt_X10_fraction : Mt := (cX10_fraction, RX10, 6, (some .int), ({ frames := 0, cells := 0, slots := 0, locals := 0 } : Room), false, none, none)
set_option maxRecDepth 100000 in
theorem dl_X10_fraction : ∀ q ∈ il_X10_fraction, decode (mt_X10_fraction).1 q.1 = .ok q.2 := by decide +kernel
def tb_X10_fraction : Tb := [(0, x_il 1 0, false),
  (1, x_if 9 4 (fun x : Int32 => 0 ≤ x), false),
  (4, x_il 5 0, false),
  (5, x_i1 6 (fun x : Int32 => -x), false),
  (6, x_go 10, false),
  (9, x_il 10 0, false),
  (10, x_is 11 3, false),
  (11, x_il 12 1, false),
  (12, x_is 14 4, false),
  (14, x_il 16 4, true),
  (16, x_if 35 19 (fun x : Int32 => x = 0), false),
  (19, x_il 20 3, false),
  (20, x_il 22 4, false),
  (22, x_iq 23 (fun x y : Int32 => x - x / y * y), false),
  (23, x_is 25 5, false),
  (25, x_il 27 4, false),
  (27, x_is 28 3, false),
  (28, x_il 30 5, false),
  (30, x_is 32 4, false),
  (32, x_go 14, false),
  (35, x_il 36 2, true),
  (36, x_if 45 39 (fun x : Int32 => x = 0), false),
  (39, x_il 40 0, false),
  (40, x_il 41 3, false),
  (41, x_iq 42 (fun x y : Int32 => x / y), false),
  (42, x_go 48, false),
  (45, x_il 46 1, false),
  (46, x_il 47 3, false),
  (47, x_iq 48 (fun x y : Int32 => x / y), false),
  (48, x_rI, false)]
set_option maxRecDepth 100000 in
theorem tk_X10_fraction : TbOk (mt_X10_fraction) (tb_X10_fraction) :=
  tkc (s_iload_n (at_ dl_X10_fraction 0 (ins := .iload_n 0) rfl)) (
  tkc (s_if_ge (at_ dl_X10_fraction 1 (ins := .ifCond .ge 8) rfl) (by decide)) (
  tkc (s_iload_n (at_ dl_X10_fraction 2 (ins := .iload_n 0) rfl)) (
  tkc (s_ineg (at_ dl_X10_fraction 3 (ins := .ineg) rfl)) (
  tkc (s_goto (at_ dl_X10_fraction 4 (ins := .goto 4) rfl) (by decide)) (
  tkc (s_iload_n (at_ dl_X10_fraction 5 (ins := .iload_n 0) rfl)) (
  tkc (s_istore_n (at_ dl_X10_fraction 6 (ins := .istore_n 3) rfl) (by decide)) (
  tkc (s_iload_n (at_ dl_X10_fraction 7 (ins := .iload_n 1) rfl)) (
  tkc (s_istore (at_ dl_X10_fraction 8 (ins := .istore 4) rfl) (by decide)) (
  tkc (s_iload (at_ dl_X10_fraction 9 (ins := .iload 4) rfl)) (
  tkc (s_if_eq (at_ dl_X10_fraction 10 (ins := .ifCond .eq 19) rfl) (by decide)) (
  tkc (s_iload_n (at_ dl_X10_fraction 11 (ins := .iload_n 3) rfl)) (
  tkc (s_iload (at_ dl_X10_fraction 12 (ins := .iload 4) rfl)) (
  tkc (s_irem (at_ dl_X10_fraction 13 (ins := .irem) rfl)) (
  tkc (s_istore (at_ dl_X10_fraction 14 (ins := .istore 5) rfl) (by decide)) (
  tkc (s_iload (at_ dl_X10_fraction 15 (ins := .iload 4) rfl)) (
  tkc (s_istore_n (at_ dl_X10_fraction 16 (ins := .istore_n 3) rfl) (by decide)) (
  tkc (s_iload (at_ dl_X10_fraction 17 (ins := .iload 5) rfl)) (
  tkc (s_istore (at_ dl_X10_fraction 18 (ins := .istore 4) rfl) (by decide)) (
  tkc (s_goto (at_ dl_X10_fraction 19 (ins := .goto (-18)) rfl) (by decide)) (
  tkc (s_iload_n (at_ dl_X10_fraction 20 (ins := .iload_n 2) rfl)) (
  tkc (s_if_eq (at_ dl_X10_fraction 21 (ins := .ifCond .eq 9) rfl) (by decide)) (
  tkc (s_iload_n (at_ dl_X10_fraction 22 (ins := .iload_n 0) rfl)) (
  tkc (s_iload_n (at_ dl_X10_fraction 23 (ins := .iload_n 3) rfl)) (
  tkc (s_idiv (at_ dl_X10_fraction 24 (ins := .idiv) rfl)) (
  tkc (s_goto (at_ dl_X10_fraction 25 (ins := .goto 6) rfl) (by decide)) (
  tkc (s_iload_n (at_ dl_X10_fraction 26 (ins := .iload_n 1) rfl)) (
  tkc (s_iload_n (at_ dl_X10_fraction 27 (ins := .iload_n 3) rfl)) (
  tkc (s_idiv (at_ dl_X10_fraction 28 (ins := .idiv) rfl)) (
  tkc (s_rI (at_ dl_X10_fraction 29 (ins := .ireturn) rfl) rfl) ( tk0))))))))))))))))))))))))))))))
theorem lf_X10_fraction : lk (tb_X10_fraction) 0 = (x_il 1 0, false) ∧ lk (tb_X10_fraction) 1 = (x_if 9 4 (fun x : Int32 => 0 ≤ x), false) ∧ lk (tb_X10_fraction) 4 = (x_il 5 0, false) ∧ lk (tb_X10_fraction) 5 = (x_i1 6 (fun x : Int32 => -x), false) ∧ lk (tb_X10_fraction) 6 = (x_go 10, false) ∧ lk (tb_X10_fraction) 9 = (x_il 10 0, false) ∧ lk (tb_X10_fraction) 10 = (x_is 11 3, false) ∧ lk (tb_X10_fraction) 11 = (x_il 12 1, false) ∧ lk (tb_X10_fraction) 12 = (x_is 14 4, false) ∧ lk (tb_X10_fraction) 14 = (x_il 16 4, true) ∧ lk (tb_X10_fraction) 16 = (x_if 35 19 (fun x : Int32 => x = 0), false) ∧ lk (tb_X10_fraction) 19 = (x_il 20 3, false) ∧ lk (tb_X10_fraction) 20 = (x_il 22 4, false) ∧ lk (tb_X10_fraction) 22 = (x_iq 23 (fun x y : Int32 => x - x / y * y), false) ∧ lk (tb_X10_fraction) 23 = (x_is 25 5, false) ∧ lk (tb_X10_fraction) 25 = (x_il 27 4, false) ∧ lk (tb_X10_fraction) 27 = (x_is 28 3, false) ∧ lk (tb_X10_fraction) 28 = (x_il 30 5, false) ∧ lk (tb_X10_fraction) 30 = (x_is 32 4, false) ∧ lk (tb_X10_fraction) 32 = (x_go 14, false) ∧ lk (tb_X10_fraction) 35 = (x_il 36 2, true) ∧ lk (tb_X10_fraction) 36 = (x_if 45 39 (fun x : Int32 => x = 0), false) ∧ lk (tb_X10_fraction) 39 = (x_il 40 0, false) ∧ lk (tb_X10_fraction) 40 = (x_il 41 3, false) ∧ lk (tb_X10_fraction) 41 = (x_iq 42 (fun x y : Int32 => x / y), false) ∧ lk (tb_X10_fraction) 42 = (x_go 48, false) ∧ lk (tb_X10_fraction) 45 = (x_il 46 1, false) ∧ lk (tb_X10_fraction) 46 = (x_il 47 3, false) ∧ lk (tb_X10_fraction) 47 = (x_iq 48 (fun x y : Int32 => x / y), false) ∧ lk (tb_X10_fraction) 48 = (x_rI, false) := ⟨rfl, rfl, rfl, rfl, rfl, rfl, rfl, rfl, rfl, rfl, rfl, rfl, rfl, rfl, rfl, rfl, rfl, rfl, rfl, rfl, rfl, rfl, rfl, rfl, rfl, rfl, rfl, rfl, rfl, rfl⟩
def P_X10_fraction : PTT := fun as M R => match as with
  | [.int a, .int b, .int u] => ∃ x y, a = nI x ∧ b = nI y ∧ x < 2 ^ 31 ∧ 0 < y ∧ y < 2 ^ 31 ∧ R (some (.int (ltA x y u))) M
  | _ => False
set_option maxRecDepth 20000 in
theorem ok_X10_fraction : Ok yX10_fraction mt_X10_fraction P_X10_fraction := by
  refine Ok.of (by decide) rfl rfl rfl rfl fun av ⟨S, I, L⟩ R hP => ?_
  unfold P_X10_fraction at hP
  split at hP
  case h_2 => exact hP.elim
  rename_i a b u
  refine ⟨by simp [ent, wide, mt_X10_fraction], ?_⟩
  show J mt_X10_fraction R 0 [some (.int a), some (.int b), some (.int u), none, none, none] [] (S, I, L)
  try dsimp only at hP
  obtain ⟨x0, y0, rfl, rfl, hx0, h00, hy0, hR⟩ := hP
  have hx0n : (0 : Int32) ≤ nI x0 ↔ True := by rw [zero_nI, nI_leI (by omega) hx0]; simp
  have hg0 : 0 < Nat.gcd x0 y0 := Nat.gcd_pos_of_pos_right x0 h00
  have hgy : Nat.gcd x0 y0 ≤ y0 := Nat.gcd_le_right x0 h00
  have hz0 : ¬ nI (Nat.gcd x0 y0) = 0 := fun q => by rw [nI_z (by omega)] at q; omega
  have e1 : nI x0 / nI (Nat.gcd x0 y0) = nI (x0 / Nat.gcd x0 y0) := pk_div (by omega) (by omega) (by omega)
  have e2 : nI y0 / nI (Nat.gcd x0 y0) = nI (y0 / Nat.gcd x0 y0) := pk_div (by omega) (by omega) (by omega)
  have key : ∀ y x, x < 2 ^ 31 → y < 2 ^ 31 → Nat.gcd x y = Nat.gcd x0 y0 → ∀ w, J mt_X10_fraction R 14 [some (.int (nI x0)), some (.int (nI y0)), some (.int u), some (.int (nI x)), some (.int (nI y)), w] [] (S, I, L) := by
    intro y
    induction y using Nat.strongRecOn with
    | ind y ih =>
      intro x hx hy hg w
      rcases Nat.eq_zero_or_pos y with h | h
      · subst h
        rw [Nat.gcd_zero_right] at hg
        subst hg
        have hz : nI 0 = 0 := by decide
        refine J.of tk_X10_fraction 200 fun ρ hρ => ?_
        simp only [hρ, x_c, x_il, x_ll, x_al, x_is, x_as, x_ls, x_inc, x_ii, x_iq, x_i1, x_l2, x_lq, x_lh, x_i2l, x_l2i, x_lcmp, x_dup, x_dup2, x_pop, x_if, x_ifn, x_ic, x_icn, x_go, x_sw, swc, x_l01, x_mx, x_gI, x_gL, x_gR, x_pI, x_pZ, x_pL, x_pR, x_ia, x_za, x_aa, x_ias, x_zas, x_aas, x_fac, x_fa, x_slen, x_sa, x_ac, x_oi, x_new, x_na, x_cS, x_cV, x_cI, x_rI, x_rZ, x_rL, x_r0, pa, short, oc, lg, lset, lset2, wide, cond_true, cond_false, true_and, and_true, ↓reduceIte, Bool.false_eq_true, true_or, or_true, lf_X10_fraction, hz, true_implies, not_true_eq_false, false_implies]
        refine J.of tk_X10_fraction 200 fun ρ hρ => ?_
        simp only [hρ, x_c, x_il, x_ll, x_al, x_is, x_as, x_ls, x_inc, x_ii, x_iq, x_i1, x_l2, x_lq, x_lh, x_i2l, x_l2i, x_lcmp, x_dup, x_dup2, x_pop, x_if, x_ifn, x_ic, x_icn, x_go, x_sw, swc, x_l01, x_mx, x_gI, x_gL, x_gR, x_pI, x_pZ, x_pL, x_pR, x_ia, x_za, x_aa, x_ias, x_zas, x_aas, x_fac, x_fa, x_slen, x_sa, x_ac, x_oi, x_new, x_na, x_cS, x_cV, x_cI, x_rI, x_rZ, x_rL, x_r0, pa, short, oc, lg, lset, lset2, wide, cond_true, cond_false, true_and, and_true, ↓reduceIte, Bool.false_eq_true, true_or, or_true, lf_X10_fraction, hz0, e1, e2, not_false_eq_true]
        refine ⟨fun h => ?_, fun h => ?_⟩
        · rw [ltA, if_pos h] at hR; exact hR
        · rw [ltA, if_neg h] at hR; exact hR
      · have hz : ¬ nI y = 0 := fun q => by rw [nI_z (by omega)] at q; omega
        have er : nI x - nI x / nI y * nI y = nI (x % y) := pk_rem (by omega) (by omega) (by omega)
        have hm := Nat.mod_lt x h
        refine J.of tk_X10_fraction 200 fun ρ hρ => ?_
        simp only [hρ, x_c, x_il, x_ll, x_al, x_is, x_as, x_ls, x_inc, x_ii, x_iq, x_i1, x_l2, x_lq, x_lh, x_i2l, x_l2i, x_lcmp, x_dup, x_dup2, x_pop, x_if, x_ifn, x_ic, x_icn, x_go, x_sw, swc, x_l01, x_mx, x_gI, x_gL, x_gR, x_pI, x_pZ, x_pL, x_pR, x_ia, x_za, x_aa, x_ias, x_zas, x_aas, x_fac, x_fa, x_slen, x_sa, x_ac, x_oi, x_new, x_na, x_cS, x_cV, x_cI, x_rI, x_rZ, x_rL, x_r0, pa, short, oc, lg, lset, lset2, wide, cond_true, cond_false, true_and, and_true, ↓reduceIte, Bool.false_eq_true, true_or, or_true, lf_X10_fraction, hz, er, not_false_eq_true, true_implies, false_implies]
        exact ih (x % y) hm y (by omega) (by omega) (by rw [eu_gcd]; exact hg) _
  refine J.of tk_X10_fraction 200 fun ρ hρ => ?_
  simp only [hρ, x_c, x_il, x_ll, x_al, x_is, x_as, x_ls, x_inc, x_ii, x_iq, x_i1, x_l2, x_lq, x_lh, x_i2l, x_l2i, x_lcmp, x_dup, x_dup2, x_pop, x_if, x_ifn, x_ic, x_icn, x_go, x_sw, swc, x_l01, x_mx, x_gI, x_gL, x_gR, x_pI, x_pZ, x_pL, x_pR, x_ia, x_za, x_aa, x_ias, x_zas, x_aas, x_fac, x_fa, x_slen, x_sa, x_ac, x_oi, x_new, x_na, x_cS, x_cV, x_cI, x_rI, x_rZ, x_rL, x_r0, pa, short, oc, lg, lset, lset2, wide, cond_true, cond_false, true_and, and_true, ↓reduceIte, Bool.false_eq_true, true_or, or_true, lf_X10_fraction, hx0n, true_implies, not_true_eq_false, false_implies]
  exact key y0 x0 hx0 hy0 rfl _
/-! the model's shape -/
def IsMo (S : Sh) : Prop := tO S 108 10 ∧ (sR S 108 0 = 109 ∧ sR S 108 4 = 110 ∧ sR S 108 5 = 111 ∧ sR S 108 6 = 112 ∧ sR S 108 9 = 113 ∧ sR S 108 10 = 114 ∧ sR S 108 11 = 115 ∧ sR S 108 12 = 116 ∧ sR S 108 15 = 117 ∧ sR S 108 16 = 118 ∧ sR S 108 17 = 119 ∧ sR S 108 18 = 120 ∧ sR S 108 19 = 121 ∧ sR S 108 23 = 122) ∧ (tA S 109 1 ∧ ln S 109 = 70) ∧ (tA S 110 1 ∧ ln S 110 = 80) ∧ (tA S 111 1 ∧ ln S 111 = 80) ∧ (tA S 112 1 ∧ ln S 112 = 1120) ∧ (tA S 113 1 ∧ ln S 113 = 160) ∧ (tA S 114 2 ∧ ln S 114 = 2) ∧ (tA S 115 1 ∧ ln S 115 = 6) ∧ (tA S 116 1 ∧ ln S 116 = 6) ∧ (tA S 117 1 ∧ ln S 117 = 6) ∧ (tA S 118 1 ∧ ln S 118 = 9) ∧ (tA S 119 1 ∧ ln S 119 = 9) ∧ (tA S 120 1 ∧ ln S 120 = 64) ∧ (tA S 121 1 ∧ ln S 121 = 15) ∧ (tA S 122 1 ∧ ln S 122 = 6)
theorem IsMo.f {S : Sh} (h : IsMo S) : tO S 108 10 ∧ (sR S 108 0 = 109 ∧ sR S 108 4 = 110 ∧ sR S 108 5 = 111 ∧ sR S 108 6 = 112 ∧ sR S 108 9 = 113 ∧ sR S 108 10 = 114 ∧ sR S 108 11 = 115 ∧ sR S 108 12 = 116 ∧ sR S 108 15 = 117 ∧ sR S 108 16 = 118 ∧ sR S 108 17 = 119 ∧ sR S 108 18 = 120 ∧ sR S 108 19 = 121 ∧ sR S 108 23 = 122) ∧ (tA S 109 1 ∧ ln S 109 = 70) ∧ (tA S 110 1 ∧ ln S 110 = 80) ∧ (tA S 111 1 ∧ ln S 111 = 80) ∧ (tA S 112 1 ∧ ln S 112 = 1120) ∧ (tA S 113 1 ∧ ln S 113 = 160) ∧ (tA S 114 2 ∧ ln S 114 = 2) ∧ (tA S 115 1 ∧ ln S 115 = 6) ∧ (tA S 116 1 ∧ ln S 116 = 6) ∧ (tA S 117 1 ∧ ln S 117 = 6) ∧ (tA S 118 1 ∧ ln S 118 = 9) ∧ (tA S 119 1 ∧ ln S 119 = 9) ∧ (tA S 120 1 ∧ ln S 120 = 64) ∧ (tA S 121 1 ∧ ln S 121 = 15) ∧ (tA S 122 1 ∧ ln S 122 = 6) := h
theorem i2l_0 {b : Int32} : ¬ b.toInt64 < (0 : Int64) ↔ ¬ b < 0 := by
  rw [Int64.lt_iff_toInt_lt, Int32.lt_iff_toInt_lt, Int32.toInt_toInt64]
  exact Iff.rfl
theorem i2l_m {b : Int32} {n : Nat} (h : n < 2 ^ 31) : ¬ (nI n - 1).toInt64 < b.toInt64 ↔ ¬ nI n ≤ b := by
  have e : (nI n - 1).toInt = (n : Int) - 1 := by
    rcases Nat.eq_zero_or_pos n with h0 | h0
    · subst h0; decide
    · rw [nI_m1 h0, nI_toInt (by omega)]; omega
  rw [Int64.lt_iff_toInt_lt, Int32.le_iff_toInt_le, Int32.toInt_toInt64, Int32.toInt_toInt64, e, nI_toInt h]
  omega
def il_X10_isBit : List (Nat × Instr × Nat) := [(0, .iload_n 1, 1), (1, .i2l, 1), (2, .lconst 0, 1), (3, .aload_n 0, 1), (4, .getfield 53, 3), (7, .iconst 1, 1), (8, .isub, 1), (9, .i2l, 1), (10, .invokestatic 60, 3), (13, .ireturn, 1)]
def mt_X10_isBit : Mt := (cX10_isBit, RX10, 2, (some .boolean), ({ frames := 1, cells := 0, slots := 0, locals := 25 } : Room), false, none, none)
set_option maxRecDepth 100000 in
theorem dl_X10_isBit : ∀ q ∈ il_X10_isBit, decode (mt_X10_isBit).1 q.1 = .ok q.2 := by decide +kernel
def tb_X10_isBit : Tb := [(0, x_il 1 1, false),
  (1, x_i2l 2, false),
  (2, x_c 3 (.long 0), false),
  (3, x_al 4 0, false),
  (4, x_gI 10 2 7, false),
  (7, x_c 8 (.int 1), false),
  (8, x_ii 9 (fun x y : Int32 => x - y), false),
  (9, x_i2l 10, false),
  (10, x_cS 3 P_X10_in 13, false),
  (13, x_rZ, false)]
set_option maxRecDepth 100000 in
theorem tk_X10_isBit : TbOk (mt_X10_isBit) (tb_X10_isBit) :=
  tkc (s_iload_n (at_ dl_X10_isBit 0 (ins := .iload_n 1) rfl)) (
  tkc (s_i2l (at_ dl_X10_isBit 1 (ins := .i2l) rfl)) (
  tkc (s_lconst (at_ dl_X10_isBit 2 (ins := .lconst 0) rfl) (by first | rfl | decide)) (
  tkc (s_aload_n (at_ dl_X10_isBit 3 (ins := .aload_n 0) rfl)) (
  tkc (s_gI (at_ dl_X10_isBit 4 (ins := .getfield 53) rfl) (by decide) (by decide) (by decide) (tg 698 (by decide +kernel) (by decide +kernel))) (
  tkc (s_iconst (at_ dl_X10_isBit 5 (ins := .iconst 1) rfl) (by first | rfl | decide)) (
  tkc (s_isub (at_ dl_X10_isBit 6 (ins := .isub) rfl)) (
  tkc (s_i2l (at_ dl_X10_isBit 7 (ins := .i2l) rfl)) (
  tkc (s_cS ok_X10_in (at_ dl_X10_isBit 8 (ins := .invokestatic 60) rfl) (tg 780 (by decide +kernel) (by decide +kernel)) (tg 781 (by decide +kernel) (by decide +kernel)) (tg 51 (by decide +kernel) (by decide +kernel)) (tg 782 (by decide +kernel) (by decide +kernel)) (⟨by decide, by decide, by decide +kernel⟩) (⟨by decide, by decide⟩) rfl rfl) (
  tkc (s_rZ (at_ dl_X10_isBit 9 (ins := .ireturn) rfl) rfl) ( tk0))))))))))
theorem lf_X10_isBit : lk (tb_X10_isBit) 0 = (x_il 1 1, false) ∧ lk (tb_X10_isBit) 1 = (x_i2l 2, false) ∧ lk (tb_X10_isBit) 2 = (x_c 3 (.long 0), false) ∧ lk (tb_X10_isBit) 3 = (x_al 4 0, false) ∧ lk (tb_X10_isBit) 4 = (x_gI 10 2 7, false) ∧ lk (tb_X10_isBit) 7 = (x_c 8 (.int 1), false) ∧ lk (tb_X10_isBit) 8 = (x_ii 9 (fun x y : Int32 => x - y), false) ∧ lk (tb_X10_isBit) 9 = (x_i2l 10, false) ∧ lk (tb_X10_isBit) 10 = (x_cS 3 P_X10_in 13, false) ∧ lk (tb_X10_isBit) 13 = (x_rZ, false) := ⟨rfl, rfl, rfl, rfl, rfl, rfl, rfl, rfl, rfl, rfl⟩
def P_X10_isBit : PTT := fun as M R => match as with
  | [.ref k, .int b] => k = 108 ∧ tO M.1 108 10 ∧ ∃ n, n < 2 ^ 31 ∧ M.2.1 108 2 = nI n ∧ R (some (.int (bI (¬ b < 0 ∧ ¬ nI n ≤ b)))) M
  | _ => False
set_option maxRecDepth 20000 in
theorem ok_X10_isBit : Ok yX10_isBit mt_X10_isBit P_X10_isBit := by
  refine Ok.of (by decide) rfl rfl rfl rfl fun av ⟨S, I, L⟩ R hP => ?_
  unfold P_X10_isBit at hP
  split at hP
  case h_2 => exact hP.elim
  rename_i k b
  obtain ⟨k, rfl⟩ : ∃ q : Nat, q = k := ⟨k, rfl⟩
  refine ⟨by simp [ent, wide, mt_X10_isBit], ?_⟩
  show J mt_X10_isBit R 0 [some (.ref k), some (.int b)] [] (S, I, L)
  try dsimp only at hP
  obtain ⟨rfl, hk, n, hn, e, hR⟩ := hP
  refine J.of tk_X10_isBit 200 fun ρ hρ => ?_
  simp only [hρ, x_c, x_il, x_ll, x_al, x_is, x_as, x_ls, x_inc, x_ii, x_iq, x_i1, x_l2, x_lq, x_lh, x_i2l, x_l2i, x_lcmp, x_dup, x_dup2, x_pop, x_if, x_ifn, x_ic, x_icn, x_go, x_sw, swc, x_l01, x_mx, x_gI, x_gL, x_gR, x_pI, x_pZ, x_pL, x_pR, x_ia, x_za, x_aa, x_ias, x_zas, x_aas, x_fac, x_fa, x_slen, x_sa, x_ac, x_oi, x_new, x_na, x_cS, x_cV, x_cI, x_rI, x_rZ, x_rL, x_r0, pa, short, oc, lg, lset, lset2, wide, cond_true, cond_false, true_and, and_true, ↓reduceIte, Bool.false_eq_true, true_or, or_true, lf_X10_isBit, hk, e, P_X10_in]
  rw [bI_congr (q := ¬ b < 0 ∧ ¬ nI n ≤ b) (and_congr i2l_0 (i2l_m hn))]
  exact ⟨bI_or, hR⟩
def il_X10_isCheck : List (Nat × Instr × Nat) := [(0, .iload_n 1, 1), (1, .i2l, 1), (2, .lconst 0, 1), (3, .aload_n 0, 1), (4, .getfield 64, 3), (7, .iconst 1, 1), (8, .isub, 1), (9, .i2l, 1), (10, .invokestatic 60, 3), (13, .ireturn, 1)]
def mt_X10_isCheck : Mt := (cX10_isCheck, RX10, 2, (some .boolean), ({ frames := 1, cells := 0, slots := 0, locals := 25 } : Room), false, none, none)
set_option maxRecDepth 100000 in
theorem dl_X10_isCheck : ∀ q ∈ il_X10_isCheck, decode (mt_X10_isCheck).1 q.1 = .ok q.2 := by decide +kernel
def tb_X10_isCheck : Tb := [(0, x_il 1 1, false),
  (1, x_i2l 2, false),
  (2, x_c 3 (.long 0), false),
  (3, x_al 4 0, false),
  (4, x_gI 10 3 7, false),
  (7, x_c 8 (.int 1), false),
  (8, x_ii 9 (fun x y : Int32 => x - y), false),
  (9, x_i2l 10, false),
  (10, x_cS 3 P_X10_in 13, false),
  (13, x_rZ, false)]
set_option maxRecDepth 100000 in
theorem tk_X10_isCheck : TbOk (mt_X10_isCheck) (tb_X10_isCheck) :=
  tkc (s_iload_n (at_ dl_X10_isCheck 0 (ins := .iload_n 1) rfl)) (
  tkc (s_i2l (at_ dl_X10_isCheck 1 (ins := .i2l) rfl)) (
  tkc (s_lconst (at_ dl_X10_isCheck 2 (ins := .lconst 0) rfl) (by first | rfl | decide)) (
  tkc (s_aload_n (at_ dl_X10_isCheck 3 (ins := .aload_n 0) rfl)) (
  tkc (s_gI (at_ dl_X10_isCheck 4 (ins := .getfield 64) rfl) (by decide) (by decide) (by decide) (tg 699 (by decide +kernel) (by decide +kernel))) (
  tkc (s_iconst (at_ dl_X10_isCheck 5 (ins := .iconst 1) rfl) (by first | rfl | decide)) (
  tkc (s_isub (at_ dl_X10_isCheck 6 (ins := .isub) rfl)) (
  tkc (s_i2l (at_ dl_X10_isCheck 7 (ins := .i2l) rfl)) (
  tkc (s_cS ok_X10_in (at_ dl_X10_isCheck 8 (ins := .invokestatic 60) rfl) (tg 780 (by decide +kernel) (by decide +kernel)) (tg 781 (by decide +kernel) (by decide +kernel)) (tg 51 (by decide +kernel) (by decide +kernel)) (tg 782 (by decide +kernel) (by decide +kernel)) (⟨by decide, by decide, by decide +kernel⟩) (⟨by decide, by decide⟩) rfl rfl) (
  tkc (s_rZ (at_ dl_X10_isCheck 9 (ins := .ireturn) rfl) rfl) ( tk0))))))))))
theorem lf_X10_isCheck : lk (tb_X10_isCheck) 0 = (x_il 1 1, false) ∧ lk (tb_X10_isCheck) 1 = (x_i2l 2, false) ∧ lk (tb_X10_isCheck) 2 = (x_c 3 (.long 0), false) ∧ lk (tb_X10_isCheck) 3 = (x_al 4 0, false) ∧ lk (tb_X10_isCheck) 4 = (x_gI 10 3 7, false) ∧ lk (tb_X10_isCheck) 7 = (x_c 8 (.int 1), false) ∧ lk (tb_X10_isCheck) 8 = (x_ii 9 (fun x y : Int32 => x - y), false) ∧ lk (tb_X10_isCheck) 9 = (x_i2l 10, false) ∧ lk (tb_X10_isCheck) 10 = (x_cS 3 P_X10_in 13, false) ∧ lk (tb_X10_isCheck) 13 = (x_rZ, false) := ⟨rfl, rfl, rfl, rfl, rfl, rfl, rfl, rfl, rfl, rfl⟩
def P_X10_isCheck : PTT := fun as M R => match as with
  | [.ref k, .int b] => k = 108 ∧ tO M.1 108 10 ∧ ∃ n, n < 2 ^ 31 ∧ M.2.1 108 3 = nI n ∧ R (some (.int (bI (¬ b < 0 ∧ ¬ nI n ≤ b)))) M
  | _ => False
set_option maxRecDepth 20000 in
theorem ok_X10_isCheck : Ok yX10_isCheck mt_X10_isCheck P_X10_isCheck := by
  refine Ok.of (by decide) rfl rfl rfl rfl fun av ⟨S, I, L⟩ R hP => ?_
  unfold P_X10_isCheck at hP
  split at hP
  case h_2 => exact hP.elim
  rename_i k b
  obtain ⟨k, rfl⟩ : ∃ q : Nat, q = k := ⟨k, rfl⟩
  refine ⟨by simp [ent, wide, mt_X10_isCheck], ?_⟩
  show J mt_X10_isCheck R 0 [some (.ref k), some (.int b)] [] (S, I, L)
  try dsimp only at hP
  obtain ⟨rfl, hk, n, hn, e, hR⟩ := hP
  refine J.of tk_X10_isCheck 200 fun ρ hρ => ?_
  simp only [hρ, x_c, x_il, x_ll, x_al, x_is, x_as, x_ls, x_inc, x_ii, x_iq, x_i1, x_l2, x_lq, x_lh, x_i2l, x_l2i, x_lcmp, x_dup, x_dup2, x_pop, x_if, x_ifn, x_ic, x_icn, x_go, x_sw, swc, x_l01, x_mx, x_gI, x_gL, x_gR, x_pI, x_pZ, x_pL, x_pR, x_ia, x_za, x_aa, x_ias, x_zas, x_aas, x_fac, x_fa, x_slen, x_sa, x_ac, x_oi, x_new, x_na, x_cS, x_cV, x_cI, x_rI, x_rZ, x_rL, x_r0, pa, short, oc, lg, lset, lset2, wide, cond_true, cond_false, true_and, and_true, ↓reduceIte, Bool.false_eq_true, true_or, or_true, lf_X10_isCheck, hk, e, P_X10_in]
  rw [bI_congr (q := ¬ b < 0 ∧ ¬ nI n ≤ b) (and_congr i2l_0 (i2l_m hn))]
  exact ⟨bI_or, hR⟩
def il_X10_layOrder : List (Nat × Instr × Nat) := [(0, .iconst 0, 1), (1, .istore_n 1, 1), (2, .iload_n 1, 1), (3, .bipush 6, 2), (5, .if_icmp .ge 16, 3), (8, .aload_n 0, 1), (9, .getfield 35, 3), (12, .iload_n 1, 1), (13, .iload_n 1, 1), (14, .iastore, 1), (15, .iinc 1 1, 3), (18, .goto (-16), 3), (21, .return_, 1)]
def mt_X10_layOrder : Mt := (cX10_layOrder, RX10, 2, none, ({ frames := 0, cells := 0, slots := 0, locals := 0 } : Room), false, none, none)
set_option maxRecDepth 100000 in
theorem dl_X10_layOrder : ∀ q ∈ il_X10_layOrder, decode (mt_X10_layOrder).1 q.1 = .ok q.2 := by decide +kernel
def tb_X10_layOrder : Tb := [(0, x_c 1 (.int 0), false),
  (1, x_is 2 1, false),
  (2, x_il 3 1, true),
  (3, x_c 5 (.int 6), false),
  (5, x_ic 21 8 (fun x y : Int32 => y ≤ x), false),
  (8, x_al 9 0, false),
  (9, x_gR 10 15 12, false),
  (12, x_il 13 1, false),
  (13, x_il 14 1, false),
  (14, x_ias 15, false),
  (15, x_inc 18 1 1, false),
  (18, x_go 2, false),
  (21, x_r0, false)]
set_option maxRecDepth 100000 in
theorem tk_X10_layOrder : TbOk (mt_X10_layOrder) (tb_X10_layOrder) :=
  tkc (s_iconst (at_ dl_X10_layOrder 0 (ins := .iconst 0) rfl) (by first | rfl | decide)) (
  tkc (s_istore_n (at_ dl_X10_layOrder 1 (ins := .istore_n 1) rfl) (by decide)) (
  tkc (s_iload_n (at_ dl_X10_layOrder 2 (ins := .iload_n 1) rfl)) (
  tkc (s_bipush (at_ dl_X10_layOrder 3 (ins := .bipush 6) rfl) (by first | rfl | decide)) (
  tkc (s_ic_ge (at_ dl_X10_layOrder 4 (ins := .if_icmp .ge 16) rfl) (by decide)) (
  tkc (s_aload_n (at_ dl_X10_layOrder 5 (ins := .aload_n 0) rfl)) (
  tkc (s_gR (at_ dl_X10_layOrder 6 (ins := .getfield 35) rfl) (by decide) (by decide) (by decide) (tg 711 (by decide +kernel) (by decide +kernel))) (
  tkc (s_iload_n (at_ dl_X10_layOrder 7 (ins := .iload_n 1) rfl)) (
  tkc (s_iload_n (at_ dl_X10_layOrder 8 (ins := .iload_n 1) rfl)) (
  tkc (s_ias (at_ dl_X10_layOrder 9 (ins := .iastore) rfl)) (
  tkc (s_iinc (at_ dl_X10_layOrder 10 (ins := .iinc 1 1) rfl) (by decide) (by first | rfl | decide)) (
  tkc (s_goto (at_ dl_X10_layOrder 11 (ins := .goto (-16)) rfl) (by decide)) (
  tkc (s_r0 (at_ dl_X10_layOrder 12 (ins := .return_) rfl) rfl) ( tk0)))))))))))))
theorem lf_X10_layOrder : lk (tb_X10_layOrder) 0 = (x_c 1 (.int 0), false) ∧ lk (tb_X10_layOrder) 1 = (x_is 2 1, false) ∧ lk (tb_X10_layOrder) 2 = (x_il 3 1, true) ∧ lk (tb_X10_layOrder) 3 = (x_c 5 (.int 6), false) ∧ lk (tb_X10_layOrder) 5 = (x_ic 21 8 (fun x y : Int32 => y ≤ x), false) ∧ lk (tb_X10_layOrder) 8 = (x_al 9 0, false) ∧ lk (tb_X10_layOrder) 9 = (x_gR 10 15 12, false) ∧ lk (tb_X10_layOrder) 12 = (x_il 13 1, false) ∧ lk (tb_X10_layOrder) 13 = (x_il 14 1, false) ∧ lk (tb_X10_layOrder) 14 = (x_ias 15, false) ∧ lk (tb_X10_layOrder) 15 = (x_inc 18 1 1, false) ∧ lk (tb_X10_layOrder) 18 = (x_go 2, false) ∧ lk (tb_X10_layOrder) 21 = (x_r0, false) := ⟨rfl, rfl, rfl, rfl, rfl, rfl, rfl, rfl, rfl, rfl, rfl, rfl, rfl⟩
def P_X10_layOrder : PTT := fun as M R => match as with
  | [.ref k] => k = 108 ∧ tO M.1 108 10 ∧ sR M.1 108 15 = 117 ∧ tA M.1 117 1 ∧ ln M.1 117 = 6 ∧ R none (M.1, mS M.2.1 117 (idr (M.2.1 117) 6), M.2.2)
  | _ => False
set_option maxRecDepth 20000 in
theorem ok_X10_layOrder : Ok yX10_layOrder mt_X10_layOrder P_X10_layOrder := by
  refine Ok.of (by decide) rfl rfl rfl rfl fun av ⟨S, I, L⟩ R hP => ?_
  unfold P_X10_layOrder at hP
  split at hP
  case h_2 => exact hP.elim
  rename_i d
  obtain ⟨d, rfl⟩ : ∃ q : Nat, q = d := ⟨d, rfl⟩
  refine ⟨by simp [ent, wide, mt_X10_layOrder], ?_⟩
  show J mt_X10_layOrder R 0 [some (.ref d), none] [] (S, I, L)
  try dsimp only at hP
  obtain ⟨rfl, h1, h2, h3, h4, hR⟩ := hP
  refine J.of tk_X10_layOrder 200 fun ρ hρ => ?_
  simp only [hρ, x_c, x_il, x_ll, x_al, x_is, x_as, x_ls, x_inc, x_ii, x_iq, x_i1, x_l2, x_lq, x_lh, x_i2l, x_l2i, x_lcmp, x_dup, x_dup2, x_pop, x_if, x_ifn, x_ic, x_icn, x_go, x_sw, swc, x_l01, x_mx, x_gI, x_gL, x_gR, x_pI, x_pZ, x_pL, x_pR, x_ia, x_za, x_aa, x_ias, x_zas, x_aas, x_fac, x_fa, x_slen, x_sa, x_ac, x_oi, x_new, x_na, x_cS, x_cV, x_cI, x_rI, x_rZ, x_rL, x_r0, pa, short, oc, lg, lset, lset2, wide, cond_true, cond_false, true_and, and_true, ↓reduceIte, Bool.false_eq_true, true_or, or_true, lf_X10_layOrder]
  have key := up (P := fun i => J mt_X10_layOrder R 2 [some (.ref 108), some (.int (nI i))] [] (S, mS I 117 (idr (I 117) i), L)) (n := 6) (fun i hi ih => ?_) 0 (Nat.zero_le _)
  · rw [idr_0, mS_id] at key
    exact key
  refine J.of tk_X10_layOrder 200 fun ρ hρ => ?_
  simp only [hρ, x_c, x_il, x_ll, x_al, x_is, x_as, x_ls, x_inc, x_ii, x_iq, x_i1, x_l2, x_lq, x_lh, x_i2l, x_l2i, x_lcmp, x_dup, x_dup2, x_pop, x_if, x_ifn, x_ic, x_icn, x_go, x_sw, swc, x_l01, x_mx, x_gI, x_gL, x_gR, x_pI, x_pZ, x_pL, x_pR, x_ia, x_za, x_aa, x_ias, x_zas, x_aas, x_fac, x_fa, x_slen, x_sa, x_ac, x_oi, x_new, x_na, x_cS, x_cV, x_cI, x_rI, x_rZ, x_rL, x_r0, pa, short, oc, lg, lset, lset2, wide, cond_true, cond_false, true_and, and_true, ↓reduceIte, Bool.false_eq_true, true_or, or_true, lf_X10_layOrder, h1, h2, h3, h4, nI6, nI_leI (show 6 < 2 ^ 31 by omega) (show i < 2 ^ 31 by omega), ncl (show i < 2 ^ 31 by omega), nI_1, mS_s, mS_ss, idr_s]
  refine ⟨fun h => ?_, fun h => ⟨vp_in_nI (by omega) (by omega), ih (by omega)⟩⟩
  have : i = 6 := by omega
  subst this
  exact hR
/-- copies of rows: from now (110) to trial (111) -/
theorem cpy_s (f g : Nat → Int32) (i : Nat) : upd (cpy f g i) i (f i) = cpy f g (i + 1) := by
  funext j
  rw [upd_app]
  by_cases h : j = i
  · subst h; rw [if_pos rfl, cpy_in (by omega)]
  · rw [if_neg h]
    by_cases h2 : j < i
    · rw [cpy_in h2, cpy_in (by omega)]
    · rw [cpy_out (by omega), cpy_out (by omega)]
theorem cpy_0 (f g : Nat → Int32) : cpy f g 0 = g := by funext j; rw [cpy_out (by omega)]
def il_X10_copy : List (Nat × Instr × Nat) := [(0, .iconst 0, 1), (1, .istore_n 2, 1), (2, .iload_n 2, 1), (3, .bipush 80, 2), (5, .if_icmp .ge 15, 3), (8, .aload_n 1, 1), (9, .iload_n 2, 1), (10, .aload_n 0, 1), (11, .iload_n 2, 1), (12, .iaload, 1), (13, .iastore, 1), (14, .iinc 2 1, 3), (17, .goto (-15), 3), (20, .return_, 1)]
def mt_X10_copy : Mt := (cX10_copy, RX10, 3, none, ({ frames := 0, cells := 0, slots := 0, locals := 0 } : Room), false, none, none)
set_option maxRecDepth 100000 in
theorem dl_X10_copy : ∀ q ∈ il_X10_copy, decode (mt_X10_copy).1 q.1 = .ok q.2 := by decide +kernel
def tb_X10_copy : Tb := [(0, x_c 1 (.int 0), false),
  (1, x_is 2 2, false),
  (2, x_il 3 2, true),
  (3, x_c 5 (.int 80), false),
  (5, x_ic 20 8 (fun x y : Int32 => y ≤ x), false),
  (8, x_al 9 1, false),
  (9, x_il 10 2, false),
  (10, x_al 11 0, false),
  (11, x_il 12 2, false),
  (12, x_ia 13, false),
  (13, x_ias 14, false),
  (14, x_inc 17 2 1, false),
  (17, x_go 2, false),
  (20, x_r0, false)]
set_option maxRecDepth 100000 in
theorem tk_X10_copy : TbOk (mt_X10_copy) (tb_X10_copy) :=
  tkc (s_iconst (at_ dl_X10_copy 0 (ins := .iconst 0) rfl) (by first | rfl | decide)) (
  tkc (s_istore_n (at_ dl_X10_copy 1 (ins := .istore_n 2) rfl) (by decide)) (
  tkc (s_iload_n (at_ dl_X10_copy 2 (ins := .iload_n 2) rfl)) (
  tkc (s_bipush (at_ dl_X10_copy 3 (ins := .bipush 80) rfl) (by first | rfl | decide)) (
  tkc (s_ic_ge (at_ dl_X10_copy 4 (ins := .if_icmp .ge 15) rfl) (by decide)) (
  tkc (s_aload_n (at_ dl_X10_copy 5 (ins := .aload_n 1) rfl)) (
  tkc (s_iload_n (at_ dl_X10_copy 6 (ins := .iload_n 2) rfl)) (
  tkc (s_aload_n (at_ dl_X10_copy 7 (ins := .aload_n 0) rfl)) (
  tkc (s_iload_n (at_ dl_X10_copy 8 (ins := .iload_n 2) rfl)) (
  tkc (s_ia (at_ dl_X10_copy 9 (ins := .iaload) rfl)) (
  tkc (s_ias (at_ dl_X10_copy 10 (ins := .iastore) rfl)) (
  tkc (s_iinc (at_ dl_X10_copy 11 (ins := .iinc 2 1) rfl) (by decide) (by first | rfl | decide)) (
  tkc (s_goto (at_ dl_X10_copy 12 (ins := .goto (-15)) rfl) (by decide)) (
  tkc (s_r0 (at_ dl_X10_copy 13 (ins := .return_) rfl) rfl) ( tk0))))))))))))))
theorem lf_X10_copy : lk (tb_X10_copy) 0 = (x_c 1 (.int 0), false) ∧ lk (tb_X10_copy) 1 = (x_is 2 2, false) ∧ lk (tb_X10_copy) 2 = (x_il 3 2, true) ∧ lk (tb_X10_copy) 3 = (x_c 5 (.int 80), false) ∧ lk (tb_X10_copy) 5 = (x_ic 20 8 (fun x y : Int32 => y ≤ x), false) ∧ lk (tb_X10_copy) 8 = (x_al 9 1, false) ∧ lk (tb_X10_copy) 9 = (x_il 10 2, false) ∧ lk (tb_X10_copy) 10 = (x_al 11 0, false) ∧ lk (tb_X10_copy) 11 = (x_il 12 2, false) ∧ lk (tb_X10_copy) 12 = (x_ia 13, false) ∧ lk (tb_X10_copy) 13 = (x_ias 14, false) ∧ lk (tb_X10_copy) 14 = (x_inc 17 2 1, false) ∧ lk (tb_X10_copy) 17 = (x_go 2, false) ∧ lk (tb_X10_copy) 20 = (x_r0, false) := ⟨rfl, rfl, rfl, rfl, rfl, rfl, rfl, rfl, rfl, rfl, rfl, rfl, rfl, rfl⟩
def P_X10_copy : PTT := fun as M R => match as with
  | [.ref a, .ref b] => a = 110 ∧ b = 111 ∧ IsMo M.1 ∧ R none (M.1, mS M.2.1 111 (cpy (M.2.1 110) (M.2.1 111) 80), M.2.2)
  | _ => False
set_option maxRecDepth 20000 in
theorem ok_X10_copy : Ok yX10_copy mt_X10_copy P_X10_copy := by
  refine Ok.of (by decide) rfl rfl rfl rfl fun av ⟨S, I, L⟩ R hP => ?_
  unfold P_X10_copy at hP
  split at hP
  case h_2 => exact hP.elim
  rename_i a b
  obtain ⟨a, rfl⟩ : ∃ q : Nat, q = a := ⟨a, rfl⟩
  obtain ⟨b, rfl⟩ : ∃ q : Nat, q = b := ⟨b, rfl⟩
  refine ⟨by simp [ent, wide, mt_X10_copy], ?_⟩
  show J mt_X10_copy R 0 [some (.ref a), some (.ref b), none] [] (S, I, L)
  try dsimp only at hP
  obtain ⟨rfl, rfl, hm, hR⟩ := hP
  have key := up (P := fun i => J mt_X10_copy R 2 [some (.ref 110), some (.ref 111), some (.int (nI i))] [] (S, mS I 111 (cpy (I 110) (I 111) i), L)) (n := 80) (fun i hi ih => ?_) 0 (Nat.zero_le _)
  · rw [cpy_0, mS_id] at key
    refine J.of tk_X10_copy 200 fun ρ hρ => ?_
    simp only [hρ, x_c, x_il, x_ll, x_al, x_is, x_as, x_ls, x_inc, x_ii, x_iq, x_i1, x_l2, x_lq, x_lh, x_i2l, x_l2i, x_lcmp, x_dup, x_dup2, x_pop, x_if, x_ifn, x_ic, x_icn, x_go, x_sw, swc, x_l01, x_mx, x_gI, x_gL, x_gR, x_pI, x_pZ, x_pL, x_pR, x_ia, x_za, x_aa, x_ias, x_zas, x_aas, x_fac, x_fa, x_slen, x_sa, x_ac, x_oi, x_new, x_na, x_cS, x_cV, x_cI, x_rI, x_rZ, x_rL, x_r0, pa, short, oc, lg, lset, lset2, wide, cond_true, cond_false, true_and, and_true, ↓reduceIte, Bool.false_eq_true, true_or, or_true, lf_X10_copy]
    exact key
  have e110 : mS I 111 (cpy (I 110) (I 111) i) 110 = I 110 := mS_n (by omega)
  refine J.of tk_X10_copy 200 fun ρ hρ => ?_
  simp only [hρ, x_c, x_il, x_ll, x_al, x_is, x_as, x_ls, x_inc, x_ii, x_iq, x_i1, x_l2, x_lq, x_lh, x_i2l, x_l2i, x_lcmp, x_dup, x_dup2, x_pop, x_if, x_ifn, x_ic, x_icn, x_go, x_sw, swc, x_l01, x_mx, x_gI, x_gL, x_gR, x_pI, x_pZ, x_pL, x_pR, x_ia, x_za, x_aa, x_ias, x_zas, x_aas, x_fac, x_fa, x_slen, x_sa, x_ac, x_oi, x_new, x_na, x_cS, x_cV, x_cI, x_rI, x_rZ, x_rL, x_r0, pa, short, oc, lg, lset, lset2, wide, cond_true, cond_false, true_and, and_true, ↓reduceIte, Bool.false_eq_true, true_or, or_true, lf_X10_copy, hm.f, show (80 : Int32) = nI 80 by decide, nI_leI (show 80 < 2 ^ 31 by omega) (show i < 2 ^ 31 by omega), ncl (show i < 2 ^ 31 by omega), nI_1, e110, mS_s, mS_ss, cpy_s]
  have hv : i < 80 → vp_in (nI i) 80 := fun h => vp_in_nI (by omega) (by omega)
  refine ⟨fun h => ?_, fun h => ⟨hv (by omega), hv (by omega), ih (by omega)⟩⟩
  have : i = 80 := by omega
  subst this
  exact hR
