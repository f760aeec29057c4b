/-! WAYS, at 18, of the state at 5 -/
def IsWa (S : Sh) : Prop := tO S 18 8 ∧ sR S 18 0 = 5
theorem IsWa.f {S : Sh} (h : IsWa S) : tO S 18 8 ∧ sR S 18 0 = 5 := h
/-- what is in x, not in y -/
def df (x y : Nat) : Nat := x ^^^ (x &&& y)
theorem df_bit (x y i : Nat) : (df x y).testBit i = (x.testBit i && !y.testBit i) := by
  simp only [df, Nat.testBit_xor, Nat.testBit_and]
  cases x.testBit i <;> cases y.testBit i <;> rfl
theorem nI_df (x y : Nat) : nI x &&& (nI y ^^^ -1) = nI (df x y) := by
  unfold df
  rw [← nI_xor, ← nI_and]
  generalize nI x = a
  generalize nI y = b
  apply Int32.toBitVec_inj.mp
  rw [Int32.toBitVec_and, Int32.toBitVec_xor, Int32.toBitVec_xor, Int32.toBitVec_and, show (-1 : Int32).toBitVec = BitVec.allOnes 32 by decide]
  apply BitVec.eq_of_getLsbD_eq
  intro i hi
  simp only [BitVec.getLsbD_and, BitVec.getLsbD_xor, BitVec.getLsbD_allOnes, hi, decide_true]
  cases a.toBitVec.getLsbD i <;> cases b.toBitVec.getLsbD i <;> rfl
theorem df_lt {x y N : Nat} (h : x < 2 ^ N) : df x y < 2 ^ N := Nat.xor_lt_two_pow h (Nat.lt_of_le_of_lt Nat.and_le_left h)
/-- the bits under some checks, the checks over some bits -/
def uS (ov : Nat → Nat) (s : Nat) : Nat → Nat
  | 0 => 0
  | c + 1 => if s.testBit c = true then uS ov s c ||| ov c else uS ov s c
theorem uS_lt {ov : Nat → Nat} {s N : Nat} : ∀ {m : Nat}, (∀ c, c < m → ov c < 2 ^ N) → uS ov s m < 2 ^ N
  | 0, _ => Nat.pow_pos (by omega)
  | m + 1, h => by
    simp only [uS]
    split
    · exact Nat.or_lt_two_pow (uS_lt (fun c hc => h c (by omega))) (h m (by omega))
    · exact uS_lt (fun c hc => h c (by omega))
def oS (ov : Nat → Nat) (t m : Nat) : Nat := bs (fun c => decide (ov c &&& t ≠ 0)) m
def il_X8_bitsUnder : List (Nat × Instr × Nat) := [(0, .iconst 0, 1), (1, .istore_n 2, 1), (2, .iconst 0, 1), (3, .istore_n 3, 1), (4, .iload_n 3, 1), (5, .aload_n 0, 1), (6, .getfield 9, 3), (9, .getfield 15, 3), (12, .if_icmp .ge 29, 3), (15, .iload_n 1, 1), (16, .iload_n 3, 1), (17, .ishr, 1), (18, .iconst 1, 1), (19, .iand, 1), (20, .ifCond .eq 15, 3), (23, .iload_n 2, 1), (24, .aload_n 0, 1), (25, .getfield 9, 3), (28, .getfield 45, 3), (31, .iload_n 3, 1), (32, .iaload, 1), (33, .ior, 1), (34, .istore_n 2, 1), (35, .iinc 3 1, 3), (38, .goto (-34), 3), (41, .iload_n 2, 1), (42, .ireturn, 1)]
def mt_X8_bitsUnder : Mt := (cX8_bitsUnder, RX8, 4, (some .int), ({ frames := 0, cells := 0, slots := 0, locals := 0 } : Room), false, none, none)
set_option maxRecDepth 100000 in
theorem dl_X8_bitsUnder : ∀ q ∈ il_X8_bitsUnder, decode (mt_X8_bitsUnder).1 q.1 = .ok q.2 := by decide +kernel
def tb_X8_bitsUnder : Tb := [(0, x_c 1 (.int 0), false),
  (1, x_is 2 2, false),
  (2, x_c 3 (.int 0), false),
  (3, x_is 4 3, false),
  (4, x_il 5 3, true),
  (5, x_al 6 0, false),
  (6, x_gR 8 0 9, false),
  (9, x_gI 5 5 12, false),
  (12, x_ic 41 15 (fun x y : Int32 => y ≤ x), false),
  (15, x_il 16 1, false),
  (16, x_il 17 3, false),
  (17, x_ii 18 (fun x y : Int32 => x >>> (y &&& 31)), false),
  (18, x_c 19 (.int 1), false),
  (19, x_ii 20 (fun x y : Int32 => x &&& y), false),
  (20, x_if 35 23 (fun x : Int32 => x = 0), false),
  (23, x_il 24 2, false),
  (24, x_al 25 0, false),
  (25, x_gR 8 0 28, false),
  (28, x_gR 5 0 31, false),
  (31, x_il 32 3, false),
  (32, x_ia 33, false),
  (33, x_ii 34 (fun x y : Int32 => x ||| y), false),
  (34, x_is 35 2, false),
  (35, x_inc 38 3 1, false),
  (38, x_go 4, false),
  (41, x_il 42 2, false),
  (42, x_rI, false)]
set_option maxRecDepth 100000 in
theorem tk_X8_bitsUnder : TbOk (mt_X8_bitsUnder) (tb_X8_bitsUnder) :=
  tkc (s_iconst (at_ dl_X8_bitsUnder 0 (ins := .iconst 0) rfl) (by first | rfl | decide)) (
  tkc (s_istore_n (at_ dl_X8_bitsUnder 1 (ins := .istore_n 2) rfl) (by decide)) (
  tkc (s_iconst (at_ dl_X8_bitsUnder 2 (ins := .iconst 0) rfl) (by first | rfl | decide)) (
  tkc (s_istore_n (at_ dl_X8_bitsUnder 3 (ins := .istore_n 3) rfl) (by decide)) (
  tkc (s_iload_n (at_ dl_X8_bitsUnder 4 (ins := .iload_n 3) rfl)) (
  tkc (s_aload_n (at_ dl_X8_bitsUnder 5 (ins := .aload_n 0) rfl)) (
  tkc (s_gR (at_ dl_X8_bitsUnder 6 (ins := .getfield 9) rfl) (by decide) (by decide) (by decide) (tg 200 (by decide +kernel) (by decide +kernel))) (
  tkc (s_gI (at_ dl_X8_bitsUnder 7 (ins := .getfield 15) rfl) (by decide) (by decide) (by decide) (tg 140 (by decide +kernel) (by decide +kernel))) (
  tkc (s_ic_ge (at_ dl_X8_bitsUnder 8 (ins := .if_icmp .ge 29) rfl) (by decide)) (
  tkc (s_iload_n (at_ dl_X8_bitsUnder 9 (ins := .iload_n 1) rfl)) (
  tkc (s_iload_n (at_ dl_X8_bitsUnder 10 (ins := .iload_n 3) rfl)) (
  tkc (s_ishr (at_ dl_X8_bitsUnder 11 (ins := .ishr) rfl)) (
  tkc (s_iconst (at_ dl_X8_bitsUnder 12 (ins := .iconst 1) rfl) (by first | rfl | decide)) (
  tkc (s_iand (at_ dl_X8_bitsUnder 13 (ins := .iand) rfl)) (
  tkc (s_if_eq (at_ dl_X8_bitsUnder 14 (ins := .ifCond .eq 15) rfl) (by decide)) (
  tkc (s_iload_n (at_ dl_X8_bitsUnder 15 (ins := .iload_n 2) rfl)) (
  tkc (s_aload_n (at_ dl_X8_bitsUnder 16 (ins := .aload_n 0) rfl)) (
  tkc (s_gR (at_ dl_X8_bitsUnder 17 (ins := .getfield 9) rfl) (by decide) (by decide) (by decide) (tg 200 (by decide +kernel) (by decide +kernel))) (
  tkc (s_gR (at_ dl_X8_bitsUnder 18 (ins := .getfield 45) rfl) (by decide) (by decide) (by decide) (tg 123 (by decide +kernel) (by decide +kernel))) (
  tkc (s_iload_n (at_ dl_X8_bitsUnder 19 (ins := .iload_n 3) rfl)) (
  tkc (s_ia (at_ dl_X8_bitsUnder 20 (ins := .iaload) rfl)) (
  tkc (s_ior (at_ dl_X8_bitsUnder 21 (ins := .ior) rfl)) (
  tkc (s_istore_n (at_ dl_X8_bitsUnder 22 (ins := .istore_n 2) rfl) (by decide)) (
  tkc (s_iinc (at_ dl_X8_bitsUnder 23 (ins := .iinc 3 1) rfl) (by decide) (by first | rfl | decide)) (
  tkc (s_goto (at_ dl_X8_bitsUnder 24 (ins := .goto (-34)) rfl) (by decide)) (
  tkc (s_iload_n (at_ dl_X8_bitsUnder 25 (ins := .iload_n 2) rfl)) (
  tkc (s_rI (at_ dl_X8_bitsUnder 26 (ins := .ireturn) rfl) rfl) ( tk0)))))))))))))))))))))))))))
theorem lf_X8_bitsUnder : lk (tb_X8_bitsUnder) 0 = (x_c 1 (.int 0), false) ∧ lk (tb_X8_bitsUnder) 1 = (x_is 2 2, false) ∧ lk (tb_X8_bitsUnder) 2 = (x_c 3 (.int 0), false) ∧ lk (tb_X8_bitsUnder) 3 = (x_is 4 3, false) ∧ lk (tb_X8_bitsUnder) 4 = (x_il 5 3, true) ∧ lk (tb_X8_bitsUnder) 5 = (x_al 6 0, false) ∧ lk (tb_X8_bitsUnder) 6 = (x_gR 8 0 9, false) ∧ lk (tb_X8_bitsUnder) 9 = (x_gI 5 5 12, false) ∧ lk (tb_X8_bitsUnder) 12 = (x_ic 41 15 (fun x y : Int32 => y ≤ x), false) ∧ lk (tb_X8_bitsUnder) 15 = (x_il 16 1, false) ∧ lk (tb_X8_bitsUnder) 16 = (x_il 17 3, false) ∧ lk (tb_X8_bitsUnder) 17 = (x_ii 18 (fun x y : Int32 => x >>> (y &&& 31)), false) ∧ lk (tb_X8_bitsUnder) 18 = (x_c 19 (.int 1), false) ∧ lk (tb_X8_bitsUnder) 19 = (x_ii 20 (fun x y : Int32 => x &&& y), false) ∧ lk (tb_X8_bitsUnder) 20 = (x_if 35 23 (fun x : Int32 => x = 0), false) ∧ lk (tb_X8_bitsUnder) 23 = (x_il 24 2, false) ∧ lk (tb_X8_bitsUnder) 24 = (x_al 25 0, false) ∧ lk (tb_X8_bitsUnder) 25 = (x_gR 8 0 28, false) ∧ lk (tb_X8_bitsUnder) 28 = (x_gR 5 0 31, false) ∧ lk (tb_X8_bitsUnder) 31 = (x_il 32 3, false) ∧ lk (tb_X8_bitsUnder) 32 = (x_ia 33, false) ∧ lk (tb_X8_bitsUnder) 33 = (x_ii 34 (fun x y : Int32 => x ||| y), false) ∧ lk (tb_X8_bitsUnder) 34 = (x_is 35 2, false) ∧ lk (tb_X8_bitsUnder) 35 = (x_inc 38 3 1, false) ∧ lk (tb_X8_bitsUnder) 38 = (x_go 4, false) ∧ lk (tb_X8_bitsUnder) 41 = (x_il 42 2, false) ∧ lk (tb_X8_bitsUnder) 42 = (x_rI, false) := ⟨rfl, rfl, rfl, rfl, rfl, rfl, rfl, rfl, rfl, rfl, rfl, rfl, rfl, rfl, rfl, rfl, rfl, rfl, rfl, rfl, rfl, rfl, rfl, rfl, rfl, rfl, rfl⟩
def P_X8_bitsUnder : PTT := fun as M R => match as with
  | [.ref k, .int s] => k = 18 ∧ IsWa M.1 ∧ IsSt M.1 5 ∧ tn s < 512 ∧ ∃ a, SR M.2.1 5 a ∧ AOk a ∧ R (some (.int (nI (uS (aV a) (tn s) (aM a))))) M
  | _ => False
set_option maxRecDepth 20000 in
theorem ok_X8_bitsUnder : Ok yX8_bitsUnder mt_X8_bitsUnder P_X8_bitsUnder := by
  refine Ok.of (by decide) rfl rfl rfl rfl fun av ⟨S, I, L⟩ R hP => ?_
  unfold P_X8_bitsUnder at hP
  split at hP
  case h_2 => exact hP.elim
  rename_i k s
  obtain ⟨k, rfl⟩ : ∃ q : Nat, q = k := ⟨k, rfl⟩
  refine ⟨by simp [ent, wide, mt_X8_bitsUnder], ?_⟩
  show J mt_X8_bitsUnder R 0 [some (.ref k), some (.int s), none, none] [] (S, I, L)
  try dsimp only at hP
  obtain ⟨rfl, hk, h5, hs, a, hsr, ha, hR⟩ := hP
  obtain ⟨y, hy, rfl⟩ := tn_ex hs
  rw [tn_nI (n := y) (by omega)] at hR
  have h9 := ha.1
  have em : I 5 5 = nI (aM a) := hsr.2.1
  have key := up (P := fun c => J mt_X8_bitsUnder R 4 [some (.ref 18), some (.int (nI y)), some (.int (nI (uS (aV a) y c))), some (.int (nI c))] [] (S, I, L)) (n := aM a) (fun c hc ih => ?_) 0 (Nat.zero_le _)
  · refine J.of tk_X8_bitsUnder 200 fun ρ hρ => ?_
    simp only [hρ, x_c, x_il, x_ll, x_al, x_is, x_as, x_ls, x_inc, x_ii, x_iq, x_i1, x_l2, x_lq, x_lh, x_i2l, x_l2i, x_lcmp, x_dup, x_dup2, x_pop, x_if, x_ifn, x_ic, x_icn, x_go, x_sw, swc, x_l01, x_mx, x_gI, x_gL, x_gR, x_pI, x_pZ, x_pL, x_pR, x_ia, x_za, x_aa, x_ias, x_zas, x_aas, x_fac, x_fa, x_slen, x_sa, x_ac, x_oi, x_new, x_na, x_cS, x_cV, x_cI, x_rI, x_rZ, x_rL, x_r0, pa, short, oc, lg, lset, lset2, wide, cond_true, cond_false, true_and, and_true, ↓reduceIte, Bool.false_eq_true, true_or, or_true, lf_X8_bitsUnder]
    exact key
  by_cases hlt : c < aM a
  · have ov : I 6 c = nI (aV a c) := hsr.2.2.2.2.1 c hlt
    refine J.of tk_X8_bitsUnder 200 fun ρ hρ => ?_
    simp only [hρ, x_c, x_il, x_ll, x_al, x_is, x_as, x_ls, x_inc, x_ii, x_iq, x_i1, x_l2, x_lq, x_lh, x_i2l, x_l2i, x_lcmp, x_dup, x_dup2, x_pop, x_if, x_ifn, x_ic, x_icn, x_go, x_sw, swc, x_l01, x_mx, x_gI, x_gL, x_gR, x_pI, x_pZ, x_pL, x_pR, x_ia, x_za, x_aa, x_ias, x_zas, x_aas, x_fac, x_fa, x_slen, x_sa, x_ac, x_oi, x_new, x_na, x_cS, x_cV, x_cI, x_rI, x_rZ, x_rL, x_r0, pa, short, oc, lg, lset, lset2, wide, cond_true, cond_false, true_and, and_true, ↓reduceIte, Bool.false_eq_true, true_or, or_true, lf_X8_bitsUnder, hk, hk.f, h5, h5.f, em, ov, Nat.reduceAdd, nI_leI (show aM a < 2 ^ 31 by omega) (show c < 2 ^ 31 by omega), ncl (show c < 2 ^ 31 by omega), nI_1, nI_or, bit_c (show y < 2 ^ 31 by omega) (show c < 31 by omega), Classical.not_not]
    have := ih hlt
    refine ⟨fun h => absurd h (by omega), fun _ => ⟨fun h => ?_, fun h => ⟨vp_in_nI (by omega) (by omega), ?_⟩⟩⟩
    · rwa [uS, if_neg h] at this
    · rwa [uS, if_pos h] at this
  · have : c = aM a := by omega
    subst this
    refine J.of tk_X8_bitsUnder 200 fun ρ hρ => ?_
    simp only [hρ, x_c, x_il, x_ll, x_al, x_is, x_as, x_ls, x_inc, x_ii, x_iq, x_i1, x_l2, x_lq, x_lh, x_i2l, x_l2i, x_lcmp, x_dup, x_dup2, x_pop, x_if, x_ifn, x_ic, x_icn, x_go, x_sw, swc, x_l01, x_mx, x_gI, x_gL, x_gR, x_pI, x_pZ, x_pL, x_pR, x_ia, x_za, x_aa, x_ias, x_zas, x_aas, x_fac, x_fa, x_slen, x_sa, x_ac, x_oi, x_new, x_na, x_cS, x_cV, x_cI, x_rI, x_rZ, x_rL, x_r0, pa, short, oc, lg, lset, lset2, wide, cond_true, cond_false, true_and, and_true, ↓reduceIte, Bool.false_eq_true, true_or, or_true, lf_X8_bitsUnder, hk, hk.f, h5, h5.f, em, nI_leI (show aM a < 2 ^ 31 by omega) (show aM a < 2 ^ 31 by omega), Nat.le_refl, true_implies, not_true_eq_false, false_implies]
    exact hR
def il_X8_checksOverAny : List (Nat × Instr × Nat) := [(0, .iconst 0, 1), (1, .istore_n 2, 1), (2, .iconst 0, 1), (3, .istore_n 3, 1), (4, .iload_n 3, 1), (5, .aload_n 0, 1), (6, .getfield 9, 3), (9, .getfield 15, 3), (12, .if_icmp .ge 29, 3), (15, .aload_n 0, 1), (16, .getfield 9, 3), (19, .getfield 45, 3), (22, .iload_n 3, 1), (23, .iaload, 1), (24, .iload_n 1, 1), (25, .iand, 1), (26, .ifCond .eq 9, 3), (29, .iload_n 2, 1), (30, .iconst 1, 1), (31, .iload_n 3, 1), (32, .ishl, 1), (33, .ior, 1), (34, .istore_n 2, 1), (35, .iinc 3 1, 3), (38, .goto (-34), 3), (41, .iload_n 2, 1), (42, .ireturn, 1)]
def mt_X8_checksOverAny : Mt := (cX8_checksOverAny, RX8, 4, (some .int), ({ frames := 0, cells := 0, slots := 0, locals := 0 } : Room), false, none, none)
set_option maxRecDepth 100000 in
theorem dl_X8_checksOverAny : ∀ q ∈ il_X8_checksOverAny, decode (mt_X8_checksOverAny).1 q.1 = .ok q.2 := by decide +kernel
def tb_X8_checksOverAny : Tb := [(0, x_c 1 (.int 0), false),
  (1, x_is 2 2, false),
  (2, x_c 3 (.int 0), false),
  (3, x_is 4 3, false),
  (4, x_il 5 3, true),
  (5, x_al 6 0, false),
  (6, x_gR 8 0 9, false),
  (9, x_gI 5 5 12, false),
  (12, x_ic 41 15 (fun x y : Int32 => y ≤ x), false),
  (15, x_al 16 0, false),
  (16, x_gR 8 0 19, false),
  (19, x_gR 5 0 22, false),
  (22, x_il 23 3, false),
  (23, x_ia 24, false),
  (24, x_il 25 1, false),
  (25, x_ii 26 (fun x y : Int32 => x &&& y), false),
  (26, x_if 35 29 (fun x : Int32 => x = 0), false),
  (29, x_il 30 2, false),
  (30, x_c 31 (.int 1), false),
  (31, x_il 32 3, false),
  (32, x_ii 33 (fun x y : Int32 => x <<< (y &&& 31)), false),
  (33, x_ii 34 (fun x y : Int32 => x ||| y), false),
  (34, x_is 35 2, false),
  (35, x_inc 38 3 1, false),
  (38, x_go 4, false),
  (41, x_il 42 2, false),
  (42, x_rI, false)]
set_option maxRecDepth 100000 in
theorem tk_X8_checksOverAny : TbOk (mt_X8_checksOverAny) (tb_X8_checksOverAny) :=
  tkc (s_iconst (at_ dl_X8_checksOverAny 0 (ins := .iconst 0) rfl) (by first | rfl | decide)) (
  tkc (s_istore_n (at_ dl_X8_checksOverAny 1 (ins := .istore_n 2) rfl) (by decide)) (
  tkc (s_iconst (at_ dl_X8_checksOverAny 2 (ins := .iconst 0) rfl) (by first | rfl | decide)) (
  tkc (s_istore_n (at_ dl_X8_checksOverAny 3 (ins := .istore_n 3) rfl) (by decide)) (
  tkc (s_iload_n (at_ dl_X8_checksOverAny 4 (ins := .iload_n 3) rfl)) (
  tkc (s_aload_n (at_ dl_X8_checksOverAny 5 (ins := .aload_n 0) rfl)) (
  tkc (s_gR (at_ dl_X8_checksOverAny 6 (ins := .getfield 9) rfl) (by decide) (by decide) (by decide) (tg 200 (by decide +kernel) (by decide +kernel))) (
  tkc (s_gI (at_ dl_X8_checksOverAny 7 (ins := .getfield 15) rfl) (by decide) (by decide) (by decide) (tg 140 (by decide +kernel) (by decide +kernel))) (
  tkc (s_ic_ge (at_ dl_X8_checksOverAny 8 (ins := .if_icmp .ge 29) rfl) (by decide)) (
  tkc (s_aload_n (at_ dl_X8_checksOverAny 9 (ins := .aload_n 0) rfl)) (
  tkc (s_gR (at_ dl_X8_checksOverAny 10 (ins := .getfield 9) rfl) (by decide) (by decide) (by decide) (tg 200 (by decide +kernel) (by decide +kernel))) (
  tkc (s_gR (at_ dl_X8_checksOverAny 11 (ins := .getfield 45) rfl) (by decide) (by decide) (by decide) (tg 123 (by decide +kernel) (by decide +kernel))) (
  tkc (s_iload_n (at_ dl_X8_checksOverAny 12 (ins := .iload_n 3) rfl)) (
  tkc (s_ia (at_ dl_X8_checksOverAny 13 (ins := .iaload) rfl)) (
  tkc (s_iload_n (at_ dl_X8_checksOverAny 14 (ins := .iload_n 1) rfl)) (
  tkc (s_iand (at_ dl_X8_checksOverAny 15 (ins := .iand) rfl)) (
  tkc (s_if_eq (at_ dl_X8_checksOverAny 16 (ins := .ifCond .eq 9) rfl) (by decide)) (
  tkc (s_iload_n (at_ dl_X8_checksOverAny 17 (ins := .iload_n 2) rfl)) (
  tkc (s_iconst (at_ dl_X8_checksOverAny 18 (ins := .iconst 1) rfl) (by first | rfl | decide)) (
  tkc (s_iload_n (at_ dl_X8_checksOverAny 19 (ins := .iload_n 3) rfl)) (
  tkc (s_ishl (at_ dl_X8_checksOverAny 20 (ins := .ishl) rfl)) (
  tkc (s_ior (at_ dl_X8_checksOverAny 21 (ins := .ior) rfl)) (
  tkc (s_istore_n (at_ dl_X8_checksOverAny 22 (ins := .istore_n 2) rfl) (by decide)) (
  tkc (s_iinc (at_ dl_X8_checksOverAny 23 (ins := .iinc 3 1) rfl) (by decide) (by first | rfl | decide)) (
  tkc (s_goto (at_ dl_X8_checksOverAny 24 (ins := .goto (-34)) rfl) (by decide)) (
  tkc (s_iload_n (at_ dl_X8_checksOverAny 25 (ins := .iload_n 2) rfl)) (
  tkc (s_rI (at_ dl_X8_checksOverAny 26 (ins := .ireturn) rfl) rfl) ( tk0)))))))))))))))))))))))))))
theorem lf_X8_checksOverAny : lk (tb_X8_checksOverAny) 0 = (x_c 1 (.int 0), false) ∧ lk (tb_X8_checksOverAny) 1 = (x_is 2 2, false) ∧ lk (tb_X8_checksOverAny) 2 = (x_c 3 (.int 0), false) ∧ lk (tb_X8_checksOverAny) 3 = (x_is 4 3, false) ∧ lk (tb_X8_checksOverAny) 4 = (x_il 5 3, true) ∧ lk (tb_X8_checksOverAny) 5 = (x_al 6 0, false) ∧ lk (tb_X8_checksOverAny) 6 = (x_gR 8 0 9, false) ∧ lk (tb_X8_checksOverAny) 9 = (x_gI 5 5 12, false) ∧ lk (tb_X8_checksOverAny) 12 = (x_ic 41 15 (fun x y : Int32 => y ≤ x), false) ∧ lk (tb_X8_checksOverAny) 15 = (x_al 16 0, false) ∧ lk (tb_X8_checksOverAny) 16 = (x_gR 8 0 19, false) ∧ lk (tb_X8_checksOverAny) 19 = (x_gR 5 0 22, false) ∧ lk (tb_X8_checksOverAny) 22 = (x_il 23 3, false) ∧ lk (tb_X8_checksOverAny) 23 = (x_ia 24, false) ∧ lk (tb_X8_checksOverAny) 24 = (x_il 25 1, false) ∧ lk (tb_X8_checksOverAny) 25 = (x_ii 26 (fun x y : Int32 => x &&& y), false) ∧ lk (tb_X8_checksOverAny) 26 = (x_if 35 29 (fun x : Int32 => x = 0), false) ∧ lk (tb_X8_checksOverAny) 29 = (x_il 30 2, false) ∧ lk (tb_X8_checksOverAny) 30 = (x_c 31 (.int 1), false) ∧ lk (tb_X8_checksOverAny) 31 = (x_il 32 3, false) ∧ lk (tb_X8_checksOverAny) 32 = (x_ii 33 (fun x y : Int32 => x <<< (y &&& 31)), false) ∧ lk (tb_X8_checksOverAny) 33 = (x_ii 34 (fun x y : Int32 => x ||| y), false) ∧ lk (tb_X8_checksOverAny) 34 = (x_is 35 2, false) ∧ lk (tb_X8_checksOverAny) 35 = (x_inc 38 3 1, false) ∧ lk (tb_X8_checksOverAny) 38 = (x_go 4, false) ∧ lk (tb_X8_checksOverAny) 41 = (x_il 42 2, false) ∧ lk (tb_X8_checksOverAny) 42 = (x_rI, false) := ⟨rfl, rfl, rfl, rfl, rfl, rfl, rfl, rfl, rfl, rfl, rfl, rfl, rfl, rfl, rfl, rfl, rfl, rfl, rfl, rfl, rfl, rfl, rfl, rfl, rfl, rfl, rfl⟩
def P_X8_checksOverAny : PTT := fun as M R => match as with
  | [.ref k, .int s] => k = 18 ∧ IsWa M.1 ∧ IsSt M.1 5 ∧ tn s < 512 ∧ ∃ a, SR M.2.1 5 a ∧ AOk a ∧ R (some (.int (nI (oS (aV a) (tn s) (aM a))))) M
  | _ => False
set_option maxRecDepth 20000 in
theorem ok_X8_checksOverAny : Ok yX8_checksOverAny mt_X8_checksOverAny P_X8_checksOverAny := by
  refine Ok.of (by decide) rfl rfl rfl rfl fun av ⟨S, I, L⟩ R hP => ?_
  unfold P_X8_checksOverAny at hP
  split at hP
  case h_2 => exact hP.elim
  rename_i k s
  obtain ⟨k, rfl⟩ : ∃ q : Nat, q = k := ⟨k, rfl⟩
  refine ⟨by simp [ent, wide, mt_X8_checksOverAny], ?_⟩
  show J mt_X8_checksOverAny R 0 [some (.ref k), some (.int s), none, none] [] (S, I, L)
  try dsimp only at hP
  obtain ⟨rfl, hk, h5, hs, a, hsr, ha, hR⟩ := hP
  obtain ⟨y, hy, rfl⟩ := tn_ex hs
  rw [tn_nI (n := y) (by omega)] at hR
  have h9 := ha.1
  have em : I 5 5 = nI (aM a) := hsr.2.1
  have key := up (P := fun c => J mt_X8_checksOverAny R 4 [some (.ref 18), some (.int (nI y)), some (.int (nI (oS (aV a) y c))), some (.int (nI c))] [] (S, I, L)) (n := aM a) (fun c hc ih => ?_) 0 (Nat.zero_le _)
  · refine J.of tk_X8_checksOverAny 200 fun ρ hρ => ?_
    simp only [hρ, x_c, x_il, x_ll, x_al, x_is, x_as, x_ls, x_inc, x_ii, x_iq, x_i1, x_l2, x_lq, x_lh, x_i2l, x_l2i, x_lcmp, x_dup, x_dup2, x_pop, x_if, x_ifn, x_ic, x_icn, x_go, x_sw, swc, x_l01, x_mx, x_gI, x_gL, x_gR, x_pI, x_pZ, x_pL, x_pR, x_ia, x_za, x_aa, x_ias, x_zas, x_aas, x_fac, x_fa, x_slen, x_sa, x_ac, x_oi, x_new, x_na, x_cS, x_cV, x_cI, x_rI, x_rZ, x_rL, x_r0, pa, short, oc, lg, lset, lset2, wide, cond_true, cond_false, true_and, and_true, ↓reduceIte, Bool.false_eq_true, true_or, or_true, lf_X8_checksOverAny]
    exact key
  by_cases hlt : c < aM a
  · have ov : I 6 c = nI (aV a c) := hsr.2.2.2.2.1 c hlt
    have hv := ha.v hlt
    have hva : aV a c &&& y < 512 := and512 hv
    refine J.of tk_X8_checksOverAny 200 fun ρ hρ => ?_
    simp only [hρ, x_c, x_il, x_ll, x_al, x_is, x_as, x_ls, x_inc, x_ii, x_iq, x_i1, x_l2, x_lq, x_lh, x_i2l, x_l2i, x_lcmp, x_dup, x_dup2, x_pop, x_if, x_ifn, x_ic, x_icn, x_go, x_sw, swc, x_l01, x_mx, x_gI, x_gL, x_gR, x_pI, x_pZ, x_pL, x_pR, x_ia, x_za, x_aa, x_ias, x_zas, x_aas, x_fac, x_fa, x_slen, x_sa, x_ac, x_oi, x_new, x_na, x_cS, x_cV, x_cI, x_rI, x_rZ, x_rL, x_r0, pa, short, oc, lg, lset, lset2, wide, cond_true, cond_false, true_and, and_true, ↓reduceIte, Bool.false_eq_true, true_or, or_true, lf_X8_checksOverAny, hk, hk.f, h5, h5.f, em, ov, Nat.reduceAdd, nI_leI (show aM a < 2 ^ 31 by omega) (show c < 2 ^ 31 by omega), ncl (show c < 2 ^ 31 by omega), nI_1, nI_and, nI_z (show aV a c &&& y < 2 ^ 31 by omega), Classical.not_not]
    have := ih hlt
    refine ⟨fun h => absurd h (by omega), fun _ => ⟨vp_in_nI (by omega) (by omega), fun h => ?_, fun h => ?_⟩⟩
    · rwa [oS, ← bs_f (by simpa using h)] at this
    · rwa [oS, ← bs_t (by omega) (by simpa using h)] at this
  · have : c = aM a := by omega
    subst this
    refine J.of tk_X8_checksOverAny 200 fun ρ hρ => ?_
    simp only [hρ, x_c, x_il, x_ll, x_al, x_is, x_as, x_ls, x_inc, x_ii, x_iq, x_i1, x_l2, x_lq, x_lh, x_i2l, x_l2i, x_lcmp, x_dup, x_dup2, x_pop, x_if, x_ifn, x_ic, x_icn, x_go, x_sw, swc, x_l01, x_mx, x_gI, x_gL, x_gR, x_pI, x_pZ, x_pL, x_pR, x_ia, x_za, x_aa, x_ias, x_zas, x_aas, x_fac, x_fa, x_slen, x_sa, x_ac, x_oi, x_new, x_na, x_cS, x_cV, x_cI, x_rI, x_rZ, x_rL, x_r0, pa, short, oc, lg, lset, lset2, wide, cond_true, cond_false, true_and, and_true, ↓reduceIte, Bool.false_eq_true, true_or, or_true, lf_X8_checksOverAny, hk, hk.f, h5, h5.f, em, nI_leI (show aM a < 2 ^ 31 by omega) (show aM a < 2 ^ 31 by omega), Nat.le_refl, true_implies, not_true_eq_false, false_implies]
    exact hR
