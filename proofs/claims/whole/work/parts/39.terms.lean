/-! FRACTIONS in least terms -/
theorem eu_half {x y : Nat} (h0 : 0 < y) (h : y ≤ x) : 2 * (x % y) ≤ x := by
  have h1 := Nat.mod_lt x h0
  have h2 := Nat.div_add_mod x y
  have h3 : 1 ≤ x / y := Nat.div_pos h h0
  have h4 : y * 1 ≤ y * (x / y) := Nat.mul_le_mul_left y h3
  omega
theorem eu_prod {x y k : Nat} (h0 : 0 < y) (h : y ≤ x) (hp : x * y < 2 ^ (k + 1)) : y * (x % y) < 2 ^ k := by
  have h1 := Nat.mul_le_mul_left y (eu_half h0 h)
  rw [Nat.pow_succ] at hp
  have e1 : y * (2 * (x % y)) = 2 * (y * (x % y)) := by rw [Nat.mul_left_comm]
  have e2 : y * x = x * y := Nat.mul_comm y x
  omega
theorem eu_gcd (x y : Nat) : Nat.gcd y (x % y) = Nat.gcd x y := by rw [Nat.gcd_comm x y, Nat.gcd_rec y x, Nat.gcd_comm]
theorem lN_z {n : Nat} (h : n < 2 ^ 63) : lN n = 0 ↔ n = 0 := by rw [show (0 : Int64) = lN 0 by decide]; exact pk_lEQ h (by omega)
def il_X9_commonDivisor : List (Nat × Instr × Nat) := [(0, .lload_n 0, 1), (1, .lstore 4, 2), (3, .lload_n 2, 1), (4, .lstore 6, 2), (6, .iconst 0, 1), (7, .istore 8, 2), (9, .iload 8, 2), (11, .bipush 100, 2), (13, .if_icmp .ge 31, 3), (16, .lload 6, 2), (18, .lconst 0, 1), (19, .lcmp, 1), (20, .ifCond .eq 24, 3), (23, .lload 4, 2), (25, .lload 6, 2), (27, .lrem, 1), (28, .lstore 9, 2), (30, .lload 6, 2), (32, .lstore 4, 2), (34, .lload 9, 2), (36, .lstore 6, 2), (38, .iinc 8 1, 3), (41, .goto (-32), 3), (44, .lload 4, 2), (46, .lreturn, 1)]
def mt_X9_commonDivisor : Mt := (cX9_commonDivisor, RX9, 11, (some .long), ({ frames := 0, cells := 0, slots := 0, locals := 0 } : Room), false, none, none)
set_option maxRecDepth 100000 in
theorem dl_X9_commonDivisor : ∀ q ∈ il_X9_commonDivisor, decode (mt_X9_commonDivisor).1 q.1 = .ok q.2 := by decide +kernel
def tb_X9_commonDivisor : Tb := [(0, x_ll 1 0, false),
  (1, x_ls 3 4, false),
  (3, x_ll 4 2, false),
  (4, x_ls 6 6, false),
  (6, x_c 7 (.int 0), false),
  (7, x_is 9 8, false),
  (9, x_il 11 8, true),
  (11, x_c 13 (.int 100), false),
  (13, x_ic 44 16 (fun x y : Int32 => y ≤ x), false),
  (16, x_ll 18 6, false),
  (18, x_c 19 (.long 0), false),
  (19, x_lcmp 20, false),
  (20, x_if 44 23 (fun x : Int32 => x = 0), false),
  (23, x_ll 25 4, false),
  (25, x_ll 27 6, false),
  (27, x_lq 28 (fun x y : Int64 => x - x / y * y), false),
  (28, x_ls 30 9, false),
  (30, x_ll 32 6, false),
  (32, x_ls 34 4, false),
  (34, x_ll 36 9, false),
  (36, x_ls 38 6, false),
  (38, x_inc 41 8 1, false),
  (41, x_go 9, false),
  (44, x_ll 46 4, false),
  (46, x_rL, false)]
set_option maxRecDepth 100000 in
theorem tk_X9_commonDivisor : TbOk (mt_X9_commonDivisor) (tb_X9_commonDivisor) :=
  tkc (s_lload_n (at_ dl_X9_commonDivisor 0 (ins := .lload_n 0) rfl)) (
  tkc (s_lstore (at_ dl_X9_commonDivisor 1 (ins := .lstore 4) rfl) (by decide)) (
  tkc (s_lload_n (at_ dl_X9_commonDivisor 2 (ins := .lload_n 2) rfl)) (
  tkc (s_lstore (at_ dl_X9_commonDivisor 3 (ins := .lstore 6) rfl) (by decide)) (
  tkc (s_iconst (at_ dl_X9_commonDivisor 4 (ins := .iconst 0) rfl) (by first | rfl | decide)) (
  tkc (s_istore (at_ dl_X9_commonDivisor 5 (ins := .istore 8) rfl) (by decide)) (
  tkc (s_iload (at_ dl_X9_commonDivisor 6 (ins := .iload 8) rfl)) (
  tkc (s_bipush (at_ dl_X9_commonDivisor 7 (ins := .bipush 100) rfl) (by first | rfl | decide)) (
  tkc (s_ic_ge (at_ dl_X9_commonDivisor 8 (ins := .if_icmp .ge 31) rfl) (by decide)) (
  tkc (s_lload (at_ dl_X9_commonDivisor 9 (ins := .lload 6) rfl)) (
  tkc (s_lconst (at_ dl_X9_commonDivisor 10 (ins := .lconst 0) rfl) (by first | rfl | decide)) (
  tkc (s_lcmp (at_ dl_X9_commonDivisor 11 (ins := .lcmp) rfl)) (
  tkc (s_if_eq (at_ dl_X9_commonDivisor 12 (ins := .ifCond .eq 24) rfl) (by decide)) (
  tkc (s_lload (at_ dl_X9_commonDivisor 13 (ins := .lload 4) rfl)) (
  tkc (s_lload (at_ dl_X9_commonDivisor 14 (ins := .lload 6) rfl)) (
  tkc (s_lrem (at_ dl_X9_commonDivisor 15 (ins := .lrem) rfl)) (
  tkc (s_lstore (at_ dl_X9_commonDivisor 16 (ins := .lstore 9) rfl) (by decide)) (
  tkc (s_lload (at_ dl_X9_commonDivisor 17 (ins := .lload 6) rfl)) (
  tkc (s_lstore (at_ dl_X9_commonDivisor 18 (ins := .lstore 4) rfl) (by decide)) (
  tkc (s_lload (at_ dl_X9_commonDivisor 19 (ins := .lload 9) rfl)) (
  tkc (s_lstore (at_ dl_X9_commonDivisor 20 (ins := .lstore 6) rfl) (by decide)) (
  tkc (s_iinc (at_ dl_X9_commonDivisor 21 (ins := .iinc 8 1) rfl) (by decide) (by first | rfl | decide)) (
  tkc (s_goto (at_ dl_X9_commonDivisor 22 (ins := .goto (-32)) rfl) (by decide)) (
  tkc (s_lload (at_ dl_X9_commonDivisor 23 (ins := .lload 4) rfl)) (
  tkc (s_rL (at_ dl_X9_commonDivisor 24 (ins := .lreturn) rfl) rfl) ( tk0)))))))))))))))))))))))))
theorem lf_X9_commonDivisor : lk (tb_X9_commonDivisor) 0 = (x_ll 1 0, false) ∧ lk (tb_X9_commonDivisor) 1 = (x_ls 3 4, false) ∧ lk (tb_X9_commonDivisor) 3 = (x_ll 4 2, false) ∧ lk (tb_X9_commonDivisor) 4 = (x_ls 6 6, false) ∧ lk (tb_X9_commonDivisor) 6 = (x_c 7 (.int 0), false) ∧ lk (tb_X9_commonDivisor) 7 = (x_is 9 8, false) ∧ lk (tb_X9_commonDivisor) 9 = (x_il 11 8, true) ∧ lk (tb_X9_commonDivisor) 11 = (x_c 13 (.int 100), false) ∧ lk (tb_X9_commonDivisor) 13 = (x_ic 44 16 (fun x y : Int32 => y ≤ x), false) ∧ lk (tb_X9_commonDivisor) 16 = (x_ll 18 6, false) ∧ lk (tb_X9_commonDivisor) 18 = (x_c 19 (.long 0), false) ∧ lk (tb_X9_commonDivisor) 19 = (x_lcmp 20, false) ∧ lk (tb_X9_commonDivisor) 20 = (x_if 44 23 (fun x : Int32 => x = 0), false) ∧ lk (tb_X9_commonDivisor) 23 = (x_ll 25 4, false) ∧ lk (tb_X9_commonDivisor) 25 = (x_ll 27 6, false) ∧ lk (tb_X9_commonDivisor) 27 = (x_lq 28 (fun x y : Int64 => x - x / y * y), false) ∧ lk (tb_X9_commonDivisor) 28 = (x_ls 30 9, false) ∧ lk (tb_X9_commonDivisor) 30 = (x_ll 32 6, false) ∧ lk (tb_X9_commonDivisor) 32 = (x_ls 34 4, false) ∧ lk (tb_X9_commonDivisor) 34 = (x_ll 36 9, false) ∧ lk (tb_X9_commonDivisor) 36 = (x_ls 38 6, false) ∧ lk (tb_X9_commonDivisor) 38 = (x_inc 41 8 1, false) ∧ lk (tb_X9_commonDivisor) 41 = (x_go 9, false) ∧ lk (tb_X9_commonDivisor) 44 = (x_ll 46 4, false) ∧ lk (tb_X9_commonDivisor) 46 = (x_rL, false) := ⟨rfl, rfl, rfl, rfl, rfl, rfl, rfl, rfl, rfl, rfl, rfl, rfl, rfl, rfl, rfl, rfl, rfl, rfl, rfl, rfl, rfl, rfl, rfl, rfl, rfl⟩
def P_X9_commonDivisor : PTT := fun as M R => match as with
  | [.long a, .long b] => ∃ x y, a = lN x ∧ b = lN y ∧ x < 2 ^ 31 ∧ y < 2 ^ 31 ∧ R (some (.long (lN (Nat.gcd x y)))) M
  | _ => False
theorem h100I : (100 : Int32) = nI 100 := by decide
set_option maxRecDepth 20000 in
theorem ok_X9_commonDivisor : Ok yX9_commonDivisor mt_X9_commonDivisor P_X9_commonDivisor := by
  refine Ok.of (by decide) rfl rfl rfl rfl fun av ⟨S, I, L⟩ R hP => ?_
  unfold P_X9_commonDivisor at hP
  split at hP
  case h_2 => exact hP.elim
  rename_i a b
  refine ⟨by simp [ent, wide, mt_X9_commonDivisor], ?_⟩
  show J mt_X9_commonDivisor R 0 [some (.long a), none, some (.long b), none, none, none, none, none, none, none, none] [] (S, I, L)
  try dsimp only at hP
  obtain ⟨x0, y0, rfl, rfl, hx0, hy0, hR⟩ := hP
  have step : ∀ s x y, s < 100 → x < 2 ^ 31 → 0 < y → y < 2 ^ 31 → J mt_X9_commonDivisor R 9 [some (.long (lN x0)), none, some (.long (lN y0)), none, some (.long (lN y)), none, some (.long (lN (x % y))), none, some (.int (nI (s + 1))), none, none] [] (S, I, L) → J mt_X9_commonDivisor R 9 [some (.long (lN x0)), none, some (.long (lN y0)), none, some (.long (lN x)), none, some (.long (lN y)), none, some (.int (nI s)), none, none] [] (S, I, L) := by
    intro s x y hs hx h0 hy hJ
    have hz : ¬ lN y = 0 := fun q => by rw [lN_z (by omega)] at q; omega
    have er : lN x - lN x / lN y * lN y = lN (x % y) := pk_lRem (by omega) h0 (by omega)
    refine J.of tk_X9_commonDivisor 200 fun ρ hρ => ?_
    simp only [hρ, x_c, x_il, x_ll, x_al, x_is, x_as, x_ls, x_inc, x_ii, x_iq, x_i1, x_l2, x_lq, x_lh, x_i2l, x_l2i, x_lcmp, x_dup, x_dup2, x_pop, x_if, x_ifn, x_ic, x_icn, x_go, x_sw, swc, x_l01, x_mx, x_gI, x_gL, x_gR, x_pI, x_pZ, x_pL, x_pR, x_ia, x_za, x_aa, x_ias, x_zas, x_aas, x_fac, x_fa, x_slen, x_sa, x_ac, x_oi, x_new, x_na, x_cS, x_cV, x_cI, x_rI, x_rZ, x_rL, x_r0, pa, short, oc, lg, lset, lset2, wide, cond_true, cond_false, true_and, and_true, ↓reduceIte, Bool.false_eq_true, true_or, or_true, lf_X9_commonDivisor, h100I, nI_leI (show 100 < 2 ^ 31 by omega) (show s < 2 ^ 31 by omega), lg_cmp_eq, hz, er, nI_1, not_false_eq_true, true_implies, false_implies]
    exact ⟨fun h => absurd h (by omega), fun _ => J.weak (by simp [lsub]) hJ⟩
  have key : ∀ k s x y, y ≤ x → x * y < 2 ^ k → s + k ≤ 100 → x < 2 ^ 31 → Nat.gcd x y = Nat.gcd x0 y0 → J mt_X9_commonDivisor R 9 [some (.long (lN x0)), none, some (.long (lN y0)), none, some (.long (lN x)), none, some (.long (lN y)), none, some (.int (nI s)), none, none] [] (S, I, L) := by
    intro k
    induction k with
    | zero =>
      intro s x y hyx hp hs hx hg
      have hy0 : y = 0 := by
        rcases Nat.eq_zero_or_pos y with h | h
        · exact h
        · have : 1 * 1 ≤ x * y := Nat.mul_le_mul (by omega) h
          omega
      subst hy0
      rw [Nat.gcd_zero_right] at hg
      have hz : lN 0 = 0 := by decide
      refine J.of tk_X9_commonDivisor 200 fun ρ hρ => ?_
      simp only [hρ, x_c, x_il, x_ll, x_al, x_is, x_as, x_ls, x_inc, x_ii, x_iq, x_i1, x_l2, x_lq, x_lh, x_i2l, x_l2i, x_lcmp, x_dup, x_dup2, x_pop, x_if, x_ifn, x_ic, x_icn, x_go, x_sw, swc, x_l01, x_mx, x_gI, x_gL, x_gR, x_pI, x_pZ, x_pL, x_pR, x_ia, x_za, x_aa, x_ias, x_zas, x_aas, x_fac, x_fa, x_slen, x_sa, x_ac, x_oi, x_new, x_na, x_cS, x_cV, x_cI, x_rI, x_rZ, x_rL, x_r0, pa, short, oc, lg, lset, lset2, wide, cond_true, cond_false, true_and, and_true, ↓reduceIte, Bool.false_eq_true, true_or, or_true, lf_X9_commonDivisor, h100I, nI_leI (show 100 < 2 ^ 31 by omega) (show s < 2 ^ 31 by omega), lg_cmp_eq, hz, true_implies, false_implies, not_true_eq_false]
      rw [hg]
      exact ⟨fun _ => hR, fun _ => hR⟩
    | succ k ih =>
      intro s x y hyx hp hs hx hg
      rcases Nat.eq_zero_or_pos y with h | h
      · subst h
        rw [Nat.gcd_zero_right] at hg
        have hz : lN 0 = 0 := by decide
        refine J.of tk_X9_commonDivisor 200 fun ρ hρ => ?_
        simp only [hρ, x_c, x_il, x_ll, x_al, x_is, x_as, x_ls, x_inc, x_ii, x_iq, x_i1, x_l2, x_lq, x_lh, x_i2l, x_l2i, x_lcmp, x_dup, x_dup2, x_pop, x_if, x_ifn, x_ic, x_icn, x_go, x_sw, swc, x_l01, x_mx, x_gI, x_gL, x_gR, x_pI, x_pZ, x_pL, x_pR, x_ia, x_za, x_aa, x_ias, x_zas, x_aas, x_fac, x_fa, x_slen, x_sa, x_ac, x_oi, x_new, x_na, x_cS, x_cV, x_cI, x_rI, x_rZ, x_rL, x_r0, pa, short, oc, lg, lset, lset2, wide, cond_true, cond_false, true_and, and_true, ↓reduceIte, Bool.false_eq_true, true_or, or_true, lf_X9_commonDivisor, h100I, nI_leI (show 100 < 2 ^ 31 by omega) (show s < 2 ^ 31 by omega), lg_cmp_eq, hz, true_implies, false_implies, not_true_eq_false]
        rw [hg]
        exact ⟨fun _ => hR, fun _ => hR⟩
      · refine step s x y (by omega) hx h (by omega) ?_
        have hm := Nat.mod_lt x h
        exact ih (s + 1) y (x % y) (by omega) (eu_prod h hyx hp) (by omega) (by omega) (by rw [eu_gcd]; exact hg)
  refine J.of tk_X9_commonDivisor 200 fun ρ hρ => ?_
  simp only [hρ, x_c, x_il, x_ll, x_al, x_is, x_as, x_ls, x_inc, x_ii, x_iq, x_i1, x_l2, x_lq, x_lh, x_i2l, x_l2i, x_lcmp, x_dup, x_dup2, x_pop, x_if, x_ifn, x_ic, x_icn, x_go, x_sw, swc, x_l01, x_mx, x_gI, x_gL, x_gR, x_pI, x_pZ, x_pL, x_pR, x_ia, x_za, x_aa, x_ias, x_zas, x_aas, x_fac, x_fa, x_slen, x_sa, x_ac, x_oi, x_new, x_na, x_cS, x_cV, x_cI, x_rI, x_rZ, x_rL, x_r0, pa, short, oc, lg, lset, lset2, wide, cond_true, cond_false, true_and, and_true, ↓reduceIte, Bool.false_eq_true, true_or, or_true, lf_X9_commonDivisor]
  have hp : ∀ a b : Nat, a < 2 ^ 31 → b < 2 ^ 31 → a * b < 2 ^ 62 := fun a b ha hb => by
    have := Nat.mul_lt_mul'' ha hb
    omega
  by_cases hxy : y0 ≤ x0
  · exact key 62 0 x0 y0 hxy (hp _ _ hx0 hy0) (by omega) hx0 rfl
  · refine step 0 x0 y0 (by omega) hx0 (by omega) hy0 ?_
    have hm := Nat.mod_lt x0 (show 0 < y0 by omega)
    exact key 62 1 y0 (x0 % y0) (by omega) (hp _ _ hy0 (by omega)) (by omega) hy0 (eu_gcd x0 y0)
/-- the upper part, or the lower -/
def ltA (x y : Nat) (u : Int32) : Int32 := nI ((if u = 0 then y else x) / Nat.gcd x y)
def il_X9_inLeastTerms : List (Nat × Instr × Nat) := [(0, .lload_n 0, 1), (1, .lload_n 2, 1), (2, .invokestatic 260, 3), (5, .lstore 5, 2), (7, .lload 5, 2), (9, .lconst 0, 1), (10, .lcmp, 1), (11, .ifCond .ne 5, 3), (14, .iconst 0, 1), (15, .ireturn, 1), (16, .iload 4, 2), (18, .ifCond .eq 7, 3), (21, .lload_n 0, 1), (22, .goto 4, 3), (25, .lload_n 2, 1), (26, .lload 5, 2), (28, .ldiv, 1), (29, .l2i, 1), (30, .ireturn, 1)]
def mt_X9_inLeastTerms : Mt := (cX9_inLeastTerms, RX9, 7, (some .int), ({ frames := 1, cells := 0, slots := 0, locals := 30 } : Room), false, none, none)
set_option maxRecDepth 100000 in
theorem dl_X9_inLeastTerms : ∀ q ∈ il_X9_inLeastTerms, decode (mt_X9_inLeastTerms).1 q.1 = .ok q.2 := by decide +kernel
def tb_X9_inLeastTerms : Tb := [(0, x_ll 1 0, false),
  (1, x_ll 2 2, false),
  (2, x_cS 2 P_X9_commonDivisor 5, false),
  (5, x_ls 7 5, false),
  (7, x_ll 9 5, false),
  (9, x_c 10 (.long 0), false),
  (10, x_lcmp 11, false),
  (11, x_ifn 16 14 (fun x : Int32 => x = 0), false),
  (14, x_c 15 (.int 0), false),
  (15, x_rI, false),
  (16, x_il 18 4, false),
  (18, x_if 25 21 (fun x : Int32 => x = 0), false),
  (21, x_ll 22 0, false),
  (22, x_go 26, false),
  (25, x_ll 26 2, false),
  (26, x_ll 28 5, false),
  (28, x_lq 29 (fun x y : Int64 => x / y), false),
  (29, x_l2i 30, false),
  (30, x_rI, false)]
set_option maxRecDepth 100000 in
theorem tk_X9_inLeastTerms : TbOk (mt_X9_inLeastTerms) (tb_X9_inLeastTerms) :=
  tkc (s_lload_n (at_ dl_X9_inLeastTerms 0 (ins := .lload_n 0) rfl)) (
  tkc (s_lload_n (at_ dl_X9_inLeastTerms 1 (ins := .lload_n 2) rfl)) (
  tkc (s_cS ok_X9_commonDivisor (at_ dl_X9_inLeastTerms 2 (ins := .invokestatic 260) rfl) (tg 654 (by decide +kernel) (by decide +kernel)) (tg 655 (by decide +kernel) (by decide +kernel)) (tg 42 (by decide +kernel) (by decide +kernel)) (tg 656 (by decide +kernel) (by decide +kernel)) (⟨by decide, by decide, by decide +kernel⟩) (⟨by decide, by decide⟩) rfl rfl) (
  tkc (s_lstore (at_ dl_X9_inLeastTerms 3 (ins := .lstore 5) rfl) (by decide)) (
  tkc (s_lload (at_ dl_X9_inLeastTerms 4 (ins := .lload 5) rfl)) (
  tkc (s_lconst (at_ dl_X9_inLeastTerms 5 (ins := .lconst 0) rfl) (by first | rfl | decide)) (
  tkc (s_lcmp (at_ dl_X9_inLeastTerms 6 (ins := .lcmp) rfl)) (
  tkc (s_if_ne (at_ dl_X9_inLeastTerms 7 (ins := .ifCond .ne 5) rfl) (by decide)) (
  tkc (s_iconst (at_ dl_X9_inLeastTerms 8 (ins := .iconst 0) rfl) (by first | rfl | decide)) (
  tkc (s_rI (at_ dl_X9_inLeastTerms 9 (ins := .ireturn) rfl) rfl) (
  tkc (s_iload (at_ dl_X9_inLeastTerms 10 (ins := .iload 4) rfl)) (
  tkc (s_if_eq (at_ dl_X9_inLeastTerms 11 (ins := .ifCond .eq 7) rfl) (by decide)) (
  tkc (s_lload_n (at_ dl_X9_inLeastTerms 12 (ins := .lload_n 0) rfl)) (
  tkc (s_goto (at_ dl_X9_inLeastTerms 13 (ins := .goto 4) rfl) (by decide)) (
  tkc (s_lload_n (at_ dl_X9_inLeastTerms 14 (ins := .lload_n 2) rfl)) (
  tkc (s_lload (at_ dl_X9_inLeastTerms 15 (ins := .lload 5) rfl)) (
  tkc (s_ldiv (at_ dl_X9_inLeastTerms 16 (ins := .ldiv) rfl)) (
  tkc (s_l2i (at_ dl_X9_inLeastTerms 17 (ins := .l2i) rfl)) (
  tkc (s_rI (at_ dl_X9_inLeastTerms 18 (ins := .ireturn) rfl) rfl) ( tk0)))))))))))))))))))
theorem lf_X9_inLeastTerms : lk (tb_X9_inLeastTerms) 0 = (x_ll 1 0, false) ∧ lk (tb_X9_inLeastTerms) 1 = (x_ll 2 2, false) ∧ lk (tb_X9_inLeastTerms) 2 = (x_cS 2 P_X9_commonDivisor 5, false) ∧ lk (tb_X9_inLeastTerms) 5 = (x_ls 7 5, false) ∧ lk (tb_X9_inLeastTerms) 7 = (x_ll 9 5, false) ∧ lk (tb_X9_inLeastTerms) 9 = (x_c 10 (.long 0), false) ∧ lk (tb_X9_inLeastTerms) 10 = (x_lcmp 11, false) ∧ lk (tb_X9_inLeastTerms) 11 = (x_ifn 16 14 (fun x : Int32 => x = 0), false) ∧ lk (tb_X9_inLeastTerms) 14 = (x_c 15 (.int 0), false) ∧ lk (tb_X9_inLeastTerms) 15 = (x_rI, false) ∧ lk (tb_X9_inLeastTerms) 16 = (x_il 18 4, false) ∧ lk (tb_X9_inLeastTerms) 18 = (x_if 25 21 (fun x : Int32 => x = 0), false) ∧ lk (tb_X9_inLeastTerms) 21 = (x_ll 22 0, false) ∧ lk (tb_X9_inLeastTerms) 22 = (x_go 26, false) ∧ lk (tb_X9_inLeastTerms) 25 = (x_ll 26 2, false) ∧ lk (tb_X9_inLeastTerms) 26 = (x_ll 28 5, false) ∧ lk (tb_X9_inLeastTerms) 28 = (x_lq 29 (fun x y : Int64 => x / y), false) ∧ lk (tb_X9_inLeastTerms) 29 = (x_l2i 30, false) ∧ lk (tb_X9_inLeastTerms) 30 = (x_rI, false) := ⟨rfl, rfl, rfl, rfl, rfl, rfl, rfl, rfl, rfl, rfl, rfl, rfl, rfl, rfl, rfl, rfl, rfl, rfl, rfl⟩
def P_X9_inLeastTerms : PTT := fun as M R => match as with
  | [.long a, .long b, .int u] => ∃ x y, a = lN x ∧ b = lN y ∧ x < 2 ^ 31 ∧ 0 < y ∧ y < 2 ^ 31 ∧ R (some (.int (ltA x y u))) M
  | _ => False
set_option maxRecDepth 20000 in
theorem ok_X9_inLeastTerms : Ok yX9_inLeastTerms mt_X9_inLeastTerms P_X9_inLeastTerms := by
  refine Ok.of (by decide) rfl rfl rfl rfl fun av ⟨S, I, L⟩ R hP => ?_
  unfold P_X9_inLeastTerms at hP
  split at hP
  case h_2 => exact hP.elim
  rename_i a b u
  refine ⟨by simp [ent, wide, mt_X9_inLeastTerms], ?_⟩
  show J mt_X9_inLeastTerms R 0 [some (.long a), none, some (.long b), none, some (.int u), none, none] [] (S, I, L)
  try dsimp only at hP
  obtain ⟨x, y, rfl, rfl, hx, h0, hy, hR⟩ := hP
  have hg0 : 0 < Nat.gcd x y := Nat.gcd_pos_of_pos_right x h0
  have hgy : Nat.gcd x y ≤ y := Nat.gcd_le_right x h0
  have hz : ¬ lN (Nat.gcd x y) = 0 := fun q => by rw [lN_z (by omega)] at q; omega
  have e1 : lN x / lN (Nat.gcd x y) = lN (x / Nat.gcd x y) := pk_lDiv (by omega) hg0 (by omega)
  have e2 : lN y / lN (Nat.gcd x y) = lN (y / Nat.gcd x y) := pk_lDiv (by omega) hg0 (by omega)
  refine J.of tk_X9_inLeastTerms 200 fun ρ hρ => ?_
  simp only [hρ, x_c, x_il, x_ll, x_al, x_is, x_as, x_ls, x_inc, x_ii, x_iq, x_i1, x_l2, x_lq, x_lh, x_i2l, x_l2i, x_lcmp, x_dup, x_dup2, x_pop, x_if, x_ifn, x_ic, x_icn, x_go, x_sw, swc, x_l01, x_mx, x_gI, x_gL, x_gR, x_pI, x_pZ, x_pL, x_pR, x_ia, x_za, x_aa, x_ias, x_zas, x_aas, x_fac, x_fa, x_slen, x_sa, x_ac, x_oi, x_new, x_na, x_cS, x_cV, x_cI, x_rI, x_rZ, x_rL, x_r0, pa, short, oc, lg, lset, lset2, wide, cond_true, cond_false, true_and, and_true, ↓reduceIte, Bool.false_eq_true, true_or, or_true, lf_X9_inLeastTerms, P_X9_commonDivisor, lg_cmp_eq]
  refine ⟨x, y, rfl, rfl, hx, hy, ?_⟩
  simp only [hz, e1, e2, lN_i, not_false_eq_true, true_implies, false_implies, true_and, and_true]
  refine ⟨fun h => ?_, fun h => ?_⟩
  · rw [ltA, if_pos h] at hR; exact hR
  · rw [ltA, if_neg h] at hR; exact hR
def il_X9_power : List (Nat × Instr × Nat) := [(0, .lconst 1, 1), (1, .lstore_n 2, 1), (2, .iconst 0, 1), (3, .istore 4, 2), (5, .iload 4, 2), (7, .iload_n 1, 1), (8, .if_icmp .ge 14, 3), (11, .lload_n 2, 1), (12, .iload_n 0, 1), (13, .i2l, 1), (14, .lmul, 1), (15, .lstore_n 2, 1), (16, .iinc 4 1, 3), (19, .goto (-14), 3), (22, .lload_n 2, 1), (23, .lreturn, 1)]
def mt_X9_power : Mt := (cX9_power, RX9, 5, (some .long), ({ frames := 0, cells := 0, slots := 0, locals := 0 } : Room), false, none, none)
set_option maxRecDepth 100000 in
theorem dl_X9_power : ∀ q ∈ il_X9_power, decode (mt_X9_power).1 q.1 = .ok q.2 := by decide +kernel
def tb_X9_power : Tb := [(0, x_c 1 (.long 1), false),
  (1, x_ls 2 2, false),
  (2, x_c 3 (.int 0), false),
  (3, x_is 5 4, false),
  (5, x_il 7 4, true),
  (7, x_il 8 1, false),
  (8, x_ic 22 11 (fun x y : Int32 => y ≤ x), false),
  (11, x_ll 12 2, false),
  (12, x_il 13 0, false),
  (13, x_i2l 14, false),
  (14, x_l2 15 (fun x y : Int64 => x * y), false),
  (15, x_ls 16 2, false),
  (16, x_inc 19 4 1, false),
  (19, x_go 5, false),
  (22, x_ll 23 2, false),
  (23, x_rL, false)]
set_option maxRecDepth 100000 in
theorem tk_X9_power : TbOk (mt_X9_power) (tb_X9_power) :=
  tkc (s_lconst (at_ dl_X9_power 0 (ins := .lconst 1) rfl) (by first | rfl | decide)) (
  tkc (s_lstore_n (at_ dl_X9_power 1 (ins := .lstore_n 2) rfl) (by decide)) (
  tkc (s_iconst (at_ dl_X9_power 2 (ins := .iconst 0) rfl) (by first | rfl | decide)) (
  tkc (s_istore (at_ dl_X9_power 3 (ins := .istore 4) rfl) (by decide)) (
  tkc (s_iload (at_ dl_X9_power 4 (ins := .iload 4) rfl)) (
  tkc (s_iload_n (at_ dl_X9_power 5 (ins := .iload_n 1) rfl)) (
  tkc (s_ic_ge (at_ dl_X9_power 6 (ins := .if_icmp .ge 14) rfl) (by decide)) (
  tkc (s_lload_n (at_ dl_X9_power 7 (ins := .lload_n 2) rfl)) (
  tkc (s_iload_n (at_ dl_X9_power 8 (ins := .iload_n 0) rfl)) (
  tkc (s_i2l (at_ dl_X9_power 9 (ins := .i2l) rfl)) (
  tkc (s_lmul (at_ dl_X9_power 10 (ins := .lmul) rfl)) (
  tkc (s_lstore_n (at_ dl_X9_power 11 (ins := .lstore_n 2) rfl) (by decide)) (
  tkc (s_iinc (at_ dl_X9_power 12 (ins := .iinc 4 1) rfl) (by decide) (by first | rfl | decide)) (
  tkc (s_goto (at_ dl_X9_power 13 (ins := .goto (-14)) rfl) (by decide)) (
  tkc (s_lload_n (at_ dl_X9_power 14 (ins := .lload_n 2) rfl)) (
  tkc (s_rL (at_ dl_X9_power 15 (ins := .lreturn) rfl) rfl) ( tk0))))))))))))))))
theorem lf_X9_power : lk (tb_X9_power) 0 = (x_c 1 (.long 1), false) ∧ lk (tb_X9_power) 1 = (x_ls 2 2, false) ∧ lk (tb_X9_power) 2 = (x_c 3 (.int 0), false) ∧ lk (tb_X9_power) 3 = (x_is 5 4, false) ∧ lk (tb_X9_power) 5 = (x_il 7 4, true) ∧ lk (tb_X9_power) 7 = (x_il 8 1, false) ∧ lk (tb_X9_power) 8 = (x_ic 22 11 (fun x y : Int32 => y ≤ x), false) ∧ lk (tb_X9_power) 11 = (x_ll 12 2, false) ∧ lk (tb_X9_power) 12 = (x_il 13 0, false) ∧ lk (tb_X9_power) 13 = (x_i2l 14, false) ∧ lk (tb_X9_power) 14 = (x_l2 15 (fun x y : Int64 => x * y), false) ∧ lk (tb_X9_power) 15 = (x_ls 16 2, false) ∧ lk (tb_X9_power) 16 = (x_inc 19 4 1, false) ∧ lk (tb_X9_power) 19 = (x_go 5, false) ∧ lk (tb_X9_power) 22 = (x_ll 23 2, false) ∧ lk (tb_X9_power) 23 = (x_rL, false) := ⟨rfl, rfl, rfl, rfl, rfl, rfl, rfl, rfl, rfl, rfl, rfl, rfl, rfl, rfl, rfl, rfl⟩
def P_X9_power : PTT := fun as M R => match as with
  | [.int b, .int t] => ∃ x n, b = nI x ∧ t = nI n ∧ x ≤ 10 ∧ n ≤ 9 ∧ R (some (.long (lN (x ^ n)))) M
  | _ => False
set_option maxRecDepth 20000 in
theorem ok_X9_power : Ok yX9_power mt_X9_power P_X9_power := by
  refine Ok.of (by decide) rfl rfl rfl rfl fun av ⟨S, I, L⟩ R hP => ?_
  unfold P_X9_power at hP
  split at hP
  case h_2 => exact hP.elim
  rename_i b t
  refine ⟨by simp [ent, wide, mt_X9_power], ?_⟩
  show J mt_X9_power R 0 [some (.int b), some (.int t), none, none, none] [] (S, I, L)
  try dsimp only at hP
  obtain ⟨x, n, rfl, rfl, hx, hn, hR⟩ := hP
  have key := up (P := fun i => J mt_X9_power R 5 [some (.int (nI x)), some (.int (nI n)), some (.long (lN (x ^ i))), none, some (.int (nI i))] [] (S, I, L)) (n := n) (fun i hi ih => ?_) 0 (Nat.zero_le _)
  · refine J.of tk_X9_power 200 fun ρ hρ => ?_
    simp only [hρ, x_c, x_il, x_ll, x_al, x_is, x_as, x_ls, x_inc, x_ii, x_iq, x_i1, x_l2, x_lq, x_lh, x_i2l, x_l2i, x_lcmp, x_dup, x_dup2, x_pop, x_if, x_ifn, x_ic, x_icn, x_go, x_sw, swc, x_l01, x_mx, x_gI, x_gL, x_gR, x_pI, x_pZ, x_pL, x_pR, x_ia, x_za, x_aa, x_ias, x_zas, x_aas, x_fac, x_fa, x_slen, x_sa, x_ac, x_oi, x_new, x_na, x_cS, x_cV, x_cI, x_rI, x_rZ, x_rL, x_r0, pa, short, oc, lg, lset, lset2, wide, cond_true, cond_false, true_and, and_true, ↓reduceIte, Bool.false_eq_true, true_or, or_true, lf_X9_power]
    exact key
  refine J.of tk_X9_power 200 fun ρ hρ => ?_
  simp only [hρ, x_c, x_il, x_ll, x_al, x_is, x_as, x_ls, x_inc, x_ii, x_iq, x_i1, x_l2, x_lq, x_lh, x_i2l, x_l2i, x_lcmp, x_dup, x_dup2, x_pop, x_if, x_ifn, x_ic, x_icn, x_go, x_sw, swc, x_l01, x_mx, x_gI, x_gL, x_gR, x_pI, x_pZ, x_pL, x_pR, x_ia, x_za, x_aa, x_ias, x_zas, x_aas, x_fac, x_fa, x_slen, x_sa, x_ac, x_oi, x_new, x_na, x_cS, x_cV, x_cI, x_rI, x_rZ, x_rL, x_r0, pa, short, oc, lg, lset, lset2, wide, cond_true, cond_false, true_and, and_true, ↓reduceIte, Bool.false_eq_true, true_or, or_true, lf_X9_power, nI_leI (show n < 2 ^ 31 by omega) (show i < 2 ^ 31 by omega), nI_l (show x < 2 ^ 31 by omega), lN_mul, nI_1]
  refine ⟨fun h => ?_, fun h => ?_⟩
  · have : i = n := by omega
    subst this
    exact hR
  · rw [← Nat.pow_succ]
    exact ih (by omega)
/-- share -/
def gShare (g : GS) (c u : Int32) : Int32 := if ¬ hC g c then -1 else ltA (shS (gA g) (tn c) (2 ^ aM (gA g))) (facN (aM (gA g))) u
theorem shS_le (a : AS) (c : Nat) : ∀ s, shS a c s ≤ s * 518400
  | 0 => by simp [shS]
  | s + 1 => by
    have h0 := shS_le a c s
    have h1 := Nat.mul_le_mul (facN_le (ones9 s)) (facN_le (aM a - 1 - ones9 s))
    rw [show (720 : Nat) * 720 = 518400 from rfl] at h1
    simp only [shS]
    rw [Nat.succ_mul]
    refine Nat.add_le_add h0 ?_
    split
    · exact h1
    · exact Nat.zero_le _
theorem facN_pos : ∀ m, m < 7 → 0 < facN m := by decide
def il_X9_share : List (Nat × Instr × Nat) := [(0, .aload_n 0, 1), (1, .getfield 19, 3), (4, .iload_n 1, 1), (5, .invokevirtual 162, 3), (8, .ifCond .ne 5, 3), (11, .iconst (-1), 1), (12, .ireturn, 1), (13, .aload_n 0, 1), (14, .getfield 45, 3), (17, .iload_n 1, 1), (18, .invokevirtual 235, 3), (21, .i2l, 1), (22, .getstatic 238, 3), (25, .aload_n 0, 1), (26, .getfield 19, 3), (29, .getfield 98, 3), (32, .iaload, 1), (33, .i2l, 1), (34, .iload_n 2, 1), (35, .invokestatic 241, 3), (38, .ireturn, 1)]
def mt_X9_share : Mt := (cX9_share, RX9, 3, (some .int), ({ frames := 3, cells := 0, slots := 0, locals := 70 } : Room), false, none, none)
set_option maxRecDepth 100000 in
theorem dl_X9_share : ∀ q ∈ il_X9_share, decode (mt_X9_share).1 q.1 = .ok q.2 := by decide +kernel
def tb_X9_share : Tb := [(0, x_al 1 0, false),
  (1, x_gR 9 1 4, false),
  (4, x_il 5 1, false),
  (5, x_cV 5 1 P_X5_hasCheck 8, false),
  (8, x_ifn 13 11 (fun x : Int32 => x = 0), false),
  (11, x_c 12 (.int (-1)), false),
  (12, x_rI, false),
  (13, x_al 14 0, false),
  (14, x_gR 9 5 17, false),
  (17, x_il 18 1, false),
  (18, x_cV 6 1 P_X6_ordersInWhichRankGrows 21, false),
  (21, x_i2l 22, false),
  (22, x_fac 25, false),
  (25, x_al 26 0, false),
  (26, x_gR 9 1 29, false),
  (29, x_gI 5 5 32, false),
  (32, x_fa 33, false),
  (33, x_i2l 34, false),
  (34, x_il 35 2, false),
  (35, x_cS 3 P_X9_inLeastTerms 38, false),
  (38, x_rI, false)]
set_option maxRecDepth 100000 in
theorem tk_X9_share : TbOk (mt_X9_share) (tb_X9_share) :=
  tkc (s_aload_n (at_ dl_X9_share 0 (ins := .aload_n 0) rfl)) (
  tkc (s_gR (at_ dl_X9_share 1 (ins := .getfield 19) rfl) (by decide) (by decide) (by decide) (tg 255 (by decide +kernel) (by decide +kernel))) (
  tkc (s_iload_n (at_ dl_X9_share 2 (ins := .iload_n 1) rfl)) (
  tkc (s_cV ok_X5_hasCheck (at_ dl_X9_share 3 (ins := .invokevirtual 162) rfl) (by decide) rfl (tg 486 (by decide +kernel) (by decide +kernel)) (tg 392 (by decide +kernel) (by decide +kernel)) (tg 393 (by decide +kernel) (by decide +kernel)) (tg 45 (by decide +kernel) (by decide +kernel)) (tg 394 (by decide +kernel) (by decide +kernel)) (⟨by decide, by decide, by decide +kernel⟩) (⟨by decide, by decide⟩) rfl rfl) (
  tkc (s_if_ne (at_ dl_X9_share 4 (ins := .ifCond .ne 5) rfl) (by decide)) (
  tkc (s_iconst (at_ dl_X9_share 5 (ins := .iconst (-1)) rfl) (by first | rfl | decide)) (
  tkc (s_rI (at_ dl_X9_share 6 (ins := .ireturn) rfl) rfl) (
  tkc (s_aload_n (at_ dl_X9_share 7 (ins := .aload_n 0) rfl)) (
  tkc (s_gR (at_ dl_X9_share 8 (ins := .getfield 45) rfl) (by decide) (by decide) (by decide) (tg 259 (by decide +kernel) (by decide +kernel))) (
  tkc (s_iload_n (at_ dl_X9_share 9 (ins := .iload_n 1) rfl)) (
  tkc (s_cV ok_X6_ordersInWhichRankGrows (at_ dl_X9_share 10 (ins := .invokevirtual 235) rfl) (by decide) rfl (tg 644 (by decide +kernel) (by decide +kernel)) (tg 645 (by decide +kernel) (by decide +kernel)) (tg 646 (by decide +kernel) (by decide +kernel)) (tg 48 (by decide +kernel) (by decide +kernel)) (tg 647 (by decide +kernel) (by decide +kernel)) (⟨by decide, by decide, by decide +kernel⟩) (⟨by decide, by decide⟩) rfl rfl) (
  tkc (s_i2l (at_ dl_X9_share 11 (ins := .i2l) rfl)) (
  tkc (s_fac (at_ dl_X9_share 12 (ins := .getstatic 238) rfl) (tg 650 (by decide +kernel) (by decide +kernel))) (
  tkc (s_aload_n (at_ dl_X9_share 13 (ins := .aload_n 0) rfl)) (
  tkc (s_gR (at_ dl_X9_share 14 (ins := .getfield 19) rfl) (by decide) (by decide) (by decide) (tg 255 (by decide +kernel) (by decide +kernel))) (
  tkc (s_gI (at_ dl_X9_share 15 (ins := .getfield 98) rfl) (by decide) (by decide) (by decide) (tg 142 (by decide +kernel) (by decide +kernel))) (
  tkc (s_fa (at_ dl_X9_share 16 (ins := .iaload) rfl)) (
  tkc (s_i2l (at_ dl_X9_share 17 (ins := .i2l) rfl)) (
  tkc (s_iload_n (at_ dl_X9_share 18 (ins := .iload_n 2) rfl)) (
  tkc (s_cS ok_X9_inLeastTerms (at_ dl_X9_share 19 (ins := .invokestatic 241) rfl) (tg 651 (by decide +kernel) (by decide +kernel)) (tg 652 (by decide +kernel) (by decide +kernel)) (tg 42 (by decide +kernel) (by decide +kernel)) (tg 653 (by decide +kernel) (by decide +kernel)) (⟨by decide, by decide, by decide +kernel⟩) (⟨by decide, by decide⟩) rfl rfl) (
  tkc (s_rI (at_ dl_X9_share 20 (ins := .ireturn) rfl) rfl) ( tk0)))))))))))))))))))))
theorem lf_X9_share : lk (tb_X9_share) 0 = (x_al 1 0, false) ∧ lk (tb_X9_share) 1 = (x_gR 9 1 4, false) ∧ lk (tb_X9_share) 4 = (x_il 5 1, false) ∧ lk (tb_X9_share) 5 = (x_cV 5 1 P_X5_hasCheck 8, false) ∧ lk (tb_X9_share) 8 = (x_ifn 13 11 (fun x : Int32 => x = 0), false) ∧ lk (tb_X9_share) 11 = (x_c 12 (.int (-1)), false) ∧ lk (tb_X9_share) 12 = (x_rI, false) ∧ lk (tb_X9_share) 13 = (x_al 14 0, false) ∧ lk (tb_X9_share) 14 = (x_gR 9 5 17, false) ∧ lk (tb_X9_share) 17 = (x_il 18 1, false) ∧ lk (tb_X9_share) 18 = (x_cV 6 1 P_X6_ordersInWhichRankGrows 21, false) ∧ lk (tb_X9_share) 21 = (x_i2l 22, false) ∧ lk (tb_X9_share) 22 = (x_fac 25, false) ∧ lk (tb_X9_share) 25 = (x_al 26 0, false) ∧ lk (tb_X9_share) 26 = (x_gR 9 1 29, false) ∧ lk (tb_X9_share) 29 = (x_gI 5 5 32, false) ∧ lk (tb_X9_share) 32 = (x_fa 33, false) ∧ lk (tb_X9_share) 33 = (x_i2l 34, false) ∧ lk (tb_X9_share) 34 = (x_il 35 2, false) ∧ lk (tb_X9_share) 35 = (x_cS 3 P_X9_inLeastTerms 38, false) ∧ lk (tb_X9_share) 38 = (x_rI, false) := ⟨rfl, rfl, rfl, rfl, rfl, rfl, rfl, rfl, rfl, rfl, rfl, rfl, rfl, rfl, rfl, rfl, rfl, rfl, rfl, rfl, rfl⟩
def P_X9_share : PTT := fun as M R => match as with
  | [.ref k, .int c, .int u] => k = 0 ∧ ∃ g, CR M.1 M.2.1 M.2.2 g ∧ GOk g ∧ Ans M R (gShare g c u) g
  | _ => False
set_option maxRecDepth 20000 in
theorem ok_X9_share : Ok yX9_share mt_X9_share P_X9_share := by
  refine Ok.of (by decide) rfl rfl rfl rfl fun av ⟨S, I, L⟩ R hP => ?_
  unfold P_X9_share at hP
  split at hP
  case h_2 => exact hP.elim
  rename_i k c u
  obtain ⟨k, rfl⟩ : ∃ q : Nat, q = k := ⟨k, rfl⟩
  refine ⟨by simp [ent, wide, mt_X9_share], ?_⟩
  show J mt_X9_share R 0 [some (.ref k), some (.int c), some (.int u)] [] (S, I, L)
  try dsimp only at hP
  obtain ⟨rfl, g, hc, ho, hA⟩ := hP
  have h1 := hc.1
  have em : I 5 5 = nI (aM (gA g)) := hc.2.2.1.2.1
  have h9 := ho.2.1.1
  have hp := pow6 h9.2.2
  have hfin : ∀ v I', gShare g c u = v → (∀ q, q ≠ 20 → I' q = I q) → R (some (.int v)) (S, I', L) := fun v I' hv hf => (hv ▸ hA).q hc (fun q a b c d e f => hf q f)
  refine J.of tk_X9_share 200 fun ρ hρ => ?_
  simp only [hρ, x_c, x_il, x_ll, x_al, x_is, x_as, x_ls, x_inc, x_ii, x_iq, x_i1, x_l2, x_lq, x_lh, x_i2l, x_l2i, x_lcmp, x_dup, x_dup2, x_pop, x_if, x_ifn, x_ic, x_icn, x_go, x_sw, swc, x_l01, x_mx, x_gI, x_gL, x_gR, x_pI, x_pZ, x_pL, x_pR, x_ia, x_za, x_aa, x_ias, x_zas, x_aas, x_fac, x_fa, x_slen, x_sa, x_ac, x_oi, x_new, x_na, x_cS, x_cV, x_cI, x_rI, x_rZ, x_rL, x_r0, pa, short, oc, lg, lset, lset2, wide, cond_true, cond_false, true_and, and_true, ↓reduceIte, Bool.false_eq_true, true_or, or_true, lf_X9_share, h1.1.f, hc.ac.2, hc.ac.2.f, h1.2.2.2.2.2.2.2.1, h1.2.2.2.2.2.2.2.1.f, P_X5_hasCheck, P_X6_ordersInWhichRankGrows, P_X9_inLeastTerms, em, bI_0, Classical.not_not]
  refine ⟨fun h => ?_, fun h => hfin _ I (by rw [gShare, if_pos h]) (fun _ _ => rfl)⟩
  obtain ⟨i, hi, rfl⟩ := hC.i (g := g) h ho
  have ht : tn (nI i) = i := tn_nI (by omega)
  rw [ht]
  refine ⟨gA g, hc.2.2.1, ho.2.1, hi, fun I' hf => ?_⟩
  have e5 : I' 5 5 = nI (aM (gA g)) := by rw [hf 5 (by omega)]; exact em
  have hsh : shS (gA g) i (2 ^ aM (gA g)) < 2 ^ 31 := by
    have := shS_le (gA g) i (2 ^ aM (gA g))
    have h2 := Nat.mul_le_mul_right 518400 hp
    omega
  have hfa := facN_le (aM (gA g))
  rw [e5, ncl (by omega), facI_N _ (by omega), nI_l hsh, nI_l (by omega)]
  refine ⟨vp_in_nI (by omega) (by omega), _, _, rfl, rfl, hsh, facN_pos _ (by omega), by omega, hfin _ I' ?_ hf⟩
  rw [gShare, if_neg (fun q => q h), ht]
/-- levels by a set -/
def slF (l : Nat → Int32) (s : Nat) (v : Int32) (i : Nat) : Nat → Int32 := fun b => if b < i then (if s.testBit b = true then -v else v) else l b
theorem slF_s (l : Nat → Int32) (s : Nat) (v : Int32) (i : Nat) : upd (slF l s v i) i (if s.testBit i = true then -v else v) = slF l s v (i + 1) := by
  funext j
  simp only [upd_app, slF]
  by_cases h : j = i
  · subst h; simp
  · by_cases h2 : j < i
    · simp [h, h2, show j < i + 1 by omega]
    · simp [h, h2, show ¬ j < i + 1 by omega]
theorem slF_0 (l : Nat → Int32) (s : Nat) (v : Int32) : slF l s v 0 = l := by funext j; simp [slF]
def slA (a : AS) (s : Nat) (v : Int32) : AS := (a.1, a.2.1, a.2.2.1, a.2.2.2.1, a.2.2.2.2.1, slF a.2.2.2.2.2.1 s v (aN a), a.2.2.2.2.2.2)
theorem slA_ok {a : AS} {s : Nat} {v : Int32} (h : AOk a) (hv : inR 31 v) : AOk (slA a s v) := by
  refine ⟨h.1, h.2.1, h.2.2.1, fun x hx => ?_, h.2.2.2.2⟩
  show inR 31 (slF (aL a) s v (aN a) x)
  unfold slF
  split
  · split
    · exact inR_neg hv
    · exact hv
  · exact h.2.2.2.1 x hx
/-- levels of the trial state -/
theorem SR.lev {I : MI} {k : Nat} {a : AS} {l : Nat → Int32} (h : SR I k a) {f : Nat → Int32} (hf : ∀ b, b < 9 → f b = l b) : SR (mS I (k + 2) f) k (a.1, a.2.1, a.2.2.1, a.2.2.2.1, a.2.2.2.2.1, l, a.2.2.2.2.2.2) := by
  obtain ⟨g1, g2, g3, g4, g5, g6, g7⟩ := h
  have e0 : mS I (k + 2) f k = I k := mS_n (by omega)
  have e1 : mS I (k + 2) f (k + 1) = I (k + 1) := mS_n (by omega)
  have e3 : mS I (k + 2) f (k + 3) = I (k + 3) := mS_n (by omega)
  have e4 : mS I (k + 2) f (k + 4) = I (k + 4) := mS_n (by omega)
  exact ⟨by rw [e0]; exact g1, by rw [e0]; exact g2, by rw [e0]; exact g3, by rw [e0]; exact g4, by rw [e1]; exact g5, fun b hb => by rw [mS_s]; exact hf b hb, by rw [e3, e4]; exact g7⟩
def il_X9_endsEmpty : List (Nat × Instr × Nat) := [(0, .iconst 0, 1), (1, .istore_n 3, 1), (2, .iload_n 3, 1), (3, .aload_n 0, 1), (4, .getfield 23, 3), (7, .getfield 101, 3), (10, .if_icmp .ge 32, 3), (13, .aload_n 0, 1), (14, .getfield 23, 3), (17, .getfield 152, 3), (20, .iload_n 3, 1), (21, .iload_n 1, 1), (22, .iload_n 3, 1), (23, .ishr, 1), (24, .iconst 1, 1), (25, .iand, 1), (26, .ifCond .ne 7, 3), (29, .iload_n 2, 1), (30, .goto 5, 3), (33, .iload_n 2, 1), (34, .ineg, 1), (35, .iastore, 1), (36, .iinc 3 1, 3), (39, .goto (-37), 3), (42, .aload_n 0, 1), (43, .getfield 29, 3), (46, .aload_n 0, 1), (47, .getfield 23, 3), (50, .invokevirtual 256, 3), (53, .pop, 1), (54, .aload_n 0, 1), (55, .getfield 23, 3), (58, .invokevirtual 110, 3), (61, .ifCond .ne 7, 3), (64, .iconst 1, 1), (65, .goto 4, 3), (68, .iconst 0, 1), (69, .ireturn, 1)]
def mt_X9_endsEmpty : Mt := (cX9_endsEmpty, RX9, 4, (some .boolean), ({ frames := 4, cells := 0, slots := 0, locals := 100 } : Room), false, none, none)
set_option maxRecDepth 100000 in
theorem dl_X9_endsEmpty : ∀ q ∈ il_X9_endsEmpty, decode (mt_X9_endsEmpty).1 q.1 = .ok q.2 := by decide +kernel
def tb_X9_endsEmpty : Tb := [(0, x_c 1 (.int 0), false),
  (1, x_is 2 3, false),
  (2, x_il 3 3, true),
  (3, x_al 4 0, false),
  (4, x_gR 9 2 7, false),
  (7, x_gI 5 4 10, false),
  (10, x_ic 42 13 (fun x y : Int32 => y ≤ x), false),
  (13, x_al 14 0, false),
  (14, x_gR 9 2 17, false),
  (17, x_gR 5 1 20, false),
  (20, x_il 21 3, false),
  (21, x_il 22 1, false),
  (22, x_il 23 3, false),
  (23, x_ii 24 (fun x y : Int32 => x >>> (y &&& 31)), false),
  (24, x_c 25 (.int 1), false),
  (25, x_ii 26 (fun x y : Int32 => x &&& y), false),
  (26, x_ifn 33 29 (fun x : Int32 => x = 0), false),
  (29, x_il 30 2, false),
  (30, x_go 35, false),
  (33, x_il 34 2, false),
  (34, x_i1 35 (fun x : Int32 => -x), false),
  (35, x_ias 36, false),
  (36, x_inc 39 3 1, false),
  (39, x_go 2, false),
  (42, x_al 43 0, true),
  (43, x_gR 9 3 46, false),
  (46, x_al 47 0, false),
  (47, x_gR 9 2 50, false),
  (50, x_cV 1 1 P_X1_runUntilSolved 53, false),
  (53, x_pop 54, false),
  (54, x_al 55 0, false),
  (55, x_gR 9 2 58, false),
  (58, x_cV 5 0 P_X5_word 61, false),
  (61, x_ifn 68 64 (fun x : Int32 => x = 0), false),
  (64, x_c 65 (.int 1), false),
  (65, x_go 69, false),
  (68, x_c 69 (.int 0), false),
  (69, x_rZ, false)]
set_option maxRecDepth 100000 in
theorem tk_X9_endsEmpty : TbOk (mt_X9_endsEmpty) (tb_X9_endsEmpty) :=
  tkc (s_iconst (at_ dl_X9_endsEmpty 0 (ins := .iconst 0) rfl) (by first | rfl | decide)) (
  tkc (s_istore_n (at_ dl_X9_endsEmpty 1 (ins := .istore_n 3) rfl) (by decide)) (
  tkc (s_iload_n (at_ dl_X9_endsEmpty 2 (ins := .iload_n 3) rfl)) (
  tkc (s_aload_n (at_ dl_X9_endsEmpty 3 (ins := .aload_n 0) rfl)) (
  tkc (s_gR (at_ dl_X9_endsEmpty 4 (ins := .getfield 23) rfl) (by decide) (by decide) (by decide) (tg 256 (by decide +kernel) (by decide +kernel))) (
  tkc (s_gI (at_ dl_X9_endsEmpty 5 (ins := .getfield 101) rfl) (by decide) (by decide) (by decide) (tg 137 (by decide +kernel) (by decide +kernel))) (
  tkc (s_ic_ge (at_ dl_X9_endsEmpty 6 (ins := .if_icmp .ge 32) rfl) (by decide)) (
  tkc (s_aload_n (at_ dl_X9_endsEmpty 7 (ins := .aload_n 0) rfl)) (
  tkc (s_gR (at_ dl_X9_endsEmpty 8 (ins := .getfield 23) rfl) (by decide) (by decide) (by decide) (tg 256 (by decide +kernel) (by decide +kernel))) (
  tkc (s_gR (at_ dl_X9_endsEmpty 9 (ins := .getfield 152) rfl) (by decide) (by decide) (by decide) (tg 127 (by decide +kernel) (by decide +kernel))) (
  tkc (s_iload_n (at_ dl_X9_endsEmpty 10 (ins := .iload_n 3) rfl)) (
  tkc (s_iload_n (at_ dl_X9_endsEmpty 11 (ins := .iload_n 1) rfl)) (
  tkc (s_iload_n (at_ dl_X9_endsEmpty 12 (ins := .iload_n 3) rfl)) (
  tkc (s_ishr (at_ dl_X9_endsEmpty 13 (ins := .ishr) rfl)) (
  tkc (s_iconst (at_ dl_X9_endsEmpty 14 (ins := .iconst 1) rfl) (by first | rfl | decide)) (
  tkc (s_iand (at_ dl_X9_endsEmpty 15 (ins := .iand) rfl)) (
  tkc (s_if_ne (at_ dl_X9_endsEmpty 16 (ins := .ifCond .ne 7) rfl) (by decide)) (
  tkc (s_iload_n (at_ dl_X9_endsEmpty 17 (ins := .iload_n 2) rfl)) (
  tkc (s_goto (at_ dl_X9_endsEmpty 18 (ins := .goto 5) rfl) (by decide)) (
  tkc (s_iload_n (at_ dl_X9_endsEmpty 19 (ins := .iload_n 2) rfl)) (
  tkc (s_ineg (at_ dl_X9_endsEmpty 20 (ins := .ineg) rfl)) (
  tkc (s_ias (at_ dl_X9_endsEmpty 21 (ins := .iastore) rfl)) (
  tkc (s_iinc (at_ dl_X9_endsEmpty 22 (ins := .iinc 3 1) rfl) (by decide) (by first | rfl | decide)) (
  tkc (s_goto (at_ dl_X9_endsEmpty 23 (ins := .goto (-37)) rfl) (by decide)) (
  tkc (s_aload_n (at_ dl_X9_endsEmpty 24 (ins := .aload_n 0) rfl)) (
  tkc (s_gR (at_ dl_X9_endsEmpty 25 (ins := .getfield 29) rfl) (by decide) (by decide) (by decide) (tg 257 (by decide +kernel) (by decide +kernel))) (
  tkc (s_aload_n (at_ dl_X9_endsEmpty 26 (ins := .aload_n 0) rfl)) (
  tkc (s_gR (at_ dl_X9_endsEmpty 27 (ins := .getfield 23) rfl) (by decide) (by decide) (by decide) (tg 256 (by decide +kernel) (by decide +kernel))) (
  tkc (s_cV ok_X1_runUntilSolved (at_ dl_X9_endsEmpty 28 (ins := .invokevirtual 256) rfl) (by decide) rfl (tg 447 (by decide +kernel) (by decide +kernel)) (tg 448 (by decide +kernel) (by decide +kernel)) (tg 449 (by decide +kernel) (by decide +kernel)) (tg 46 (by decide +kernel) (by decide +kernel)) (tg 450 (by decide +kernel) (by decide +kernel)) (⟨by decide, by decide, by decide +kernel⟩) (⟨by decide, by decide⟩) rfl rfl) (
  tkc (s_pop (at_ dl_X9_endsEmpty 29 (ins := .pop) rfl)) (
  tkc (s_aload_n (at_ dl_X9_endsEmpty 30 (ins := .aload_n 0) rfl)) (
  tkc (s_gR (at_ dl_X9_endsEmpty 31 (ins := .getfield 23) rfl) (by decide) (by decide) (by decide) (tg 256 (by decide +kernel) (by decide +kernel))) (
  tkc (s_cV ok_X5_word (at_ dl_X9_endsEmpty 32 (ins := .invokevirtual 110) rfl) (by decide) rfl (tg 360 (by decide +kernel) (by decide +kernel)) (tg 361 (by decide +kernel) (by decide +kernel)) (tg 362 (by decide +kernel) (by decide +kernel)) (tg 45 (by decide +kernel) (by decide +kernel)) (tg 363 (by decide +kernel) (by decide +kernel)) (⟨by decide, by decide, by decide +kernel⟩) (⟨by decide, by decide⟩) rfl rfl) (
  tkc (s_if_ne (at_ dl_X9_endsEmpty 33 (ins := .ifCond .ne 7) rfl) (by decide)) (
  tkc (s_iconst (at_ dl_X9_endsEmpty 34 (ins := .iconst 1) rfl) (by first | rfl | decide)) (
  tkc (s_goto (at_ dl_X9_endsEmpty 35 (ins := .goto 4) rfl) (by decide)) (
  tkc (s_iconst (at_ dl_X9_endsEmpty 36 (ins := .iconst 0) rfl) (by first | rfl | decide)) (
  tkc (s_rZ (at_ dl_X9_endsEmpty 37 (ins := .ireturn) rfl) rfl) ( tk0))))))))))))))))))))))))))))))))))))))
theorem lf_X9_endsEmpty : lk (tb_X9_endsEmpty) 0 = (x_c 1 (.int 0), false) ∧ lk (tb_X9_endsEmpty) 1 = (x_is 2 3, false) ∧ lk (tb_X9_endsEmpty) 2 = (x_il 3 3, true) ∧ lk (tb_X9_endsEmpty) 3 = (x_al 4 0, false) ∧ lk (tb_X9_endsEmpty) 4 = (x_gR 9 2 7, false) ∧ lk (tb_X9_endsEmpty) 7 = (x_gI 5 4 10, false) ∧ lk (tb_X9_endsEmpty) 10 = (x_ic 42 13 (fun x y : Int32 => y ≤ x), false) ∧ lk (tb_X9_endsEmpty) 13 = (x_al 14 0, false) ∧ lk (tb_X9_endsEmpty) 14 = (x_gR 9 2 17, false) ∧ lk (tb_X9_endsEmpty) 17 = (x_gR 5 1 20, false) ∧ lk (tb_X9_endsEmpty) 20 = (x_il 21 3, false) ∧ lk (tb_X9_endsEmpty) 21 = (x_il 22 1, false) ∧ lk (tb_X9_endsEmpty) 22 = (x_il 23 3, false) ∧ lk (tb_X9_endsEmpty) 23 = (x_ii 24 (fun x y : Int32 => x >>> (y &&& 31)), false) ∧ lk (tb_X9_endsEmpty) 24 = (x_c 25 (.int 1), false) ∧ lk (tb_X9_endsEmpty) 25 = (x_ii 26 (fun x y : Int32 => x &&& y), false) ∧ lk (tb_X9_endsEmpty) 26 = (x_ifn 33 29 (fun x : Int32 => x = 0), false) ∧ lk (tb_X9_endsEmpty) 29 = (x_il 30 2, false) ∧ lk (tb_X9_endsEmpty) 30 = (x_go 35, false) ∧ lk (tb_X9_endsEmpty) 33 = (x_il 34 2, false) ∧ lk (tb_X9_endsEmpty) 34 = (x_i1 35 (fun x : Int32 => -x), false) ∧ lk (tb_X9_endsEmpty) 35 = (x_ias 36, false) ∧ lk (tb_X9_endsEmpty) 36 = (x_inc 39 3 1, false) ∧ lk (tb_X9_endsEmpty) 39 = (x_go 2, false) ∧ lk (tb_X9_endsEmpty) 42 = (x_al 43 0, true) ∧ lk (tb_X9_endsEmpty) 43 = (x_gR 9 3 46, false) ∧ lk (tb_X9_endsEmpty) 46 = (x_al 47 0, false) ∧ lk (tb_X9_endsEmpty) 47 = (x_gR 9 2 50, false) ∧ lk (tb_X9_endsEmpty) 50 = (x_cV 1 1 P_X1_runUntilSolved 53, false) ∧ lk (tb_X9_endsEmpty) 53 = (x_pop 54, false) ∧ lk (tb_X9_endsEmpty) 54 = (x_al 55 0, false) ∧ lk (tb_X9_endsEmpty) 55 = (x_gR 9 2 58, false) ∧ lk (tb_X9_endsEmpty) 58 = (x_cV 5 0 P_X5_word 61, false) ∧ lk (tb_X9_endsEmpty) 61 = (x_ifn 68 64 (fun x : Int32 => x = 0), false) ∧ lk (tb_X9_endsEmpty) 64 = (x_c 65 (.int 1), false) ∧ lk (tb_X9_endsEmpty) 65 = (x_go 69, false) ∧ lk (tb_X9_endsEmpty) 68 = (x_c 69 (.int 0), false) ∧ lk (tb_X9_endsEmpty) 69 = (x_rZ, false) := ⟨rfl, rfl, rfl, rfl, rfl, rfl, rfl, rfl, rfl, rfl, rfl, rfl, rfl, rfl, rfl, rfl, rfl, rfl, rfl, rfl, rfl, rfl, rfl, rfl, rfl, rfl, rfl, rfl, rfl, rfl, rfl, rfl, rfl, rfl, rfl, rfl, rfl, rfl⟩
def P_X9_endsEmpty : PTT := fun as M R => match as with
  | [.ref k, .int x, .int v] => k = 0 ∧ IsCl M.1 ∧ ∃ s a, s < 512 ∧ x = nI s ∧ SR M.2.1 10 a ∧ AOk a ∧ inR 31 v ∧ OrdId M.2.1 ∧ ∀ I', frS M.2.1 I' → SR I' 10 (runA (slA a s v) id) → R (some (.int (bB (wdA (runA (slA a s v) id) == 0)))) (M.1, I', M.2.2)
  | _ => False
set_option maxRecDepth 20000 in
theorem ok_X9_endsEmpty : Ok yX9_endsEmpty mt_X9_endsEmpty P_X9_endsEmpty := by
  refine Ok.of (by decide) rfl rfl rfl rfl fun av ⟨S, I, L⟩ R hP => ?_
  unfold P_X9_endsEmpty at hP
  split at hP
  case h_2 => exact hP.elim
  rename_i k x v
  obtain ⟨k, rfl⟩ : ∃ q : Nat, q = k := ⟨k, rfl⟩
  refine ⟨by simp [ent, wide, mt_X9_endsEmpty], ?_⟩
  show J mt_X9_endsEmpty R 0 [some (.ref k), some (.int x), some (.int v), none] [] (S, I, L)
  try dsimp only at hP
  obtain ⟨rfl, h1, s, a, hs5, rfl, hs, ha, hv, hor, hR⟩ := hP
  have h9 := ha.1
  have ha15 : ap15 10 := Or.inl (by omega)
  have key := up (P := fun i => J mt_X9_endsEmpty R 2 [some (.ref 0), some (.int (nI s)), some (.int v), some (.int (nI i))] [] (S, mS I 12 (slF (I 12) s v i), L)) (n := aN a) (fun i hi ih => ?_) 0 (Nat.zero_le _)
  · rw [slF_0, mS_id] at key
    refine J.of tk_X9_endsEmpty 200 fun ρ hρ => ?_
    simp only [hρ, x_c, x_il, x_ll, x_al, x_is, x_as, x_ls, x_inc, x_ii, x_iq, x_i1, x_l2, x_lq, x_lh, x_i2l, x_l2i, x_lcmp, x_dup, x_dup2, x_pop, x_if, x_ifn, x_ic, x_icn, x_go, x_sw, swc, x_l01, x_mx, x_gI, x_gL, x_gR, x_pI, x_pZ, x_pL, x_pR, x_ia, x_za, x_aa, x_ias, x_zas, x_aas, x_fac, x_fa, x_slen, x_sa, x_ac, x_oi, x_new, x_na, x_cS, x_cV, x_cI, x_rI, x_rZ, x_rL, x_r0, pa, short, oc, lg, lset, lset2, wide, cond_true, cond_false, true_and, and_true, ↓reduceIte, Bool.false_eq_true, true_or, or_true, lf_X9_endsEmpty]
    exact key
  have en : mS I 12 (slF (I 12) s v i) 10 4 = nI (aN a) := hs.1
  by_cases hlt : i < aN a
  · refine J.of tk_X9_endsEmpty 200 fun ρ hρ => ?_
    simp only [hρ, x_c, x_il, x_ll, x_al, x_is, x_as, x_ls, x_inc, x_ii, x_iq, x_i1, x_l2, x_lq, x_lh, x_i2l, x_l2i, x_lcmp, x_dup, x_dup2, x_pop, x_if, x_ifn, x_ic, x_icn, x_go, x_sw, swc, x_l01, x_mx, x_gI, x_gL, x_gR, x_pI, x_pZ, x_pL, x_pR, x_ia, x_za, x_aa, x_ias, x_zas, x_aas, x_fac, x_fa, x_slen, x_sa, x_ac, x_oi, x_new, x_na, x_cS, x_cV, x_cI, x_rI, x_rZ, x_rL, x_r0, pa, short, oc, lg, lset, lset2, wide, cond_true, cond_false, true_and, and_true, ↓reduceIte, Bool.false_eq_true, true_or, or_true, lf_X9_endsEmpty, h1.1.f, h1.2.2.2.2.1, h1.2.2.2.2.1.f, en, Nat.reduceAdd, nI_leI (show aN a < 2 ^ 31 by omega) (show i < 2 ^ 31 by omega), ncl (show i < 2 ^ 31 by omega), nI_1, bit_c (show s < 2 ^ 31 by omega) (show i < 31 by omega), Classical.not_not, mS_s, mS_ss]
    have := ih hlt
    rw [← slF_s] at this
    have hvv : vp_in (nI i) 9 := vp_in_nI (by omega) (by omega)
    refine ⟨fun h => absurd h (by omega), fun _ => ⟨fun h => ⟨hvv, ?_⟩, fun h => ⟨hvv, ?_⟩⟩⟩
    · rwa [if_pos h] at this
    · rwa [if_neg h] at this
  · have : i = aN a := by omega
    subst this
    have hsl : SR (mS I 12 (slF (I 12) s v (aN a))) 10 (slA a s v) := hs.lev (fun b hb => by
      simp only [slF]
      split
      · rfl
      · exact hs.2.2.2.2.2.1 b hb)
    refine J.of tk_X9_endsEmpty 200 fun ρ hρ => ?_
    simp only [hρ, x_c, x_il, x_ll, x_al, x_is, x_as, x_ls, x_inc, x_ii, x_iq, x_i1, x_l2, x_lq, x_lh, x_i2l, x_l2i, x_lcmp, x_dup, x_dup2, x_pop, x_if, x_ifn, x_ic, x_icn, x_go, x_sw, swc, x_l01, x_mx, x_gI, x_gL, x_gR, x_pI, x_pZ, x_pL, x_pR, x_ia, x_za, x_aa, x_ias, x_zas, x_aas, x_fac, x_fa, x_slen, x_sa, x_ac, x_oi, x_new, x_na, x_cS, x_cV, x_cI, x_rI, x_rZ, x_rL, x_r0, pa, short, oc, lg, lset, lset2, wide, cond_true, cond_false, true_and, and_true, ↓reduceIte, Bool.false_eq_true, true_or, or_true, lf_X9_endsEmpty, h1.1.f, h1.2.2.2.2.1, h1.2.2.2.2.1.f, en, nI_leI (show aN a < 2 ^ 31 by omega) (show aN a < 2 ^ 31 by omega), Nat.le_refl, true_implies, not_true_eq_false, false_implies]
    refine J.of tk_X9_endsEmpty 200 fun ρ hρ => ?_
    simp only [hρ, x_c, x_il, x_ll, x_al, x_is, x_as, x_ls, x_inc, x_ii, x_iq, x_i1, x_l2, x_lq, x_lh, x_i2l, x_l2i, x_lcmp, x_dup, x_dup2, x_pop, x_if, x_ifn, x_ic, x_icn, x_go, x_sw, swc, x_l01, x_mx, x_gI, x_gL, x_gR, x_pI, x_pZ, x_pL, x_pR, x_ia, x_za, x_aa, x_ias, x_zas, x_aas, x_fac, x_fa, x_slen, x_sa, x_ac, x_oi, x_new, x_na, x_cS, x_cV, x_cI, x_rI, x_rZ, x_rL, x_r0, pa, short, oc, lg, lset, lset2, wide, cond_true, cond_false, true_and, and_true, ↓reduceIte, Bool.false_eq_true, true_or, or_true, lf_X9_endsEmpty, h1.1.f, h1.2.2.2.2.1, h1.2.2.2.2.1.f, h1.2.2.2.2.2.1, h1.2.2.2.2.2.1.f, ha15, P_X1_runUntilSolved, P_X5_word, Classical.not_not]
    have hal := slA_ok (s := s) ha hv
    refine run10 hsl hal ((hor.fr (mS_n (by omega))).O h9.2.2) (Q := fun I' _ => (∃ n, n ≤ 9 ∧ I' 10 4 = nI n) ∧ (¬ nI (wdF (I' (10 + 3)) (tn (I' 10 4))) = 0 → R (some (.int 0)) (S, I', L)) ∧ (nI (wdF (I' (10 + 3)) (tn (I' 10 4))) = 0 → R (some (.int 1)) (S, I', L))) fun I' g1 g2 => ?_
    have hr := runA_ok (ord := id) hal
    have hwl : wdA (runA (slA a s v) id) < 512 := wdF_lt _ h9.2.1
    rw [g2.wd hr, nI_z (by omega)]
    have hf : frS I I' := fun q a b c d e f => by rw [g1 q (by omega) (by omega) (by omega) (by omega) (by omega), mS_n (by omega)]
    have hR' := hR I' hf g2
    refine ⟨g2.wdq hr, fun h => ?_, fun h => ?_⟩
    · rwa [bB_f (by simpa using h)] at hR'
    · rwa [bB_t (by simpa using h)] at hR'
