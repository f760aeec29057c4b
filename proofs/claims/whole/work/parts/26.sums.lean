/-! SUMS, at 19 (basis 20), of the state at 5 -/
def IsSu (S : Sh) : Prop := tO S 19 6 ∧ sR S 19 0 = 5 ∧ sR S 19 1 = 20 ∧ tA S 20 1 ∧ ln S 20 = 9
theorem IsSu.f {S : Sh} (h : IsSu S) : tO S 19 6 ∧ sR S 19 0 = 5 ∧ sR S 19 1 = 20 ∧ tA S 20 1 ∧ ln S 20 = 9 := h
/-- a set into a basis, by its highest bits -/
def ins : Nat → (Nat → Nat) → Nat → Bool × (Nat → Nat)
  | 0, B, _ => (false, B)
  | d + 1, B, x => if x.testBit d = true then (if B d = 0 then (true, va_up B d x) else ins d B (x ^^^ B d)) else ins d B x
theorem xor512 {a b : Nat} (ha : a < 512) (hb : b < 512) : a ^^^ b < 512 := Nat.xor_lt_two_pow (n := 9) ha hb
theorem ins_lt {B : Nat → Nat} (hB : ∀ b, b < 9 → B b < 512) : ∀ {d x : Nat}, d ≤ 9 → x < 512 → ∀ b, b < 9 → (ins d B x).2 b < 512
  | 0, x, _, _, b, hb => hB b hb
  | d + 1, x, hd, hx, b, hb => by
    simp only [ins]
    split
    · split
      · simp only [va_up]
        split
        · exact hx
        · exact hB b hb
      · exact ins_lt hB (by omega) (xor512 hx (hB d (by omega))) b hb
    · exact ins_lt hB (by omega) hx b hb
theorem ins_congr {B B' : Nat → Nat} (h : ∀ b, b < 9 → B b = B' b) : ∀ {d x : Nat}, d ≤ 9 → (ins d B x).1 = (ins d B' x).1 ∧ ∀ b, b < 9 → (ins d B x).2 b = (ins d B' x).2 b
  | 0, x, _ => ⟨rfl, h⟩
  | d + 1, x, hd => by
    simp only [ins]
    rw [h d (by omega)]
    split
    · split
      · refine ⟨rfl, fun b hb => ?_⟩
        simp only [va_up]
        rw [h b hb]
      · exact ins_congr h (by omega)
    · exact ins_congr h (by omega)
theorem ins_no {B : Nat → Nat} : ∀ {d x : Nat}, ¬ (ins d B x).1 = true → (ins d B x).2 = B
  | 0, x, _ => rfl
  | d + 1, x, h => by
    revert h
    simp only [ins]
    split
    · split
      · intro h; exact absurd rfl h
      · exact ins_no
    · exact ins_no
/-- rank of some of the first c sets, and the basis -/
def rkS (ov : Nat → Nat) (s : Nat) : Nat → Nat × (Nat → Nat)
  | 0 => (0, fun _ => 0)
  | c + 1 => if s.testBit c = true then ((rkS ov s c).1 + (if (ins 9 (rkS ov s c).2 (ov c)).1 = true then 1 else 0), (ins 9 (rkS ov s c).2 (ov c)).2) else rkS ov s c
theorem rkS_lt {ov : Nat → Nat} {s : Nat} : ∀ {c : Nat}, (∀ i, i < c → ov i < 512) → ∀ b, b < 9 → (rkS ov s c).2 b < 512
  | 0, _, b, _ => by simp [rkS]
  | c + 1, h, b, hb => by
    simp only [rkS]
    split
    · exact ins_lt (rkS_lt (fun i hi => h i (by omega))) (Nat.le_refl 9) (h c (by omega)) b hb
    · exact rkS_lt (fun i hi => h i (by omega)) b hb
theorem rkS_le (ov : Nat → Nat) (s : Nat) : ∀ c, (rkS ov s c).1 ≤ c
  | 0 => Nat.le_refl _
  | c + 1 => by
    have := rkS_le ov s c
    simp only [rkS]
    split
    · simp only; split <;> omega
    · omega
theorem rkS_congr {ov ov' : Nat → Nat} {s s' : Nat} : ∀ {c : Nat}, (∀ i, i < c → ov i = ov' i) → (∀ i, i < c → s.testBit i = s'.testBit i) → rkS ov s c = rkS ov' s' c
  | 0, _, _ => rfl
  | c + 1, h, h2 => by
    simp only [rkS]
    rw [rkS_congr (fun i hi => h i (by omega)) (fun i hi => h2 i (by omega)), h c (by omega), h2 c (by omega)]
def il_X6_joinsBasis : List (Nat × Instr × Nat) := [(0, .iload_n 1, 1), (1, .istore_n 2, 1), (2, .bipush 8, 2), (4, .istore_n 3, 1), (5, .iload_n 3, 1), (6, .ifCond .lt 44, 3), (9, .iload_n 2, 1), (10, .iload_n 3, 1), (11, .ishr, 1), (12, .iconst 1, 1), (13, .iand, 1), (14, .ifCond .eq 30, 3), (17, .aload_n 0, 1), (18, .getfield 15, 3), (21, .iload_n 3, 1), (22, .iaload, 1), (23, .ifCond .ne 12, 3), (26, .aload_n 0, 1), (27, .getfield 15, 3), (30, .iload_n 3, 1), (31, .iload_n 2, 1), (32, .iastore, 1), (33, .iconst 1, 1), (34, .ireturn, 1), (35, .iload_n 2, 1), (36, .aload_n 0, 1), (37, .getfield 15, 3), (40, .iload_n 3, 1), (41, .iaload, 1), (42, .ixor, 1), (43, .istore_n 2, 1), (44, .iinc 3 (-1), 3), (47, .goto (-42), 3), (50, .iconst 0, 1), (51, .ireturn, 1)]
def mt_X6_joinsBasis : Mt := (cX6_joinsBasis, RX6, 4, (some .boolean), ({ frames := 0, cells := 0, slots := 0, locals := 0 } : Room), false, none, none)
set_option maxRecDepth 100000 in
theorem dl_X6_joinsBasis : ∀ q ∈ il_X6_joinsBasis, decode (mt_X6_joinsBasis).1 q.1 = .ok q.2 := by decide +kernel
def tb_X6_joinsBasis : Tb := [(0, x_il 1 1, false),
  (1, x_is 2 2, false),
  (2, x_c 4 (.int 8), false),
  (4, x_is 5 3, false),
  (5, x_il 6 3, true),
  (6, x_if 50 9 (fun x : Int32 => x < 0), false),
  (9, x_il 10 2, false),
  (10, x_il 11 3, false),
  (11, x_ii 12 (fun x y : Int32 => x >>> (y &&& 31)), false),
  (12, x_c 13 (.int 1), false),
  (13, x_ii 14 (fun x y : Int32 => x &&& y), false),
  (14, x_if 44 17 (fun x : Int32 => x = 0), false),
  (17, x_al 18 0, false),
  (18, x_gR 6 1 21, false),
  (21, x_il 22 3, false),
  (22, x_ia 23, false),
  (23, x_ifn 35 26 (fun x : Int32 => x = 0), false),
  (26, x_al 27 0, false),
  (27, x_gR 6 1 30, false),
  (30, x_il 31 3, false),
  (31, x_il 32 2, false),
  (32, x_ias 33, false),
  (33, x_c 34 (.int 1), false),
  (34, x_rZ, false),
  (35, x_il 36 2, false),
  (36, x_al 37 0, false),
  (37, x_gR 6 1 40, false),
  (40, x_il 41 3, false),
  (41, x_ia 42, false),
  (42, x_ii 43 (fun x y : Int32 => x ^^^ y), false),
  (43, x_is 44 2, false),
  (44, x_inc 47 3 (-1), false),
  (47, x_go 5, false),
  (50, x_c 51 (.int 0), false),
  (51, x_rZ, false)]
set_option maxRecDepth 100000 in
theorem tk_X6_joinsBasis : TbOk (mt_X6_joinsBasis) (tb_X6_joinsBasis) :=
  tkc (s_iload_n (at_ dl_X6_joinsBasis 0 (ins := .iload_n 1) rfl)) (
  tkc (s_istore_n (at_ dl_X6_joinsBasis 1 (ins := .istore_n 2) rfl) (by decide)) (
  tkc (s_bipush (at_ dl_X6_joinsBasis 2 (ins := .bipush 8) rfl) (by first | rfl | decide)) (
  tkc (s_istore_n (at_ dl_X6_joinsBasis 3 (ins := .istore_n 3) rfl) (by decide)) (
  tkc (s_iload_n (at_ dl_X6_joinsBasis 4 (ins := .iload_n 3) rfl)) (
  tkc (s_if_lt (at_ dl_X6_joinsBasis 5 (ins := .ifCond .lt 44) rfl) (by decide)) (
  tkc (s_iload_n (at_ dl_X6_joinsBasis 6 (ins := .iload_n 2) rfl)) (
  tkc (s_iload_n (at_ dl_X6_joinsBasis 7 (ins := .iload_n 3) rfl)) (
  tkc (s_ishr (at_ dl_X6_joinsBasis 8 (ins := .ishr) rfl)) (
  tkc (s_iconst (at_ dl_X6_joinsBasis 9 (ins := .iconst 1) rfl) (by first | rfl | decide)) (
  tkc (s_iand (at_ dl_X6_joinsBasis 10 (ins := .iand) rfl)) (
  tkc (s_if_eq (at_ dl_X6_joinsBasis 11 (ins := .ifCond .eq 30) rfl) (by decide)) (
  tkc (s_aload_n (at_ dl_X6_joinsBasis 12 (ins := .aload_n 0) rfl)) (
  tkc (s_gR (at_ dl_X6_joinsBasis 13 (ins := .getfield 15) rfl) (by decide) (by decide) (by decide) (tg 211 (by decide +kernel) (by decide +kernel))) (
  tkc (s_iload_n (at_ dl_X6_joinsBasis 14 (ins := .iload_n 3) rfl)) (
  tkc (s_ia (at_ dl_X6_joinsBasis 15 (ins := .iaload) rfl)) (
  tkc (s_if_ne (at_ dl_X6_joinsBasis 16 (ins := .ifCond .ne 12) rfl) (by decide)) (
  tkc (s_aload_n (at_ dl_X6_joinsBasis 17 (ins := .aload_n 0) rfl)) (
  tkc (s_gR (at_ dl_X6_joinsBasis 18 (ins := .getfield 15) rfl) (by decide) (by decide) (by decide) (tg 211 (by decide +kernel) (by decide +kernel))) (
  tkc (s_iload_n (at_ dl_X6_joinsBasis 19 (ins := .iload_n 3) rfl)) (
  tkc (s_iload_n (at_ dl_X6_joinsBasis 20 (ins := .iload_n 2) rfl)) (
  tkc (s_ias (at_ dl_X6_joinsBasis 21 (ins := .iastore) rfl)) (
  tkc (s_iconst (at_ dl_X6_joinsBasis 22 (ins := .iconst 1) rfl) (by first | rfl | decide)) (
  tkc (s_rZ (at_ dl_X6_joinsBasis 23 (ins := .ireturn) rfl) rfl) (
  tkc (s_iload_n (at_ dl_X6_joinsBasis 24 (ins := .iload_n 2) rfl)) (
  tkc (s_aload_n (at_ dl_X6_joinsBasis 25 (ins := .aload_n 0) rfl)) (
  tkc (s_gR (at_ dl_X6_joinsBasis 26 (ins := .getfield 15) rfl) (by decide) (by decide) (by decide) (tg 211 (by decide +kernel) (by decide +kernel))) (
  tkc (s_iload_n (at_ dl_X6_joinsBasis 27 (ins := .iload_n 3) rfl)) (
  tkc (s_ia (at_ dl_X6_joinsBasis 28 (ins := .iaload) rfl)) (
  tkc (s_ixor (at_ dl_X6_joinsBasis 29 (ins := .ixor) rfl)) (
  tkc (s_istore_n (at_ dl_X6_joinsBasis 30 (ins := .istore_n 2) rfl) (by decide)) (
  tkc (s_iinc (at_ dl_X6_joinsBasis 31 (ins := .iinc 3 (-1)) rfl) (by decide) (by first | rfl | decide)) (
  tkc (s_goto (at_ dl_X6_joinsBasis 32 (ins := .goto (-42)) rfl) (by decide)) (
  tkc (s_iconst (at_ dl_X6_joinsBasis 33 (ins := .iconst 0) rfl) (by first | rfl | decide)) (
  tkc (s_rZ (at_ dl_X6_joinsBasis 34 (ins := .ireturn) rfl) rfl) ( tk0)))))))))))))))))))))))))))))))))))
theorem lf_X6_joinsBasis : lk (tb_X6_joinsBasis) 0 = (x_il 1 1, false) ∧ lk (tb_X6_joinsBasis) 1 = (x_is 2 2, false) ∧ lk (tb_X6_joinsBasis) 2 = (x_c 4 (.int 8), false) ∧ lk (tb_X6_joinsBasis) 4 = (x_is 5 3, false) ∧ lk (tb_X6_joinsBasis) 5 = (x_il 6 3, true) ∧ lk (tb_X6_joinsBasis) 6 = (x_if 50 9 (fun x : Int32 => x < 0), false) ∧ lk (tb_X6_joinsBasis) 9 = (x_il 10 2, false) ∧ lk (tb_X6_joinsBasis) 10 = (x_il 11 3, false) ∧ lk (tb_X6_joinsBasis) 11 = (x_ii 12 (fun x y : Int32 => x >>> (y &&& 31)), false) ∧ lk (tb_X6_joinsBasis) 12 = (x_c 13 (.int 1), false) ∧ lk (tb_X6_joinsBasis) 13 = (x_ii 14 (fun x y : Int32 => x &&& y), false) ∧ lk (tb_X6_joinsBasis) 14 = (x_if 44 17 (fun x : Int32 => x = 0), false) ∧ lk (tb_X6_joinsBasis) 17 = (x_al 18 0, false) ∧ lk (tb_X6_joinsBasis) 18 = (x_gR 6 1 21, false) ∧ lk (tb_X6_joinsBasis) 21 = (x_il 22 3, false) ∧ lk (tb_X6_joinsBasis) 22 = (x_ia 23, false) ∧ lk (tb_X6_joinsBasis) 23 = (x_ifn 35 26 (fun x : Int32 => x = 0), false) ∧ lk (tb_X6_joinsBasis) 26 = (x_al 27 0, false) ∧ lk (tb_X6_joinsBasis) 27 = (x_gR 6 1 30, false) ∧ lk (tb_X6_joinsBasis) 30 = (x_il 31 3, false) ∧ lk (tb_X6_joinsBasis) 31 = (x_il 32 2, false) ∧ lk (tb_X6_joinsBasis) 32 = (x_ias 33, false) ∧ lk (tb_X6_joinsBasis) 33 = (x_c 34 (.int 1), false) ∧ lk (tb_X6_joinsBasis) 34 = (x_rZ, false) ∧ lk (tb_X6_joinsBasis) 35 = (x_il 36 2, false) ∧ lk (tb_X6_joinsBasis) 36 = (x_al 37 0, false) ∧ lk (tb_X6_joinsBasis) 37 = (x_gR 6 1 40, false) ∧ lk (tb_X6_joinsBasis) 40 = (x_il 41 3, false) ∧ lk (tb_X6_joinsBasis) 41 = (x_ia 42, false) ∧ lk (tb_X6_joinsBasis) 42 = (x_ii 43 (fun x y : Int32 => x ^^^ y), false) ∧ lk (tb_X6_joinsBasis) 43 = (x_is 44 2, false) ∧ lk (tb_X6_joinsBasis) 44 = (x_inc 47 3 (-1), false) ∧ lk (tb_X6_joinsBasis) 47 = (x_go 5, false) ∧ lk (tb_X6_joinsBasis) 50 = (x_c 51 (.int 0), false) ∧ lk (tb_X6_joinsBasis) 51 = (x_rZ, false) := ⟨rfl, rfl, rfl, rfl, rfl, rfl, rfl, rfl, rfl, rfl, rfl, rfl, rfl, rfl, rfl, rfl, rfl, rfl, rfl, rfl, rfl, rfl, rfl, rfl, rfl, rfl, rfl, rfl, rfl, rfl, rfl, rfl, rfl, rfl, rfl⟩
def P_X6_joinsBasis : PTT := fun as M R => match as with
  | [.ref k, .int x] => k = 19 ∧ IsSu M.1 ∧ tn x < 512 ∧ (∀ b, b < 9 → tn (M.2.1 20 b) < 512) ∧ (¬ (ins 9 (fun b => tn (M.2.1 20 b)) (tn x)).1 = true → R (some (.int 0)) M) ∧ ((ins 9 (fun b => tn (M.2.1 20 b)) (tn x)).1 = true → ∀ I', (∀ q, q ≠ 20 → I' q = M.2.1 q) → (∀ b, b < 9 → I' 20 b = nI ((ins 9 (fun b => tn (M.2.1 20 b)) (tn x)).2 b)) → R (some (.int 1)) (M.1, I', M.2.2))
  | _ => False
set_option maxRecDepth 20000 in
theorem ok_X6_joinsBasis : Ok yX6_joinsBasis mt_X6_joinsBasis P_X6_joinsBasis := by
  refine Ok.of (by decide) rfl rfl rfl rfl fun av ⟨S, I, L⟩ R hP => ?_
  unfold P_X6_joinsBasis at hP
  split at hP
  case h_2 => exact hP.elim
  rename_i k x
  obtain ⟨k, rfl⟩ : ∃ q : Nat, q = k := ⟨k, rfl⟩
  refine ⟨by simp [ent, wide, mt_X6_joinsBasis], ?_⟩
  show J mt_X6_joinsBasis R 0 [some (.ref k), some (.int x), none, none] [] (S, I, L)
  try dsimp only at hP
  obtain ⟨rfl, hk, hx, hB, h0, h1⟩ := hP
  obtain ⟨y, hy, rfl⟩ := tn_ex hx
  rw [tn_nI (n := y) (by omega)] at h0 h1
  have key : ∀ d, d ≤ 9 → ∀ z, z < 512 → ins d (fun b => tn (I 20 b)) z = ins 9 (fun b => tn (I 20 b)) y → J mt_X6_joinsBasis R 5 [some (.ref 19), some (.int (nI y)), some (.int (nI z)), some (.int (nI d - 1))] [] (S, I, L) := by
    intro d
    induction d with
    | zero =>
      intro _ z hz he
      have hn : nI 0 - 1 < 0 ↔ True := by decide
      refine J.of tk_X6_joinsBasis 200 fun ρ hρ => ?_
      simp only [hρ, x_c, x_il, x_ll, x_al, x_is, x_as, x_ls, x_inc, x_ii, x_iq, x_i1, x_l2, x_lq, x_lh, x_i2l, x_l2i, x_lcmp, x_dup, x_dup2, x_pop, x_if, x_ifn, x_ic, x_icn, x_go, x_sw, swc, x_l01, x_mx, x_gI, x_gL, x_gR, x_pI, x_pZ, x_pL, x_pR, x_ia, x_za, x_aa, x_ias, x_zas, x_aas, x_fac, x_fa, x_slen, x_sa, x_ac, x_oi, x_new, x_na, x_cS, x_cV, x_cI, x_rI, x_rZ, x_rL, x_r0, pa, short, oc, lg, lset, lset2, wide, cond_true, cond_false, true_and, and_true, ↓reduceIte, Bool.false_eq_true, true_or, or_true, lf_X6_joinsBasis, hn, true_implies, not_true_eq_false, false_implies]
      exact h0 (by rw [← he]; simp [ins])
    | succ d ih =>
      intro hd z hz he
      have hn : nI d < 0 ↔ False := ⟨fun h => nI_pos (by omega) h, False.elim⟩
      have hm : nI d + -1 = nI d - 1 := by rw [Int32.sub_eq_add_neg]
      have hv : vp_in (nI d) 9 := vp_in_nI (by omega) (by omega)
      have hb0 : I 20 d = 0 ↔ tn (I 20 d) = 0 := by
        constructor
        · intro h; rw [h]; rfl
        · intro h; exact tn_inj h
      have hxr : nI z ^^^ I 20 d = nI (z ^^^ tn (I 20 d)) := by rw [← nI_xor, nI_tn]
      refine J.of tk_X6_joinsBasis 200 fun ρ hρ => ?_
      simp only [hρ, x_c, x_il, x_ll, x_al, x_is, x_as, x_ls, x_inc, x_ii, x_iq, x_i1, x_l2, x_lq, x_lh, x_i2l, x_l2i, x_lcmp, x_dup, x_dup2, x_pop, x_if, x_ifn, x_ic, x_icn, x_go, x_sw, swc, x_l01, x_mx, x_gI, x_gL, x_gR, x_pI, x_pZ, x_pL, x_pR, x_ia, x_za, x_aa, x_ias, x_zas, x_aas, x_fac, x_fa, x_slen, x_sa, x_ac, x_oi, x_new, x_na, x_cS, x_cV, x_cI, x_rI, x_rZ, x_rL, x_r0, pa, short, oc, lg, lset, lset2, wide, cond_true, cond_false, true_and, and_true, ↓reduceIte, Bool.false_eq_true, true_or, or_true, lf_X6_joinsBasis, hk.f, nI_pred, hn, hm, hv, hb0, hxr, false_implies, not_false_eq_true, true_implies, bit_c (show z < 2 ^ 31 by omega) (show d < 31 by omega), Classical.not_not, ncl (show d < 2 ^ 31 by omega)]
      refine ⟨fun hb => ih (by omega) z hz (by rw [← he]; simp only [ins]; rw [if_neg hb]), fun hb => ⟨fun hz0 => ?_, fun hz0 => ?_⟩⟩
      · exact ih (by omega) _ (xor512 hz (hB d (by omega))) (by rw [← he]; simp only [ins]; rw [if_pos hb, if_neg hz0])
      · have e : ins 9 (fun b => tn (I 20 b)) y = (true, va_up (fun b => tn (I 20 b)) d z) := by rw [← he]; simp only [ins]; rw [if_pos hb, if_pos hz0]
        refine h1 (by rw [e]) _ (fun q hq => mS_n hq) (fun b hb => ?_)
        rw [e, mS_s, upd_app]
        simp only [va_up]
        split
        · rfl
        · exact (nI_tn _).symm
  refine J.of tk_X6_joinsBasis 200 fun ρ hρ => ?_
  simp only [hρ, x_c, x_il, x_ll, x_al, x_is, x_as, x_ls, x_inc, x_ii, x_iq, x_i1, x_l2, x_lq, x_lh, x_i2l, x_l2i, x_lcmp, x_dup, x_dup2, x_pop, x_if, x_ifn, x_ic, x_icn, x_go, x_sw, swc, x_l01, x_mx, x_gI, x_gL, x_gR, x_pI, x_pZ, x_pL, x_pR, x_ia, x_za, x_aa, x_ias, x_zas, x_aas, x_fac, x_fa, x_slen, x_sa, x_ac, x_oi, x_new, x_na, x_cS, x_cV, x_cI, x_rI, x_rZ, x_rL, x_r0, pa, short, oc, lg, lset, lset2, wide, cond_true, cond_false, true_and, and_true, ↓reduceIte, Bool.false_eq_true, true_or, or_true, lf_X6_joinsBasis]
  exact key 9 (Nat.le_refl 9) y hy rfl
def il_X6_rankOf : List (Nat × Instr × Nat) := [(0, .iconst 0, 1), (1, .istore_n 2, 1), (2, .iload_n 2, 1), (3, .bipush 9, 2), (5, .if_icmp .ge 16, 3), (8, .aload_n 0, 1), (9, .getfield 15, 3), (12, .iload_n 2, 1), (13, .iconst 0, 1), (14, .iastore, 1), (15, .iinc 2 1, 3), (18, .goto (-16), 3), (21, .iconst 0, 1), (22, .istore_n 2, 1), (23, .iconst 0, 1), (24, .istore_n 3, 1), (25, .iload_n 3, 1), (26, .aload_n 0, 1), (27, .getfield 9, 3), (30, .getfield 19, 3), (33, .if_icmp .ge 36, 3), (36, .iload_n 1, 1), (37, .iload_n 3, 1), (38, .ishr, 1), (39, .iconst 1, 1), (40, .iand, 1), (41, .ifCond .eq 22, 3), (44, .aload_n 0, 1), (45, .aload_n 0, 1), (46, .getfield 9, 3), (49, .getfield 25, 3), (52, .iload_n 3, 1), (53, .iaload, 1), (54, .invokevirtual 28, 3), (57, .ifCond .eq 6, 3), (60, .iinc 2 1, 3), (63, .iinc 3 1, 3), (66, .goto (-41), 3), (69, .iload_n 2, 1), (70, .ireturn, 1)]
def mt_X6_rankOf : Mt := (cX6_rankOf, RX6, 4, (some .int), ({ frames := 1, cells := 0, slots := 0, locals := 23 } : Room), false, none, none)
set_option maxRecDepth 100000 in
theorem dl_X6_rankOf : ∀ q ∈ il_X6_rankOf, decode (mt_X6_rankOf).1 q.1 = .ok q.2 := by decide +kernel
def tb_X6_rankOf : Tb := [(0, x_c 1 (.int 0), false),
  (1, x_is 2 2, false),
  (2, x_il 3 2, true),
  (3, x_c 5 (.int 9), false),
  (5, x_ic 21 8 (fun x y : Int32 => y ≤ x), false),
  (8, x_al 9 0, false),
  (9, x_gR 6 1 12, false),
  (12, x_il 13 2, false),
  (13, x_c 14 (.int 0), false),
  (14, x_ias 15, false),
  (15, x_inc 18 2 1, false),
  (18, x_go 2, false),
  (21, x_c 22 (.int 0), false),
  (22, x_is 23 2, false),
  (23, x_c 24 (.int 0), false),
  (24, x_is 25 3, false),
  (25, x_il 26 3, true),
  (26, x_al 27 0, false),
  (27, x_gR 6 0 30, false),
  (30, x_gI 5 5 33, false),
  (33, x_ic 69 36 (fun x y : Int32 => y ≤ x), false),
  (36, x_il 37 1, false),
  (37, x_il 38 3, false),
  (38, x_ii 39 (fun x y : Int32 => x >>> (y &&& 31)), false),
  (39, x_c 40 (.int 1), false),
  (40, x_ii 41 (fun x y : Int32 => x &&& y), false),
  (41, x_if 63 44 (fun x : Int32 => x = 0), false),
  (44, x_al 45 0, false),
  (45, x_al 46 0, false),
  (46, x_gR 6 0 49, false),
  (49, x_gR 5 0 52, false),
  (52, x_il 53 3, false),
  (53, x_ia 54, false),
  (54, x_cV 6 1 P_X6_joinsBasis 57, false),
  (57, x_if 63 60 (fun x : Int32 => x = 0), false),
  (60, x_inc 63 2 1, false),
  (63, x_inc 66 3 1, false),
  (66, x_go 25, false),
  (69, x_il 70 2, false),
  (70, x_rI, false)]
set_option maxRecDepth 100000 in
theorem tk_X6_rankOf : TbOk (mt_X6_rankOf) (tb_X6_rankOf) :=
  tkc (s_iconst (at_ dl_X6_rankOf 0 (ins := .iconst 0) rfl) (by first | rfl | decide)) (
  tkc (s_istore_n (at_ dl_X6_rankOf 1 (ins := .istore_n 2) rfl) (by decide)) (
  tkc (s_iload_n (at_ dl_X6_rankOf 2 (ins := .iload_n 2) rfl)) (
  tkc (s_bipush (at_ dl_X6_rankOf 3 (ins := .bipush 9) rfl) (by first | rfl | decide)) (
  tkc (s_ic_ge (at_ dl_X6_rankOf 4 (ins := .if_icmp .ge 16) rfl) (by decide)) (
  tkc (s_aload_n (at_ dl_X6_rankOf 5 (ins := .aload_n 0) rfl)) (
  tkc (s_gR (at_ dl_X6_rankOf 6 (ins := .getfield 15) rfl) (by decide) (by decide) (by decide) (tg 211 (by decide +kernel) (by decide +kernel))) (
  tkc (s_iload_n (at_ dl_X6_rankOf 7 (ins := .iload_n 2) rfl)) (
  tkc (s_iconst (at_ dl_X6_rankOf 8 (ins := .iconst 0) rfl) (by first | rfl | decide)) (
  tkc (s_ias (at_ dl_X6_rankOf 9 (ins := .iastore) rfl)) (
  tkc (s_iinc (at_ dl_X6_rankOf 10 (ins := .iinc 2 1) rfl) (by decide) (by first | rfl | decide)) (
  tkc (s_goto (at_ dl_X6_rankOf 11 (ins := .goto (-16)) rfl) (by decide)) (
  tkc (s_iconst (at_ dl_X6_rankOf 12 (ins := .iconst 0) rfl) (by first | rfl | decide)) (
  tkc (s_istore_n (at_ dl_X6_rankOf 13 (ins := .istore_n 2) rfl) (by decide)) (
  tkc (s_iconst (at_ dl_X6_rankOf 14 (ins := .iconst 0) rfl) (by first | rfl | decide)) (
  tkc (s_istore_n (at_ dl_X6_rankOf 15 (ins := .istore_n 3) rfl) (by decide)) (
  tkc (s_iload_n (at_ dl_X6_rankOf 16 (ins := .iload_n 3) rfl)) (
  tkc (s_aload_n (at_ dl_X6_rankOf 17 (ins := .aload_n 0) rfl)) (
  tkc (s_gR (at_ dl_X6_rankOf 18 (ins := .getfield 9) rfl) (by decide) (by decide) (by decide) (tg 210 (by decide +kernel) (by decide +kernel))) (
  tkc (s_gI (at_ dl_X6_rankOf 19 (ins := .getfield 19) rfl) (by decide) (by decide) (by decide) (tg 141 (by decide +kernel) (by decide +kernel))) (
  tkc (s_ic_ge (at_ dl_X6_rankOf 20 (ins := .if_icmp .ge 36) rfl) (by decide)) (
  tkc (s_iload_n (at_ dl_X6_rankOf 21 (ins := .iload_n 1) rfl)) (
  tkc (s_iload_n (at_ dl_X6_rankOf 22 (ins := .iload_n 3) rfl)) (
  tkc (s_ishr (at_ dl_X6_rankOf 23 (ins := .ishr) rfl)) (
  tkc (s_iconst (at_ dl_X6_rankOf 24 (ins := .iconst 1) rfl) (by first | rfl | decide)) (
  tkc (s_iand (at_ dl_X6_rankOf 25 (ins := .iand) rfl)) (
  tkc (s_if_eq (at_ dl_X6_rankOf 26 (ins := .ifCond .eq 22) rfl) (by decide)) (
  tkc (s_aload_n (at_ dl_X6_rankOf 27 (ins := .aload_n 0) rfl)) (
  tkc (s_aload_n (at_ dl_X6_rankOf 28 (ins := .aload_n 0) rfl)) (
  tkc (s_gR (at_ dl_X6_rankOf 29 (ins := .getfield 9) rfl) (by decide) (by decide) (by decide) (tg 210 (by decide +kernel) (by decide +kernel))) (
  tkc (s_gR (at_ dl_X6_rankOf 30 (ins := .getfield 25) rfl) (by decide) (by decide) (by decide) (tg 122 (by decide +kernel) (by decide +kernel))) (
  tkc (s_iload_n (at_ dl_X6_rankOf 31 (ins := .iload_n 3) rfl)) (
  tkc (s_ia (at_ dl_X6_rankOf 32 (ins := .iaload) rfl)) (
  tkc (s_cV ok_X6_joinsBasis (at_ dl_X6_rankOf 33 (ins := .invokevirtual 28) rfl) (by decide) rfl (tg 423 (by decide +kernel) (by decide +kernel)) (tg 425 (by decide +kernel) (by decide +kernel)) (tg 7 (by decide +kernel) (by decide +kernel)) (tg 48 (by decide +kernel) (by decide +kernel)) (tg 426 (by decide +kernel) (by decide +kernel)) (⟨by decide, by decide, by decide +kernel⟩) (⟨by decide, by decide⟩) rfl rfl) (
  tkc (s_if_eq (at_ dl_X6_rankOf 34 (ins := .ifCond .eq 6) rfl) (by decide)) (
  tkc (s_iinc (at_ dl_X6_rankOf 35 (ins := .iinc 2 1) rfl) (by decide) (by first | rfl | decide)) (
  tkc (s_iinc (at_ dl_X6_rankOf 36 (ins := .iinc 3 1) rfl) (by decide) (by first | rfl | decide)) (
  tkc (s_goto (at_ dl_X6_rankOf 37 (ins := .goto (-41)) rfl) (by decide)) (
  tkc (s_iload_n (at_ dl_X6_rankOf 38 (ins := .iload_n 2) rfl)) (
  tkc (s_rI (at_ dl_X6_rankOf 39 (ins := .ireturn) rfl) rfl) ( tk0))))))))))))))))))))))))))))))))))))))))
theorem lf_X6_rankOf : lk (tb_X6_rankOf) 0 = (x_c 1 (.int 0), false) ∧ lk (tb_X6_rankOf) 1 = (x_is 2 2, false) ∧ lk (tb_X6_rankOf) 2 = (x_il 3 2, true) ∧ lk (tb_X6_rankOf) 3 = (x_c 5 (.int 9), false) ∧ lk (tb_X6_rankOf) 5 = (x_ic 21 8 (fun x y : Int32 => y ≤ x), false) ∧ lk (tb_X6_rankOf) 8 = (x_al 9 0, false) ∧ lk (tb_X6_rankOf) 9 = (x_gR 6 1 12, false) ∧ lk (tb_X6_rankOf) 12 = (x_il 13 2, false) ∧ lk (tb_X6_rankOf) 13 = (x_c 14 (.int 0), false) ∧ lk (tb_X6_rankOf) 14 = (x_ias 15, false) ∧ lk (tb_X6_rankOf) 15 = (x_inc 18 2 1, false) ∧ lk (tb_X6_rankOf) 18 = (x_go 2, false) ∧ lk (tb_X6_rankOf) 21 = (x_c 22 (.int 0), false) ∧ lk (tb_X6_rankOf) 22 = (x_is 23 2, false) ∧ lk (tb_X6_rankOf) 23 = (x_c 24 (.int 0), false) ∧ lk (tb_X6_rankOf) 24 = (x_is 25 3, false) ∧ lk (tb_X6_rankOf) 25 = (x_il 26 3, true) ∧ lk (tb_X6_rankOf) 26 = (x_al 27 0, false) ∧ lk (tb_X6_rankOf) 27 = (x_gR 6 0 30, false) ∧ lk (tb_X6_rankOf) 30 = (x_gI 5 5 33, false) ∧ lk (tb_X6_rankOf) 33 = (x_ic 69 36 (fun x y : Int32 => y ≤ x), false) ∧ lk (tb_X6_rankOf) 36 = (x_il 37 1, false) ∧ lk (tb_X6_rankOf) 37 = (x_il 38 3, false) ∧ lk (tb_X6_rankOf) 38 = (x_ii 39 (fun x y : Int32 => x >>> (y &&& 31)), false) ∧ lk (tb_X6_rankOf) 39 = (x_c 40 (.int 1), false) ∧ lk (tb_X6_rankOf) 40 = (x_ii 41 (fun x y : Int32 => x &&& y), false) ∧ lk (tb_X6_rankOf) 41 = (x_if 63 44 (fun x : Int32 => x = 0), false) ∧ lk (tb_X6_rankOf) 44 = (x_al 45 0, false) ∧ lk (tb_X6_rankOf) 45 = (x_al 46 0, false) ∧ lk (tb_X6_rankOf) 46 = (x_gR 6 0 49, false) ∧ lk (tb_X6_rankOf) 49 = (x_gR 5 0 52, false) ∧ lk (tb_X6_rankOf) 52 = (x_il 53 3, false) ∧ lk (tb_X6_rankOf) 53 = (x_ia 54, false) ∧ lk (tb_X6_rankOf) 54 = (x_cV 6 1 P_X6_joinsBasis 57, false) ∧ lk (tb_X6_rankOf) 57 = (x_if 63 60 (fun x : Int32 => x = 0), false) ∧ lk (tb_X6_rankOf) 60 = (x_inc 63 2 1, false) ∧ lk (tb_X6_rankOf) 63 = (x_inc 66 3 1, false) ∧ lk (tb_X6_rankOf) 66 = (x_go 25, false) ∧ lk (tb_X6_rankOf) 69 = (x_il 70 2, false) ∧ lk (tb_X6_rankOf) 70 = (x_rI, false) := ⟨rfl, rfl, rfl, rfl, rfl, rfl, rfl, rfl, rfl, rfl, rfl, rfl, rfl, rfl, rfl, rfl, rfl, rfl, rfl, rfl, rfl, rfl, rfl, rfl, rfl, rfl, rfl, rfl, rfl, rfl, rfl, rfl, rfl, rfl, rfl, rfl, rfl, rfl, rfl, rfl⟩
def P_X6_rankOf : PTT := fun as M R => match as with
  | [.ref k, .int s] => k = 19 ∧ IsSu M.1 ∧ IsSt M.1 5 ∧ tn s < 512 ∧ ∃ a, SR M.2.1 5 a ∧ AOk a ∧ ∀ I', (∀ q, q ≠ 20 → I' q = M.2.1 q) → R (some (.int (nI (rkS (aV a) (tn s) (aM a)).1))) (M.1, I', M.2.2)
  | _ => False
theorem zr_in {f : Nat → Int32} {n j : Nat} (h : j < n) : zr f n j = 0 := by simp [zr, h]
set_option maxRecDepth 20000 in
theorem ok_X6_rankOf : Ok yX6_rankOf mt_X6_rankOf P_X6_rankOf := by
  refine Ok.of (by decide) rfl rfl rfl rfl fun av ⟨S, I, L⟩ R hP => ?_
  unfold P_X6_rankOf at hP
  split at hP
  case h_2 => exact hP.elim
  rename_i k s
  obtain ⟨k, rfl⟩ : ∃ q : Nat, q = k := ⟨k, rfl⟩
  refine ⟨by simp [ent, wide, mt_X6_rankOf], ?_⟩
  show J mt_X6_rankOf R 0 [some (.ref k), some (.int s), none, none] [] (S, I, L)
  try dsimp only at hP
  obtain ⟨rfl, hk, h5, hs, a, hsr, ha, hR⟩ := hP
  obtain ⟨y, hy, rfl⟩ := tn_ex hs
  rw [tn_nI (n := y) (by omega)] at hR
  have h9 := ha.1
  have key2 := up (P := fun c => ∀ I', (∀ q, q ≠ 20 → I' q = I q) → (∀ b, b < 9 → I' 20 b = nI ((rkS (aV a) y c).2 b)) → J mt_X6_rankOf R 25 [some (.ref 19), some (.int (nI y)), some (.int (nI (rkS (aV a) y c).1)), some (.int (nI c))] [] (S, I', L)) (n := aM a) (fun c hc ih => ?_) 0 (Nat.zero_le _)
  · -- the first loop
    have key := up (P := fun i => J mt_X6_rankOf R 2 [some (.ref 19), some (.int (nI y)), some (.int (nI i)), none] [] (S, mS I 20 (zr (I 20) i), L)) (n := 9) (fun i hi ih => ?_) 0 (Nat.zero_le _)
    · refine J.of tk_X6_rankOf 200 fun ρ hρ => ?_
      simp only [hρ, x_c, x_il, x_ll, x_al, x_is, x_as, x_ls, x_inc, x_ii, x_iq, x_i1, x_l2, x_lq, x_lh, x_i2l, x_l2i, x_lcmp, x_dup, x_dup2, x_pop, x_if, x_ifn, x_ic, x_icn, x_go, x_sw, swc, x_l01, x_mx, x_gI, x_gL, x_gR, x_pI, x_pZ, x_pL, x_pR, x_ia, x_za, x_aa, x_ias, x_zas, x_aas, x_fac, x_fa, x_slen, x_sa, x_ac, x_oi, x_new, x_na, x_cS, x_cV, x_cI, x_rI, x_rZ, x_rL, x_r0, pa, short, oc, lg, lset, lset2, wide, cond_true, cond_false, true_and, and_true, ↓reduceIte, Bool.false_eq_true, true_or, or_true, lf_X6_rankOf]
      rw [zr_0, mS_id] at key
      exact key
    refine J.of tk_X6_rankOf 200 fun ρ hρ => ?_
    simp only [hρ, x_c, x_il, x_ll, x_al, x_is, x_as, x_ls, x_inc, x_ii, x_iq, x_i1, x_l2, x_lq, x_lh, x_i2l, x_l2i, x_lcmp, x_dup, x_dup2, x_pop, x_if, x_ifn, x_ic, x_icn, x_go, x_sw, swc, x_l01, x_mx, x_gI, x_gL, x_gR, x_pI, x_pZ, x_pL, x_pR, x_ia, x_za, x_aa, x_ias, x_zas, x_aas, x_fac, x_fa, x_slen, x_sa, x_ac, x_oi, x_new, x_na, x_cS, x_cV, x_cI, x_rI, x_rZ, x_rL, x_r0, pa, short, oc, lg, lset, lset2, wide, cond_true, cond_false, true_and, and_true, ↓reduceIte, Bool.false_eq_true, true_or, or_true, lf_X6_rankOf, hk.f, nI9, nI_leI (show 9 < 2 ^ 31 by omega) (show i < 2 ^ 31 by omega), ncl (show i < 2 ^ 31 by omega), nI_1, mS_s, mS_ss, zr_s]
    refine ⟨fun h => ?_, fun h => ⟨vp_in_nI (by omega) (by omega), ih (by omega)⟩⟩
    have : i = 9 := by omega
    subst this
    exact key2 _ (fun q hq => mS_n hq) (fun b hb => by rw [mS_s, zr_in hb]; rfl)
  intro I' hf hb
  have e5 : I' 5 = I 5 := hf 5 (by omega)
  have e6 : I' (5 + 1) = I (5 + 1) := hf 6 (by omega)
  have e6' : I' 6 = I 6 := hf 6 (by omega)
  have em : I 5 5 = nI (aM a) := hsr.2.1
  have hB : ∀ b, b < 9 → tn (I' 20 b) = (rkS (aV a) y c).2 b := fun b h => by
    rw [hb b h]; exact tn_nI (by have := rkS_lt (ov := aV a) (s := y) (c := c) (fun i hi => ha.v (by omega)) b h; omega)
  have hBl : ∀ b, b < 9 → tn (I' 20 b) < 512 := fun b h => by rw [hB b h]; exact rkS_lt (fun i hi => ha.v (by omega)) b h
  by_cases hlt : c < aM a
  · have ov : I 6 c = nI (aV a c) := hsr.2.2.2.2.1 c hlt
    have hvl := ha.v hlt
    have etn : tn (nI (aV a c)) = aV a c := tn_nI (by omega)
    obtain ⟨i1, i2⟩ := ins_congr (x := aV a c) hB (Nat.le_refl 9)
    refine J.of tk_X6_rankOf 200 fun ρ hρ => ?_
    simp only [hρ, x_c, x_il, x_ll, x_al, x_is, x_as, x_ls, x_inc, x_ii, x_iq, x_i1, x_l2, x_lq, x_lh, x_i2l, x_l2i, x_lcmp, x_dup, x_dup2, x_pop, x_if, x_ifn, x_ic, x_icn, x_go, x_sw, swc, x_l01, x_mx, x_gI, x_gL, x_gR, x_pI, x_pZ, x_pL, x_pR, x_ia, x_za, x_aa, x_ias, x_zas, x_aas, x_fac, x_fa, x_slen, x_sa, x_ac, x_oi, x_new, x_na, x_cS, x_cV, x_cI, x_rI, x_rZ, x_rL, x_r0, pa, short, oc, lg, lset, lset2, wide, cond_true, cond_false, true_and, and_true, ↓reduceIte, Bool.false_eq_true, true_or, or_true, lf_X6_rankOf, hk, hk.f, h5, h5.f, e5, e6, e6', Nat.reduceAdd, em, ov, etn, hvl, eq_true hBl, nI_leI (show aM a < 2 ^ 31 by omega) (show c < 2 ^ 31 by omega), ncl (show c < 2 ^ 31 by omega), nI_1, P_X6_joinsBasis, bit_c (show y < 2 ^ 31 by omega) (show c < 31 by omega), Classical.not_not, i1]
    refine ⟨fun h => absurd h (by omega), fun _ => ⟨fun h => ?_, fun h => ⟨vp_in_nI (by omega) (by omega), fun hj => ?_, fun hj I2 hf2 hb2 => ?_⟩⟩⟩
    · have hr : rkS (aV a) y (c + 1) = rkS (aV a) y c := by rw [rkS, if_neg h]
      have := ih hlt I' hf (by rw [hr]; exact hb)
      rw [hr] at this
      exact this
    · have hr : rkS (aV a) y (c + 1) = ((rkS (aV a) y c).1, (ins 9 (rkS (aV a) y c).2 (aV a c)).2) := by rw [rkS, if_pos h, if_neg hj]; rfl
      have := ih hlt I' hf (by rw [hr]; simp only [ins_no hj]; exact hb)
      rw [hr] at this
      exact ⟨fun _ => this, fun h => absurd trivial h⟩
    · have hr : rkS (aV a) y (c + 1) = ((rkS (aV a) y c).1 + 1, (ins 9 (rkS (aV a) y c).2 (aV a c)).2) := by rw [rkS, if_pos h, if_pos hj]
      have := ih hlt I2 (fun q hq => by rw [hf2 q hq]; exact hf q hq) (fun b hb' => by rw [hr, hb2 b hb', i2 b hb'])
      rw [hr] at this
      exact ⟨fun h => absurd h (by decide), fun _ => this⟩
  · have : c = aM a := by omega
    subst this
    refine J.of tk_X6_rankOf 200 fun ρ hρ => ?_
    simp only [hρ, x_c, x_il, x_ll, x_al, x_is, x_as, x_ls, x_inc, x_ii, x_iq, x_i1, x_l2, x_lq, x_lh, x_i2l, x_l2i, x_lcmp, x_dup, x_dup2, x_pop, x_if, x_ifn, x_ic, x_icn, x_go, x_sw, swc, x_l01, x_mx, x_gI, x_gL, x_gR, x_pI, x_pZ, x_pL, x_pR, x_ia, x_za, x_aa, x_ias, x_zas, x_aas, x_fac, x_fa, x_slen, x_sa, x_ac, x_oi, x_new, x_na, x_cS, x_cV, x_cI, x_rI, x_rZ, x_rL, x_r0, pa, short, oc, lg, lset, lset2, wide, cond_true, cond_false, true_and, and_true, ↓reduceIte, Bool.false_eq_true, true_or, or_true, lf_X6_rankOf, hk, hk.f, h5, h5.f, e5, em, nI_leI (show aM a < 2 ^ 31 by omega) (show aM a < 2 ^ 31 by omega), Nat.le_refl, true_implies, not_true_eq_false, false_implies]
    exact hR I' hf

/-- all checks -/
theorem nI_m1 {n : Nat} (h : 0 < n) : nI n - 1 = nI (n - 1) := by
  obtain ⟨k, rfl⟩ : ∃ k, n = k + 1 := ⟨n - 1, by omega⟩
  rw [nI_pred]; rfl
theorem allC {m : Nat} (h : m ≤ 6) : (1 : Int32) <<< (nI m &&& 31) - 1 = nI (2 ^ m - 1) := by
  rw [shl1 (by omega), nI_m1 (Nat.pow_pos (by omega))]
theorem all_bit {m c : Nat} (h : c < m) : (2 ^ m - 1).testBit c = true := by rw [Nat.testBit_two_pow_sub_one]; simpa using h
/-- rank -/
def rkA (a : AS) (s : Nat) : Nat := (rkS (aV a) s (aM a)).1
theorem rkA_all {a : AS} (ha : AOk a) : rkA a 63 = rkA a (2 ^ aM a - 1) := by
  unfold rkA
  rw [rkS_congr (s' := 2 ^ aM a - 1) (fun _ _ => rfl) (fun i hi => ?_)]
  rw [all_bit hi, show (63 : Nat) = 2 ^ 6 - 1 from rfl, all_bit (by have := ha.1; omega)]
def il_X6_howManyWords : List (Nat × Instr × Nat) := [(0, .iconst 1, 1), (1, .aload_n 0, 1), (2, .getfield 9, 3), (5, .getfield 32, 3), (8, .aload_n 0, 1), (9, .aload_n 0, 1), (10, .getfield 9, 3), (13, .invokevirtual 35, 3), (16, .invokevirtual 39, 3), (19, .isub, 1), (20, .ishl, 1), (21, .ireturn, 1)]
def mt_X6_howManyWords : Mt := (cX6_howManyWords, RX6, 1, (some .int), ({ frames := 2, cells := 0, slots := 0, locals := 46 } : Room), false, none, none)
set_option maxRecDepth 100000 in
theorem dl_X6_howManyWords : ∀ q ∈ il_X6_howManyWords, decode (mt_X6_howManyWords).1 q.1 = .ok q.2 := by decide +kernel
def tb_X6_howManyWords : Tb := [(0, x_c 1 (.int 1), false),
  (1, x_al 2 0, false),
  (2, x_gR 6 0 5, false),
  (5, x_gI 5 4 8, false),
  (8, x_al 9 0, false),
  (9, x_al 10 0, false),
  (10, x_gR 6 0 13, false),
  (13, x_cV 5 0 P_X5_allChecks 16, false),
  (16, x_cV 6 1 P_X6_rankOf 19, false),
  (19, x_ii 20 (fun x y : Int32 => x - y), false),
  (20, x_ii 21 (fun x y : Int32 => x <<< (y &&& 31)), false),
  (21, x_rI, false)]
set_option maxRecDepth 100000 in
theorem tk_X6_howManyWords : TbOk (mt_X6_howManyWords) (tb_X6_howManyWords) :=
  tkc (s_iconst (at_ dl_X6_howManyWords 0 (ins := .iconst 1) rfl) (by first | rfl | decide)) (
  tkc (s_aload_n (at_ dl_X6_howManyWords 1 (ins := .aload_n 0) rfl)) (
  tkc (s_gR (at_ dl_X6_howManyWords 2 (ins := .getfield 9) rfl) (by decide) (by decide) (by decide) (tg 210 (by decide +kernel) (by decide +kernel))) (
  tkc (s_gI (at_ dl_X6_howManyWords 3 (ins := .getfield 32) rfl) (by decide) (by decide) (by decide) (tg 136 (by decide +kernel) (by decide +kernel))) (
  tkc (s_aload_n (at_ dl_X6_howManyWords 4 (ins := .aload_n 0) rfl)) (
  tkc (s_aload_n (at_ dl_X6_howManyWords 5 (ins := .aload_n 0) rfl)) (
  tkc (s_gR (at_ dl_X6_howManyWords 6 (ins := .getfield 9) rfl) (by decide) (by decide) (by decide) (tg 210 (by decide +kernel) (by decide +kernel))) (
  tkc (s_cV ok_X5_allChecks (at_ dl_X6_howManyWords 7 (ins := .invokevirtual 35) rfl) (by decide) rfl (tg 431 (by decide +kernel) (by decide +kernel)) (tg 416 (by decide +kernel) (by decide +kernel)) (tg 417 (by decide +kernel) (by decide +kernel)) (tg 45 (by decide +kernel) (by decide +kernel)) (tg 418 (by decide +kernel) (by decide +kernel)) (⟨by decide, by decide, by decide +kernel⟩) (⟨by decide, by decide⟩) rfl rfl) (
  tkc (s_cV ok_X6_rankOf (at_ dl_X6_howManyWords 8 (ins := .invokevirtual 39) rfl) (by decide) rfl (tg 432 (by decide +kernel) (by decide +kernel)) (tg 420 (by decide +kernel) (by decide +kernel)) (tg 421 (by decide +kernel) (by decide +kernel)) (tg 48 (by decide +kernel) (by decide +kernel)) (tg 422 (by decide +kernel) (by decide +kernel)) (⟨by decide, by decide, by decide +kernel⟩) (⟨by decide, by decide⟩) rfl rfl) (
  tkc (s_isub (at_ dl_X6_howManyWords 9 (ins := .isub) rfl)) (
  tkc (s_ishl (at_ dl_X6_howManyWords 10 (ins := .ishl) rfl)) (
  tkc (s_rI (at_ dl_X6_howManyWords 11 (ins := .ireturn) rfl) rfl) ( tk0))))))))))))
theorem lf_X6_howManyWords : lk (tb_X6_howManyWords) 0 = (x_c 1 (.int 1), false) ∧ lk (tb_X6_howManyWords) 1 = (x_al 2 0, false) ∧ lk (tb_X6_howManyWords) 2 = (x_gR 6 0 5, false) ∧ lk (tb_X6_howManyWords) 5 = (x_gI 5 4 8, false) ∧ lk (tb_X6_howManyWords) 8 = (x_al 9 0, false) ∧ lk (tb_X6_howManyWords) 9 = (x_al 10 0, false) ∧ lk (tb_X6_howManyWords) 10 = (x_gR 6 0 13, false) ∧ lk (tb_X6_howManyWords) 13 = (x_cV 5 0 P_X5_allChecks 16, false) ∧ lk (tb_X6_howManyWords) 16 = (x_cV 6 1 P_X6_rankOf 19, false) ∧ lk (tb_X6_howManyWords) 19 = (x_ii 20 (fun x y : Int32 => x - y), false) ∧ lk (tb_X6_howManyWords) 20 = (x_ii 21 (fun x y : Int32 => x <<< (y &&& 31)), false) ∧ lk (tb_X6_howManyWords) 21 = (x_rI, false) := ⟨rfl, rfl, rfl, rfl, rfl, rfl, rfl, rfl, rfl, rfl, rfl, rfl⟩
def P_X6_howManyWords : PTT := fun as M R => match as with
  | [.ref k] => k = 19 ∧ IsSu M.1 ∧ IsSt M.1 5 ∧ ∃ a, SR M.2.1 5 a ∧ AOk a ∧ ∀ I', (∀ q, q ≠ 20 → I' q = M.2.1 q) → R (some (.int ((1 : Int32) <<< ((nI (aN a) - nI (rkA a 63)) &&& 31)))) (M.1, I', M.2.2)
  | _ => False
theorem pow6m {m : Nat} (h : m ≤ 6) : 2 ^ m - 1 < 512 := by have := pow6 h; omega
set_option maxRecDepth 20000 in
theorem ok_X6_howManyWords : Ok yX6_howManyWords mt_X6_howManyWords P_X6_howManyWords := by
  refine Ok.of (by decide) rfl rfl rfl rfl fun av ⟨S, I, L⟩ R hP => ?_
  unfold P_X6_howManyWords at hP
  split at hP
  case h_2 => exact hP.elim
  rename_i k
  obtain ⟨k, rfl⟩ : ∃ q : Nat, q = k := ⟨k, rfl⟩
  refine ⟨by simp [ent, wide, mt_X6_howManyWords], ?_⟩
  show J mt_X6_howManyWords R 0 [some (.ref k)] [] (S, I, L)
  try dsimp only at hP
  obtain ⟨rfl, hk, h5, a, hsr, ha, hR⟩ := hP
  have en : I 5 4 = nI (aN a) := hsr.1
  have em : I 5 5 = nI (aM a) := hsr.2.1
  have hl := pow6m ha.1.2.2
  have ht : tn (nI (2 ^ aM a - 1)) < 512 := by rw [tn_nI (by omega)]; exact hl
  refine J.of tk_X6_howManyWords 200 fun ρ hρ => ?_
  simp only [hρ, x_c, x_il, x_ll, x_al, x_is, x_as, x_ls, x_inc, x_ii, x_iq, x_i1, x_l2, x_lq, x_lh, x_i2l, x_l2i, x_lcmp, x_dup, x_dup2, x_pop, x_if, x_ifn, x_ic, x_icn, x_go, x_sw, swc, x_l01, x_mx, x_gI, x_gL, x_gR, x_pI, x_pZ, x_pL, x_pR, x_ia, x_za, x_aa, x_ias, x_zas, x_aas, x_fac, x_fa, x_slen, x_sa, x_ac, x_oi, x_new, x_na, x_cS, x_cV, x_cI, x_rI, x_rZ, x_rL, x_r0, pa, short, oc, lg, lset, lset2, wide, cond_true, cond_false, true_and, and_true, ↓reduceIte, Bool.false_eq_true, true_or, or_true, lf_X6_howManyWords, hk, hk.f, h5, h5.f, en, em, P_X6_rankOf, P_X5_allChecks, allC ha.1.2.2, ht, true_and]
  refine ⟨a, hsr, ha, fun I' hf => ?_⟩
  rw [tn_nI (by omega)]
  have := hR I' hf
  rw [rkA_all ha] at this
  exact this
