/-! RING -/
theorem and_nz {a b : Nat} : a &&& b ≠ 0 ↔ ∃ x, a.testBit x = true ∧ b.testBit x = true := by
  constructor
  · intro h
    obtain ⟨i, hi⟩ := Nat.exists_testBit_of_ne_zero h
    rw [Nat.testBit_and, Bool.and_eq_true] at hi
    exact ⟨i, hi⟩
  · rintro ⟨x, h1, h2⟩ h
    have : (a &&& b).testBit x = true := by rw [Nat.testBit_and, h1, h2]; rfl
    rw [h] at this
    simp at this
theorem uS_bit {ov : Nat → Nat} {s x : Nat} : ∀ {m : Nat}, (uS ov s m).testBit x = true ↔ ∃ c, c < m ∧ s.testBit c = true ∧ (ov c).testBit x = true
  | 0 => by simp [uS]
  | m + 1 => by
    simp only [uS]
    split
    · next h =>
      rw [Nat.testBit_or, Bool.or_eq_true, uS_bit]
      constructor
      · rintro (⟨c, h1, h2⟩ | h1)
        · exact ⟨c, by omega, h2⟩
        · exact ⟨m, by omega, h, h1⟩
      · rintro ⟨c, h1, h2, h3⟩
        by_cases e : c = m
        · subst e; exact .inr h3
        · exact .inl ⟨c, by omega, h2, h3⟩
    · next h =>
      rw [uS_bit]
      constructor
      · rintro ⟨c, h1, h2⟩
        exact ⟨c, by omega, h2⟩
      · rintro ⟨c, h1, h2, h3⟩
        by_cases e : c = m
        · subst e; exact absurd h2 h
        · exact ⟨c, by omega, h2, h3⟩
theorem oS_bit {ov : Nat → Nat} {t m c : Nat} : (oS ov t m).testBit c = true ↔ c < m ∧ ∃ x, (ov c).testBit x = true ∧ t.testBit x = true := by
  rw [oS, bs_bit, Bool.and_eq_true, decide_eq_true_eq, decide_eq_true_eq, and_nz]
theorem oS_lt {ov : Nat → Nat} {t m : Nat} (h : m ≤ 6) : oS ov t m < 64 := Nat.lt_of_lt_of_le (bs_lt _ _) (pow6 h)
theorem df_t {x y i : Nat} : (df x y).testBit i = true ↔ x.testBit i = true ∧ ¬ y.testBit i = true := by
  rw [df_bit, Bool.and_eq_true, Bool.not_eq_true', Bool.not_eq_true]
/-- bits and checks met, a step more -/
def stW (ov : Nat → Nat) (m : Nat) (p : Nat × Nat) : Nat × Nat := (p.1 ||| uS ov p.2 m, p.2 ||| oS ov (p.1 ||| uS ov p.2 m) m)
def cW (ov : Nat → Nat) (m b : Nat) : Nat → Nat × Nat
  | 0 => (2 ^ b, oS ov (2 ^ b) m)
  | s + 1 => stW ov m (cW ov m b s)
/-- what a search keeps: behind P all bits are met, over B all checks are met -/
def WI (ov : Nat → Nat) (m B C P : Nat) : Prop := (∀ c, c < m → P.testBit c = true → ∀ x, (ov c).testBit x = true → B.testBit x = true) ∧ (∀ c, c < m → ∀ x, (ov c).testBit x = true → B.testBit x = true → C.testBit c = true)
theorem WI.step {ov ov' : Nat → Nat} {m B C P : Nat} (h : WI ov' m B C P) (h1 : ∀ c, c < m → C.testBit c = true → ov' c = ov c) (h2 : ∀ c, c < m → ∀ x, ¬ B.testBit x = true → (ov' c).testBit x = (ov c).testBit x) : B ||| df (uS ov (df C P) m) B = (stW ov' m (B, C)).1 ∧ df (oS ov (df (uS ov (df C P) m) B) m) C = df (stW ov' m (B, C)).2 C ∧ C ||| df (oS ov (df (uS ov (df C P) m) B) m) C = (stW ov' m (B, C)).2 ∧ WI ov' m (stW ov' m (B, C)).1 (stW ov' m (B, C)).2 C := by
  have e1 : B ||| df (uS ov (df C P) m) B = (stW ov' m (B, C)).1 := by
    apply Nat.eq_of_testBit_eq
    intro x
    rw [Bool.eq_iff_iff]
    simp only [stW, Nat.testBit_or, Bool.or_eq_true, df_t, uS_bit]
    constructor
    · rintro (hx | ⟨⟨c, hc, ⟨hC, hP⟩, hx⟩, hB⟩)
      · exact .inl hx
      · exact .inr ⟨c, hc, hC, by rw [h1 c hc hC]; exact hx⟩
    · rintro (hx | ⟨c, hc, hC, hx⟩)
      · exact .inl hx
      · by_cases hB : B.testBit x = true
        · exact .inl hB
        · exact .inr ⟨⟨c, hc, ⟨hC, fun hP => hB (h.1 c hc hP x hx)⟩, by rw [← h1 c hc hC]; exact hx⟩, hB⟩
  have e2 : df (oS ov (df (uS ov (df C P) m) B) m) C = df (stW ov' m (B, C)).2 C := by
    apply Nat.eq_of_testBit_eq
    intro c
    rw [Bool.eq_iff_iff]
    have hB' : ∀ x, (stW ov' m (B, C)).1.testBit x = true ↔ B.testBit x = true ∨ (df (uS ov (df C P) m) B).testBit x = true := fun x => by
      rw [← e1, Nat.testBit_or, Bool.or_eq_true]
    have h22 : (stW ov' m (B, C)).2 = C ||| oS ov' (stW ov' m (B, C)).1 m := rfl
    rw [h22]
    simp only [df_t, Nat.testBit_or, Bool.or_eq_true, oS_bit, hB']
    constructor
    · rintro ⟨⟨hc, x, hx, hx2, hB⟩, hC⟩
      exact ⟨.inr ⟨hc, x, by rw [h2 c hc x hB]; exact hx, .inr ⟨hx2, hB⟩⟩, hC⟩
    · rintro ⟨hC' | ⟨hc, x, hx, hxB | ⟨hx2, hB⟩⟩, hC⟩
      · exact absurd hC' hC
      · exact absurd (h.2 c hc x hx hxB) hC
      · exact ⟨⟨hc, x, by rw [← h2 c hc x hB]; exact hx, hx2, hB⟩, hC⟩
  refine ⟨e1, e2, ?_, ?_, ?_⟩
  · rw [e2]
    apply Nat.eq_of_testBit_eq
    intro c
    rw [Bool.eq_iff_iff, Nat.testBit_or, Bool.or_eq_true, df_t]
    constructor
    · rintro (hc | hc)
      · simp only [stW, Nat.testBit_or, Bool.or_eq_true]; exact .inl hc
      · exact hc.1
    · intro hc
      by_cases hC : C.testBit c = true
      · exact .inl hC
      · exact .inr ⟨hc, hC⟩
  · intro c hc hC x hx
    simp only [stW, Nat.testBit_or, Bool.or_eq_true, uS_bit]
    exact .inr ⟨c, hc, hC, hx⟩
  · intro c hc x hx hB
    have h22 : (stW ov' m (B, C)).2 = C ||| oS ov' (stW ov' m (B, C)).1 m := rfl
    rw [h22, Nat.testBit_or, Bool.or_eq_true, oS_bit]
    exact .inr ⟨hc, x, hx, hB⟩
theorem WI.zero (ov : Nat → Nat) (m b : Nat) : WI ov m (2 ^ b) (oS ov (2 ^ b) m) 0 := by
  refine ⟨fun c _ h => by simp at h, fun c hc x hx hB => ?_⟩
  rw [oS_bit]
  exact ⟨hc, x, hx, hB⟩
theorem cW_b (ov : Nat → Nat) (m b : Nat) : ∀ s, (cW ov m b s).1.testBit b = true
  | 0 => by simp [cW]
  | s + 1 => by
    simp only [cW, stW, Nat.testBit_or, Bool.or_eq_true]
    exact .inl (cW_b ov m b s)
theorem cW_mono (ov : Nat → Nat) (m b c : Nat) (s : Nat) (h : (cW ov m b s).2.testBit c = true) : (cW ov m b (s + 1)).2.testBit c = true := by
  simp only [cW, stW, Nat.testBit_or, Bool.or_eq_true]
  exact .inl h
theorem cW_lt {ov : Nat → Nat} {m b N : Nat} (hm : m ≤ 6) (hb : b < N) (hv : ∀ c, c < m → ov c < 2 ^ N) : ∀ s, (cW ov m b s).1 < 2 ^ N ∧ (cW ov m b s).2 < 64
  | 0 => ⟨Nat.pow_lt_pow_right (by omega) hb, oS_lt hm⟩
  | s + 1 => by
    have := cW_lt hm hb hv s
    exact ⟨Nat.or_lt_two_pow this.1 (uS_lt hv), Nat.or_lt_two_pow (n := 6) this.2 (oS_lt hm)⟩
/-- the step behind which c is met, of the next l steps, as a ring -/
def rgS (f : Nat → Bool) : Nat → Nat → Nat
  | _, 0 => 99
  | s, l + 1 => if f s = true then 2 * (s + 1) else rgS f (s + 1) l
theorem rgS_none {f : Nat → Bool} : ∀ {l s : Nat}, (∀ i, s ≤ i → ¬ f i = true) → rgS f s l = 99
  | 0, _, _ => rfl
  | l + 1, s, h => by rw [rgS, if_neg (h s (Nat.le_refl s)), rgS_none (fun i hi => h i (by omega))]
/-- the sets without one bit of one check -/
def wo (ov : Nat → Nat) (c b : Nat) : Nat → Nat := va_up ov c (df (ov c) (2 ^ b))
def rgA (a : AS) (c b : Nat) : Nat := rgS (fun s => (cW (wo (aV a) c b) (aM a) b s).2.testBit c) 1 6
theorem pow_bit {b x : Nat} : (2 ^ b).testBit x = true ↔ x = b := by
  rw [Nat.testBit_two_pow, decide_eq_true_eq]
  exact ⟨Eq.symm, Eq.symm⟩
theorem wo_s {ov : Nat → Nat} {c b : Nat} : wo ov c b c = df (ov c) (2 ^ b) := by simp [wo, va_up]
theorem wo_n {ov : Nat → Nat} {c b x : Nat} (h : x ≠ c) : wo ov c b x = ov x := by simp [wo, va_up, h]
theorem wo_lt {ov : Nat → Nat} {c b N m : Nat} (hv : ∀ c, c < m → ov c < 2 ^ N) : ∀ x, x < m → wo ov c b x < 2 ^ N := fun x hx => by
  by_cases h : x = c
  · subst h; rw [wo_s]; exact df_lt (hv x hx)
  · rw [wo_n h]; exact hv x hx
theorem co_0 {ov : Nat → Nat} {m b : Nat} : coF ov m b = oS ov (2 ^ b) m := by
  apply Nat.eq_of_testBit_eq
  intro c
  rw [Bool.eq_iff_iff, oS_bit, coF, bs_bit, Bool.and_eq_true, decide_eq_true_eq]
  refine ⟨fun h => ⟨h.1, b, h.2, pow_bit.mpr rfl⟩, ?_⟩
  rintro ⟨h1, x, h2, h3⟩
  rw [pow_bit] at h3
  subst h3
  exact ⟨h1, h2⟩
theorem wo_0 {ov : Nat → Nat} {m b c : Nat} : df (coF ov m b) (2 ^ c) = oS (wo ov c b) (2 ^ b) m := by
  apply Nat.eq_of_testBit_eq
  intro x
  rw [Bool.eq_iff_iff, df_t, co_0, oS_bit, oS_bit, pow_bit]
  constructor
  · rintro ⟨⟨h1, h2⟩, h3⟩
    rw [wo_n h3]
    exact ⟨h1, h2⟩
  · rintro ⟨h1, y, h2, h3⟩
    by_cases h : x = c
    · subst h
      rw [wo_s, df_t, pow_bit] at h2
      rw [pow_bit] at h3
      exact absurd h3 h2.2
    · rw [wo_n h] at h2
      exact ⟨⟨h1, y, h2, h3⟩, h⟩
theorem df_0 {x : Nat} : df x 0 = x := by simp [df]
theorem SR.co {I : MI} {k : Nat} {a : AS} (h : SR I k a) (ho : AOk a) {b : Nat} : coF (ovS I k) (tn (I k 5)) b = coF (aV a) (aM a) b := by
  rw [h.2.1, tn_nI (n := aM a) (by have := ho.1; omega)]
  exact bs_congr (fun c hc => by rw [h.ov ho c hc])
theorem cW_st {ov : Nat → Nat} {m b s : Nat} (h : cW ov m b (s + 1) = cW ov m b s) : ∀ i, cW ov m b (s + i) = cW ov m b s
  | 0 => rfl
  | i + 1 => by
    have := cW_st h i
    show stW ov m (cW ov m b (s + i)) = _
    rw [this]
    exact h
theorem or_z {B x : Nat} : B ||| df 0 x = B := by simp [df]
theorem uS_0 {ov : Nat → Nat} {m : Nat} : uS ov 0 m = 0 := by
  apply Nat.eq_of_testBit_eq
  intro x
  rw [Bool.eq_iff_iff, uS_bit]
  simp
theorem oS_0 {ov : Nat → Nat} {m : Nat} : oS ov 0 m = 0 := by
  apply Nat.eq_of_testBit_eq
  intro x
  rw [Bool.eq_iff_iff, oS_bit]
  simp
theorem df_z {x : Nat} : df 0 x = 0 := by simp [df]
def il_X8_ringOver : List (Nat × Instr × Nat) := [(0, .iconst 1, 1), (1, .iload_n 2, 1), (2, .ishl, 1), (3, .istore_n 3, 1), (4, .aload_n 0, 1), (5, .getfield 9, 3), (8, .iload_n 2, 1), (9, .invokevirtual 32, 3), (12, .iconst 1, 1), (13, .iload_n 1, 1), (14, .ishl, 1), (15, .iconst (-1), 1), (16, .ixor, 1), (17, .iand, 1), (18, .istore 4, 2), (20, .iload 4, 2), (22, .istore 5, 2), (24, .iconst 1, 1), (25, .istore 6, 2), (27, .iload 6, 2), (29, .bipush 6, 2), (31, .if_icmp .gt 67, 3), (34, .iload 4, 2), (36, .ifCond .eq 62, 3), (39, .aload_n 0, 1), (40, .iload 4, 2), (42, .invokevirtual 36, 3), (45, .iload_n 3, 1), (46, .iconst (-1), 1), (47, .ixor, 1), (48, .iand, 1), (49, .istore 7, 2), (51, .iload_n 3, 1), (52, .iload 7, 2), (54, .ior, 1), (55, .istore_n 3, 1), (56, .aload_n 0, 1), (57, .iload 7, 2), (59, .invokevirtual 39, 3), (62, .iload 5, 2), (64, .iconst (-1), 1), (65, .ixor, 1), (66, .iand, 1), (67, .istore 4, 2), (69, .iload 5, 2), (71, .iload 4, 2), (73, .ior, 1), (74, .istore 5, 2), (76, .iload 4, 2), (78, .iload_n 1, 1), (79, .ishr, 1), (80, .iconst 1, 1), (81, .iand, 1), (82, .ifCond .eq 10, 3), (85, .iconst 2, 1), (86, .iload 6, 2), (88, .iconst 1, 1), (89, .iadd, 1), (90, .imul, 1), (91, .ireturn, 1), (92, .iinc 6 1, 3), (95, .goto (-68), 3), (98, .bipush (-9), 2), (100, .ireturn, 1)]
def mt_X8_ringOver : Mt := (cX8_ringOver, RX8, 8, (some .int), ({ frames := 1, cells := 0, slots := 0, locals := 23 } : Room), false, none, none)
set_option maxRecDepth 100000 in
theorem dl_X8_ringOver : ∀ q ∈ il_X8_ringOver, decode (mt_X8_ringOver).1 q.1 = .ok q.2 := by decide +kernel
def tb_X8_ringOver : Tb := [(0, x_c 1 (.int 1), false),
  (1, x_il 2 2, false),
  (2, x_ii 3 (fun x y : Int32 => x <<< (y &&& 31)), false),
  (3, x_is 4 3, false),
  (4, x_al 5 0, false),
  (5, x_gR 8 0 8, false),
  (8, x_il 9 2, false),
  (9, x_cV 5 1 P_X5_checksOver 12, false),
  (12, x_c 13 (.int 1), false),
  (13, x_il 14 1, false),
  (14, x_ii 15 (fun x y : Int32 => x <<< (y &&& 31)), false),
  (15, x_c 16 (.int (-1)), false),
  (16, x_ii 17 (fun x y : Int32 => x ^^^ y), false),
  (17, x_ii 18 (fun x y : Int32 => x &&& y), false),
  (18, x_is 20 4, false),
  (20, x_il 22 4, false),
  (22, x_is 24 5, false),
  (24, x_c 25 (.int 1), false),
  (25, x_is 27 6, false),
  (27, x_il 29 6, true),
  (29, x_c 31 (.int 6), false),
  (31, x_ic 98 34 (fun x y : Int32 => y < x), false),
  (34, x_il 36 4, false),
  (36, x_if 98 39 (fun x : Int32 => x = 0), false),
  (39, x_al 40 0, false),
  (40, x_il 42 4, false),
  (42, x_cV 8 1 P_X8_bitsUnder 45, false),
  (45, x_il 46 3, false),
  (46, x_c 47 (.int (-1)), false),
  (47, x_ii 48 (fun x y : Int32 => x ^^^ y), false),
  (48, x_ii 49 (fun x y : Int32 => x &&& y), false),
  (49, x_is 51 7, false),
  (51, x_il 52 3, false),
  (52, x_il 54 7, false),
  (54, x_ii 55 (fun x y : Int32 => x ||| y), false),
  (55, x_is 56 3, false),
  (56, x_al 57 0, false),
  (57, x_il 59 7, false),
  (59, x_cV 8 1 P_X8_checksOverAny 62, false),
  (62, x_il 64 5, false),
  (64, x_c 65 (.int (-1)), false),
  (65, x_ii 66 (fun x y : Int32 => x ^^^ y), false),
  (66, x_ii 67 (fun x y : Int32 => x &&& y), false),
  (67, x_is 69 4, false),
  (69, x_il 71 5, false),
  (71, x_il 73 4, false),
  (73, x_ii 74 (fun x y : Int32 => x ||| y), false),
  (74, x_is 76 5, false),
  (76, x_il 78 4, false),
  (78, x_il 79 1, false),
  (79, x_ii 80 (fun x y : Int32 => x >>> (y &&& 31)), false),
  (80, x_c 81 (.int 1), false),
  (81, x_ii 82 (fun x y : Int32 => x &&& y), false),
  (82, x_if 92 85 (fun x : Int32 => x = 0), false),
  (85, x_c 86 (.int 2), false),
  (86, x_il 88 6, false),
  (88, x_c 89 (.int 1), false),
  (89, x_ii 90 (fun x y : Int32 => x + y), false),
  (90, x_ii 91 (fun x y : Int32 => x * y), false),
  (91, x_rI, false),
  (92, x_inc 95 6 1, false),
  (95, x_go 27, false),
  (98, x_c 100 (.int (-9)), false),
  (100, x_rI, false)]
set_option maxRecDepth 100000 in
theorem tk_X8_ringOver : TbOk (mt_X8_ringOver) (tb_X8_ringOver) :=
  tkc (s_iconst (at_ dl_X8_ringOver 0 (ins := .iconst 1) rfl) (by first | rfl | decide)) (
  tkc (s_iload_n (at_ dl_X8_ringOver 1 (ins := .iload_n 2) rfl)) (
  tkc (s_ishl (at_ dl_X8_ringOver 2 (ins := .ishl) rfl)) (
  tkc (s_istore_n (at_ dl_X8_ringOver 3 (ins := .istore_n 3) rfl) (by decide)) (
  tkc (s_aload_n (at_ dl_X8_ringOver 4 (ins := .aload_n 0) rfl)) (
  tkc (s_gR (at_ dl_X8_ringOver 5 (ins := .getfield 9) rfl) (by decide) (by decide) (by decide) (tg 200 (by decide +kernel) (by decide +kernel))) (
  tkc (s_iload_n (at_ dl_X8_ringOver 6 (ins := .iload_n 2) rfl)) (
  tkc (s_cV ok_X5_checksOver (at_ dl_X8_ringOver 7 (ins := .invokevirtual 32) rfl) (by decide) rfl (tg 403 (by decide +kernel) (by decide +kernel)) (tg 404 (by decide +kernel) (by decide +kernel)) (tg 405 (by decide +kernel) (by decide +kernel)) (tg 45 (by decide +kernel) (by decide +kernel)) (tg 406 (by decide +kernel) (by decide +kernel)) (⟨by decide, by decide, by decide +kernel⟩) (⟨by decide, by decide⟩) rfl rfl) (
  tkc (s_iconst (at_ dl_X8_ringOver 8 (ins := .iconst 1) rfl) (by first | rfl | decide)) (
  tkc (s_iload_n (at_ dl_X8_ringOver 9 (ins := .iload_n 1) rfl)) (
  tkc (s_ishl (at_ dl_X8_ringOver 10 (ins := .ishl) rfl)) (
  tkc (s_iconst (at_ dl_X8_ringOver 11 (ins := .iconst (-1)) rfl) (by first | rfl | decide)) (
  tkc (s_ixor (at_ dl_X8_ringOver 12 (ins := .ixor) rfl)) (
  tkc (s_iand (at_ dl_X8_ringOver 13 (ins := .iand) rfl)) (
  tkc (s_istore (at_ dl_X8_ringOver 14 (ins := .istore 4) rfl) (by decide)) (
  tkc (s_iload (at_ dl_X8_ringOver 15 (ins := .iload 4) rfl)) (
  tkc (s_istore (at_ dl_X8_ringOver 16 (ins := .istore 5) rfl) (by decide)) (
  tkc (s_iconst (at_ dl_X8_ringOver 17 (ins := .iconst 1) rfl) (by first | rfl | decide)) (
  tkc (s_istore (at_ dl_X8_ringOver 18 (ins := .istore 6) rfl) (by decide)) (
  tkc (s_iload (at_ dl_X8_ringOver 19 (ins := .iload 6) rfl)) (
  tkc (s_bipush (at_ dl_X8_ringOver 20 (ins := .bipush 6) rfl) (by first | rfl | decide)) (
  tkc (s_ic_gt (at_ dl_X8_ringOver 21 (ins := .if_icmp .gt 67) rfl) (by decide)) (
  tkc (s_iload (at_ dl_X8_ringOver 22 (ins := .iload 4) rfl)) (
  tkc (s_if_eq (at_ dl_X8_ringOver 23 (ins := .ifCond .eq 62) rfl) (by decide)) (
  tkc (s_aload_n (at_ dl_X8_ringOver 24 (ins := .aload_n 0) rfl)) (
  tkc (s_iload (at_ dl_X8_ringOver 25 (ins := .iload 4) rfl)) (
  tkc (s_cV ok_X8_bitsUnder (at_ dl_X8_ringOver 26 (ins := .invokevirtual 36) rfl) (by decide) rfl (tg 407 (by decide +kernel) (by decide +kernel)) (tg 409 (by decide +kernel) (by decide +kernel)) (tg 5 (by decide +kernel) (by decide +kernel)) (tg 47 (by decide +kernel) (by decide +kernel)) (tg 410 (by decide +kernel) (by decide +kernel)) (⟨by decide, by decide, by decide +kernel⟩) (⟨by decide, by decide⟩) rfl rfl) (
  tkc (s_iload_n (at_ dl_X8_ringOver 27 (ins := .iload_n 3) rfl)) (
  tkc (s_iconst (at_ dl_X8_ringOver 28 (ins := .iconst (-1)) rfl) (by first | rfl | decide)) (
  tkc (s_ixor (at_ dl_X8_ringOver 29 (ins := .ixor) rfl)) (
  tkc (s_iand (at_ dl_X8_ringOver 30 (ins := .iand) rfl)) (
  tkc (s_istore (at_ dl_X8_ringOver 31 (ins := .istore 7) rfl) (by decide)) (
  tkc (s_iload_n (at_ dl_X8_ringOver 32 (ins := .iload_n 3) rfl)) (
  tkc (s_iload (at_ dl_X8_ringOver 33 (ins := .iload 7) rfl)) (
  tkc (s_ior (at_ dl_X8_ringOver 34 (ins := .ior) rfl)) (
  tkc (s_istore_n (at_ dl_X8_ringOver 35 (ins := .istore_n 3) rfl) (by decide)) (
  tkc (s_aload_n (at_ dl_X8_ringOver 36 (ins := .aload_n 0) rfl)) (
  tkc (s_iload (at_ dl_X8_ringOver 37 (ins := .iload 7) rfl)) (
  tkc (s_cV ok_X8_checksOverAny (at_ dl_X8_ringOver 38 (ins := .invokevirtual 39) rfl) (by decide) rfl (tg 411 (by decide +kernel) (by decide +kernel)) (tg 413 (by decide +kernel) (by decide +kernel)) (tg 6 (by decide +kernel) (by decide +kernel)) (tg 47 (by decide +kernel) (by decide +kernel)) (tg 414 (by decide +kernel) (by decide +kernel)) (⟨by decide, by decide, by decide +kernel⟩) (⟨by decide, by decide⟩) rfl rfl) (
  tkc (s_iload (at_ dl_X8_ringOver 39 (ins := .iload 5) rfl)) (
  tkc (s_iconst (at_ dl_X8_ringOver 40 (ins := .iconst (-1)) rfl) (by first | rfl | decide)) (
  tkc (s_ixor (at_ dl_X8_ringOver 41 (ins := .ixor) rfl)) (
  tkc (s_iand (at_ dl_X8_ringOver 42 (ins := .iand) rfl)) (
  tkc (s_istore (at_ dl_X8_ringOver 43 (ins := .istore 4) rfl) (by decide)) (
  tkc (s_iload (at_ dl_X8_ringOver 44 (ins := .iload 5) rfl)) (
  tkc (s_iload (at_ dl_X8_ringOver 45 (ins := .iload 4) rfl)) (
  tkc (s_ior (at_ dl_X8_ringOver 46 (ins := .ior) rfl)) (
  tkc (s_istore (at_ dl_X8_ringOver 47 (ins := .istore 5) rfl) (by decide)) (
  tkc (s_iload (at_ dl_X8_ringOver 48 (ins := .iload 4) rfl)) (
  tkc (s_iload_n (at_ dl_X8_ringOver 49 (ins := .iload_n 1) rfl)) (
  tkc (s_ishr (at_ dl_X8_ringOver 50 (ins := .ishr) rfl)) (
  tkc (s_iconst (at_ dl_X8_ringOver 51 (ins := .iconst 1) rfl) (by first | rfl | decide)) (
  tkc (s_iand (at_ dl_X8_ringOver 52 (ins := .iand) rfl)) (
  tkc (s_if_eq (at_ dl_X8_ringOver 53 (ins := .ifCond .eq 10) rfl) (by decide)) (
  tkc (s_iconst (at_ dl_X8_ringOver 54 (ins := .iconst 2) rfl) (by first | rfl | decide)) (
  tkc (s_iload (at_ dl_X8_ringOver 55 (ins := .iload 6) rfl)) (
  tkc (s_iconst (at_ dl_X8_ringOver 56 (ins := .iconst 1) rfl) (by first | rfl | decide)) (
  tkc (s_iadd (at_ dl_X8_ringOver 57 (ins := .iadd) rfl)) (
  tkc (s_imul (at_ dl_X8_ringOver 58 (ins := .imul) rfl)) (
  tkc (s_rI (at_ dl_X8_ringOver 59 (ins := .ireturn) rfl) rfl) (
  tkc (s_iinc (at_ dl_X8_ringOver 60 (ins := .iinc 6 1) rfl) (by decide) (by first | rfl | decide)) (
  tkc (s_goto (at_ dl_X8_ringOver 61 (ins := .goto (-68)) rfl) (by decide)) (
  tkc (s_bipush (at_ dl_X8_ringOver 62 (ins := .bipush (-9)) rfl) (by first | rfl | decide)) (
  tkc (s_rI (at_ dl_X8_ringOver 63 (ins := .ireturn) rfl) rfl) ( tk0))))))))))))))))))))))))))))))))))))))))))))))))))))))))))))))))
theorem lf_X8_ringOver : lk (tb_X8_ringOver) 0 = (x_c 1 (.int 1), false) ∧ lk (tb_X8_ringOver) 1 = (x_il 2 2, false) ∧ lk (tb_X8_ringOver) 2 = (x_ii 3 (fun x y : Int32 => x <<< (y &&& 31)), false) ∧ lk (tb_X8_ringOver) 3 = (x_is 4 3, false) ∧ lk (tb_X8_ringOver) 4 = (x_al 5 0, false) ∧ lk (tb_X8_ringOver) 5 = (x_gR 8 0 8, false) ∧ lk (tb_X8_ringOver) 8 = (x_il 9 2, false) ∧ lk (tb_X8_ringOver) 9 = (x_cV 5 1 P_X5_checksOver 12, false) ∧ lk (tb_X8_ringOver) 12 = (x_c 13 (.int 1), false) ∧ lk (tb_X8_ringOver) 13 = (x_il 14 1, false) ∧ lk (tb_X8_ringOver) 14 = (x_ii 15 (fun x y : Int32 => x <<< (y &&& 31)), false) ∧ lk (tb_X8_ringOver) 15 = (x_c 16 (.int (-1)), false) ∧ lk (tb_X8_ringOver) 16 = (x_ii 17 (fun x y : Int32 => x ^^^ y), false) ∧ lk (tb_X8_ringOver) 17 = (x_ii 18 (fun x y : Int32 => x &&& y), false) ∧ lk (tb_X8_ringOver) 18 = (x_is 20 4, false) ∧ lk (tb_X8_ringOver) 20 = (x_il 22 4, false) ∧ lk (tb_X8_ringOver) 22 = (x_is 24 5, false) ∧ lk (tb_X8_ringOver) 24 = (x_c 25 (.int 1), false) ∧ lk (tb_X8_ringOver) 25 = (x_is 27 6, false) ∧ lk (tb_X8_ringOver) 27 = (x_il 29 6, true) ∧ lk (tb_X8_ringOver) 29 = (x_c 31 (.int 6), false) ∧ lk (tb_X8_ringOver) 31 = (x_ic 98 34 (fun x y : Int32 => y < x), false) ∧ lk (tb_X8_ringOver) 34 = (x_il 36 4, false) ∧ lk (tb_X8_ringOver) 36 = (x_if 98 39 (fun x : Int32 => x = 0), false) ∧ lk (tb_X8_ringOver) 39 = (x_al 40 0, false) ∧ lk (tb_X8_ringOver) 40 = (x_il 42 4, false) ∧ lk (tb_X8_ringOver) 42 = (x_cV 8 1 P_X8_bitsUnder 45, false) ∧ lk (tb_X8_ringOver) 45 = (x_il 46 3, false) ∧ lk (tb_X8_ringOver) 46 = (x_c 47 (.int (-1)), false) ∧ lk (tb_X8_ringOver) 47 = (x_ii 48 (fun x y : Int32 => x ^^^ y), false) ∧ lk (tb_X8_ringOver) 48 = (x_ii 49 (fun x y : Int32 => x &&& y), false) ∧ lk (tb_X8_ringOver) 49 = (x_is 51 7, false) ∧ lk (tb_X8_ringOver) 51 = (x_il 52 3, false) ∧ lk (tb_X8_ringOver) 52 = (x_il 54 7, false) ∧ lk (tb_X8_ringOver) 54 = (x_ii 55 (fun x y : Int32 => x ||| y), false) ∧ lk (tb_X8_ringOver) 55 = (x_is 56 3, false) ∧ lk (tb_X8_ringOver) 56 = (x_al 57 0, false) ∧ lk (tb_X8_ringOver) 57 = (x_il 59 7, false) ∧ lk (tb_X8_ringOver) 59 = (x_cV 8 1 P_X8_checksOverAny 62, false) ∧ lk (tb_X8_ringOver) 62 = (x_il 64 5, false) ∧ lk (tb_X8_ringOver) 64 = (x_c 65 (.int (-1)), false) ∧ lk (tb_X8_ringOver) 65 = (x_ii 66 (fun x y : Int32 => x ^^^ y), false) ∧ lk (tb_X8_ringOver) 66 = (x_ii 67 (fun x y : Int32 => x &&& y), false) ∧ lk (tb_X8_ringOver) 67 = (x_is 69 4, false) ∧ lk (tb_X8_ringOver) 69 = (x_il 71 5, false) ∧ lk (tb_X8_ringOver) 71 = (x_il 73 4, false) ∧ lk (tb_X8_ringOver) 73 = (x_ii 74 (fun x y : Int32 => x ||| y), false) ∧ lk (tb_X8_ringOver) 74 = (x_is 76 5, false) ∧ lk (tb_X8_ringOver) 76 = (x_il 78 4, false) ∧ lk (tb_X8_ringOver) 78 = (x_il 79 1, false) ∧ lk (tb_X8_ringOver) 79 = (x_ii 80 (fun x y : Int32 => x >>> (y &&& 31)), false) ∧ lk (tb_X8_ringOver) 80 = (x_c 81 (.int 1), false) ∧ lk (tb_X8_ringOver) 81 = (x_ii 82 (fun x y : Int32 => x &&& y), false) ∧ lk (tb_X8_ringOver) 82 = (x_if 92 85 (fun x : Int32 => x = 0), false) ∧ lk (tb_X8_ringOver) 85 = (x_c 86 (.int 2), false) ∧ lk (tb_X8_ringOver) 86 = (x_il 88 6, false) ∧ lk (tb_X8_ringOver) 88 = (x_c 89 (.int 1), false) ∧ lk (tb_X8_ringOver) 89 = (x_ii 90 (fun x y : Int32 => x + y), false) ∧ lk (tb_X8_ringOver) 90 = (x_ii 91 (fun x y : Int32 => x * y), false) ∧ lk (tb_X8_ringOver) 91 = (x_rI, false) ∧ lk (tb_X8_ringOver) 92 = (x_inc 95 6 1, false) ∧ lk (tb_X8_ringOver) 95 = (x_go 27, false) ∧ lk (tb_X8_ringOver) 98 = (x_c 100 (.int (-9)), false) ∧ lk (tb_X8_ringOver) 100 = (x_rI, false) := ⟨rfl, rfl, rfl, rfl, rfl, rfl, rfl, rfl, rfl, rfl, rfl, rfl, rfl, rfl, rfl, rfl, rfl, rfl, rfl, rfl, rfl, rfl, rfl, rfl, rfl, rfl, rfl, rfl, rfl, rfl, rfl, rfl, rfl, rfl, rfl, rfl, rfl, rfl, rfl, rfl, rfl, rfl, rfl, rfl, rfl, rfl, rfl, rfl, rfl, rfl, rfl, rfl, rfl, rfl, rfl, rfl, rfl, rfl, rfl, rfl, rfl, rfl, rfl, rfl⟩
def P_X8_ringOver : PTT := fun as M R => match as with
  | [.ref k, .int c, .int b] => k = 18 ∧ IsWa M.1 ∧ IsSt M.1 5 ∧ ∃ a, SR M.2.1 5 a ∧ AOk a ∧ tn c < aM a ∧ tn b < aN a ∧ R (some (.int (nn (rgA a (tn c) (tn b))))) M
  | _ => False
set_option maxRecDepth 20000 in
theorem ok_X8_ringOver : Ok yX8_ringOver mt_X8_ringOver P_X8_ringOver := by
  refine Ok.of (by decide) rfl rfl rfl rfl fun av ⟨S, I, L⟩ R hP => ?_
  unfold P_X8_ringOver at hP
  split at hP
  case h_2 => exact hP.elim
  rename_i k c b
  obtain ⟨k, rfl⟩ : ∃ q : Nat, q = k := ⟨k, rfl⟩
  refine ⟨by simp [ent, wide, mt_X8_ringOver], ?_⟩
  show J mt_X8_ringOver R 0 [some (.ref k), some (.int c), some (.int b), none, none, none, none, none] [] (S, I, L)
  try dsimp only at hP
  obtain ⟨rfl, hk, h5, a, hsr, ha, hc, hb, hR⟩ := hP
  have h9 := ha.1
  obtain ⟨i, hi, rfl⟩ := tn_ex (Nat.lt_trans hc (show aM a < 512 by omega))
  obtain ⟨j, hj, rfl⟩ := tn_ex (Nat.lt_trans hb (show aN a < 512 by omega))
  rw [tn_nI (n := i) (by omega)] at hR hc
  rw [tn_nI (n := j) (by omega)] at hR hb
  have hp9 := pow9 h9.2.1
  have hp6 := pow6 h9.2.2
  have hV := wo_lt (c := i) (b := j) ha.2.1
  have hW := cW_lt (ov := wo (aV a) i j) h9.2.2 hb hV
  have key : ∀ l s P, l + s = 6 → WI (wo (aV a) i j) (aM a) (cW (wo (aV a) i j) (aM a) j s).1 (cW (wo (aV a) i j) (aM a) j s).2 P → ¬ (cW (wo (aV a) i j) (aM a) j s).2.testBit i = true → rgS (fun s => (cW (wo (aV a) i j) (aM a) j s).2.testBit i) (s + 1) l = rgA a i j → J mt_X8_ringOver R 27 [some (.ref 18), some (.int (nI i)), some (.int (nI j)), some (.int (nI (cW (wo (aV a) i j) (aM a) j s).1)), some (.int (nI (df (cW (wo (aV a) i j) (aM a) j s).2 P))), some (.int (nI (cW (wo (aV a) i j) (aM a) j s).2)), some (.int (nI (s + 1))), none] [] (S, I, L) := by
    intro l
    induction l with
    | zero =>
      intro s P hl hI hn hr
      have : s = 6 := by omega
      subst this
      have e6 : (6 : Int32) < nI (6 + 1) ↔ True := by decide
      rw [← hr] at hR
      refine J.of tk_X8_ringOver 200 fun ρ hρ => ?_
      simp only [hρ, x_c, x_il, x_ll, x_al, x_is, x_as, x_ls, x_inc, x_ii, x_iq, x_i1, x_l2, x_lq, x_lh, x_i2l, x_l2i, x_lcmp, x_dup, x_dup2, x_pop, x_if, x_ifn, x_ic, x_icn, x_go, x_sw, swc, x_l01, x_mx, x_gI, x_gL, x_gR, x_pI, x_pZ, x_pL, x_pR, x_ia, x_za, x_aa, x_ias, x_zas, x_aas, x_fac, x_fa, x_slen, x_sa, x_ac, x_oi, x_new, x_na, x_cS, x_cV, x_cI, x_rI, x_rZ, x_rL, x_r0, pa, short, oc, lg, lset, lset2, wide, cond_true, cond_false, true_and, and_true, ↓reduceIte, Bool.false_eq_true, true_or, or_true, lf_X8_ringOver, hk, hk.f, h5, h5.f, e6, true_implies, not_true_eq_false, false_implies]
      exact hR
    | succ l ih =>
      intro s P hl hI hn hr
      obtain ⟨w1, w2⟩ := hW s
      have hst := hI.step (ov := aV a) (fun c hc hC => wo_n (fun q => hn (q ▸ hC))) (fun c hc x hx => by
        by_cases q : c = i
        · subst q
          rw [wo_s, df_bit]
          have : ¬ (2 ^ j).testBit x = true := fun q => hx (by rw [pow_bit] at q; subst q; exact cW_b _ _ _ _)
          rw [Bool.not_eq_true] at this
          rw [this]; simp
        · rw [wo_n q])
      obtain ⟨e1, e2, e3, e4⟩ := hst
      have hD : df (cW (wo (aV a) i j) (aM a) j s).2 P < 64 := df_lt (N := 6) w2
      have hu : uS (aV a) (df (cW (wo (aV a) i j) (aM a) j s).2 P) (aM a) < 2 ^ aN a := uS_lt ha.2.1
      have hbn : df (uS (aV a) (df (cW (wo (aV a) i j) (aM a) j s).2 P) (aM a)) (cW (wo (aV a) i j) (aM a) j s).1 < 2 ^ aN a := df_lt hu
      obtain ⟨v1, v2⟩ := hW (s + 1)
      have e6 : (6 : Int32) < nI (s + 1) ↔ False := by
        rw [show (6 : Int32) = nI 6 by decide, nI_ltI (by omega) (by omega)]
        exact ⟨fun h => by omega, False.elim⟩
      have t1 : tn (nI (df (cW (wo (aV a) i j) (aM a) j s).2 P)) = df (cW (wo (aV a) i j) (aM a) j s).2 P := tn_nI (by omega)
      have t2 : tn (nI (df (uS (aV a) (df (cW (wo (aV a) i j) (aM a) j s).2 P) (aM a)) (cW (wo (aV a) i j) (aM a) j s).1)) = df (uS (aV a) (df (cW (wo (aV a) i j) (aM a) j s).2 P) (aM a)) (cW (wo (aV a) i j) (aM a) j s).1 := tn_nI (by omega)
      refine J.of tk_X8_ringOver 200 fun ρ hρ => ?_
      simp only [hρ, x_c, x_il, x_ll, x_al, x_is, x_as, x_ls, x_inc, x_ii, x_iq, x_i1, x_l2, x_lq, x_lh, x_i2l, x_l2i, x_lcmp, x_dup, x_dup2, x_pop, x_if, x_ifn, x_ic, x_icn, x_go, x_sw, swc, x_l01, x_mx, x_gI, x_gL, x_gR, x_pI, x_pZ, x_pL, x_pR, x_ia, x_za, x_aa, x_ias, x_zas, x_aas, x_fac, x_fa, x_slen, x_sa, x_ac, x_oi, x_new, x_na, x_cS, x_cV, x_cI, x_rI, x_rZ, x_rL, x_r0, pa, short, oc, lg, lset, lset2, wide, cond_true, cond_false, true_and, and_true, ↓reduceIte, Bool.false_eq_true, true_or, or_true, lf_X8_ringOver, hk, hk.f, h5, h5.f, e6, false_implies, not_false_eq_true, true_implies, P_X8_bitsUnder, P_X8_checksOverAny, t1, t2, nI_z (show df (cW (wo (aV a) i j) (aM a) j s).2 P < 2 ^ 31 by omega), nI_df, eq_true (show df (cW (wo (aV a) i j) (aM a) j s).2 P < 512 by omega)]
      refine ⟨fun h0 => ?_, fun h0 => ⟨a, hsr, ha, by rw [t2]; omega, a, hsr, ha, ?_⟩⟩
      · -- nothing new
        have est : cW (wo (aV a) i j) (aM a) j (s + 1) = cW (wo (aV a) i j) (aM a) j s := by
          rw [h0, uS_0, or_z] at e1
          rw [h0, uS_0, df_z, oS_0, or_z] at e3
          exact Prod.ext e1.symm e3.symm
        have hno := rgS_none (f := fun s => (cW (wo (aV a) i j) (aM a) j s).2.testBit i) (s := s + 1) (l := l + 1) (fun q hq => by
          obtain ⟨d, rfl⟩ : ∃ d, q = s + d := ⟨q - s, by omega⟩
          show ¬ (cW (wo (aV a) i j) (aM a) j (s + d)).2.testBit i = true
          rw [cW_st est]
          exact hn)
        rw [hno] at hr
        rw [← hr] at hR
        exact hR
      · have g1 : (cW (wo (aV a) i j) (aM a) j (s + 1)).1 = (stW (wo (aV a) i j) (aM a) ((cW (wo (aV a) i j) (aM a) j s).1, (cW (wo (aV a) i j) (aM a) j s).2)).1 := rfl
        have g2 : (cW (wo (aV a) i j) (aM a) j (s + 1)).2 = (stW (wo (aV a) i j) (aM a) ((cW (wo (aV a) i j) (aM a) j s).1, (cW (wo (aV a) i j) (aM a) j s).2)).2 := rfl
        rw [← g1] at e1 e4
        rw [← g2] at e2 e3 e4
        rw [t2, nI_or, nI_or, e1, e3, e2, nI_1, bit_c (show df (cW (wo (aV a) i j) (aM a) j (s + 1)).2 (cW (wo (aV a) i j) (aM a) j s).2 < 2 ^ 31 by have := df_lt (N := 6) (y := (cW (wo (aV a) i j) (aM a) j s).2) v2; omega) (show i < 31 by omega)]
        have hiff : (df (cW (wo (aV a) i j) (aM a) j (s + 1)).2 (cW (wo (aV a) i j) (aM a) j s).2).testBit i = true ↔ (cW (wo (aV a) i j) (aM a) j (s + 1)).2.testBit i = true := by
          rw [df_t]
          exact ⟨fun h => h.1, fun h => ⟨h, hn⟩⟩
        rw [hiff, Classical.not_not]
        refine ⟨fun h => ?_, fun h => ?_⟩
        · rw [rgS, if_neg h] at hr
          exact J.weak (by simp [lsub]) (ih (s + 1) _ (by omega) e4 h hr)
        · rw [rgS, if_pos h] at hr
          rw [← hr, nn, if_neg (by omega)] at hR
          rw [show (2 : Int32) = nI 2 by decide, pk_mul]
          exact hR
  refine J.of tk_X8_ringOver 200 fun ρ hρ => ?_
  simp only [hρ, x_c, x_il, x_ll, x_al, x_is, x_as, x_ls, x_inc, x_ii, x_iq, x_i1, x_l2, x_lq, x_lh, x_i2l, x_l2i, x_lcmp, x_dup, x_dup2, x_pop, x_if, x_ifn, x_ic, x_icn, x_go, x_sw, swc, x_l01, x_mx, x_gI, x_gL, x_gR, x_pI, x_pZ, x_pL, x_pR, x_ia, x_za, x_aa, x_ias, x_zas, x_aas, x_fac, x_fa, x_slen, x_sa, x_ac, x_oi, x_new, x_na, x_cS, x_cV, x_cI, x_rI, x_rZ, x_rL, x_r0, pa, short, oc, lg, lset, lset2, wide, cond_true, cond_false, true_and, and_true, ↓reduceIte, Bool.false_eq_true, true_or, or_true, lf_X8_ringOver, hk, hk.f, h5, h5.f, P_X5_checksOver, eq_true (hsr.ovq ha)]
  refine ⟨⟨j, by omega, rfl⟩, ?_⟩
  rw [tn_nI (n := j) (by omega), hsr.co ha, shl1 (by omega), shl1 (by omega), nI_df, wo_0]
  have := key 6 0 0 rfl (WI.zero _ _ _) (fun h => ?_) rfl
  · rw [df_0] at this
    exact this
  · rw [cW, oS_bit, wo_s] at h
    obtain ⟨-, x, h1, h2⟩ := h
    rw [df_t] at h1
    exact h1.2 h2
/-- the shortest ring yet: c checks are through, and b bits of the next -/
def mnR (x y : Nat) : Nat := if y < x then y else x
def rbA (a : AS) (c : Nat) : Nat → Nat → Nat
  | 0, x => x
  | b + 1, x => mnR (rbA a c b x) (if (aV a c).testBit b = true then rgA a c b else 99)
def rcA (a : AS) : Nat → Nat
  | 0 => 99
  | c + 1 => rbA a c (aN a) (rcA a c)
theorem rgS_le (f : Nat → Bool) : ∀ {l s : Nat}, s + l ≤ 7 → rgS f s l ≤ 14 ∨ rgS f s l = 99
  | 0, _, _ => .inr rfl
  | l + 1, s, h => by
    simp only [rgS]
    split
    · exact .inl (by omega)
    · exact rgS_le f (by omega)
theorem rgA_le (a : AS) (c b : Nat) : rgA a c b ≤ 14 ∨ rgA a c b = 99 := rgS_le _ (by omega)
theorem rbA_le (a : AS) (c : Nat) : ∀ {b x : Nat}, (x ≤ 14 ∨ x = 99) → rbA a c b x ≤ 14 ∨ rbA a c b x = 99
  | 0, x, h => h
  | b + 1, x, h => by
    have h1 := rbA_le a c (b := b) h
    have h2 := rgA_le a c b
    simp only [rbA, mnR]
    split <;> split <;> omega
theorem rcA_le (a : AS) : ∀ c, rcA a c ≤ 14 ∨ rcA a c = 99
  | 0 => .inr rfl
  | c + 1 => rbA_le a c (rcA_le a c)
def il_X8_ring : List (Nat × Instr × Nat) := [(0, .bipush (-9), 2), (2, .istore_n 1, 1), (3, .iconst 0, 1), (4, .istore_n 2, 1), (5, .iload_n 2, 1), (6, .aload_n 0, 1), (7, .getfield 9, 3), (10, .getfield 15, 3), (13, .if_icmp .ge 75, 3), (16, .iconst 0, 1), (17, .istore_n 3, 1), (18, .iload_n 3, 1), (19, .aload_n 0, 1), (20, .getfield 9, 3), (23, .getfield 21, 3), (26, .if_icmp .ge 56, 3), (29, .aload_n 0, 1), (30, .getfield 9, 3), (33, .iload_n 2, 1), (34, .iload_n 3, 1), (35, .invokevirtual 24, 3), (38, .ifCond .eq 12, 3), (41, .aload_n 0, 1), (42, .iload_n 2, 1), (43, .iload_n 3, 1), (44, .invokevirtual 28, 3), (47, .goto 5, 3), (50, .bipush (-9), 2), (52, .istore 4, 2), (54, .iload 4, 2), (56, .bipush (-9), 2), (58, .if_icmp .eq 18, 3), (61, .iload_n 1, 1), (62, .bipush (-9), 2), (64, .if_icmp .eq 9, 3), (67, .iload 4, 2), (69, .iload_n 1, 1), (70, .if_icmp .ge 6, 3), (73, .iload 4, 2), (75, .istore_n 1, 1), (76, .iinc 3 1, 3), (79, .goto (-61), 3), (82, .iinc 2 1, 3), (85, .goto (-80), 3), (88, .iload_n 1, 1), (89, .ireturn, 1)]
def mt_X8_ring : Mt := (cX8_ring, RX8, 5, (some .int), ({ frames := 2, cells := 0, slots := 0, locals := 50 } : Room), false, none, none)
set_option maxRecDepth 100000 in
theorem dl_X8_ring : ∀ q ∈ il_X8_ring, decode (mt_X8_ring).1 q.1 = .ok q.2 := by decide +kernel
def tb_X8_ring : Tb := [(0, x_c 2 (.int (-9)), false),
  (2, x_is 3 1, false),
  (3, x_c 4 (.int 0), false),
  (4, x_is 5 2, false),
  (5, x_il 6 2, true),
  (6, x_al 7 0, false),
  (7, x_gR 8 0 10, false),
  (10, x_gI 5 5 13, false),
  (13, x_ic 88 16 (fun x y : Int32 => y ≤ x), false),
  (16, x_c 17 (.int 0), false),
  (17, x_is 18 3, false),
  (18, x_il 19 3, true),
  (19, x_al 20 0, false),
  (20, x_gR 8 0 23, false),
  (23, x_gI 5 4 26, false),
  (26, x_ic 82 29 (fun x y : Int32 => y ≤ x), false),
  (29, x_al 30 0, false),
  (30, x_gR 8 0 33, false),
  (33, x_il 34 2, false),
  (34, x_il 35 3, false),
  (35, x_cV 5 2 P_X5_isOver 38, false),
  (38, x_if 50 41 (fun x : Int32 => x = 0), false),
  (41, x_al 42 0, false),
  (42, x_il 43 2, false),
  (43, x_il 44 3, false),
  (44, x_cV 8 2 P_X8_ringOver 47, false),
  (47, x_go 52, false),
  (50, x_c 52 (.int (-9)), false),
  (52, x_is 54 4, false),
  (54, x_il 56 4, false),
  (56, x_c 58 (.int (-9)), false),
  (58, x_ic 76 61 (fun x y : Int32 => x = y), false),
  (61, x_il 62 1, false),
  (62, x_c 64 (.int (-9)), false),
  (64, x_ic 73 67 (fun x y : Int32 => x = y), false),
  (67, x_il 69 4, false),
  (69, x_il 70 1, false),
  (70, x_ic 76 73 (fun x y : Int32 => y ≤ x), false),
  (73, x_il 75 4, false),
  (75, x_is 76 1, false),
  (76, x_inc 79 3 1, false),
  (79, x_go 18, false),
  (82, x_inc 85 2 1, false),
  (85, x_go 5, false),
  (88, x_il 89 1, false),
  (89, x_rI, false)]
set_option maxRecDepth 100000 in
theorem tk_X8_ring : TbOk (mt_X8_ring) (tb_X8_ring) :=
  tkc (s_bipush (at_ dl_X8_ring 0 (ins := .bipush (-9)) rfl) (by first | rfl | decide)) (
  tkc (s_istore_n (at_ dl_X8_ring 1 (ins := .istore_n 1) rfl) (by decide)) (
  tkc (s_iconst (at_ dl_X8_ring 2 (ins := .iconst 0) rfl) (by first | rfl | decide)) (
  tkc (s_istore_n (at_ dl_X8_ring 3 (ins := .istore_n 2) rfl) (by decide)) (
  tkc (s_iload_n (at_ dl_X8_ring 4 (ins := .iload_n 2) rfl)) (
  tkc (s_aload_n (at_ dl_X8_ring 5 (ins := .aload_n 0) rfl)) (
  tkc (s_gR (at_ dl_X8_ring 6 (ins := .getfield 9) rfl) (by decide) (by decide) (by decide) (tg 200 (by decide +kernel) (by decide +kernel))) (
  tkc (s_gI (at_ dl_X8_ring 7 (ins := .getfield 15) rfl) (by decide) (by decide) (by decide) (tg 140 (by decide +kernel) (by decide +kernel))) (
  tkc (s_ic_ge (at_ dl_X8_ring 8 (ins := .if_icmp .ge 75) rfl) (by decide)) (
  tkc (s_iconst (at_ dl_X8_ring 9 (ins := .iconst 0) rfl) (by first | rfl | decide)) (
  tkc (s_istore_n (at_ dl_X8_ring 10 (ins := .istore_n 3) rfl) (by decide)) (
  tkc (s_iload_n (at_ dl_X8_ring 11 (ins := .iload_n 3) rfl)) (
  tkc (s_aload_n (at_ dl_X8_ring 12 (ins := .aload_n 0) rfl)) (
  tkc (s_gR (at_ dl_X8_ring 13 (ins := .getfield 9) rfl) (by decide) (by decide) (by decide) (tg 200 (by decide +kernel) (by decide +kernel))) (
  tkc (s_gI (at_ dl_X8_ring 14 (ins := .getfield 21) rfl) (by decide) (by decide) (by decide) (tg 135 (by decide +kernel) (by decide +kernel))) (
  tkc (s_ic_ge (at_ dl_X8_ring 15 (ins := .if_icmp .ge 56) rfl) (by decide)) (
  tkc (s_aload_n (at_ dl_X8_ring 16 (ins := .aload_n 0) rfl)) (
  tkc (s_gR (at_ dl_X8_ring 17 (ins := .getfield 9) rfl) (by decide) (by decide) (by decide) (tg 200 (by decide +kernel) (by decide +kernel))) (
  tkc (s_iload_n (at_ dl_X8_ring 18 (ins := .iload_n 2) rfl)) (
  tkc (s_iload_n (at_ dl_X8_ring 19 (ins := .iload_n 3) rfl)) (
  tkc (s_cV ok_X5_isOver (at_ dl_X8_ring 20 (ins := .invokevirtual 24) rfl) (by decide) rfl (tg 387 (by decide +kernel) (by decide +kernel)) (tg 388 (by decide +kernel) (by decide +kernel)) (tg 389 (by decide +kernel) (by decide +kernel)) (tg 45 (by decide +kernel) (by decide +kernel)) (tg 390 (by decide +kernel) (by decide +kernel)) (⟨by decide, by decide, by decide +kernel⟩) (⟨by decide, by decide⟩) rfl rfl) (
  tkc (s_if_eq (at_ dl_X8_ring 21 (ins := .ifCond .eq 12) rfl) (by decide)) (
  tkc (s_aload_n (at_ dl_X8_ring 22 (ins := .aload_n 0) rfl)) (
  tkc (s_iload_n (at_ dl_X8_ring 23 (ins := .iload_n 2) rfl)) (
  tkc (s_iload_n (at_ dl_X8_ring 24 (ins := .iload_n 3) rfl)) (
  tkc (s_cV ok_X8_ringOver (at_ dl_X8_ring 25 (ins := .invokevirtual 28) rfl) (by decide) rfl (tg 399 (by decide +kernel) (by decide +kernel)) (tg 401 (by decide +kernel) (by decide +kernel)) (tg 4 (by decide +kernel) (by decide +kernel)) (tg 47 (by decide +kernel) (by decide +kernel)) (tg 402 (by decide +kernel) (by decide +kernel)) (⟨by decide, by decide, by decide +kernel⟩) (⟨by decide, by decide⟩) rfl rfl) (
  tkc (s_goto (at_ dl_X8_ring 26 (ins := .goto 5) rfl) (by decide)) (
  tkc (s_bipush (at_ dl_X8_ring 27 (ins := .bipush (-9)) rfl) (by first | rfl | decide)) (
  tkc (s_istore (at_ dl_X8_ring 28 (ins := .istore 4) rfl) (by decide)) (
  tkc (s_iload (at_ dl_X8_ring 29 (ins := .iload 4) rfl)) (
  tkc (s_bipush (at_ dl_X8_ring 30 (ins := .bipush (-9)) rfl) (by first | rfl | decide)) (
  tkc (s_ic_eq (at_ dl_X8_ring 31 (ins := .if_icmp .eq 18) rfl) (by decide)) (
  tkc (s_iload_n (at_ dl_X8_ring 32 (ins := .iload_n 1) rfl)) (
  tkc (s_bipush (at_ dl_X8_ring 33 (ins := .bipush (-9)) rfl) (by first | rfl | decide)) (
  tkc (s_ic_eq (at_ dl_X8_ring 34 (ins := .if_icmp .eq 9) rfl) (by decide)) (
  tkc (s_iload (at_ dl_X8_ring 35 (ins := .iload 4) rfl)) (
  tkc (s_iload_n (at_ dl_X8_ring 36 (ins := .iload_n 1) rfl)) (
  tkc (s_ic_ge (at_ dl_X8_ring 37 (ins := .if_icmp .ge 6) rfl) (by decide)) (
  tkc (s_iload (at_ dl_X8_ring 38 (ins := .iload 4) rfl)) (
  tkc (s_istore_n (at_ dl_X8_ring 39 (ins := .istore_n 1) rfl) (by decide)) (
  tkc (s_iinc (at_ dl_X8_ring 40 (ins := .iinc 3 1) rfl) (by decide) (by first | rfl | decide)) (
  tkc (s_goto (at_ dl_X8_ring 41 (ins := .goto (-61)) rfl) (by decide)) (
  tkc (s_iinc (at_ dl_X8_ring 42 (ins := .iinc 2 1) rfl) (by decide) (by first | rfl | decide)) (
  tkc (s_goto (at_ dl_X8_ring 43 (ins := .goto (-80)) rfl) (by decide)) (
  tkc (s_iload_n (at_ dl_X8_ring 44 (ins := .iload_n 1) rfl)) (
  tkc (s_rI (at_ dl_X8_ring 45 (ins := .ireturn) rfl) rfl) ( tk0))))))))))))))))))))))))))))))))))))))))))))))
theorem lf_X8_ring : lk (tb_X8_ring) 0 = (x_c 2 (.int (-9)), false) ∧ lk (tb_X8_ring) 2 = (x_is 3 1, false) ∧ lk (tb_X8_ring) 3 = (x_c 4 (.int 0), false) ∧ lk (tb_X8_ring) 4 = (x_is 5 2, false) ∧ lk (tb_X8_ring) 5 = (x_il 6 2, true) ∧ lk (tb_X8_ring) 6 = (x_al 7 0, false) ∧ lk (tb_X8_ring) 7 = (x_gR 8 0 10, false) ∧ lk (tb_X8_ring) 10 = (x_gI 5 5 13, false) ∧ lk (tb_X8_ring) 13 = (x_ic 88 16 (fun x y : Int32 => y ≤ x), false) ∧ lk (tb_X8_ring) 16 = (x_c 17 (.int 0), false) ∧ lk (tb_X8_ring) 17 = (x_is 18 3, false) ∧ lk (tb_X8_ring) 18 = (x_il 19 3, true) ∧ lk (tb_X8_ring) 19 = (x_al 20 0, false) ∧ lk (tb_X8_ring) 20 = (x_gR 8 0 23, false) ∧ lk (tb_X8_ring) 23 = (x_gI 5 4 26, false) ∧ lk (tb_X8_ring) 26 = (x_ic 82 29 (fun x y : Int32 => y ≤ x), false) ∧ lk (tb_X8_ring) 29 = (x_al 30 0, false) ∧ lk (tb_X8_ring) 30 = (x_gR 8 0 33, false) ∧ lk (tb_X8_ring) 33 = (x_il 34 2, false) ∧ lk (tb_X8_ring) 34 = (x_il 35 3, false) ∧ lk (tb_X8_ring) 35 = (x_cV 5 2 P_X5_isOver 38, false) ∧ lk (tb_X8_ring) 38 = (x_if 50 41 (fun x : Int32 => x = 0), false) ∧ lk (tb_X8_ring) 41 = (x_al 42 0, false) ∧ lk (tb_X8_ring) 42 = (x_il 43 2, false) ∧ lk (tb_X8_ring) 43 = (x_il 44 3, false) ∧ lk (tb_X8_ring) 44 = (x_cV 8 2 P_X8_ringOver 47, false) ∧ lk (tb_X8_ring) 47 = (x_go 52, false) ∧ lk (tb_X8_ring) 50 = (x_c 52 (.int (-9)), false) ∧ lk (tb_X8_ring) 52 = (x_is 54 4, false) ∧ lk (tb_X8_ring) 54 = (x_il 56 4, false) ∧ lk (tb_X8_ring) 56 = (x_c 58 (.int (-9)), false) ∧ lk (tb_X8_ring) 58 = (x_ic 76 61 (fun x y : Int32 => x = y), false) ∧ lk (tb_X8_ring) 61 = (x_il 62 1, false) ∧ lk (tb_X8_ring) 62 = (x_c 64 (.int (-9)), false) ∧ lk (tb_X8_ring) 64 = (x_ic 73 67 (fun x y : Int32 => x = y), false) ∧ lk (tb_X8_ring) 67 = (x_il 69 4, false) ∧ lk (tb_X8_ring) 69 = (x_il 70 1, false) ∧ lk (tb_X8_ring) 70 = (x_ic 76 73 (fun x y : Int32 => y ≤ x), false) ∧ lk (tb_X8_ring) 73 = (x_il 75 4, false) ∧ lk (tb_X8_ring) 75 = (x_is 76 1, false) ∧ lk (tb_X8_ring) 76 = (x_inc 79 3 1, false) ∧ lk (tb_X8_ring) 79 = (x_go 18, false) ∧ lk (tb_X8_ring) 82 = (x_inc 85 2 1, false) ∧ lk (tb_X8_ring) 85 = (x_go 5, false) ∧ lk (tb_X8_ring) 88 = (x_il 89 1, false) ∧ lk (tb_X8_ring) 89 = (x_rI, false) := ⟨rfl, rfl, rfl, rfl, rfl, rfl, rfl, rfl, rfl, rfl, rfl, rfl, rfl, rfl, rfl, rfl, rfl, rfl, rfl, rfl, rfl, rfl, rfl, rfl, rfl, rfl, rfl, rfl, rfl, rfl, rfl, rfl, rfl, rfl, rfl, rfl, rfl, rfl, rfl, rfl, rfl, rfl, rfl, rfl, rfl, rfl⟩
def P_X8_ring : PTT := fun as M R => match as with
  | [.ref k] => k = 18 ∧ IsWa M.1 ∧ IsSt M.1 5 ∧ ∃ a, SR M.2.1 5 a ∧ AOk a ∧ R (some (.int (nn (rcA a (aM a))))) M
  | _ => False
set_option maxRecDepth 20000 in
theorem ok_X8_ring : Ok yX8_ring mt_X8_ring P_X8_ring := by
  refine Ok.of (by decide) rfl rfl rfl rfl fun av ⟨S, I, L⟩ R hP => ?_
  unfold P_X8_ring at hP
  split at hP
  case h_2 => exact hP.elim
  rename_i k
  obtain ⟨k, rfl⟩ : ∃ q : Nat, q = k := ⟨k, rfl⟩
  refine ⟨by simp [ent, wide, mt_X8_ring], ?_⟩
  show J mt_X8_ring R 0 [some (.ref k), none, none, none, none] [] (S, I, L)
  try dsimp only at hP
  obtain ⟨rfl, hk, h5, a, hsr, ha, hR⟩ := hP
  have h9 := ha.1
  have en : I 5 4 = nI (aN a) := hsr.1
  have em : I 5 5 = nI (aM a) := hsr.2.1
  have key := up (P := fun c => J mt_X8_ring R 5 [some (.ref 18), some (.int (nn (rcA a c))), some (.int (nI c)), none, none] [] (S, I, L)) (n := aM a) (fun c hc ih => ?_) 0 (Nat.zero_le _)
  · refine J.of tk_X8_ring 200 fun ρ hρ => ?_
    simp only [hρ, x_c, x_il, x_ll, x_al, x_is, x_as, x_ls, x_inc, x_ii, x_iq, x_i1, x_l2, x_lq, x_lh, x_i2l, x_l2i, x_lcmp, x_dup, x_dup2, x_pop, x_if, x_ifn, x_ic, x_icn, x_go, x_sw, swc, x_l01, x_mx, x_gI, x_gL, x_gR, x_pI, x_pZ, x_pL, x_pR, x_ia, x_za, x_aa, x_ias, x_zas, x_aas, x_fac, x_fa, x_slen, x_sa, x_ac, x_oi, x_new, x_na, x_cS, x_cV, x_cI, x_rI, x_rZ, x_rL, x_r0, pa, short, oc, lg, lset, lset2, wide, cond_true, cond_false, true_and, and_true, ↓reduceIte, Bool.false_eq_true, true_or, or_true, lf_X8_ring]
    exact key
  by_cases hlt : c < aM a
  · have key2 := up (P := fun b => J mt_X8_ring R 18 [some (.ref 18), some (.int (nn (rbA a c b (rcA a c)))), some (.int (nI c)), some (.int (nI b)), none] [] (S, I, L)) (n := aN a) (fun b hb ih2 => ?_) 0 (Nat.zero_le _)
    · refine J.of tk_X8_ring 200 fun ρ hρ => ?_
      simp only [hρ, x_c, x_il, x_ll, x_al, x_is, x_as, x_ls, x_inc, x_ii, x_iq, x_i1, x_l2, x_lq, x_lh, x_i2l, x_l2i, x_lcmp, x_dup, x_dup2, x_pop, x_if, x_ifn, x_ic, x_icn, x_go, x_sw, swc, x_l01, x_mx, x_gI, x_gL, x_gR, x_pI, x_pZ, x_pL, x_pR, x_ia, x_za, x_aa, x_ias, x_zas, x_aas, x_fac, x_fa, x_slen, x_sa, x_ac, x_oi, x_new, x_na, x_cS, x_cV, x_cI, x_rI, x_rZ, x_rL, x_r0, pa, short, oc, lg, lset, lset2, wide, cond_true, cond_false, true_and, and_true, ↓reduceIte, Bool.false_eq_true, true_or, or_true, lf_X8_ring, hk, hk.f, h5, h5.f, em, nI_leI (show aM a < 2 ^ 31 by omega) (show c < 2 ^ 31 by omega)]
      exact ⟨fun h => absurd h (by omega), fun _ => key2⟩
    by_cases hbl : b < aN a
    · have e1 : (nI c < 0) = False := eq_false (nI_pos (by omega))
      have e2 : (nI b < 0) = False := eq_false (nI_pos (by omega))
      have e3 : (aM a ≤ c) = False := eq_false (by omega)
      have e4 : (aN a ≤ b) = False := eq_false (by omega)
      have ov : I 6 c = nI (aV a c) := hsr.2.2.2.2.1 c hlt
      have hv := ha.v hlt
      have tc : tn (nI c) = c := tn_nI (by omega)
      have tb : tn (nI b) = b := tn_nI (by omega)
      have r1 := rgA_le a c b
      have r2 := rbA_le a c (b := b) (rcA_le a c)
      refine J.of tk_X8_ring 200 fun ρ hρ => ?_
      simp only [hρ, x_c, x_il, x_ll, x_al, x_is, x_as, x_ls, x_inc, x_ii, x_iq, x_i1, x_l2, x_lq, x_lh, x_i2l, x_l2i, x_lcmp, x_dup, x_dup2, x_pop, x_if, x_ifn, x_ic, x_icn, x_go, x_sw, swc, x_l01, x_mx, x_gI, x_gL, x_gR, x_pI, x_pZ, x_pL, x_pR, x_ia, x_za, x_aa, x_ias, x_zas, x_aas, x_fac, x_fa, x_slen, x_sa, x_ac, x_oi, x_new, x_na, x_cS, x_cV, x_cI, x_rI, x_rZ, x_rL, x_r0, pa, short, oc, lg, lset, lset2, wide, cond_true, cond_false, true_and, and_true, ↓reduceIte, Bool.false_eq_true, true_or, or_true, lf_X8_ring, hk, hk.f, h5, h5.f, en, em, nI_leI (show aN a < 2 ^ 31 by omega) (show b < 2 ^ 31 by omega), nI_leI (show aM a < 2 ^ 31 by omega) (show c < 2 ^ 31 by omega), P_X5_isOver, P_X8_ringOver, e1, e2, e3, e4, not_false_eq_true, true_implies, false_implies, not_true_eq_false, nn_9 (show rgA a c b < 2 ^ 31 by omega), nn_9 (show rbA a c b (rcA a c) < 2 ^ 31 by omega), ov, ncl (show c < 2 ^ 31 by omega), Nat.reduceAdd, bI_0, bit_c (show aV a c < 2 ^ 31 by omega) (show b < 31 by omega), Classical.not_not, tc, tb, nI_1]
      have hr : ∀ x, rbA a c (b + 1) (rcA a c) = x → ∀ v, J mt_X8_ring R 18 [some (.ref 18), some (.int (nn x)), some (.int (nI c)), some (.int (nI (b + 1))), some v] [] (S, I, L) := fun x hx v => J.weak (by simp [lsub]) (hx ▸ ih2 hbl)
      refine ⟨⟨aM a, h9.2.2, rfl⟩, fun h => hr _ (by rw [rbA, if_neg h, mnR, if_neg (by omega)]) _, fun h => ⟨a, hsr, ha, hlt, hbl, ?_⟩⟩
      rw [nn_9 (show rgA a c b < 2 ^ 31 by omega)]
      refine ⟨fun h1 => hr _ (by rw [rbA, if_pos h, mnR, if_neg (by omega)]) _, fun h1 => ⟨fun h2 => hr _ (by rw [rbA, if_pos h, mnR, if_pos (by omega)]) _, fun h2 => ?_⟩⟩
      have hle : nn (rbA a c b (rcA a c)) ≤ nn (rgA a c b) ↔ rbA a c b (rcA a c) ≤ rgA a c b := by
        rw [nn, nn, if_neg h1, if_neg h2, nI_leI (by omega) (by omega)]
      rw [hle]
      exact ⟨fun h3 => hr _ (by rw [rbA, if_pos h, mnR, if_neg (by omega)]) _, fun h3 => hr _ (by rw [rbA, if_pos h, mnR, if_pos (by omega)]) _⟩
    · have : b = aN a := by omega
      subst this
      refine J.of tk_X8_ring 200 fun ρ hρ => ?_
      simp only [hρ, x_c, x_il, x_ll, x_al, x_is, x_as, x_ls, x_inc, x_ii, x_iq, x_i1, x_l2, x_lq, x_lh, x_i2l, x_l2i, x_lcmp, x_dup, x_dup2, x_pop, x_if, x_ifn, x_ic, x_icn, x_go, x_sw, swc, x_l01, x_mx, x_gI, x_gL, x_gR, x_pI, x_pZ, x_pL, x_pR, x_ia, x_za, x_aa, x_ias, x_zas, x_aas, x_fac, x_fa, x_slen, x_sa, x_ac, x_oi, x_new, x_na, x_cS, x_cV, x_cI, x_rI, x_rZ, x_rL, x_r0, pa, short, oc, lg, lset, lset2, wide, cond_true, cond_false, true_and, and_true, ↓reduceIte, Bool.false_eq_true, true_or, or_true, lf_X8_ring, hk, hk.f, h5, h5.f, en, nI_leI (show aN a < 2 ^ 31 by omega) (show aN a < 2 ^ 31 by omega), Nat.le_refl, true_implies, not_true_eq_false, false_implies, nI_1]
      exact J.weak (by simp [lsub, rcA]) (ih hlt)
  · have : c = aM a := by omega
    subst this
    refine J.of tk_X8_ring 200 fun ρ hρ => ?_
    simp only [hρ, x_c, x_il, x_ll, x_al, x_is, x_as, x_ls, x_inc, x_ii, x_iq, x_i1, x_l2, x_lq, x_lh, x_i2l, x_l2i, x_lcmp, x_dup, x_dup2, x_pop, x_if, x_ifn, x_ic, x_icn, x_go, x_sw, swc, x_l01, x_mx, x_gI, x_gL, x_gR, x_pI, x_pZ, x_pL, x_pR, x_ia, x_za, x_aa, x_ias, x_zas, x_aas, x_fac, x_fa, x_slen, x_sa, x_ac, x_oi, x_new, x_na, x_cS, x_cV, x_cI, x_rI, x_rZ, x_rL, x_r0, pa, short, oc, lg, lset, lset2, wide, cond_true, cond_false, true_and, and_true, ↓reduceIte, Bool.false_eq_true, true_or, or_true, lf_X8_ring, hk, hk.f, h5, h5.f, em, nI_leI (show aM a < 2 ^ 31 by omega) (show aM a < 2 ^ 31 by omega), Nat.le_refl, true_implies, not_true_eq_false, false_implies]
    exact hR
