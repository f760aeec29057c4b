/-! GROW of the model: what it chooses is what the class chooses -/
theorem wy_iff {ov : Nat → Nat} {m b c t : Nat} (ht : t ≤ 6) : wyW ov m b c ≤ 2 * t + 1 ↔ (cW ov m b t).2.testBit c = true := by
  rcases wyS_spec (f := fun t => (cW ov m b t).2.testBit c) (l := 7) (s := 0) with ⟨h1, h2⟩ | ⟨i, h1, h2, h3, h4, h5⟩
  · rw [wyW, h1]
    exact ⟨fun q => by omega, fun q => absurd q (h2 t (by omega) (by omega))⟩
  · rw [wyW, h3]
    constructor
    · intro q
      have := cW_le h4 (t - i)
      rwa [show i + (t - i) = t by omega] at this
    · intro q
      refine Classical.byContradiction fun z => h5 t (by omega) (by omega) q
theorem wy_odd (ov : Nat → Nat) (m b c : Nat) : wyW ov m b c = 99 ∨ ∃ i, i ≤ 6 ∧ wyW ov m b c = 2 * i + 1 := by
  rcases wyS_spec (f := fun t => (cW ov m b t).2.testBit c) (l := 7) (s := 0) with ⟨h1, h2⟩ | ⟨i, h1, h2, h3, h4, h5⟩
  · exact .inl h1
  · exact .inr ⟨i, by omega, h3⟩
theorem wy_le (ov : Nat → Nat) (m b c : Nat) : wyW ov m b c ≤ 99 := by
  rcases wy_odd ov m b c with h | ⟨i, h, e⟩ <;> omega
theorem df_eq0 {x y : Nat} (h : df x y = 0) : ∀ i, x.testBit i = true → y.testBit i = true := fun i hi => by
  refine Classical.byContradiction fun q => ?_
  have : (df x y).testBit i = true := df_t.mpr ⟨hi, q⟩
  rw [h] at this
  simp at this
theorem cW_sub {ov : Nat → Nat} {m b s : Nat} (h : ∀ i, (cW ov m b (s + 1)).2.testBit i = true → (cW ov m b s).2.testBit i = true) : (cW ov m b (s + 1)).2 = (cW ov m b s).2 := by
  apply Nat.eq_of_testBit_eq
  intro i
  rw [Bool.eq_iff_iff]
  exact ⟨h i, cW_mono ov m b i s⟩
theorem cW_from {ov : Nat → Nat} {m b s : Nat} (h : (cW ov m b (s + 1)).2 = (cW ov m b s).2) : ∀ d, (cW ov m b (s + d)).2 = (cW ov m b s).2 ∧ (cW ov m b (s + d + 1)).2 = (cW ov m b (s + d)).2
  | 0 => ⟨rfl, h⟩
  | d + 1 => by
    obtain ⟨h1, h2⟩ := cW_from h d
    exact ⟨h2.trans h1, cW_stab h2⟩
/-- where the search ends: nothing new from there on; what was new last -/
theorem fsW_spec {ov : Nat → Nat} {m b : Nat} (hC : ∀ s, (cW ov m b s).2 < 64) (hm : m ≤ 6) : ∀ l s last, l + s = 6 → (s = 0 → last = (cW ov m b 0).2) → (∀ r, s = r + 1 → last = lyW ov m b r ∧ ¬ lyW ov m b r = 0) → ((fsW ov m b l s last).1 = 0 ∧ (cW ov m b 0).2 = 0) ∨ ∃ r, (fsW ov m b l s last).1 = r + 1 ∧ r ≤ 5 ∧ (fsW ov m b l s last).2 = lyW ov m b r ∧ ¬ lyW ov m b r = 0 ∧ (cW ov m b (r + 1)).2 = (cW ov m b r).2
  | 0, s, last, hl, h0, h1 => by
    have : s = 6 := by omega
    subst this
    obtain ⟨q1, q2⟩ := h1 5 rfl
    refine .inr ⟨5, rfl, by omega, q1, q2, ?_⟩
    rcases cW_grow hC hm 5 with q | q
    · exact q
    · refine Classical.byContradiction fun z => ?_
      have h := ones_up (cW ov m b 5).2 (hC 5) (oS ov (cW ov m b 6).1 m) (oS_lt hm) (by rw [← cW_2]; exact z)
      rw [← cW_2] at h
      have := ones_6 _ (hC (5 + 1))
      omega
  | l + 1, s, last, hl, h0, h1 => by
    simp only [fsW]
    by_cases q : lyW ov m b s = 0
    · rw [if_pos q]
      match s, hl, h0, h1, q with
      | 0, hl, h0, h1, q =>
        left
        refine ⟨rfl, ?_⟩
        rw [lyW, Cp, df_0] at q
        exact q
      | r + 1, hl, h0, h1, q =>
        obtain ⟨q1, q2⟩ := h1 r rfl
        exact .inr ⟨r, rfl, by omega, q1, q2, cW_sub (df_eq0 q)⟩
    · rw [if_neg q]
      exact fsW_spec hC hm l (s + 1) _ (by omega) (fun z => absurd z (by omega)) (fun r hr => by
        have : r = s := by omega
        subst this
        exact ⟨rfl, q⟩)
theorem allb {m c : Nat} : (2 ^ m - 1).testBit c = true ↔ c < m := by rw [Nat.testBit_two_pow_sub_one, decide_eq_true_eq]
theorem faW_max {ov : Nat → Nat} {m b : Nat} (hC : ∀ s, (cW ov m b s).2 < 64) (hCm : ∀ s c, (cW ov m b s).2.testBit c = true → c < m) (hm : m ≤ 6) (h0 : 0 < m) (c : Nat) : (faW ov m b).testBit c = true ↔ (c < m ∧ ∀ c', c' < m → wyW ov m b c' ≤ wyW ov m b c) := by
  have hlast : ∀ l, l < 7 → (cW ov m b 6).2 = (cW ov m b l).2 → ∀ c', (wyW ov m b c' = 99 ↔ ¬ (cW ov m b l).2.testBit c' = true) := fun l hl he c' => by
    rw [← he, ← wy_iff (Nat.le_refl 6)]
    have := wy_odd ov m b c'
    constructor
    · intro q; omega
    · intro q
      rcases this with z | ⟨i, i1, i2⟩
      · exact z
      · omega
  have hgen : ∀ s, s < 7 → (cW ov m b 6).2 = (cW ov m b s).2 → ¬ df (2 ^ m - 1) (cW ov m b s).2 = 0 → ((df (2 ^ m - 1) (cW ov m b s).2).testBit c = true ↔ (c < m ∧ ∀ c', c' < m → wyW ov m b c' ≤ wyW ov m b c)) := fun s hs he hne => by
    have hl := hlast s hs he
    rw [df_t, allb, ← hl c]
    constructor
    · rintro ⟨q1, q2⟩
      exact ⟨q1, fun c' _ => by rw [q2]; exact wy_le ov m b c'⟩
    · rintro ⟨q1, q2⟩
      refine ⟨q1, ?_⟩
      obtain ⟨e, he'⟩ := Nat.exists_testBit_of_ne_zero hne
      rw [df_t, allb, ← hl e] at he'
      have := q2 e he'.1
      have := wy_le ov m b c
      omega
  unfold faW
  rcases fsW_spec hC hm 6 0 (cW ov m b 0).2 rfl (fun _ => rfl) (fun r hr => absurd hr (by omega)) with ⟨h1, h2⟩ | ⟨r, h1, h2, h3, h4, h5⟩
  · rw [h1]
    have hst : (cW ov m b 1).2 = (cW ov m b 0).2 := by
      have e1 : (cW ov m b 1).1 = (cW ov m b 0).1 := by rw [cW_1, h2, uS_0, Nat.or_zero]
      rw [cW_2, e1, show (cW ov m b 0).2 = oS ov (cW ov m b 0).1 m from rfl, Nat.or_self]
    have h6 : (cW ov m b 6).2 = (cW ov m b 0).2 := by have := (cW_from hst 6).1; rwa [Nat.zero_add] at this
    have hne : ¬ df (2 ^ m - 1) (cW ov m b 0).2 = 0 := fun q => by
      have := df_eq0 q 0 (allb.mpr h0)
      rw [h2] at this
      simp at this
    rw [if_pos hne]
    exact hgen 0 (by omega) h6 hne
  · rw [h1]
    have h6 : (cW ov m b 6).2 = (cW ov m b r).2 := by have := (cW_from h5 (6 - r)).1; rwa [show r + (6 - r) = 6 by omega] at this
    have h6' : (cW ov m b 6).2 = (cW ov m b (r + 1)).2 := h6.trans h5.symm
    by_cases hne : df (2 ^ m - 1) (cW ov m b (r + 1)).2 = 0
    · rw [if_neg (fun q => q hne), h3]
      have hall : ∀ c', c' < m → wyW ov m b c' ≤ 2 * r + 1 := fun c' hc' => by
        rw [wy_iff (by omega), ← h5]
        exact df_eq0 hne c' (allb.mpr hc')
      have hly : ∀ e, (lyW ov m b r).testBit e = true ↔ (e < m ∧ wyW ov m b e = 2 * r + 1) := fun e => by
        unfold lyW
        rw [df_t]
        constructor
        · rintro ⟨q1, q2⟩
          refine ⟨hCm r e q1, ?_⟩
          have k1 := (wy_iff (c := e) (show r ≤ 6 by omega)).mpr q1
          rcases wy_odd ov m b e with z | ⟨i, i1, i2⟩
          · omega
          · by_cases ei : i = r
            · rw [i2, ei]
            · exfalso
              obtain ⟨r', rfl⟩ : ∃ r', r = r' + 1 := ⟨r - 1, by omega⟩
              exact q2 ((wy_iff (c := e) (show r' ≤ 6 by omega)).mp (by omega))
        · rintro ⟨q1, q2⟩
          refine ⟨(wy_iff (by omega)).mp (by omega), fun z => ?_⟩
          match r, h2, q2, z with
          | 0, _, _, z => simp [Cp] at z
          | r' + 1, h2, q2, z =>
            have := (wy_iff (c := e) (show r' ≤ 6 by omega)).mpr z
            omega
      rw [hly]
      constructor
      · rintro ⟨q1, q2⟩
        exact ⟨q1, fun c' hc' => by rw [q2]; exact hall c' hc'⟩
      · rintro ⟨q1, q2⟩
        refine ⟨q1, ?_⟩
        obtain ⟨e, he⟩ := Nat.exists_testBit_of_ne_zero h4
        rw [hly] at he
        have := q2 e he.1
        have := hall c q1
        omega
    · rw [if_pos hne]
      exact hgen (r + 1) (by omega) h6' hne
/-- what the model takes: 99 stands for none -/
def bN (ov W : Nat → Nat) (b : Nat) : Nat → Nat
  | 0 => 99
  | c + 1 => if ¬ (ov c).testBit b = true ∧ (bN ov W b c = 99 ∨ (W (bN ov W b c) < W c ∨ (W c = W (bN ov W b c) ∧ ones9 (ov c) < ones9 (ov (bN ov W b c))))) then c else bN ov W b c
def btN (ov W : Nat → Nat) (c c' : Nat) : Prop := W c' < W c ∨ (W c' = W c ∧ (ones9 (ov c) < ones9 (ov c') ∨ (ones9 (ov c) = ones9 (ov c') ∧ c ≤ c')))
theorem bN_spec {ov W : Nat → Nat} {b : Nat} : ∀ {c : Nat}, c ≤ 6 → (bN ov W b c = 99 ∧ ∀ c', c' < c → (ov c').testBit b = true) ∨ (bN ov W b c < c ∧ ¬ (ov (bN ov W b c)).testBit b = true ∧ ∀ c', c' < c → ¬ (ov c').testBit b = true → btN ov W (bN ov W b c) c')
  | 0, _ => .inl ⟨rfl, fun c' h => absurd h (by omega)⟩
  | c + 1, hc => by
    have ih := bN_spec (ov := ov) (W := W) (b := b) (c := c) (by omega)
    simp only [bN]
    by_cases q : ¬ (ov c).testBit b = true ∧ (bN ov W b c = 99 ∨ (W (bN ov W b c) < W c ∨ (W c = W (bN ov W b c) ∧ ones9 (ov c) < ones9 (ov (bN ov W b c)))))
    · rw [if_pos q]
      refine .inr ⟨by omega, q.1, fun c' h1 h2 => ?_⟩
      by_cases e : c' = c
      · subst e; exact .inr ⟨rfl, .inr ⟨rfl, Nat.le_refl _⟩⟩
      · rcases ih with ⟨i1, i2⟩ | ⟨i1, i2, i3⟩
        · exact absurd (i2 c' (by omega)) h2
        · have hb := i3 c' (by omega) h2
          have hq := q.2.resolve_left (by omega)
          unfold btN at hb ⊢
          omega
    · rw [if_neg q]
      rcases ih with ⟨i1, i2⟩ | ⟨i1, i2, i3⟩
      · refine .inl ⟨i1, fun c' h => ?_⟩
        by_cases e : c' = c
        · subst e; exact Classical.byContradiction fun z => q ⟨z, .inl i1⟩
        · exact i2 c' (by omega)
      · refine .inr ⟨by omega, i2, fun c' h1 h2 => ?_⟩
        by_cases e : c' = c
        · subst e
          have hq : ¬ (W (bN ov W b c') < W c' ∨ (W c' = W (bN ov W b c') ∧ ones9 (ov c') < ones9 (ov (bN ov W b c')))) := fun z => q ⟨h2, .inr z⟩
          unfold btN
          omega
        · exact i3 c' (by omega) h2
theorem gcF_spec {ov : Nat → Nat} {F : Nat} : ∀ {c : Nat}, ((gcF ov F c).1 = 10 ∧ ∀ c', c' < c → ¬ F.testBit c' = true) ∨ ∃ e, e < c ∧ F.testBit e = true ∧ gcF ov F c = (ones9 (ov e), nI e) ∧ ∀ c', c' < c → F.testBit c' = true → ones9 (ov e) < ones9 (ov c') ∨ (ones9 (ov e) = ones9 (ov c') ∧ e ≤ c')
  | 0 => .inl ⟨rfl, fun c' h => absurd h (by omega)⟩
  | c + 1 => by
    have ih := gcF_spec (ov := ov) (F := F) (c := c)
    have h9 := ones9_le (ov c)
    simp only [gcF]
    by_cases q : F.testBit c = true ∧ ones9 (ov c) < (gcF ov F c).1
    · rw [if_pos q]
      refine .inr ⟨c, by omega, q.1, rfl, fun c' h1 h2 => ?_⟩
      by_cases e : c' = c
      · subst e; exact .inr ⟨rfl, Nat.le_refl _⟩
      · rcases ih with ⟨i1, i2⟩ | ⟨e', i1, i2, i3, i4⟩
        · exact absurd h2 (i2 c' (by omega))
        · have := i4 c' (by omega) h2
          rw [i3] at q
          have := q.2
          omega
    · rw [if_neg q]
      rcases ih with ⟨i1, i2⟩ | ⟨e', i1, i2, i3, i4⟩
      · refine .inl ⟨i1, fun c' h => ?_⟩
        by_cases e : c' = c
        · subst e; exact fun z => q ⟨z, by omega⟩
        · exact i2 c' (by omega)
      · refine .inr ⟨e', by omega, i2, i3, fun c' h1 h2 => ?_⟩
        by_cases e : c' = c
        · subst e
          have hq : ¬ ones9 (ov c') < (gcF ov F c').1 := fun z => q ⟨h2, z⟩
          rw [i3] at hq
          simp only at hq
          omega
        · exact i4 c' (by omega) h2
theorem grow_eq {a : AS} {b : Nat} (ha : AOk a) (hb : b < aN a) (hex : ∃ c, c < aM a ∧ ¬ (aV a c).testBit b = true) : ∃ e, e < aM a ∧ ¬ (aV a e).testBit b = true ∧ cgA a b = nI e ∧ bN (aV a) (wyW (aV a) (aM a) b) b (aM a) = e := by
  have hm := ha.1
  have hW := cW_lt (ov := aV a) hm.2.2 hb ha.2.1
  have hCm : ∀ s c, (cW (aV a) (aM a) b s).2.testBit c = true → c < aM a := by
    intro s
    induction s with
    | zero =>
      intro c hc
      have : (oS (aV a) (2 ^ b) (aM a)).testBit c = true := hc
      rw [oS_bit] at this; exact this.1
    | succ s ih =>
      intro c hc
      rw [cW_2, Nat.testBit_or, Bool.or_eq_true, oS_bit] at hc
      rcases hc with hc | hc
      · exact ih c hc
      · exact hc.1
  obtain ⟨x, hx, hxb⟩ := hex
  have hF := faW_max (ov := aV a) (b := b) (fun s => (hW s).2) hCm hm.2.2 (by omega)
  have h1 : ∀ c, c < aM a → (wyW (aV a) (aM a) b c ≤ 1 ↔ (aV a c).testBit b = true) := fun c hc => by
    have := wy_iff (ov := aV a) (m := aM a) (b := b) (c := c) (t := 0) (by omega)
    rw [Nat.mul_zero, Nat.zero_add] at this
    rw [this]
    show (oS (aV a) (2 ^ b) (aM a)).testBit c = true ↔ _
    rw [oS_bit]
    constructor
    · rintro ⟨-, y, q1, q2⟩
      rw [pow_bit] at q2
      subst q2; exact q1
    · intro q
      exact ⟨hc, b, q, pow_bit.mpr rfl⟩
  rcases bN_spec (ov := aV a) (W := wyW (aV a) (aM a) b) (b := b) (c := aM a) hm.2.2 with ⟨q1, q2⟩ | ⟨q1, q2, q3⟩
  · exact absurd (q2 x hx) hxb
  · generalize bN (aV a) (wyW (aV a) (aM a) b) b (aM a) = e at q1 q2 q3
    refine ⟨e, q1, q2, ?_, rfl⟩
    have hmax : ∀ c', c' < aM a → wyW (aV a) (aM a) b c' ≤ wyW (aV a) (aM a) b e := fun c' hc' => by
      by_cases z : (aV a c').testBit b = true
      · have k1 := (h1 c' hc').mpr z
        have k2 : ¬ wyW (aV a) (aM a) b e ≤ 1 := fun k => q2 ((h1 e q1).mp k)
        omega
      · have := q3 c' hc' z
        unfold btN at this
        omega
    have heF : (faW (aV a) (aM a) b).testBit e = true := (hF e).mpr ⟨q1, hmax⟩
    unfold cgA
    rcases gcF_spec (ov := aV a) (F := faW (aV a) (aM a) b) (c := aM a) with ⟨g1, g2⟩ | ⟨e', g1, g2, g3, g4⟩
    · exact absurd heF (g2 e q1)
    · rw [g3]
      have k1 := g4 e q1 heF
      obtain ⟨-, k2⟩ := (hF e').mp g2
      have k3 := k2 e q1
      have k4 := hmax e' g1
      have hnb : ¬ (aV a e').testBit b = true := fun z => by
        have z1 := (h1 e' g1).mpr z
        exact q2 ((h1 e q1).mp (by omega))
      have k5 := q3 e' g1 hnb
      unfold btN at k5
      have : e' = e := by omega
      rw [this]
theorem co_full : ∀ m, m < 7 → ones9 (bs (fun _ => true) m) = m := by decide +kernel
theorem co_ex {ov : Nat → Nat} {m b : Nat} (hm : m ≤ 6) (h : ones9 (coF ov m b) < m) : ∃ c, c < m ∧ ¬ (ov c).testBit b = true := by
  refine Classical.byContradiction fun q => ?_
  have e : coF ov m b = bs (fun _ => true) m := bs_congr (fun c hc => Classical.byContradiction fun z => q ⟨c, hc, by simpa using z⟩)
  rw [e, co_full m (by omega)] at h
  omega
theorem co_put {a : AS} {c b : Nat} (ha : AOk a) (hc : c < aM a) (hb : ¬ (aV a c).testBit b = true) : ones9 (coF (aV (putA a c b)) (aM (putA a c b)) b) = ones9 (coF (aV a) (aM a) b) + 1 := by
  have hm := ha.1
  have e : coF (aV (putA a c b)) (aM (putA a c b)) b = coF (aV a) (aM a) b ||| 2 ^ c := by
    apply Nat.eq_of_testBit_eq
    intro x
    rw [Nat.testBit_or, Nat.testBit_two_pow, coF, coF, bs_bit, bs_bit]
    show (decide (x < aM a) && (va_up (aV a) c (aV a c ^^^ 2 ^ b) x).testBit b) = _
    unfold va_up
    by_cases q : x = c
    · subst q
      rw [if_pos rfl, Nat.testBit_xor, Nat.testBit_two_pow_self]
      rw [Bool.not_eq_true] at hb
      rw [hb]
      simp [hc]
    · rw [if_neg q, decide_eq_false (fun z : c = x => q z.symm), Bool.or_false]
  rw [e]
  unfold ones9
  rw [on9_or, if_pos]
  refine ⟨by omega, ?_⟩
  rw [coF, bs_bit]
  simpa [hc] using hb
def il_X10_grow : List (Nat × Instr × Nat) := [(0, .aload_n 0, 1), (1, .iload_n 1, 1), (2, .invokevirtual 168, 3), (5, .ifCond .ne 5, 3), (8, .iconst (-1), 1), (9, .ireturn, 1), (10, .iload_n 2, 1), (11, .i2l, 1), (12, .lconst 1, 1), (13, .aload_n 0, 1), (14, .getfield 64, 3), (17, .i2l, 1), (18, .invokestatic 60, 3), (21, .ifCond .ne 6, 3), (24, .bipush (-2), 2), (26, .ireturn, 1), (27, .aload_n 0, 1), (28, .invokevirtual 184, 3), (31, .iconst 0, 1), (32, .istore_n 3, 1), (33, .aload_n 0, 1), (34, .aload_n 0, 1), (35, .getfield 13, 3), (38, .iload_n 1, 1), (39, .invokevirtual 171, 3), (42, .invokestatic 114, 3), (45, .iload_n 2, 1), (46, .if_icmp .ge 93, 3), (49, .aload_n 0, 1), (50, .aload_n 0, 1), (51, .getfield 13, 3), (54, .iload_n 1, 1), (55, .bipush (-9), 2), (57, .bipush (-9), 2), (59, .invokevirtual 143, 3), (62, .bipush (-9), 2), (64, .istore 4, 2), (66, .iconst 0, 1), (67, .istore 5, 2), (69, .iload 5, 2), (71, .aload_n 0, 1), (72, .getfield 64, 3), (75, .if_icmp .ge 48, 3), (78, .aload_n 0, 1), (79, .getfield 13, 3), (82, .bipush 18, 2), (84, .iload 5, 2), (86, .iadd, 1), (87, .iaload, 1), (88, .iload_n 1, 1), (89, .invokestatic 102, 3), (92, .ifCond .ne 25, 3), (95, .iload 4, 2), (97, .bipush (-9), 2), (99, .if_icmp .eq 14, 3), (102, .aload_n 0, 1), (103, .iload 5, 2), (105, .iload 4, 2), (107, .invokevirtual 193, 3), (110, .ifCond .eq 7, 3), (113, .iload 5, 2), (115, .istore 4, 2), (117, .iinc 5 1, 3), (120, .goto (-51), 3), (123, .aload_n 0, 1), (124, .getfield 13, 3), (127, .iload 4, 2), (129, .iload_n 1, 1), (130, .invokestatic 189, 3), (133, .iinc 3 1, 3), (136, .goto (-103), 3), (139, .iload_n 3, 1), (140, .ireturn, 1)]
def mt_X10_grow : Mt := (cX10_grow, RX10, 6, (some .int), ({ frames := 2, cells := 0, slots := 0, locals := 49 } : Room), false, none, none)
set_option maxRecDepth 100000 in
theorem dl_X10_grow : ∀ q ∈ il_X10_grow, decode (mt_X10_grow).1 q.1 = .ok q.2 := by decide +kernel
def tb_X10_grow : Tb := [(0, x_al 1 0, false),
  (1, x_il 2 1, false),
  (2, x_cV 10 1 P_X10_isBit 5, false),
  (5, x_ifn 10 8 (fun x : Int32 => x = 0), false),
  (8, x_c 9 (.int (-1)), false),
  (9, x_rI, false),
  (10, x_il 11 2, false),
  (11, x_i2l 12, false),
  (12, x_c 13 (.long 1), false),
  (13, x_al 14 0, false),
  (14, x_gI 10 3 17, false),
  (17, x_i2l 18, false),
  (18, x_cS 3 P_X10_in 21, false),
  (21, x_ifn 27 24 (fun x : Int32 => x = 0), false),
  (24, x_c 26 (.int (-2)), false),
  (26, x_rI, false),
  (27, x_al 28 0, false),
  (28, x_cV 10 0 P_X10_note 31, false),
  (31, x_c 32 (.int 0), false),
  (32, x_is 33 3, false),
  (33, x_al 34 0, true),
  (34, x_al 35 0, false),
  (35, x_gR 10 4 38, false),
  (38, x_il 39 1, false),
  (39, x_cV 10 2 P_X10_checksOver 42, false),
  (42, x_cS 1 P_X10_ones 45, false),
  (45, x_il 46 2, false),
  (46, x_ic 139 49 (fun x y : Int32 => y ≤ x), false),
  (49, x_al 50 0, false),
  (50, x_al 51 0, false),
  (51, x_gR 10 4 54, false),
  (54, x_il 55 1, false),
  (55, x_c 57 (.int (-9)), false),
  (57, x_c 59 (.int (-9)), false),
  (59, x_cV 10 4 P_X10_layWays 62, false),
  (62, x_c 64 (.int (-9)), false),
  (64, x_is 66 4, false),
  (66, x_c 67 (.int 0), false),
  (67, x_is 69 5, false),
  (69, x_il 71 5, true),
  (71, x_al 72 0, false),
  (72, x_gI 10 3 75, false),
  (75, x_ic 123 78 (fun x y : Int32 => y ≤ x), false),
  (78, x_al 79 0, false),
  (79, x_gR 10 4 82, false),
  (82, x_c 84 (.int 18), false),
  (84, x_il 86 5, false),
  (86, x_ii 87 (fun x y : Int32 => x + y), false),
  (87, x_ia 88, false),
  (88, x_il 89 1, false),
  (89, x_cS 2 P_X10_has 92, false),
  (92, x_ifn 117 95 (fun x : Int32 => x = 0), false),
  (95, x_il 97 4, false),
  (97, x_c 99 (.int (-9)), false),
  (99, x_ic 113 102 (fun x y : Int32 => x = y), false),
  (102, x_al 103 0, false),
  (103, x_il 105 5, false),
  (105, x_il 107 4, false),
  (107, x_cV 10 2 P_X10_isBefore 110, false),
  (110, x_if 117 113 (fun x : Int32 => x = 0), false),
  (113, x_il 115 5, false),
  (115, x_is 117 4, false),
  (117, x_inc 120 5 1, false),
  (120, x_go 69, false),
  (123, x_al 124 0, false),
  (124, x_gR 10 4 127, false),
  (127, x_il 129 4, false),
  (129, x_il 130 1, false),
  (130, x_cS 3 P_X10_putOn 133, false),
  (133, x_inc 136 3 1, false),
  (136, x_go 33, false),
  (139, x_il 140 3, false),
  (140, x_rI, false)]
set_option maxRecDepth 100000 in
theorem tk_X10_grow : TbOk (mt_X10_grow) (tb_X10_grow) :=
  tkc (s_aload_n (at_ dl_X10_grow 0 (ins := .aload_n 0) rfl)) (
  tkc (s_iload_n (at_ dl_X10_grow 1 (ins := .iload_n 1) rfl)) (
  tkc (s_cV ok_X10_isBit (at_ dl_X10_grow 2 (ins := .invokevirtual 168) rfl) (by decide) rfl (tg 880 (by decide +kernel) (by decide +kernel)) (tg 882 (by decide +kernel) (by decide +kernel)) (tg 34 (by decide +kernel) (by decide +kernel)) (tg 51 (by decide +kernel) (by decide +kernel)) (tg 883 (by decide +kernel) (by decide +kernel)) (⟨by decide, by decide, by decide +kernel⟩) (⟨by decide, by decide⟩) rfl rfl) (
  tkc (s_if_ne (at_ dl_X10_grow 3 (ins := .ifCond .ne 5) rfl) (by decide)) (
  tkc (s_iconst (at_ dl_X10_grow 4 (ins := .iconst (-1)) rfl) (by first | rfl | decide)) (
  tkc (s_rI (at_ dl_X10_grow 5 (ins := .ireturn) rfl) rfl) (
  tkc (s_iload_n (at_ dl_X10_grow 6 (ins := .iload_n 2) rfl)) (
  tkc (s_i2l (at_ dl_X10_grow 7 (ins := .i2l) rfl)) (
  tkc (s_lconst (at_ dl_X10_grow 8 (ins := .lconst 1) rfl) (by first | rfl | decide)) (
  tkc (s_aload_n (at_ dl_X10_grow 9 (ins := .aload_n 0) rfl)) (
  tkc (s_gI (at_ dl_X10_grow 10 (ins := .getfield 64) rfl) (by decide) (by decide) (by decide) (tg 699 (by decide +kernel) (by decide +kernel))) (
  tkc (s_i2l (at_ dl_X10_grow 11 (ins := .i2l) rfl)) (
  tkc (s_cS ok_X10_in (at_ dl_X10_grow 12 (ins := .invokestatic 60) rfl) (tg 780 (by decide +kernel) (by decide +kernel)) (tg 781 (by decide +kernel) (by decide +kernel)) (tg 51 (by decide +kernel) (by decide +kernel)) (tg 782 (by decide +kernel) (by decide +kernel)) (⟨by decide, by decide, by decide +kernel⟩) (⟨by decide, by decide⟩) rfl rfl) (
  tkc (s_if_ne (at_ dl_X10_grow 13 (ins := .ifCond .ne 6) rfl) (by decide)) (
  tkc (s_bipush (at_ dl_X10_grow 14 (ins := .bipush (-2)) rfl) (by first | rfl | decide)) (
  tkc (s_rI (at_ dl_X10_grow 15 (ins := .ireturn) rfl) rfl) (
  tkc (s_aload_n (at_ dl_X10_grow 16 (ins := .aload_n 0) rfl)) (
  tkc (s_cV ok_X10_note (at_ dl_X10_grow 17 (ins := .invokevirtual 184) rfl) (by decide) rfl (tg 906 (by decide +kernel) (by decide +kernel)) (tg 908 (by decide +kernel) (by decide +kernel)) (tg 37 (by decide +kernel) (by decide +kernel)) (tg 51 (by decide +kernel) (by decide +kernel)) (tg 909 (by decide +kernel) (by decide +kernel)) (⟨by decide, by decide, by decide +kernel⟩) (⟨by decide, by decide⟩) rfl rfl) (
  tkc (s_iconst (at_ dl_X10_grow 18 (ins := .iconst 0) rfl) (by first | rfl | decide)) (
  tkc (s_istore_n (at_ dl_X10_grow 19 (ins := .istore_n 3) rfl) (by decide)) (
  tkc (s_aload_n (at_ dl_X10_grow 20 (ins := .aload_n 0) rfl)) (
  tkc (s_aload_n (at_ dl_X10_grow 21 (ins := .aload_n 0) rfl)) (
  tkc (s_gR (at_ dl_X10_grow 22 (ins := .getfield 13) rfl) (by decide) (by decide) (by decide) (tg 700 (by decide +kernel) (by decide +kernel))) (
  tkc (s_iload_n (at_ dl_X10_grow 23 (ins := .iload_n 1) rfl)) (
  tkc (s_cV ok_X10_checksOver (at_ dl_X10_grow 24 (ins := .invokevirtual 171) rfl) (by decide) rfl (tg 884 (by decide +kernel) (by decide +kernel)) (tg 886 (by decide +kernel) (by decide +kernel)) (tg 35 (by decide +kernel) (by decide +kernel)) (tg 51 (by decide +kernel) (by decide +kernel)) (tg 887 (by decide +kernel) (by decide +kernel)) (⟨by decide, by decide, by decide +kernel⟩) (⟨by decide, by decide⟩) rfl rfl) (
  tkc (s_cS ok_X10_ones (at_ dl_X10_grow 25 (ins := .invokestatic 114) rfl) (tg 821 (by decide +kernel) (by decide +kernel)) (tg 822 (by decide +kernel) (by decide +kernel)) (tg 51 (by decide +kernel) (by decide +kernel)) (tg 823 (by decide +kernel) (by decide +kernel)) (⟨by decide, by decide, by decide +kernel⟩) (⟨by decide, by decide⟩) rfl rfl) (
  tkc (s_iload_n (at_ dl_X10_grow 26 (ins := .iload_n 2) rfl)) (
  tkc (s_ic_ge (at_ dl_X10_grow 27 (ins := .if_icmp .ge 93) rfl) (by decide)) (
  tkc (s_aload_n (at_ dl_X10_grow 28 (ins := .aload_n 0) rfl)) (
  tkc (s_aload_n (at_ dl_X10_grow 29 (ins := .aload_n 0) rfl)) (
  tkc (s_gR (at_ dl_X10_grow 30 (ins := .getfield 13) rfl) (by decide) (by decide) (by decide) (tg 700 (by decide +kernel) (by decide +kernel))) (
  tkc (s_iload_n (at_ dl_X10_grow 31 (ins := .iload_n 1) rfl)) (
  tkc (s_bipush (at_ dl_X10_grow 32 (ins := .bipush (-9)) rfl) (by first | rfl | decide)) (
  tkc (s_bipush (at_ dl_X10_grow 33 (ins := .bipush (-9)) rfl) (by first | rfl | decide)) (
  tkc (s_cV ok_X10_layWays (at_ dl_X10_grow 34 (ins := .invokevirtual 143) rfl) (by decide) rfl (tg 831 (by decide +kernel) (by decide +kernel)) (tg 833 (by decide +kernel) (by decide +kernel)) (tg 25 (by decide +kernel) (by decide +kernel)) (tg 51 (by decide +kernel) (by decide +kernel)) (tg 834 (by decide +kernel) (by decide +kernel)) (⟨by decide, by decide, by decide +kernel⟩) (⟨by decide, by decide⟩) rfl rfl) (
  tkc (s_bipush (at_ dl_X10_grow 35 (ins := .bipush (-9)) rfl) (by first | rfl | decide)) (
  tkc (s_istore (at_ dl_X10_grow 36 (ins := .istore 4) rfl) (by decide)) (
  tkc (s_iconst (at_ dl_X10_grow 37 (ins := .iconst 0) rfl) (by first | rfl | decide)) (
  tkc (s_istore (at_ dl_X10_grow 38 (ins := .istore 5) rfl) (by decide)) (
  tkc (s_iload (at_ dl_X10_grow 39 (ins := .iload 5) rfl)) (
  tkc (s_aload_n (at_ dl_X10_grow 40 (ins := .aload_n 0) rfl)) (
  tkc (s_gI (at_ dl_X10_grow 41 (ins := .getfield 64) rfl) (by decide) (by decide) (by decide) (tg 699 (by decide +kernel) (by decide +kernel))) (
  tkc (s_ic_ge (at_ dl_X10_grow 42 (ins := .if_icmp .ge 48) rfl) (by decide)) (
  tkc (s_aload_n (at_ dl_X10_grow 43 (ins := .aload_n 0) rfl)) (
  tkc (s_gR (at_ dl_X10_grow 44 (ins := .getfield 13) rfl) (by decide) (by decide) (by decide) (tg 700 (by decide +kernel) (by decide +kernel))) (
  tkc (s_bipush (at_ dl_X10_grow 45 (ins := .bipush 18) rfl) (by first | rfl | decide)) (
  tkc (s_iload (at_ dl_X10_grow 46 (ins := .iload 5) rfl)) (
  tkc (s_iadd (at_ dl_X10_grow 47 (ins := .iadd) rfl)) (
  tkc (s_ia (at_ dl_X10_grow 48 (ins := .iaload) rfl)) (
  tkc (s_iload_n (at_ dl_X10_grow 49 (ins := .iload_n 1) rfl)) (
  tkc (s_cS ok_X10_has (at_ dl_X10_grow 50 (ins := .invokestatic 102) rfl) (tg 828 (by decide +kernel) (by decide +kernel)) (tg 829 (by decide +kernel) (by decide +kernel)) (tg 51 (by decide +kernel) (by decide +kernel)) (tg 830 (by decide +kernel) (by decide +kernel)) (⟨by decide, by decide, by decide +kernel⟩) (⟨by decide, by decide⟩) rfl rfl) (
  tkc (s_if_ne (at_ dl_X10_grow 51 (ins := .ifCond .ne 25) rfl) (by decide)) (
  tkc (s_iload (at_ dl_X10_grow 52 (ins := .iload 4) rfl)) (
  tkc (s_bipush (at_ dl_X10_grow 53 (ins := .bipush (-9)) rfl) (by first | rfl | decide)) (
  tkc (s_ic_eq (at_ dl_X10_grow 54 (ins := .if_icmp .eq 14) rfl) (by decide)) (
  tkc (s_aload_n (at_ dl_X10_grow 55 (ins := .aload_n 0) rfl)) (
  tkc (s_iload (at_ dl_X10_grow 56 (ins := .iload 5) rfl)) (
  tkc (s_iload (at_ dl_X10_grow 57 (ins := .iload 4) rfl)) (
  tkc (s_cV ok_X10_isBefore (at_ dl_X10_grow 58 (ins := .invokevirtual 193) rfl) (by decide) rfl (tg 930 (by decide +kernel) (by decide +kernel)) (tg 932 (by decide +kernel) (by decide +kernel)) (tg 38 (by decide +kernel) (by decide +kernel)) (tg 51 (by decide +kernel) (by decide +kernel)) (tg 933 (by decide +kernel) (by decide +kernel)) (⟨by decide, by decide, by decide +kernel⟩) (⟨by decide, by decide⟩) rfl rfl) (
  tkc (s_if_eq (at_ dl_X10_grow 59 (ins := .ifCond .eq 7) rfl) (by decide)) (
  tkc (s_iload (at_ dl_X10_grow 60 (ins := .iload 5) rfl)) (
  tkc (s_istore (at_ dl_X10_grow 61 (ins := .istore 4) rfl) (by decide)) (
  tkc (s_iinc (at_ dl_X10_grow 62 (ins := .iinc 5 1) rfl) (by decide) (by first | rfl | decide)) (
  tkc (s_goto (at_ dl_X10_grow 63 (ins := .goto (-51)) rfl) (by decide)) (
  tkc (s_aload_n (at_ dl_X10_grow 64 (ins := .aload_n 0) rfl)) (
  tkc (s_gR (at_ dl_X10_grow 65 (ins := .getfield 13) rfl) (by decide) (by decide) (by decide) (tg 700 (by decide +kernel) (by decide +kernel))) (
  tkc (s_iload (at_ dl_X10_grow 66 (ins := .iload 4) rfl)) (
  tkc (s_iload_n (at_ dl_X10_grow 67 (ins := .iload_n 1) rfl)) (
  tkc (s_cS ok_X10_putOn (at_ dl_X10_grow 68 (ins := .invokestatic 189) rfl) (tg 923 (by decide +kernel) (by decide +kernel)) (tg 924 (by decide +kernel) (by decide +kernel)) (tg 51 (by decide +kernel) (by decide +kernel)) (tg 925 (by decide +kernel) (by decide +kernel)) (⟨by decide, by decide, by decide +kernel⟩) (⟨by decide, by decide⟩) rfl rfl) (
  tkc (s_iinc (at_ dl_X10_grow 69 (ins := .iinc 3 1) rfl) (by decide) (by first | rfl | decide)) (
  tkc (s_goto (at_ dl_X10_grow 70 (ins := .goto (-103)) rfl) (by decide)) (
  tkc (s_iload_n (at_ dl_X10_grow 71 (ins := .iload_n 3) rfl)) (
  tkc (s_rI (at_ dl_X10_grow 72 (ins := .ireturn) rfl) rfl) ( tk0)))))))))))))))))))))))))))))))))))))))))))))))))))))))))))))))))))))))))
theorem lf_X10_grow : lk (tb_X10_grow) 0 = (x_al 1 0, false) ∧ lk (tb_X10_grow) 1 = (x_il 2 1, false) ∧ lk (tb_X10_grow) 2 = (x_cV 10 1 P_X10_isBit 5, false) ∧ lk (tb_X10_grow) 5 = (x_ifn 10 8 (fun x : Int32 => x = 0), false) ∧ lk (tb_X10_grow) 8 = (x_c 9 (.int (-1)), false) ∧ lk (tb_X10_grow) 9 = (x_rI, false) ∧ lk (tb_X10_grow) 10 = (x_il 11 2, false) ∧ lk (tb_X10_grow) 11 = (x_i2l 12, false) ∧ lk (tb_X10_grow) 12 = (x_c 13 (.long 1), false) ∧ lk (tb_X10_grow) 13 = (x_al 14 0, false) ∧ lk (tb_X10_grow) 14 = (x_gI 10 3 17, false) ∧ lk (tb_X10_grow) 17 = (x_i2l 18, false) ∧ lk (tb_X10_grow) 18 = (x_cS 3 P_X10_in 21, false) ∧ lk (tb_X10_grow) 21 = (x_ifn 27 24 (fun x : Int32 => x = 0), false) ∧ lk (tb_X10_grow) 24 = (x_c 26 (.int (-2)), false) ∧ lk (tb_X10_grow) 26 = (x_rI, false) ∧ lk (tb_X10_grow) 27 = (x_al 28 0, false) ∧ lk (tb_X10_grow) 28 = (x_cV 10 0 P_X10_note 31, false) ∧ lk (tb_X10_grow) 31 = (x_c 32 (.int 0), false) ∧ lk (tb_X10_grow) 32 = (x_is 33 3, false) ∧ lk (tb_X10_grow) 33 = (x_al 34 0, true) ∧ lk (tb_X10_grow) 34 = (x_al 35 0, false) ∧ lk (tb_X10_grow) 35 = (x_gR 10 4 38, false) ∧ lk (tb_X10_grow) 38 = (x_il 39 1, false) ∧ lk (tb_X10_grow) 39 = (x_cV 10 2 P_X10_checksOver 42, false) ∧ lk (tb_X10_grow) 42 = (x_cS 1 P_X10_ones 45, false) ∧ lk (tb_X10_grow) 45 = (x_il 46 2, false) ∧ lk (tb_X10_grow) 46 = (x_ic 139 49 (fun x y : Int32 => y ≤ x), false) ∧ lk (tb_X10_grow) 49 = (x_al 50 0, false) ∧ lk (tb_X10_grow) 50 = (x_al 51 0, false) ∧ lk (tb_X10_grow) 51 = (x_gR 10 4 54, false) ∧ lk (tb_X10_grow) 54 = (x_il 55 1, false) ∧ lk (tb_X10_grow) 55 = (x_c 57 (.int (-9)), false) ∧ lk (tb_X10_grow) 57 = (x_c 59 (.int (-9)), false) ∧ lk (tb_X10_grow) 59 = (x_cV 10 4 P_X10_layWays 62, false) ∧ lk (tb_X10_grow) 62 = (x_c 64 (.int (-9)), false) ∧ lk (tb_X10_grow) 64 = (x_is 66 4, false) ∧ lk (tb_X10_grow) 66 = (x_c 67 (.int 0), false) ∧ lk (tb_X10_grow) 67 = (x_is 69 5, false) ∧ lk (tb_X10_grow) 69 = (x_il 71 5, true) ∧ lk (tb_X10_grow) 71 = (x_al 72 0, false) ∧ lk (tb_X10_grow) 72 = (x_gI 10 3 75, false) ∧ lk (tb_X10_grow) 75 = (x_ic 123 78 (fun x y : Int32 => y ≤ x), false) ∧ lk (tb_X10_grow) 78 = (x_al 79 0, false) ∧ lk (tb_X10_grow) 79 = (x_gR 10 4 82, false) ∧ lk (tb_X10_grow) 82 = (x_c 84 (.int 18), false) ∧ lk (tb_X10_grow) 84 = (x_il 86 5, false) ∧ lk (tb_X10_grow) 86 = (x_ii 87 (fun x y : Int32 => x + y), false) ∧ lk (tb_X10_grow) 87 = (x_ia 88, false) ∧ lk (tb_X10_grow) 88 = (x_il 89 1, false) ∧ lk (tb_X10_grow) 89 = (x_cS 2 P_X10_has 92, false) ∧ lk (tb_X10_grow) 92 = (x_ifn 117 95 (fun x : Int32 => x = 0), false) ∧ lk (tb_X10_grow) 95 = (x_il 97 4, false) ∧ lk (tb_X10_grow) 97 = (x_c 99 (.int (-9)), false) ∧ lk (tb_X10_grow) 99 = (x_ic 113 102 (fun x y : Int32 => x = y), false) ∧ lk (tb_X10_grow) 102 = (x_al 103 0, false) ∧ lk (tb_X10_grow) 103 = (x_il 105 5, false) ∧ lk (tb_X10_grow) 105 = (x_il 107 4, false) ∧ lk (tb_X10_grow) 107 = (x_cV 10 2 P_X10_isBefore 110, false) ∧ lk (tb_X10_grow) 110 = (x_if 117 113 (fun x : Int32 => x = 0), false) ∧ lk (tb_X10_grow) 113 = (x_il 115 5, false) ∧ lk (tb_X10_grow) 115 = (x_is 117 4, false) ∧ lk (tb_X10_grow) 117 = (x_inc 120 5 1, false) ∧ lk (tb_X10_grow) 120 = (x_go 69, false) ∧ lk (tb_X10_grow) 123 = (x_al 124 0, false) ∧ lk (tb_X10_grow) 124 = (x_gR 10 4 127, false) ∧ lk (tb_X10_grow) 127 = (x_il 129 4, false) ∧ lk (tb_X10_grow) 129 = (x_il 130 1, false) ∧ lk (tb_X10_grow) 130 = (x_cS 3 P_X10_putOn 133, false) ∧ lk (tb_X10_grow) 133 = (x_inc 136 3 1, false) ∧ lk (tb_X10_grow) 136 = (x_go 33, false) ∧ lk (tb_X10_grow) 139 = (x_il 140 3, false) ∧ lk (tb_X10_grow) 140 = (x_rI, false) := ⟨rfl, rfl, rfl, rfl, rfl, rfl, rfl, rfl, rfl, rfl, rfl, rfl, rfl, rfl, rfl, rfl, rfl, rfl, rfl, rfl, rfl, rfl, rfl, rfl, rfl, rfl, rfl, rfl, rfl, rfl, rfl, rfl, rfl, rfl, rfl, rfl, rfl, rfl, rfl, rfl, rfl, rfl, rfl, rfl, rfl, rfl, rfl, rfl, rfl, rfl, rfl, rfl, rfl, rfl, rfl, rfl, rfl, rfl, rfl, rfl, rfl, rfl, rfl, rfl, rfl, rfl, rfl, rfl, rfl, rfl, rfl, rfl, rfl⟩
def P_X10_grow : PTT := fun as M R => match as with
  | [.ref k, .int b, .int d] => k = 108 ∧ ∃ g, MR M.1 M.2.1 M.2.2 g ∧ GOk g ∧ Anm M R (gGrow g b d).1 (gGrow g b d).2
  | _ => False
set_option maxRecDepth 20000 in
theorem ok_X10_grow : Ok yX10_grow mt_X10_grow P_X10_grow := by
  refine Ok.of (by decide) rfl rfl rfl rfl fun av ⟨S, I, L⟩ R hP => ?_
  unfold P_X10_grow at hP
  split at hP
  case h_2 => exact hP.elim
  rename_i k b d
  obtain ⟨k, rfl⟩ : ∃ q : Nat, q = k := ⟨k, rfl⟩
  refine ⟨by simp [ent, wide, mt_X10_grow], ?_⟩
  show J mt_X10_grow R 0 [some (.ref k), some (.int b), some (.int d), none, none, none] [] (S, I, L)
  try dsimp only at hP
  obtain ⟨rfl, g, hc, ho, hA⟩ := hP
  obtain ⟨h1, h2, h3, h4, h5, h6, h7, h8, h9⟩ := id hc
  have hok := ho.2.1
  have hm := ho.2.1.1
  have i1 : (¬ d.toInt64 < (1 : Int64) ∧ ¬ (nI (aM (gA g))).toInt64 < d.toInt64) ↔ (¬ d < 1 ∧ d ≤ nI (aM (gA g))) := and_congr (loL (by decide)) ((not_congr i2l_lt).trans Int32.not_lt)
  refine J.of tk_X10_grow 200 fun ρ hρ => ?_
  simp only [hρ, x_c, x_il, x_ll, x_al, x_is, x_as, x_ls, x_inc, x_ii, x_iq, x_i1, x_l2, x_lq, x_lh, x_i2l, x_l2i, x_lcmp, x_dup, x_dup2, x_pop, x_if, x_ifn, x_ic, x_icn, x_go, x_sw, swc, x_l01, x_mx, x_gI, x_gL, x_gR, x_pI, x_pZ, x_pL, x_pR, x_ia, x_za, x_aa, x_ias, x_zas, x_aas, x_fac, x_fa, x_slen, x_sa, x_ac, x_oi, x_new, x_na, x_cS, x_cV, x_cI, x_rI, x_rZ, x_rL, x_r0, pa, short, oc, lg, lset, lset2, wide, cond_true, cond_false, true_and, and_true, ↓reduceIte, Bool.false_eq_true, true_or, or_true, lf_X10_grow, h1.f, h3.2, P_X10_isBit, P_X10_in, P_X10_note, i1]
  refine ⟨aN (gA g), by omega, h3.1, ?_⟩
  simp only [bI_0, Classical.not_not]
  refine ⟨fun hb => ⟨fun h => ⟨g, hc, ho, fun I' hl hc' => ?_⟩, fun h => (hA.e (show gGrow g b d = (-2, g) by rw [gGrow, if_neg (fun q => q hb), if_pos (Classical.byContradiction fun q => h ⟨fun r => q (.inl r), Classical.byContradiction fun r => q (.inr r)⟩)])).s hc⟩, fun hb => (hA.e (by rw [gGrow, if_pos hb])).s hc⟩
  have hA' := hA.e (show gGrow g b d = (nI (tn d - ones9 (coF (aV (gA g)) (aM (gA g)) (tn b))), GA (remG g) (grA (tn b) (tn d - ones9 (coF (aV (gA g)) (aM (gA g)) (tn b))) (gA g))) by rw [gGrow, if_neg (fun q => q hb), if_neg (fun q => q.elim h.1 (fun r => r h.2))])
  obtain ⟨j, hj, rfl⟩ := hB.i (g := g) hb ho
  obtain ⟨D, hD1, hD2, rfl⟩ : ∃ D, 1 ≤ D ∧ D ≤ aM (gA g) ∧ d = nI D := by
    have hd' := h.2
    obtain ⟨D, a1, a2, rfl⟩ := le99 h.1 (Int32.le_trans hd' (by rw [show (99 : Int32) = nI 99 by decide, nI_leI (by omega) (by omega)]; omega))
    rw [nI_leI (by omega) (by omega)] at hd'
    exact ⟨D, a1, hd', rfl⟩
  rw [tn_nI (n := j) (by omega), tn_nI (n := D) (by omega)] at hA'
  have key : ∀ l mr a I1, l = D - ones9 (coF (aV a) (aM a) j) → mr + l ≤ 100 → lo8 I I1 → MR S I1 L (GA (remG g) a) → AOk a → sz a (gA g) → (∀ I2 : MI, lo8 I I2 → MR S I2 L (GA (remG g) (grA j l a)) → R (some (.int (nI (mr + l)))) (S, I2, L)) → J mt_X10_grow R 33 [some (.ref 108), some (.int (nI j)), some (.int (nI D)), some (.int (nI mr)), none, none] [] (S, I1, L) := by
    intro l
    induction l with
    | zero =>
      intro mr a I1 hl' hm1 hlo hc1 ha1 hz1 hR1
      have hja : j < aN a := by rw [hz1.1]; exact hj
      have hco := coF_lt (ov := aV a) (b := j) ha1.1.2.2
      have o9 := ones9_le (coF (aV a) (aM a) j)
      have tc : tn (nI (coF (aV a) (aM a) j)) = coF (aV a) (aM a) j := tn_nI (by omega)
      refine J.of tk_X10_grow 200 fun ρ hρ => ?_
      simp only [hρ, x_c, x_il, x_ll, x_al, x_is, x_as, x_ls, x_inc, x_ii, x_iq, x_i1, x_l2, x_lq, x_lh, x_i2l, x_l2i, x_lcmp, x_dup, x_dup2, x_pop, x_if, x_ifn, x_ic, x_icn, x_go, x_sw, swc, x_l01, x_mx, x_gI, x_gL, x_gR, x_pI, x_pZ, x_pL, x_pR, x_ia, x_za, x_aa, x_ias, x_zas, x_aas, x_fac, x_fa, x_slen, x_sa, x_ac, x_oi, x_new, x_na, x_cS, x_cV, x_cI, x_rI, x_rZ, x_rL, x_r0, pa, short, oc, lg, lset, lset2, wide, cond_true, cond_false, true_and, and_true, ↓reduceIte, Bool.false_eq_true, true_or, or_true, lf_X10_grow, h1.f, P_X10_checksOver, P_X10_ones]
      refine ⟨a, j, MS.of h1 (Or.inl rfl) hc1.2.2.2.1 ha1 hc1.2.2.1.1 hc1.2.2.1.2, by omega, rfl, by rw [tc]; omega, ?_⟩
      rw [tc, nI_leI (by omega) (by omega)]
      exact ⟨fun _ => hR1 I1 hlo hc1, fun q => absurd q (by omega)⟩
    | succ l ih =>
      intro mr a I1 hl' hm1 hlo hc1 ha1 hz1 hR1
      have hma := ha1.1
      have hja : j < aN a := by rw [hz1.1]; exact hj
      have hD3 : D ≤ aM a := by rw [hz1.2]; exact hD2
      have hco := coF_lt (ov := aV a) (b := j) ha1.1.2.2
      have o9 := ones9_le (coF (aV a) (aM a) j)
      have tc : tn (nI (coF (aV a) (aM a) j)) = coF (aV a) (aM a) j := tn_nI (by omega)
      obtain ⟨e, he1, he2, he3, he4⟩ := grow_eq ha1 hja (co_ex hma.2.2 (show ones9 (coF (aV a) (aM a) j) < aM a by omega))
      have hms1 : MS S I1 110 a := MS.of h1 (Or.inl rfl) hc1.2.2.2.1 ha1 hc1.2.2.1.1 hc1.2.2.1.2
      have em1 : I1 108 3 = nI (aM a) := hc1.2.2.1.2
      have hgp : gpA a (cgA a j) j = putA a e j := by rw [gpA, he3, if_pos ((in_lt (by omega) (by omega)).mpr he1), tn_nI (by omega)]
      have inner : ∀ I2 : MI, (∀ q, q ≠ 121 → I2 q = I1 q) → (∀ c, c < aM a → I2 121 (9 + c) = nI (wyW (aV a) (aM a) j c)) → ∀ c, c ≤ aM a → J mt_X10_grow R 69 [some (.ref 108), some (.int (nI j)), some (.int (nI D)), some (.int (nI mr)), some (.int (nn (bN (aV a) (wyW (aV a) (aM a) j) j c))), some (.int (nI c))] [] (S, I2, L) := by
        intro I2 hf2 hw2
        have e108 : I2 108 = I1 108 := hf2 108 (by omega)
        have e110 : I2 110 = I1 110 := hf2 110 (by omega)
        have hr2 : RW (I2 110) 0 a := by rw [e110]; exact hc1.2.2.2.1
        have hms2 : MS S I2 110 a := MS.of h1 (Or.inl rfl) hr2 ha1 (by rw [e108]; exact hc1.2.2.1.1) (by rw [e108]; exact em1)
        refine up (P := fun c => J mt_X10_grow R 69 [some (.ref 108), some (.int (nI j)), some (.int (nI D)), some (.int (nI mr)), some (.int (nn (bN (aV a) (wyW (aV a) (aM a) j) j c))), some (.int (nI c))] [] (S, I2, L)) (n := aM a) (fun c hcc ihc => ?_)
        by_cases hlt : c < aM a
        · have hv := ha1.v hlt
          have hsp := bN_spec (ov := aV a) (W := wyW (aV a) (aM a) j) (b := j) (c := c) (by omega)
          have hb9 : bN (aV a) (wyW (aV a) (aM a) j) j c = 99 ∨ bN (aV a) (wyW (aV a) (aM a) j) j c < c := hsp.elim (fun z => .inl z.1) (fun z => .inr z.1)
          have hn9 := nn_9 (x := bN (aV a) (wyW (aV a) (aM a) j) j c) (by omega)
          have hnx : ∀ x, bN (aV a) (wyW (aV a) (aM a) j) j (c + 1) = x → J mt_X10_grow R 69 [some (.ref 108), some (.int (nI j)), some (.int (nI D)), some (.int (nI mr)), some (.int (nn x)), some (.int (nI (c + 1)))] [] (S, I2, L) := fun x hx => by rw [← hx]; exact ihc hlt
          have hnc : J mt_X10_grow R 69 [some (.ref 108), some (.int (nI j)), some (.int (nI D)), some (.int (nI mr)), some (.int (nn c)), some (.int (nI (c + 1)))] [] (S, I2, L) → J mt_X10_grow R 69 [some (.ref 108), some (.int (nI j)), some (.int (nI D)), some (.int (nI mr)), some (.int (nI c)), some (.int (nI (c + 1)))] [] (S, I2, L) := fun z => by rwa [nn, if_neg (by omega)] at z
          refine J.of tk_X10_grow 200 fun ρ hρ => ?_
          simp only [hρ, x_c, x_il, x_ll, x_al, x_is, x_as, x_ls, x_inc, x_ii, x_iq, x_i1, x_l2, x_lq, x_lh, x_i2l, x_l2i, x_lcmp, x_dup, x_dup2, x_pop, x_if, x_ifn, x_ic, x_icn, x_go, x_sw, swc, x_l01, x_mx, x_gI, x_gL, x_gR, x_pI, x_pZ, x_pL, x_pR, x_ia, x_za, x_aa, x_ias, x_zas, x_aas, x_fac, x_fa, x_slen, x_sa, x_ac, x_oi, x_new, x_na, x_cS, x_cV, x_cI, x_rI, x_rZ, x_rL, x_r0, pa, short, oc, lg, lset, lset2, wide, cond_true, cond_false, true_and, and_true, ↓reduceIte, Bool.false_eq_true, true_or, or_true, lf_X10_grow, h1, h1.f, e108, em1, nI_leI (show aM a < 2 ^ 31 by omega) (show c < 2 ^ 31 by omega), show (18 : Int32) = nI 18 by decide, nI_add, ncl (show 18 + c < 2 ^ 31 by omega), hr2.v hlt, P_X10_has, P_X10_isBefore, bB_0, hn9, nI_1, Classical.not_not]
          refine ⟨fun q => absurd q (by omega), fun _ => ⟨vp_in_nI (by omega) (by omega), _, _, rfl, by omega, rfl, by omega, fun q => hnx _ (by rw [bN, if_neg (fun z => z.1 q)]), fun q => ⟨fun q2 => hnc (hnx c (by rw [bN, if_pos ⟨q, .inl q2⟩])), fun q2 => ?_⟩⟩⟩
          have hbl := hb9.resolve_left q2
          refine ⟨a, c, bN (aV a) (wyW (aV a) (aM a) j) j c, _, _, hms2, rfl, by rw [nn, if_neg q2], hlt, by omega, wy_le _ _ _ _, wy_le _ _ _ _, hw2 c hlt, hw2 _ (by omega), ?_⟩
          rw [decide_eq_true_eq]
          exact ⟨fun z => hnx _ (by rw [bN, if_neg (fun y => y.2.elim q2 z)]), fun z => hnc (hnx c (by rw [bN, if_pos ⟨q, .inr z⟩]))⟩
        · have : c = aM a := by omega
          subst this
          have hnn : nn (bN (aV a) (wyW (aV a) (aM a) j) j (aM a)) = nI e := by rw [he4, nn, if_neg (by omega)]
          have hc2 : MR S I2 L (GA (remG g) a) := hc1.fr ⟨fun q a b c => hf2 q (by omega), fun j _ => by rw [e108]⟩
          refine J.of tk_X10_grow 200 fun ρ hρ => ?_
          simp only [hρ, x_c, x_il, x_ll, x_al, x_is, x_as, x_ls, x_inc, x_ii, x_iq, x_i1, x_l2, x_lq, x_lh, x_i2l, x_l2i, x_lcmp, x_dup, x_dup2, x_pop, x_if, x_ifn, x_ic, x_icn, x_go, x_sw, swc, x_l01, x_mx, x_gI, x_gL, x_gR, x_pI, x_pZ, x_pL, x_pR, x_ia, x_za, x_aa, x_ias, x_zas, x_aas, x_fac, x_fa, x_slen, x_sa, x_ac, x_oi, x_new, x_na, x_cS, x_cV, x_cI, x_rI, x_rZ, x_rL, x_r0, pa, short, oc, lg, lset, lset2, wide, cond_true, cond_false, true_and, and_true, ↓reduceIte, Bool.false_eq_true, true_or, or_true, lf_X10_grow, h1.f, e108, em1, nI_leI (show aM a < 2 ^ 31 by omega) (show aM a < 2 ^ 31 by omega), Nat.le_refl, true_implies, not_true_eq_false, false_implies, P_X10_putOn, nI_1, hnn]
          refine ⟨e, j, by omega, by omega, rfl, rfl, ?_⟩
          refine J.weak (ls' := [some (.ref 108), some (.int (nI j)), some (.int (nI D)), some (.int (nI (mr + 1))), none, none]) (by simp [lsub]) (ih (mr + 1) (putA a e j) _ ?_ (by omega) (fun q hq => by rw [mS_n (by omega), hf2 q (by omega)]; exact hlo q hq) (hc2.now (hr2.pt ha1 he1 hja) ⟨rfl, rfl⟩) (putA_ok ha1 he1 hja) hz1 (fun I3 q1 q2 => ?_))
          · rw [co_put ha1 he1 he2]; omega
          · rw [show mr + 1 + l = mr + (l + 1) by omega]
            refine hR1 I3 q1 ?_
            rw [grA, hgp]; exact q2
      refine J.of tk_X10_grow 200 fun ρ hρ => ?_
      simp only [hρ, x_c, x_il, x_ll, x_al, x_is, x_as, x_ls, x_inc, x_ii, x_iq, x_i1, x_l2, x_lq, x_lh, x_i2l, x_l2i, x_lcmp, x_dup, x_dup2, x_pop, x_if, x_ifn, x_ic, x_icn, x_go, x_sw, swc, x_l01, x_mx, x_gI, x_gL, x_gR, x_pI, x_pZ, x_pL, x_pR, x_ia, x_za, x_aa, x_ias, x_zas, x_aas, x_fac, x_fa, x_slen, x_sa, x_ac, x_oi, x_new, x_na, x_cS, x_cV, x_cI, x_rI, x_rZ, x_rL, x_r0, pa, short, oc, lg, lset, lset2, wide, cond_true, cond_false, true_and, and_true, ↓reduceIte, Bool.false_eq_true, true_or, or_true, lf_X10_grow, h1, h1.f, P_X10_checksOver, P_X10_ones, P_X10_layWays]
      refine ⟨a, j, hms1, by omega, rfl, by rw [tc]; omega, ?_⟩
      rw [tc, nI_leI (by omega) (by omega)]
      refine ⟨fun q => absurd q (by omega), fun _ => ⟨a, aV a, j, hms1, rfl, hja, fun c' hc' b' hb' => ⟨fun z => ⟨z, fun y => nI_n9 (by omega) y.1⟩, fun z => z.1⟩, ha1.2.1, fun I2 hf2 hw2 => inner I2 hf2 hw2 0 (Nat.zero_le _)⟩⟩
  have o9 := ones9_le (coF (aV (gA g)) (aM (gA g)) j)
  refine key (D - ones9 (coF (aV (gA g)) (aM (gA g)) j)) 0 (gA g) I' rfl (by omega) hl hc' hok ⟨rfl, rfl⟩ (fun I2 q1 q2 => ?_)
  rw [Nat.zero_add]
  exact hA' I2 L q1 (fun _ _ => rfl) q2
