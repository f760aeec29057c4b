/-! WAYS of the model -/
def sm (W : Nat → Nat) : Nat → Nat
  | 0 => 0
  | n + 1 => sm W n + W n
theorem sm_up {W : Nat → Nat} {k x : Nat} (h : x < W k) : ∀ {n : Nat}, sm (va_up W k x) n ≤ sm W n ∧ (k < n → sm (va_up W k x) n < sm W n)
  | 0 => ⟨Nat.le_refl _, fun q => absurd q (by omega)⟩
  | n + 1 => by
    obtain ⟨i1, i2⟩ := sm_up h (n := n)
    simp only [sm]
    by_cases q : n = k
    · subst q
      have e : va_up W n x n = x := by unfold va_up; rw [if_pos rfl]
      rw [e]
      exact ⟨by omega, fun _ => by omega⟩
    · have e : va_up W k x n = W n := by unfold va_up; rw [if_neg q]
      rw [e]
      exact ⟨by omega, fun r => by have := i2 (by omega); omega⟩
def FW (F : Nat → Int32) (W : Nat → Nat) : Prop := ∀ j, j < 15 → F j = nI (W j)
theorem FW.up {F : Nat → Int32} {W : Nat → Nat} {k x : Nat} (h : FW F W) : FW (upd F k (nI x)) (va_up W k x) := fun j hj => by
  rw [upd_app]
  unfold va_up
  by_cases q : j = k
  · rw [if_pos q, if_pos q]
  · rw [if_neg q, if_neg q]; exact h j hj
def stb (ov W : Nat → Nat) (c b : Nat) : Prop := (ov c).testBit b = true → W (9 + c) ≤ W b + 1 ∧ W b ≤ W (9 + c) + 1
def IvW (ov : Nat → Nat) (m n b0 : Nat) (W : Nat → Nat) : Prop := (∀ j, j < 15 → W j ≤ 99) ∧ W b0 = 0 ∧ (∀ b, b < n → W b < 99 → ∃ t, W b = 2 * t ∧ (cW ov m b0 t).1.testBit b = true) ∧ (∀ c, c < m → W (9 + c) < 99 → ∃ t, W (9 + c) = 2 * t + 1 ∧ (cW ov m b0 t).2.testBit c = true)
theorem IvW.c {ov W : Nat → Nat} {m n b0 c b : Nat} (h : IvW ov m n b0 W) (hn : n ≤ 9) (hm : m ≤ 6) (hb0 : b0 < n) (hc : c < m) (hb : b < n) (ht : (ov c).testBit b = true) (hl : W b + 1 < W (9 + c)) : IvW ov m n b0 (va_up W (9 + c) (W b + 1)) := by
  obtain ⟨h1, h2, h3, h4⟩ := h
  have hle := h1 (9 + c) (by omega)
  have e : ∀ j, va_up W (9 + c) (W b + 1) j = if j = 9 + c then W b + 1 else W j := fun j => rfl
  refine ⟨fun j hj => ?_, ?_, fun b' hb' hlt => ?_, fun c' hc' hlt => ?_⟩
  · rw [e]; split
    · omega
    · exact h1 j hj
  · rw [e, if_neg (by omega)]; exact h2
  · rw [e, if_neg (by omega)] at hlt ⊢
    exact h3 b' hb' hlt
  · by_cases q : c' = c
    · subst q
      rw [e, if_pos rfl]
      obtain ⟨t, t1, t2⟩ := h3 b hb (by omega)
      exact ⟨t, by omega, (WI.all ov m b0 t).2 c' hc b ht t2⟩
    · rw [e, if_neg (by omega)] at hlt ⊢
      exact h4 c' hc' hlt
theorem IvW.b {ov W : Nat → Nat} {m n b0 c b : Nat} (h : IvW ov m n b0 W) (hn : n ≤ 9) (hc : c < m) (hb : b < n) (ht : (ov c).testBit b = true) (hl : W (9 + c) + 1 < W b) : IvW ov m n b0 (va_up W b (W (9 + c) + 1)) := by
  obtain ⟨h1, h2, h3, h4⟩ := h
  have hle := h1 b (by omega)
  have e : ∀ j, va_up W b (W (9 + c) + 1) j = if j = b then W (9 + c) + 1 else W j := fun j => rfl
  refine ⟨fun j hj => ?_, ?_, fun b' hb' hlt => ?_, fun c' hc' hlt => ?_⟩
  · rw [e]; split
    · omega
    · exact h1 j hj
  · rw [e, if_neg (fun q => by rw [← q] at hl; omega)]; exact h2
  · by_cases q : b' = b
    · subst q
      rw [e, if_pos rfl]
      obtain ⟨t, t1, t2⟩ := h4 c hc (by omega)
      refine ⟨t + 1, by omega, ?_⟩
      simp only [cW, stW, Nat.testBit_or, Bool.or_eq_true, uS_bit]
      exact .inr ⟨c, hc, t2, ht⟩
    · rw [e, if_neg q] at hlt ⊢
      exact h3 b' hb' hlt
  · rw [e, if_neg (by omega)] at hlt ⊢
    exact h4 c' hc' hlt
/-- when a check is met first, as a way -/
def wyS (f : Nat → Bool) : Nat → Nat → Nat
  | _, 0 => 99
  | s, l + 1 => if f s = true then 2 * s + 1 else wyS f (s + 1) l
def wyW (ov : Nat → Nat) (m b0 c : Nat) : Nat := wyS (fun t => (cW ov m b0 t).2.testBit c) 0 7
theorem wyS_spec {f : Nat → Bool} : ∀ {l s : Nat}, (wyS f s l = 99 ∧ ∀ i, s ≤ i → i < s + l → ¬ f i = true) ∨ ∃ i, s ≤ i ∧ i < s + l ∧ wyS f s l = 2 * i + 1 ∧ f i = true ∧ ∀ k, s ≤ k → k < i → ¬ f k = true
  | 0, s => .inl ⟨rfl, fun i h1 h2 => by omega⟩
  | l + 1, s => by
    simp only [wyS]
    by_cases h : f s = true
    · rw [if_pos h]
      exact .inr ⟨s, by omega, by omega, rfl, h, fun k h1 h2 => by omega⟩
    · rw [if_neg h]
      rcases wyS_spec (f := f) (l := l) (s := s + 1) with ⟨h1, h2⟩ | ⟨i, h1, h2, h3, h4, h5⟩
      · refine .inl ⟨h1, fun i a1 a2 => ?_⟩
        by_cases q : i = s
        · rw [q]; exact h
        · exact h2 i (by omega) (by omega)
      · refine .inr ⟨i, by omega, by omega, h3, h4, fun k a1 a2 => ?_⟩
        by_cases q : k = s
        · rw [q]; exact h
        · exact h5 k (by omega) a2
/-- six checks are met by the sixth step, or never -/
theorem ones_up : ∀ C, C < 64 → ∀ D, D < 64 → ¬ C ||| D = C → ones9 C < ones9 (C ||| D) := by decide +kernel
theorem ones_6 : ∀ C, C < 64 → ones9 C ≤ 6 := by decide +kernel
theorem ones_1 : ∀ C, C < 64 → ¬ C = 0 → 1 ≤ ones9 C := by decide +kernel
theorem cW_2 (ov : Nat → Nat) (m b s : Nat) : (cW ov m b (s + 1)).2 = (cW ov m b s).2 ||| oS ov (cW ov m b (s + 1)).1 m := rfl
theorem cW_1 (ov : Nat → Nat) (m b s : Nat) : (cW ov m b (s + 1)).1 = (cW ov m b s).1 ||| uS ov (cW ov m b s).2 m := rfl
theorem or_abs (x y : Nat) : (x ||| y) ||| y = x ||| y := by rw [Nat.or_assoc, Nat.or_self]
theorem cW_stab {ov : Nat → Nat} {m b s : Nat} (h : (cW ov m b (s + 1)).2 = (cW ov m b s).2) : (cW ov m b (s + 2)).2 = (cW ov m b (s + 1)).2 := by
  have e1 : (cW ov m b (s + 2)).1 = (cW ov m b (s + 1)).1 := by
    rw [cW_1 ov m b (s + 1), h, cW_1 ov m b s, or_abs]
  rw [cW_2 ov m b (s + 1), e1]
  rw [cW_2 ov m b s, or_abs]
theorem cW_grow {ov : Nat → Nat} {m b : Nat} (hC : ∀ s, (cW ov m b s).2 < 64) (hm : m ≤ 6) : ∀ s, (cW ov m b (s + 1)).2 = (cW ov m b s).2 ∨ s + 1 ≤ ones9 (cW ov m b s).2
  | 0 => by
    by_cases q : (cW ov m b 0).2 = 0
    · left
      have e1 : (cW ov m b 1).1 = (cW ov m b 0).1 := by rw [cW_1, q, uS_0, Nat.or_zero]
      rw [cW_2, e1, show (cW ov m b 0).2 = oS ov (cW ov m b 0).1 m from rfl, Nat.or_self]
    · right
      exact ones_1 _ (hC 0) q
  | s + 1 => by
    by_cases q : (cW ov m b (s + 1)).2 = (cW ov m b s).2
    · exact .inl (cW_stab q)
    · right
      have ih := (cW_grow hC hm s).resolve_left q
      have := ones_up (cW ov m b s).2 (hC s) (oS ov (cW ov m b (s + 1)).1 m) (oS_lt hm) (by rw [← cW_2]; exact q)
      rw [← cW_2] at this
      omega
theorem cW_6 {ov : Nat → Nat} {m b : Nat} (hC : ∀ s, (cW ov m b s).2 < 64) (hm : m ≤ 6) : ∀ d, (cW ov m b (6 + d)).2 = (cW ov m b 6).2 ∧ (cW ov m b (6 + d + 1)).2 = (cW ov m b (6 + d)).2
  | 0 => by
    refine ⟨rfl, (cW_grow hC hm 6).resolve_right (fun q => ?_)⟩
    have := ones_6 _ (hC 6)
    omega
  | d + 1 => by
    obtain ⟨h1, h2⟩ := cW_6 hC hm d
    exact ⟨h2.trans h1, cW_stab h2⟩
theorem cW_le {ov : Nat → Nat} {m b c s : Nat} (h : (cW ov m b s).2.testBit c = true) : ∀ d, (cW ov m b (s + d)).2.testBit c = true
  | 0 => h
  | d + 1 => cW_mono ov m b c (s + d) (cW_le h d)
theorem cW_to6 {ov : Nat → Nat} {m b c t : Nat} (hC : ∀ s, (cW ov m b s).2 < 64) (hm : m ≤ 6) (h : (cW ov m b t).2.testBit c = true) : (cW ov m b 6).2.testBit c = true := by
  by_cases q : t ≤ 6
  · have := cW_le h (6 - t)
    rwa [show t + (6 - t) = 6 by omega] at this
  · have := (cW_6 hC hm (t - 6)).1
    rw [show 6 + (t - 6) = t by omega] at this
    rwa [this] at h
theorem bit_lt {x n b : Nat} (h : x < 2 ^ n) (hb : x.testBit b = true) : b < n := by
  refine Classical.byContradiction fun q => ?_
  have h1 := bit_ge hb
  have h2 : 2 ^ n ≤ 2 ^ b := Nat.pow_le_pow_right (by omega) (by omega)
  omega
theorem IvW.all {ov W : Nat → Nat} {m n b0 : Nat} (h : IvW ov m n b0 W) (hb0 : b0 < n) (hov : ∀ c, c < m → ov c < 2 ^ n) (hs : ∀ c, c < m → ∀ b, b < n → stb ov W c b) : ∀ t, (∀ b, (cW ov m b0 t).1.testBit b = true → b < n ∧ W b ≤ 2 * t) ∧ (∀ c, (cW ov m b0 t).2.testBit c = true → c < m ∧ W (9 + c) ≤ 2 * t + 1)
  | 0 => by
    have k1 : ∀ b, (cW ov m b0 0).1.testBit b = true → b < n ∧ W b ≤ 2 * 0 := fun b hb => by
      have : b = b0 := pow_bit.mp hb
      subst this
      exact ⟨hb0, by rw [h.2.1]; omega⟩
    refine ⟨k1, fun c hc => ?_⟩
    have hc' : (oS ov (cW ov m b0 0).1 m).testBit c = true := hc
    rw [oS_bit] at hc'
    obtain ⟨q1, x, q2, q3⟩ := hc'
    have := k1 x q3
    have := (hs c q1 x (by omega) q2).1
    exact ⟨q1, by omega⟩
  | t + 1 => by
    obtain ⟨i1, i2⟩ := IvW.all h hb0 hov hs t
    have k1 : ∀ b, (cW ov m b0 (t + 1)).1.testBit b = true → b < n ∧ W b ≤ 2 * (t + 1) := fun b hb => by
      rw [cW_1, Nat.testBit_or, Bool.or_eq_true, uS_bit] at hb
      rcases hb with hb | ⟨c, q1, q2, q3⟩
      · have := i1 b hb; omega
      · have hbn := bit_lt (hov c q1) q3
        have := i2 c q2
        have := (hs c q1 b hbn q3).2
        omega
    refine ⟨k1, fun c hc => ?_⟩
    rw [cW_2, Nat.testBit_or, Bool.or_eq_true, oS_bit] at hc
    rcases hc with hc | ⟨q1, x, q2, q3⟩
    · have := i2 c hc; omega
    · have := k1 x q3
      have := (hs c q1 x (by omega) q2).1
      exact ⟨q1, by omega⟩
theorem IvW.fin {ov W : Nat → Nat} {m n b0 c : Nat} (h : IvW ov m n b0 W) (hm : m ≤ 6) (hb0 : b0 < n) (hov : ∀ c, c < m → ov c < 2 ^ n) (hs : ∀ c, c < m → ∀ b, b < n → stb ov W c b) (hc : c < m) : W (9 + c) = wyW ov m b0 c := by
  have hC := fun s => (cW_lt hm hb0 hov s).2
  have hA := IvW.all h hb0 hov hs
  have hle := h.1 (9 + c) (by omega)
  rcases wyS_spec (f := fun t => (cW ov m b0 t).2.testBit c) (l := 7) (s := 0) with ⟨h1, h2⟩ | ⟨i, h1, h2, h3, h4, h5⟩
  · rw [wyW, h1]
    refine Classical.byContradiction fun q => ?_
    obtain ⟨t, -, t2⟩ := h.2.2.2 c hc (by omega)
    exact h2 6 (by omega) (by omega) (cW_to6 hC hm t2)
  · rw [wyW, h3]
    have hi := ((hA i).2 c h4).2
    obtain ⟨t, t1, t2⟩ := h.2.2.2 c hc (by omega)
    have : ¬ t < i := fun q => h5 t (by omega) q t2
    omega
def il_X10_layWays : List (Nat × Instr × Nat) := [(0, .iconst 0, 1), (1, .istore 5, 2), (3, .iload 5, 2), (5, .bipush 15, 2), (7, .if_icmp .ge 18, 3), (10, .aload_n 0, 1), (11, .getfield 47, 3), (14, .iload 5, 2), (16, .bipush 99, 2), (18, .iastore, 1), (19, .iinc 5 1, 3), (22, .goto (-19), 3), (25, .aload_n 0, 1), (26, .getfield 47, 3), (29, .iload_n 2, 1), (30, .iconst 0, 1), (31, .iastore, 1), (32, .iconst 1, 1), (33, .istore 5, 2), (35, .iload 5, 2), (37, .ifCond .eq 178, 3), (40, .iconst 0, 1), (41, .istore 5, 2), (43, .iconst 0, 1), (44, .istore 6, 2), (46, .iload 6, 2), (48, .aload_n 0, 1), (49, .getfield 64, 3), (52, .if_icmp .ge 160, 3), (55, .iconst 0, 1), (56, .istore 7, 2), (58, .iload 7, 2), (60, .aload_n 0, 1), (61, .getfield 53, 3), (64, .if_icmp .ge 142, 3), (67, .aload_n 1, 1), (68, .bipush 18, 2), (70, .iload 6, 2), (72, .iadd, 1), (73, .iaload, 1), (74, .iload 7, 2), (76, .invokestatic 102, 3), (79, .ifCond .eq 20, 3), (82, .iload 6, 2), (84, .iload_n 3, 1), (85, .if_icmp .ne 10, 3), (88, .iload 7, 2), (90, .iload 4, 2), (92, .if_icmp .eq 7, 3), (95, .iconst 1, 1), (96, .goto 4, 3), (99, .iconst 0, 1), (100, .istore 8, 2), (102, .iload 8, 2), (104, .ifCond .eq 47, 3), (107, .aload_n 0, 1), (108, .getfield 47, 3), (111, .iload 7, 2), (113, .iaload, 1), (114, .iconst 1, 1), (115, .iadd, 1), (116, .aload_n 0, 1), (117, .getfield 47, 3), (120, .bipush 9, 2), (122, .iload 6, 2), (124, .iadd, 1), (125, .iaload, 1), (126, .if_icmp .ge 25, 3), (129, .aload_n 0, 1), (130, .getfield 47, 3), (133, .bipush 9, 2), (135, .iload 6, 2), (137, .iadd, 1), (138, .aload_n 0, 1), (139, .getfield 47, 3), (142, .iload 7, 2), (144, .iaload, 1), (145, .iconst 1, 1), (146, .iadd, 1), (147, .iastore, 1), (148, .iconst 1, 1), (149, .istore 5, 2), (151, .iload 8, 2), (153, .ifCond .eq 47, 3), (156, .aload_n 0, 1), (157, .getfield 47, 3), (160, .bipush 9, 2), (162, .iload 6, 2), (164, .iadd, 1), (165, .iaload, 1), (166, .iconst 1, 1), (167, .iadd, 1), (168, .aload_n 0, 1), (169, .getfield 47, 3), (172, .iload 7, 2), (174, .iaload, 1), (175, .if_icmp .ge 25, 3), (178, .aload_n 0, 1), (179, .getfield 47, 3), (182, .iload 7, 2), (184, .aload_n 0, 1), (185, .getfield 47, 3), (188, .bipush 9, 2), (190, .iload 6, 2), (192, .iadd, 1), (193, .iaload, 1), (194, .iconst 1, 1), (195, .iadd, 1), (196, .iastore, 1), (197, .iconst 1, 1), (198, .istore 5, 2), (200, .iinc 7 1, 3), (203, .goto (-145), 3), (206, .iinc 6 1, 3), (209, .goto (-163), 3), (212, .goto (-177), 3), (215, .return_, 1)]
def mt_X10_layWays : Mt := (cX10_layWays, RX10, 9, none, ({ frames := 1, cells := 0, slots := 0, locals := 21 } : Room), false, none, none)
set_option maxRecDepth 100000 in
theorem dl_X10_layWays : ∀ q ∈ il_X10_layWays, decode (mt_X10_layWays).1 q.1 = .ok q.2 := by decide +kernel
def tb_X10_layWays : Tb := [(0, x_c 1 (.int 0), false),
  (1, x_is 3 5, false),
  (3, x_il 5 5, true),
  (5, x_c 7 (.int 15), false),
  (7, x_ic 25 10 (fun x y : Int32 => y ≤ x), false),
  (10, x_al 11 0, false),
  (11, x_gR 10 19 14, false),
  (14, x_il 16 5, false),
  (16, x_c 18 (.int 99), false),
  (18, x_ias 19, false),
  (19, x_inc 22 5 1, false),
  (22, x_go 3, false),
  (25, x_al 26 0, false),
  (26, x_gR 10 19 29, false),
  (29, x_il 30 2, false),
  (30, x_c 31 (.int 0), false),
  (31, x_ias 32, false),
  (32, x_c 33 (.int 1), false),
  (33, x_is 35 5, false),
  (35, x_il 37 5, true),
  (37, x_if 215 40 (fun x : Int32 => x = 0), false),
  (40, x_c 41 (.int 0), false),
  (41, x_is 43 5, false),
  (43, x_c 44 (.int 0), false),
  (44, x_is 46 6, false),
  (46, x_il 48 6, true),
  (48, x_al 49 0, false),
  (49, x_gI 10 3 52, false),
  (52, x_ic 212 55 (fun x y : Int32 => y ≤ x), false),
  (55, x_c 56 (.int 0), false),
  (56, x_is 58 7, false),
  (58, x_il 60 7, true),
  (60, x_al 61 0, false),
  (61, x_gI 10 2 64, false),
  (64, x_ic 206 67 (fun x y : Int32 => y ≤ x), false),
  (67, x_al 68 1, false),
  (68, x_c 70 (.int 18), false),
  (70, x_il 72 6, false),
  (72, x_ii 73 (fun x y : Int32 => x + y), false),
  (73, x_ia 74, false),
  (74, x_il 76 7, false),
  (76, x_cS 2 P_X10_has 79, false),
  (79, x_if 99 82 (fun x : Int32 => x = 0), false),
  (82, x_il 84 6, false),
  (84, x_il 85 3, false),
  (85, x_icn 95 88 (fun x y : Int32 => x = y), false),
  (88, x_il 90 7, false),
  (90, x_il 92 4, false),
  (92, x_ic 99 95 (fun x y : Int32 => x = y), false),
  (95, x_c 96 (.int 1), false),
  (96, x_go 100, false),
  (99, x_c 100 (.int 0), false),
  (100, x_is 102 8, false),
  (102, x_il 104 8, true),
  (104, x_if 151 107 (fun x : Int32 => x = 0), false),
  (107, x_al 108 0, false),
  (108, x_gR 10 19 111, false),
  (111, x_il 113 7, false),
  (113, x_ia 114, false),
  (114, x_c 115 (.int 1), false),
  (115, x_ii 116 (fun x y : Int32 => x + y), false),
  (116, x_al 117 0, false),
  (117, x_gR 10 19 120, false),
  (120, x_c 122 (.int 9), false),
  (122, x_il 124 6, false),
  (124, x_ii 125 (fun x y : Int32 => x + y), false),
  (125, x_ia 126, false),
  (126, x_ic 151 129 (fun x y : Int32 => y ≤ x), false),
  (129, x_al 130 0, false),
  (130, x_gR 10 19 133, false),
  (133, x_c 135 (.int 9), false),
  (135, x_il 137 6, false),
  (137, x_ii 138 (fun x y : Int32 => x + y), false),
  (138, x_al 139 0, false),
  (139, x_gR 10 19 142, false),
  (142, x_il 144 7, false),
  (144, x_ia 145, false),
  (145, x_c 146 (.int 1), false),
  (146, x_ii 147 (fun x y : Int32 => x + y), false),
  (147, x_ias 148, false),
  (148, x_c 149 (.int 1), false),
  (149, x_is 151 5, false),
  (151, x_il 153 8, true),
  (153, x_if 200 156 (fun x : Int32 => x = 0), false),
  (156, x_al 157 0, false),
  (157, x_gR 10 19 160, false),
  (160, x_c 162 (.int 9), false),
  (162, x_il 164 6, false),
  (164, x_ii 165 (fun x y : Int32 => x + y), false),
  (165, x_ia 166, false),
  (166, x_c 167 (.int 1), false),
  (167, x_ii 168 (fun x y : Int32 => x + y), false),
  (168, x_al 169 0, false),
  (169, x_gR 10 19 172, false),
  (172, x_il 174 7, false),
  (174, x_ia 175, false),
  (175, x_ic 200 178 (fun x y : Int32 => y ≤ x), false),
  (178, x_al 179 0, false),
  (179, x_gR 10 19 182, false),
  (182, x_il 184 7, false),
  (184, x_al 185 0, false),
  (185, x_gR 10 19 188, false),
  (188, x_c 190 (.int 9), false),
  (190, x_il 192 6, false),
  (192, x_ii 193 (fun x y : Int32 => x + y), false),
  (193, x_ia 194, false),
  (194, x_c 195 (.int 1), false),
  (195, x_ii 196 (fun x y : Int32 => x + y), false),
  (196, x_ias 197, false),
  (197, x_c 198 (.int 1), false),
  (198, x_is 200 5, false),
  (200, x_inc 203 7 1, false),
  (203, x_go 58, false),
  (206, x_inc 209 6 1, false),
  (209, x_go 46, false),
  (212, x_go 35, false),
  (215, x_r0, false)]
set_option maxRecDepth 100000 in
theorem tk_X10_layWays : TbOk (mt_X10_layWays) (tb_X10_layWays) :=
  tkc (s_iconst (at_ dl_X10_layWays 0 (ins := .iconst 0) rfl) (by first | rfl | decide)) (
  tkc (s_istore (at_ dl_X10_layWays 1 (ins := .istore 5) rfl) (by decide)) (
  tkc (s_iload (at_ dl_X10_layWays 2 (ins := .iload 5) rfl)) (
  tkc (s_bipush (at_ dl_X10_layWays 3 (ins := .bipush 15) rfl) (by first | rfl | decide)) (
  tkc (s_ic_ge (at_ dl_X10_layWays 4 (ins := .if_icmp .ge 18) rfl) (by decide)) (
  tkc (s_aload_n (at_ dl_X10_layWays 5 (ins := .aload_n 0) rfl)) (
  tkc (s_gR (at_ dl_X10_layWays 6 (ins := .getfield 47) rfl) (by decide) (by decide) (by decide) (tg 715 (by decide +kernel) (by decide +kernel))) (
  tkc (s_iload (at_ dl_X10_layWays 7 (ins := .iload 5) rfl)) (
  tkc (s_bipush (at_ dl_X10_layWays 8 (ins := .bipush 99) rfl) (by first | rfl | decide)) (
  tkc (s_ias (at_ dl_X10_layWays 9 (ins := .iastore) rfl)) (
  tkc (s_iinc (at_ dl_X10_layWays 10 (ins := .iinc 5 1) rfl) (by decide) (by first | rfl | decide)) (
  tkc (s_goto (at_ dl_X10_layWays 11 (ins := .goto (-19)) rfl) (by decide)) (
  tkc (s_aload_n (at_ dl_X10_layWays 12 (ins := .aload_n 0) rfl)) (
  tkc (s_gR (at_ dl_X10_layWays 13 (ins := .getfield 47) rfl) (by decide) (by decide) (by decide) (tg 715 (by decide +kernel) (by decide +kernel))) (
  tkc (s_iload_n (at_ dl_X10_layWays 14 (ins := .iload_n 2) rfl)) (
  tkc (s_iconst (at_ dl_X10_layWays 15 (ins := .iconst 0) rfl) (by first | rfl | decide)) (
  tkc (s_ias (at_ dl_X10_layWays 16 (ins := .iastore) rfl)) (
  tkc (s_iconst (at_ dl_X10_layWays 17 (ins := .iconst 1) rfl) (by first | rfl | decide)) (
  tkc (s_istore (at_ dl_X10_layWays 18 (ins := .istore 5) rfl) (by decide)) (
  tkc (s_iload (at_ dl_X10_layWays 19 (ins := .iload 5) rfl)) (
  tkc (s_if_eq (at_ dl_X10_layWays 20 (ins := .ifCond .eq 178) rfl) (by decide)) (
  tkc (s_iconst (at_ dl_X10_layWays 21 (ins := .iconst 0) rfl) (by first | rfl | decide)) (
  tkc (s_istore (at_ dl_X10_layWays 22 (ins := .istore 5) rfl) (by decide)) (
  tkc (s_iconst (at_ dl_X10_layWays 23 (ins := .iconst 0) rfl) (by first | rfl | decide)) (
  tkc (s_istore (at_ dl_X10_layWays 24 (ins := .istore 6) rfl) (by decide)) (
  tkc (s_iload (at_ dl_X10_layWays 25 (ins := .iload 6) rfl)) (
  tkc (s_aload_n (at_ dl_X10_layWays 26 (ins := .aload_n 0) rfl)) (
  tkc (s_gI (at_ dl_X10_layWays 27 (ins := .getfield 64) rfl) (by decide) (by decide) (by decide) (tg 699 (by decide +kernel) (by decide +kernel))) (
  tkc (s_ic_ge (at_ dl_X10_layWays 28 (ins := .if_icmp .ge 160) rfl) (by decide)) (
  tkc (s_iconst (at_ dl_X10_layWays 29 (ins := .iconst 0) rfl) (by first | rfl | decide)) (
  tkc (s_istore (at_ dl_X10_layWays 30 (ins := .istore 7) rfl) (by decide)) (
  tkc (s_iload (at_ dl_X10_layWays 31 (ins := .iload 7) rfl)) (
  tkc (s_aload_n (at_ dl_X10_layWays 32 (ins := .aload_n 0) rfl)) (
  tkc (s_gI (at_ dl_X10_layWays 33 (ins := .getfield 53) rfl) (by decide) (by decide) (by decide) (tg 698 (by decide +kernel) (by decide +kernel))) (
  tkc (s_ic_ge (at_ dl_X10_layWays 34 (ins := .if_icmp .ge 142) rfl) (by decide)) (
  tkc (s_aload_n (at_ dl_X10_layWays 35 (ins := .aload_n 1) rfl)) (
  tkc (s_bipush (at_ dl_X10_layWays 36 (ins := .bipush 18) rfl) (by first | rfl | decide)) (
  tkc (s_iload (at_ dl_X10_layWays 37 (ins := .iload 6) rfl)) (
  tkc (s_iadd (at_ dl_X10_layWays 38 (ins := .iadd) rfl)) (
  tkc (s_ia (at_ dl_X10_layWays 39 (ins := .iaload) rfl)) (
  tkc (s_iload (at_ dl_X10_layWays 40 (ins := .iload 7) rfl)) (
  tkc (s_cS ok_X10_has (at_ dl_X10_layWays 41 (ins := .invokestatic 102) rfl) (tg 828 (by decide +kernel) (by decide +kernel)) (tg 829 (by decide +kernel) (by decide +kernel)) (tg 51 (by decide +kernel) (by decide +kernel)) (tg 830 (by decide +kernel) (by decide +kernel)) (⟨by decide, by decide, by decide +kernel⟩) (⟨by decide, by decide⟩) rfl rfl) (
  tkc (s_if_eq (at_ dl_X10_layWays 42 (ins := .ifCond .eq 20) rfl) (by decide)) (
  tkc (s_iload (at_ dl_X10_layWays 43 (ins := .iload 6) rfl)) (
  tkc (s_iload_n (at_ dl_X10_layWays 44 (ins := .iload_n 3) rfl)) (
  tkc (s_ic_ne (at_ dl_X10_layWays 45 (ins := .if_icmp .ne 10) rfl) (by decide)) (
  tkc (s_iload (at_ dl_X10_layWays 46 (ins := .iload 7) rfl)) (
  tkc (s_iload (at_ dl_X10_layWays 47 (ins := .iload 4) rfl)) (
  tkc (s_ic_eq (at_ dl_X10_layWays 48 (ins := .if_icmp .eq 7) rfl) (by decide)) (
  tkc (s_iconst (at_ dl_X10_layWays 49 (ins := .iconst 1) rfl) (by first | rfl | decide)) (
  tkc (s_goto (at_ dl_X10_layWays 50 (ins := .goto 4) rfl) (by decide)) (
  tkc (s_iconst (at_ dl_X10_layWays 51 (ins := .iconst 0) rfl) (by first | rfl | decide)) (
  tkc (s_istore (at_ dl_X10_layWays 52 (ins := .istore 8) rfl) (by decide)) (
  tkc (s_iload (at_ dl_X10_layWays 53 (ins := .iload 8) rfl)) (
  tkc (s_if_eq (at_ dl_X10_layWays 54 (ins := .ifCond .eq 47) rfl) (by decide)) (
  tkc (s_aload_n (at_ dl_X10_layWays 55 (ins := .aload_n 0) rfl)) (
  tkc (s_gR (at_ dl_X10_layWays 56 (ins := .getfield 47) rfl) (by decide) (by decide) (by decide) (tg 715 (by decide +kernel) (by decide +kernel))) (
  tkc (s_iload (at_ dl_X10_layWays 57 (ins := .iload 7) rfl)) (
  tkc (s_ia (at_ dl_X10_layWays 58 (ins := .iaload) rfl)) (
  tkc (s_iconst (at_ dl_X10_layWays 59 (ins := .iconst 1) rfl) (by first | rfl | decide)) (
  tkc (s_iadd (at_ dl_X10_layWays 60 (ins := .iadd) rfl)) (
  tkc (s_aload_n (at_ dl_X10_layWays 61 (ins := .aload_n 0) rfl)) (
  tkc (s_gR (at_ dl_X10_layWays 62 (ins := .getfield 47) rfl) (by decide) (by decide) (by decide) (tg 715 (by decide +kernel) (by decide +kernel))) (
  tkc (s_bipush (at_ dl_X10_layWays 63 (ins := .bipush 9) rfl) (by first | rfl | decide)) (
  tkc (s_iload (at_ dl_X10_layWays 64 (ins := .iload 6) rfl)) (
  tkc (s_iadd (at_ dl_X10_layWays 65 (ins := .iadd) rfl)) (
  tkc (s_ia (at_ dl_X10_layWays 66 (ins := .iaload) rfl)) (
  tkc (s_ic_ge (at_ dl_X10_layWays 67 (ins := .if_icmp .ge 25) rfl) (by decide)) (
  tkc (s_aload_n (at_ dl_X10_layWays 68 (ins := .aload_n 0) rfl)) (
  tkc (s_gR (at_ dl_X10_layWays 69 (ins := .getfield 47) rfl) (by decide) (by decide) (by decide) (tg 715 (by decide +kernel) (by decide +kernel))) (
  tkc (s_bipush (at_ dl_X10_layWays 70 (ins := .bipush 9) rfl) (by first | rfl | decide)) (
  tkc (s_iload (at_ dl_X10_layWays 71 (ins := .iload 6) rfl)) (
  tkc (s_iadd (at_ dl_X10_layWays 72 (ins := .iadd) rfl)) (
  tkc (s_aload_n (at_ dl_X10_layWays 73 (ins := .aload_n 0) rfl)) (
  tkc (s_gR (at_ dl_X10_layWays 74 (ins := .getfield 47) rfl) (by decide) (by decide) (by decide) (tg 715 (by decide +kernel) (by decide +kernel))) (
  tkc (s_iload (at_ dl_X10_layWays 75 (ins := .iload 7) rfl)) (
  tkc (s_ia (at_ dl_X10_layWays 76 (ins := .iaload) rfl)) (
  tkc (s_iconst (at_ dl_X10_layWays 77 (ins := .iconst 1) rfl) (by first | rfl | decide)) (
  tkc (s_iadd (at_ dl_X10_layWays 78 (ins := .iadd) rfl)) (
  tkc (s_ias (at_ dl_X10_layWays 79 (ins := .iastore) rfl)) (
  tkc (s_iconst (at_ dl_X10_layWays 80 (ins := .iconst 1) rfl) (by first | rfl | decide)) (
  tkc (s_istore (at_ dl_X10_layWays 81 (ins := .istore 5) rfl) (by decide)) (
  tkc (s_iload (at_ dl_X10_layWays 82 (ins := .iload 8) rfl)) (
  tkc (s_if_eq (at_ dl_X10_layWays 83 (ins := .ifCond .eq 47) rfl) (by decide)) (
  tkc (s_aload_n (at_ dl_X10_layWays 84 (ins := .aload_n 0) rfl)) (
  tkc (s_gR (at_ dl_X10_layWays 85 (ins := .getfield 47) rfl) (by decide) (by decide) (by decide) (tg 715 (by decide +kernel) (by decide +kernel))) (
  tkc (s_bipush (at_ dl_X10_layWays 86 (ins := .bipush 9) rfl) (by first | rfl | decide)) (
  tkc (s_iload (at_ dl_X10_layWays 87 (ins := .iload 6) rfl)) (
  tkc (s_iadd (at_ dl_X10_layWays 88 (ins := .iadd) rfl)) (
  tkc (s_ia (at_ dl_X10_layWays 89 (ins := .iaload) rfl)) (
  tkc (s_iconst (at_ dl_X10_layWays 90 (ins := .iconst 1) rfl) (by first | rfl | decide)) (
  tkc (s_iadd (at_ dl_X10_layWays 91 (ins := .iadd) rfl)) (
  tkc (s_aload_n (at_ dl_X10_layWays 92 (ins := .aload_n 0) rfl)) (
  tkc (s_gR (at_ dl_X10_layWays 93 (ins := .getfield 47) rfl) (by decide) (by decide) (by decide) (tg 715 (by decide +kernel) (by decide +kernel))) (
  tkc (s_iload (at_ dl_X10_layWays 94 (ins := .iload 7) rfl)) (
  tkc (s_ia (at_ dl_X10_layWays 95 (ins := .iaload) rfl)) (
  tkc (s_ic_ge (at_ dl_X10_layWays 96 (ins := .if_icmp .ge 25) rfl) (by decide)) (
  tkc (s_aload_n (at_ dl_X10_layWays 97 (ins := .aload_n 0) rfl)) (
  tkc (s_gR (at_ dl_X10_layWays 98 (ins := .getfield 47) rfl) (by decide) (by decide) (by decide) (tg 715 (by decide +kernel) (by decide +kernel))) (
  tkc (s_iload (at_ dl_X10_layWays 99 (ins := .iload 7) rfl)) (
  tkc (s_aload_n (at_ dl_X10_layWays 100 (ins := .aload_n 0) rfl)) (
  tkc (s_gR (at_ dl_X10_layWays 101 (ins := .getfield 47) rfl) (by decide) (by decide) (by decide) (tg 715 (by decide +kernel) (by decide +kernel))) (
  tkc (s_bipush (at_ dl_X10_layWays 102 (ins := .bipush 9) rfl) (by first | rfl | decide)) (
  tkc (s_iload (at_ dl_X10_layWays 103 (ins := .iload 6) rfl)) (
  tkc (s_iadd (at_ dl_X10_layWays 104 (ins := .iadd) rfl)) (
  tkc (s_ia (at_ dl_X10_layWays 105 (ins := .iaload) rfl)) (
  tkc (s_iconst (at_ dl_X10_layWays 106 (ins := .iconst 1) rfl) (by first | rfl | decide)) (
  tkc (s_iadd (at_ dl_X10_layWays 107 (ins := .iadd) rfl)) (
  tkc (s_ias (at_ dl_X10_layWays 108 (ins := .iastore) rfl)) (
  tkc (s_iconst (at_ dl_X10_layWays 109 (ins := .iconst 1) rfl) (by first | rfl | decide)) (
  tkc (s_istore (at_ dl_X10_layWays 110 (ins := .istore 5) rfl) (by decide)) (
  tkc (s_iinc (at_ dl_X10_layWays 111 (ins := .iinc 7 1) rfl) (by decide) (by first | rfl | decide)) (
  tkc (s_goto (at_ dl_X10_layWays 112 (ins := .goto (-145)) rfl) (by decide)) (
  tkc (s_iinc (at_ dl_X10_layWays 113 (ins := .iinc 6 1) rfl) (by decide) (by first | rfl | decide)) (
  tkc (s_goto (at_ dl_X10_layWays 114 (ins := .goto (-163)) rfl) (by decide)) (
  tkc (s_goto (at_ dl_X10_layWays 115 (ins := .goto (-177)) rfl) (by decide)) (
  tkc (s_r0 (at_ dl_X10_layWays 116 (ins := .return_) rfl) rfl) ( tk0)))))))))))))))))))))))))))))))))))))))))))))))))))))))))))))))))))))))))))))))))))))))))))))))))))))))))))))))))))))
set_option maxRecDepth 100000 in
theorem lf_X10_layWays : lk (tb_X10_layWays) 0 = (x_c 1 (.int 0), false) ∧ lk (tb_X10_layWays) 1 = (x_is 3 5, false) ∧ lk (tb_X10_layWays) 3 = (x_il 5 5, true) ∧ lk (tb_X10_layWays) 5 = (x_c 7 (.int 15), false) ∧ lk (tb_X10_layWays) 7 = (x_ic 25 10 (fun x y : Int32 => y ≤ x), false) ∧ lk (tb_X10_layWays) 10 = (x_al 11 0, false) ∧ lk (tb_X10_layWays) 11 = (x_gR 10 19 14, false) ∧ lk (tb_X10_layWays) 14 = (x_il 16 5, false) ∧ lk (tb_X10_layWays) 16 = (x_c 18 (.int 99), false) ∧ lk (tb_X10_layWays) 18 = (x_ias 19, false) ∧ lk (tb_X10_layWays) 19 = (x_inc 22 5 1, false) ∧ lk (tb_X10_layWays) 22 = (x_go 3, false) ∧ lk (tb_X10_layWays) 25 = (x_al 26 0, false) ∧ lk (tb_X10_layWays) 26 = (x_gR 10 19 29, false) ∧ lk (tb_X10_layWays) 29 = (x_il 30 2, false) ∧ lk (tb_X10_layWays) 30 = (x_c 31 (.int 0), false) ∧ lk (tb_X10_layWays) 31 = (x_ias 32, false) ∧ lk (tb_X10_layWays) 32 = (x_c 33 (.int 1), false) ∧ lk (tb_X10_layWays) 33 = (x_is 35 5, false) ∧ lk (tb_X10_layWays) 35 = (x_il 37 5, true) ∧ lk (tb_X10_layWays) 37 = (x_if 215 40 (fun x : Int32 => x = 0), false) ∧ lk (tb_X10_layWays) 40 = (x_c 41 (.int 0), false) ∧ lk (tb_X10_layWays) 41 = (x_is 43 5, false) ∧ lk (tb_X10_layWays) 43 = (x_c 44 (.int 0), false) ∧ lk (tb_X10_layWays) 44 = (x_is 46 6, false) ∧ lk (tb_X10_layWays) 46 = (x_il 48 6, true) ∧ lk (tb_X10_layWays) 48 = (x_al 49 0, false) ∧ lk (tb_X10_layWays) 49 = (x_gI 10 3 52, false) ∧ lk (tb_X10_layWays) 52 = (x_ic 212 55 (fun x y : Int32 => y ≤ x), false) ∧ lk (tb_X10_layWays) 55 = (x_c 56 (.int 0), false) ∧ lk (tb_X10_layWays) 56 = (x_is 58 7, false) ∧ lk (tb_X10_layWays) 58 = (x_il 60 7, true) ∧ lk (tb_X10_layWays) 60 = (x_al 61 0, false) ∧ lk (tb_X10_layWays) 61 = (x_gI 10 2 64, false) ∧ lk (tb_X10_layWays) 64 = (x_ic 206 67 (fun x y : Int32 => y ≤ x), false) ∧ lk (tb_X10_layWays) 67 = (x_al 68 1, false) ∧ lk (tb_X10_layWays) 68 = (x_c 70 (.int 18), false) ∧ lk (tb_X10_layWays) 70 = (x_il 72 6, false) ∧ lk (tb_X10_layWays) 72 = (x_ii 73 (fun x y : Int32 => x + y), false) ∧ lk (tb_X10_layWays) 73 = (x_ia 74, false) ∧ lk (tb_X10_layWays) 74 = (x_il 76 7, false) ∧ lk (tb_X10_layWays) 76 = (x_cS 2 P_X10_has 79, false) ∧ lk (tb_X10_layWays) 79 = (x_if 99 82 (fun x : Int32 => x = 0), false) ∧ lk (tb_X10_layWays) 82 = (x_il 84 6, false) ∧ lk (tb_X10_layWays) 84 = (x_il 85 3, false) ∧ lk (tb_X10_layWays) 85 = (x_icn 95 88 (fun x y : Int32 => x = y), false) ∧ lk (tb_X10_layWays) 88 = (x_il 90 7, false) ∧ lk (tb_X10_layWays) 90 = (x_il 92 4, false) ∧ lk (tb_X10_layWays) 92 = (x_ic 99 95 (fun x y : Int32 => x = y), false) ∧ lk (tb_X10_layWays) 95 = (x_c 96 (.int 1), false) ∧ lk (tb_X10_layWays) 96 = (x_go 100, false) ∧ lk (tb_X10_layWays) 99 = (x_c 100 (.int 0), false) ∧ lk (tb_X10_layWays) 100 = (x_is 102 8, false) ∧ lk (tb_X10_layWays) 102 = (x_il 104 8, true) ∧ lk (tb_X10_layWays) 104 = (x_if 151 107 (fun x : Int32 => x = 0), false) ∧ lk (tb_X10_layWays) 107 = (x_al 108 0, false) ∧ lk (tb_X10_layWays) 108 = (x_gR 10 19 111, false) ∧ lk (tb_X10_layWays) 111 = (x_il 113 7, false) ∧ lk (tb_X10_layWays) 113 = (x_ia 114, false) ∧ lk (tb_X10_layWays) 114 = (x_c 115 (.int 1), false) ∧ lk (tb_X10_layWays) 115 = (x_ii 116 (fun x y : Int32 => x + y), false) ∧ lk (tb_X10_layWays) 116 = (x_al 117 0, false) ∧ lk (tb_X10_layWays) 117 = (x_gR 10 19 120, false) ∧ lk (tb_X10_layWays) 120 = (x_c 122 (.int 9), false) ∧ lk (tb_X10_layWays) 122 = (x_il 124 6, false) ∧ lk (tb_X10_layWays) 124 = (x_ii 125 (fun x y : Int32 => x + y), false) ∧ lk (tb_X10_layWays) 125 = (x_ia 126, false) ∧ lk (tb_X10_layWays) 126 = (x_ic 151 129 (fun x y : Int32 => y ≤ x), false) ∧ lk (tb_X10_layWays) 129 = (x_al 130 0, false) ∧ lk (tb_X10_layWays) 130 = (x_gR 10 19 133, false) ∧ lk (tb_X10_layWays) 133 = (x_c 135 (.int 9), false) ∧ lk (tb_X10_layWays) 135 = (x_il 137 6, false) ∧ lk (tb_X10_layWays) 137 = (x_ii 138 (fun x y : Int32 => x + y), false) ∧ lk (tb_X10_layWays) 138 = (x_al 139 0, false) ∧ lk (tb_X10_layWays) 139 = (x_gR 10 19 142, false) ∧ lk (tb_X10_layWays) 142 = (x_il 144 7, false) ∧ lk (tb_X10_layWays) 144 = (x_ia 145, false) ∧ lk (tb_X10_layWays) 145 = (x_c 146 (.int 1), false) ∧ lk (tb_X10_layWays) 146 = (x_ii 147 (fun x y : Int32 => x + y), false) ∧ lk (tb_X10_layWays) 147 = (x_ias 148, false) ∧ lk (tb_X10_layWays) 148 = (x_c 149 (.int 1), false) ∧ lk (tb_X10_layWays) 149 = (x_is 151 5, false) ∧ lk (tb_X10_layWays) 151 = (x_il 153 8, true) ∧ lk (tb_X10_layWays) 153 = (x_if 200 156 (fun x : Int32 => x = 0), false) ∧ lk (tb_X10_layWays) 156 = (x_al 157 0, false) ∧ lk (tb_X10_layWays) 157 = (x_gR 10 19 160, false) ∧ lk (tb_X10_layWays) 160 = (x_c 162 (.int 9), false) ∧ lk (tb_X10_layWays) 162 = (x_il 164 6, false) ∧ lk (tb_X10_layWays) 164 = (x_ii 165 (fun x y : Int32 => x + y), false) ∧ lk (tb_X10_layWays) 165 = (x_ia 166, false) ∧ lk (tb_X10_layWays) 166 = (x_c 167 (.int 1), false) ∧ lk (tb_X10_layWays) 167 = (x_ii 168 (fun x y : Int32 => x + y), false) ∧ lk (tb_X10_layWays) 168 = (x_al 169 0, false) ∧ lk (tb_X10_layWays) 169 = (x_gR 10 19 172, false) ∧ lk (tb_X10_layWays) 172 = (x_il 174 7, false) ∧ lk (tb_X10_layWays) 174 = (x_ia 175, false) ∧ lk (tb_X10_layWays) 175 = (x_ic 200 178 (fun x y : Int32 => y ≤ x), false) ∧ lk (tb_X10_layWays) 178 = (x_al 179 0, false) ∧ lk (tb_X10_layWays) 179 = (x_gR 10 19 182, false) ∧ lk (tb_X10_layWays) 182 = (x_il 184 7, false) ∧ lk (tb_X10_layWays) 184 = (x_al 185 0, false) ∧ lk (tb_X10_layWays) 185 = (x_gR 10 19 188, false) ∧ lk (tb_X10_layWays) 188 = (x_c 190 (.int 9), false) ∧ lk (tb_X10_layWays) 190 = (x_il 192 6, false) ∧ lk (tb_X10_layWays) 192 = (x_ii 193 (fun x y : Int32 => x + y), false) ∧ lk (tb_X10_layWays) 193 = (x_ia 194, false) ∧ lk (tb_X10_layWays) 194 = (x_c 195 (.int 1), false) ∧ lk (tb_X10_layWays) 195 = (x_ii 196 (fun x y : Int32 => x + y), false) ∧ lk (tb_X10_layWays) 196 = (x_ias 197, false) ∧ lk (tb_X10_layWays) 197 = (x_c 198 (.int 1), false) ∧ lk (tb_X10_layWays) 198 = (x_is 200 5, false) ∧ lk (tb_X10_layWays) 200 = (x_inc 203 7 1, false) ∧ lk (tb_X10_layWays) 203 = (x_go 58, false) ∧ lk (tb_X10_layWays) 206 = (x_inc 209 6 1, false) ∧ lk (tb_X10_layWays) 209 = (x_go 46, false) ∧ lk (tb_X10_layWays) 212 = (x_go 35, false) ∧ lk (tb_X10_layWays) 215 = (x_r0, false) := ⟨rfl, rfl, rfl, rfl, rfl, rfl, rfl, rfl, rfl, rfl, rfl, rfl, rfl, rfl, rfl, rfl, rfl, rfl, rfl, rfl, rfl, rfl, rfl, rfl, rfl, rfl, rfl, rfl, rfl, rfl, rfl, rfl, rfl, rfl, rfl, rfl, rfl, rfl, rfl, rfl, rfl, rfl, rfl, rfl, rfl, rfl, rfl, rfl, rfl, rfl, rfl, rfl, rfl, rfl, rfl, rfl, rfl, rfl, rfl, rfl, rfl, rfl, rfl, rfl, rfl, rfl, rfl, rfl, rfl, rfl, rfl, rfl, rfl, rfl, rfl, rfl, rfl, rfl, rfl, rfl, rfl, rfl, rfl, rfl, rfl, rfl, rfl, rfl, rfl, rfl, rfl, rfl, rfl, rfl, rfl, rfl, rfl, rfl, rfl, rfl, rfl, rfl, rfl, rfl, rfl, rfl, rfl, rfl, rfl, rfl, rfl, rfl, rfl, rfl, rfl, rfl, rfl⟩
def P_X10_layWays : PTT := fun as M R => match as with
  | [.ref z, .ref k, .int f, .int x, .int y] => z = 108 ∧ k = 110 ∧ IsMo M.1 ∧ ∃ a ov b0, MS M.1 M.2.1 110 a ∧ f = nI b0 ∧ b0 < aN a ∧ (∀ c, c < aM a → ∀ b, b < aN a → ((ov c).testBit b = true ↔ ((aV a c).testBit b = true ∧ ¬ (nI c = x ∧ nI b = y)))) ∧ (∀ c, c < aM a → ov c < 2 ^ aN a) ∧ ∀ I', (∀ q, q ≠ 121 → I' q = M.2.1 q) → (∀ c, c < aM a → I' 121 (9 + c) = nI (wyW ov (aM a) b0 c)) → R none (M.1, I', M.2.2)
  | _ => False
set_option maxRecDepth 20000 in
theorem ok_X10_layWays : Ok yX10_layWays mt_X10_layWays P_X10_layWays := by
  refine Ok.of (by decide) rfl rfl rfl rfl fun av ⟨S, I, L⟩ R hP => ?_
  unfold P_X10_layWays at hP
  split at hP
  case h_2 => exact hP.elim
  rename_i z k f x y
  obtain ⟨z, rfl⟩ : ∃ q : Nat, q = z := ⟨z, rfl⟩
  obtain ⟨k, rfl⟩ : ∃ q : Nat, q = k := ⟨k, rfl⟩
  refine ⟨by simp [ent, wide, mt_X10_layWays], ?_⟩
  show J mt_X10_layWays R 0 [some (.ref z), some (.ref k), some (.int f), some (.int x), some (.int y), none, none, none, none] [] (S, I, L)
  try dsimp only at hP
  obtain ⟨rfl, rfl, h1, a, ov, b0, ⟨m1, hr, ha, en, em⟩, rfl, hb0, hE, hov, hR⟩ := hP
  have hm := ha.1
  have e108 : ∀ F, mS I 121 F 108 = I 108 := fun F => mS_n (by omega)
  have e110 : ∀ F, mS I 121 F 110 = I 110 := fun F => mS_n (by omega)
  have z0 : (0 : Int32) = 0 ↔ True := ⟨fun _ => trivial, fun _ => rfl⟩
  have z1 : (1 : Int32) = 0 ↔ False := by decide
  have fin : ∀ W F, FW F W → IvW ov (aM a) (aN a) b0 W → (∀ c, c < aM a → ∀ b, b < aN a → stb ov W c b) → J mt_X10_layWays R 35 [some (.ref 108), some (.ref 110), some (.int (nI b0)), some (.int x), some (.int y), some (.int 0), none, none, none] [] (S, mS I 121 F, L) := fun W F hF hI hs => by
    refine J.of tk_X10_layWays 200 fun ρ hρ => ?_
    simp only [hρ, x_c, x_il, x_ll, x_al, x_is, x_as, x_ls, x_inc, x_ii, x_iq, x_i1, x_l2, x_lq, x_lh, x_i2l, x_l2i, x_lcmp, x_dup, x_dup2, x_pop, x_if, x_ifn, x_ic, x_icn, x_go, x_sw, swc, x_l01, x_mx, x_gI, x_gL, x_gR, x_pI, x_pZ, x_pL, x_pR, x_ia, x_za, x_aa, x_ias, x_zas, x_aas, x_fac, x_fa, x_slen, x_sa, x_ac, x_oi, x_new, x_na, x_cS, x_cV, x_cI, x_rI, x_rZ, x_rL, x_r0, pa, short, oc, lg, lset, lset2, wide, cond_true, cond_false, true_and, and_true, ↓reduceIte, Bool.false_eq_true, true_or, or_true, lf_X10_layWays, z0, true_implies, not_true_eq_false, false_implies]
    exact hR _ (fun q hq => mS_n hq) (fun c hc => by rw [mS_s, hF _ (by omega), hI.fin hm.2.2 hb0 hov hs hc])
  have loop : ∀ N W F, sm W 15 < N → FW F W → IvW ov (aM a) (aN a) b0 W → J mt_X10_layWays R 35 [some (.ref 108), some (.ref 110), some (.int (nI b0)), some (.int x), some (.int y), some (.int 1), none, none, none] [] (S, mS I 121 F, L) := by
    intro N
    induction N with
    | zero => intro W F h; omega
    | succ N ihN =>
      intro W0 F0 hN hF0 hI0
      have pass := up (P := fun c => ∀ W F (more : Bool), FW F W → IvW ov (aM a) (aN a) b0 W → (more = true → sm W 15 < sm W0 15) → (more = false → W = W0 ∧ ∀ c' b', c' < c → b' < aN a → stb ov W0 c' b') → J mt_X10_layWays R 46 [some (.ref 108), some (.ref 110), some (.int (nI b0)), some (.int x), some (.int y), some (.int (bB more)), some (.int (nI c)), none, none] [] (S, mS I 121 F, L)) (n := aM a) (fun c hc ih W F more hF hI hmt hmf => ?_) 0 (Nat.zero_le _) W0 F0 false hF0 hI0 (fun h => by cases h) (fun _ => ⟨rfl, fun c' b' h => absurd h (by omega)⟩)
      · refine J.of tk_X10_layWays 200 fun ρ hρ => ?_
        simp only [hρ, x_c, x_il, x_ll, x_al, x_is, x_as, x_ls, x_inc, x_ii, x_iq, x_i1, x_l2, x_lq, x_lh, x_i2l, x_l2i, x_lcmp, x_dup, x_dup2, x_pop, x_if, x_ifn, x_ic, x_icn, x_go, x_sw, swc, x_l01, x_mx, x_gI, x_gL, x_gR, x_pI, x_pZ, x_pL, x_pR, x_ia, x_za, x_aa, x_ias, x_zas, x_aas, x_fac, x_fa, x_slen, x_sa, x_ac, x_oi, x_new, x_na, x_cS, x_cV, x_cI, x_rI, x_rZ, x_rL, x_r0, pa, short, oc, lg, lset, lset2, wide, cond_true, cond_false, true_and, and_true, ↓reduceIte, Bool.false_eq_true, true_or, or_true, lf_X10_layWays, z1, true_implies, not_true_eq_false, false_implies, not_false_eq_true]
        exact pass
      by_cases hlt : c < aM a
      · have inner := up (P := fun b => ∀ W F (more : Bool), FW F W → IvW ov (aM a) (aN a) b0 W → (more = true → sm W 15 < sm W0 15) → (more = false → W = W0 ∧ (∀ c' b', c' < c → b' < aN a → stb ov W0 c' b') ∧ ∀ b', b' < b → stb ov W0 c b') → J mt_X10_layWays R 58 [some (.ref 108), some (.ref 110), some (.int (nI b0)), some (.int x), some (.int y), some (.int (bB more)), some (.int (nI c)), some (.int (nI b)), none] [] (S, mS I 121 F, L)) (n := aN a) (fun b hb ihb W F more hF hI hmt hmf => ?_) 0 (Nat.zero_le _) W F more hF hI hmt (fun h => ⟨(hmf h).1, (hmf h).2, fun b' h => absurd h (by omega)⟩)
        · refine J.of tk_X10_layWays 200 fun ρ hρ => ?_
          simp only [hρ, x_c, x_il, x_ll, x_al, x_is, x_as, x_ls, x_inc, x_ii, x_iq, x_i1, x_l2, x_lq, x_lh, x_i2l, x_l2i, x_lcmp, x_dup, x_dup2, x_pop, x_if, x_ifn, x_ic, x_icn, x_go, x_sw, swc, x_l01, x_mx, x_gI, x_gL, x_gR, x_pI, x_pZ, x_pL, x_pR, x_ia, x_za, x_aa, x_ias, x_zas, x_aas, x_fac, x_fa, x_slen, x_sa, x_ac, x_oi, x_new, x_na, x_cS, x_cV, x_cI, x_rI, x_rZ, x_rL, x_r0, pa, short, oc, lg, lset, lset2, wide, cond_true, cond_false, true_and, and_true, ↓reduceIte, Bool.false_eq_true, true_or, or_true, lf_X10_layWays, h1.f, e108, em, nI_leI (show aM a < 2 ^ 31 by omega) (show c < 2 ^ 31 by omega)]
          exact ⟨fun h => absurd h (by omega), fun _ => inner⟩
        by_cases hbl : b < aN a
        · have v1 : vp_in (nI b) 15 := vp_in_nI (by omega) (by omega)
          have v2 : vp_in (nI (9 + c)) 15 := vp_in_nI (by omega) (by omega)
          have f151 : ∀ W F (more is : Bool), is = (ov c).testBit b → FW F W → IvW ov (aM a) (aN a) b0 W → (more = true → sm W 15 < sm W0 15) → (more = false → W = W0 ∧ (∀ c' b', c' < c → b' < aN a → stb ov W0 c' b') ∧ (∀ b', b' < b → stb ov W0 c b') ∧ (is = true → W0 (9 + c) ≤ W0 b + 1)) → J mt_X10_layWays R 151 [some (.ref 108), some (.ref 110), some (.int (nI b0)), some (.int x), some (.int y), some (.int (bB more)), some (.int (nI c)), some (.int (nI b)), some (.int (bB is))] [] (S, mS I 121 F, L) := by
            intro W F more is his hF hI hmt hmf
            have eb : F b = nI (W b) := hF b (by omega)
            have ec : F (9 + c) = nI (W (9 + c)) := hF (9 + c) (by omega)
            have l1 := hI.1 b (by omega)
            have l2 := hI.1 (9 + c) (by omega)
            cases is with
            | false =>
              refine J.of tk_X10_layWays 200 fun ρ hρ => ?_
              simp only [hρ, x_c, x_il, x_ll, x_al, x_is, x_as, x_ls, x_inc, x_ii, x_iq, x_i1, x_l2, x_lq, x_lh, x_i2l, x_l2i, x_lcmp, x_dup, x_dup2, x_pop, x_if, x_ifn, x_ic, x_icn, x_go, x_sw, swc, x_l01, x_mx, x_gI, x_gL, x_gR, x_pI, x_pZ, x_pL, x_pR, x_ia, x_za, x_aa, x_ias, x_zas, x_aas, x_fac, x_fa, x_slen, x_sa, x_ac, x_oi, x_new, x_na, x_cS, x_cV, x_cI, x_rI, x_rZ, x_rL, x_r0, pa, short, oc, lg, lset, lset2, wide, cond_true, cond_false, true_and, and_true, ↓reduceIte, Bool.false_eq_true, true_or, or_true, lf_X10_layWays, bB_0, nI_1, Bool.false_eq_true, not_false_eq_true, true_implies, not_true_eq_false, false_implies]
              refine J.weak (by simp [lsub]) (ihb hbl W F more hF hI hmt (fun h => ?_))
              obtain ⟨q1, q2, q3, -⟩ := hmf h
              refine ⟨q1, q2, fun b' hb' => ?_⟩
              by_cases q : b' = b
              · subst q; exact fun z => by rw [z] at his; cases his
              · exact q3 b' (by omega)
            | true =>
              refine J.of tk_X10_layWays 200 fun ρ hρ => ?_
              simp only [hρ, x_c, x_il, x_ll, x_al, x_is, x_as, x_ls, x_inc, x_ii, x_iq, x_i1, x_l2, x_lq, x_lh, x_i2l, x_l2i, x_lcmp, x_dup, x_dup2, x_pop, x_if, x_ifn, x_ic, x_icn, x_go, x_sw, swc, x_l01, x_mx, x_gI, x_gL, x_gR, x_pI, x_pZ, x_pL, x_pR, x_ia, x_za, x_aa, x_ias, x_zas, x_aas, x_fac, x_fa, x_slen, x_sa, x_ac, x_oi, x_new, x_na, x_cS, x_cV, x_cI, x_rI, x_rZ, x_rL, x_r0, pa, short, oc, lg, lset, lset2, wide, cond_true, cond_false, true_and, and_true, ↓reduceIte, Bool.false_eq_true, true_or, or_true, lf_X10_layWays, h1.f, e108, bB_0, nI9, nI_add, nI_1, mS_s, mS_ss, eq_true v1, eq_true v2, ncl (show b < 2 ^ 31 by omega), ncl (show 9 + c < 2 ^ 31 by omega), eb, ec, nI_leI (show W b < 2 ^ 31 by omega) (show W (9 + c) + 1 < 2 ^ 31 by omega), not_false_eq_true, true_implies, not_true_eq_false, false_implies]
              refine ⟨fun q => J.weak (by simp [lsub]) (ihb hbl W F more hF hI hmt (fun h => ?_)), fun q => J.weak (ls' := [some (.ref 108), some (.ref 110), some (.int (nI b0)), some (.int x), some (.int y), some (.int (bB true)), some (.int (nI c)), some (.int (nI (b + 1))), none]) (by simp [lsub, bB]) (ihb hbl _ _ true hF.up (hI.b hm.2.1 hlt hbl his.symm (by omega)) (fun _ => ?_) (fun h => by cases h))⟩
              · obtain ⟨q1, q2, q3, q4⟩ := hmf h
                refine ⟨q1, q2, fun b' hb' => ?_⟩
                by_cases e : b' = b
                · subst e; exact fun _ => ⟨q4 rfl, by rw [← q1]; exact q⟩
                · exact q3 b' (by omega)
              · have s1 := (sm_up (W := W) (k := b) (x := W (9 + c) + 1) (by omega) (n := 15)).2 (by omega)
                cases more with
                | true => have := hmt rfl; omega
                | false => obtain ⟨q1, -⟩ := hmf rfl; rw [q1] at s1 ⊢; exact s1
          have f102 : ∀ is : Bool, is = (ov c).testBit b → J mt_X10_layWays R 102 [some (.ref 108), some (.ref 110), some (.int (nI b0)), some (.int x), some (.int y), some (.int (bB more)), some (.int (nI c)), some (.int (nI b)), some (.int (bB is))] [] (S, mS I 121 F, L) := by
            intro is his
            have eb : F b = nI (W b) := hF b (by omega)
            have ec : F (9 + c) = nI (W (9 + c)) := hF (9 + c) (by omega)
            have l1 := hI.1 b (by omega)
            have l2 := hI.1 (9 + c) (by omega)
            cases is with
            | false =>
              refine J.of tk_X10_layWays 200 fun ρ hρ => ?_
              simp only [hρ, x_c, x_il, x_ll, x_al, x_is, x_as, x_ls, x_inc, x_ii, x_iq, x_i1, x_l2, x_lq, x_lh, x_i2l, x_l2i, x_lcmp, x_dup, x_dup2, x_pop, x_if, x_ifn, x_ic, x_icn, x_go, x_sw, swc, x_l01, x_mx, x_gI, x_gL, x_gR, x_pI, x_pZ, x_pL, x_pR, x_ia, x_za, x_aa, x_ias, x_zas, x_aas, x_fac, x_fa, x_slen, x_sa, x_ac, x_oi, x_new, x_na, x_cS, x_cV, x_cI, x_rI, x_rZ, x_rL, x_r0, pa, short, oc, lg, lset, lset2, wide, cond_true, cond_false, true_and, and_true, ↓reduceIte, Bool.false_eq_true, true_or, or_true, lf_X10_layWays, bB_0, Bool.false_eq_true, not_false_eq_true, true_implies, not_true_eq_false, false_implies]
              exact f151 W F more false his hF hI hmt (fun h => ⟨(hmf h).1, (hmf h).2.1, (hmf h).2.2, fun q => by cases q⟩)
            | true =>
              refine J.of tk_X10_layWays 200 fun ρ hρ => ?_
              simp only [hρ, x_c, x_il, x_ll, x_al, x_is, x_as, x_ls, x_inc, x_ii, x_iq, x_i1, x_l2, x_lq, x_lh, x_i2l, x_l2i, x_lcmp, x_dup, x_dup2, x_pop, x_if, x_ifn, x_ic, x_icn, x_go, x_sw, swc, x_l01, x_mx, x_gI, x_gL, x_gR, x_pI, x_pZ, x_pL, x_pR, x_ia, x_za, x_aa, x_ias, x_zas, x_aas, x_fac, x_fa, x_slen, x_sa, x_ac, x_oi, x_new, x_na, x_cS, x_cV, x_cI, x_rI, x_rZ, x_rL, x_r0, pa, short, oc, lg, lset, lset2, wide, cond_true, cond_false, true_and, and_true, ↓reduceIte, Bool.false_eq_true, true_or, or_true, lf_X10_layWays, h1.f, e108, bB_0, nI9, nI_add, nI_1, mS_s, mS_ss, eq_true v1, eq_true v2, ncl (show b < 2 ^ 31 by omega), ncl (show 9 + c < 2 ^ 31 by omega), eb, ec, nI_leI (show W (9 + c) < 2 ^ 31 by omega) (show W b + 1 < 2 ^ 31 by omega), not_false_eq_true, true_implies, not_true_eq_false, false_implies]
              refine ⟨fun q => f151 W F more true his hF hI hmt (fun h => ⟨(hmf h).1, (hmf h).2.1, (hmf h).2.2, fun _ => by rw [← (hmf h).1]; exact q⟩), fun q => f151 _ _ true true his hF.up (hI.c hm.2.1 hm.2.2 hb0 hlt hbl his.symm (by omega)) (fun _ => ?_) (fun h => by cases h)⟩
              have s1 := (sm_up (W := W) (k := 9 + c) (x := W b + 1) (by omega) (n := 15)).2 (by omega)
              cases more with
              | true => have := hmt rfl; omega
              | false => obtain ⟨q1, -⟩ := hmf rfl; rw [q1] at s1 ⊢; exact s1
          have hv := ha.v hlt
          have hEE := hE c hlt b hbl
          have hno : ¬ (ov c).testBit b = true → false = (ov c).testBit b := fun q => by revert q; cases (ov c).testBit b <;> simp
          refine J.of tk_X10_layWays 200 fun ρ hρ => ?_
          simp only [hρ, x_c, x_il, x_ll, x_al, x_is, x_as, x_ls, x_inc, x_ii, x_iq, x_i1, x_l2, x_lq, x_lh, x_i2l, x_l2i, x_lcmp, x_dup, x_dup2, x_pop, x_if, x_ifn, x_ic, x_icn, x_go, x_sw, swc, x_l01, x_mx, x_gI, x_gL, x_gR, x_pI, x_pZ, x_pL, x_pR, x_ia, x_za, x_aa, x_ias, x_zas, x_aas, x_fac, x_fa, x_slen, x_sa, x_ac, x_oi, x_new, x_na, x_cS, x_cV, x_cI, x_rI, x_rZ, x_rL, x_r0, pa, short, oc, lg, lset, lset2, wide, cond_true, cond_false, true_and, and_true, ↓reduceIte, Bool.false_eq_true, true_or, or_true, lf_X10_layWays, h1.f, e108, e110, en, nI_leI (show aN a < 2 ^ 31 by omega) (show b < 2 ^ 31 by omega), show (18 : Int32) = nI 18 by decide, nI_add, ncl (show 18 + c < 2 ^ 31 by omega), hr.v hlt, P_X10_has, bB_0]
          refine ⟨fun h => absurd h (by omega), fun _ => ⟨vp_in_nI (by omega) (by omega), _, _, rfl, by omega, rfl, by omega, fun q => f102 false (hno (fun z => q (hEE.mp z).1)), fun q => ?_⟩⟩
          rw [Classical.not_not] at q
          refine ⟨fun q2 => f102 true (hEE.mpr ⟨q, fun z => q2 z.1⟩).symm, fun q2 => ⟨fun q3 => f102 false (hno (fun z => (hEE.mp z).2 ⟨q2, q3⟩)), fun q3 => f102 true (hEE.mpr ⟨q, fun z => q3 z.2⟩).symm⟩⟩
        · have : b = aN a := by omega
          subst this
          have := ih hlt W F more hF hI hmt (fun h => ⟨(hmf h).1, fun c' b' h1 h2 => by
            by_cases q : c' = c
            · subst q; exact (hmf h).2.2 b' h2
            · exact (hmf h).2.1 c' b' (by omega) h2⟩)
          refine J.of tk_X10_layWays 200 fun ρ hρ => ?_
          simp only [hρ, x_c, x_il, x_ll, x_al, x_is, x_as, x_ls, x_inc, x_ii, x_iq, x_i1, x_l2, x_lq, x_lh, x_i2l, x_l2i, x_lcmp, x_dup, x_dup2, x_pop, x_if, x_ifn, x_ic, x_icn, x_go, x_sw, swc, x_l01, x_mx, x_gI, x_gL, x_gR, x_pI, x_pZ, x_pL, x_pR, x_ia, x_za, x_aa, x_ias, x_zas, x_aas, x_fac, x_fa, x_slen, x_sa, x_ac, x_oi, x_new, x_na, x_cS, x_cV, x_cI, x_rI, x_rZ, x_rL, x_r0, pa, short, oc, lg, lset, lset2, wide, cond_true, cond_false, true_and, and_true, ↓reduceIte, Bool.false_eq_true, true_or, or_true, lf_X10_layWays, h1.f, e108, en, nI_1, nI_leI (show aN a < 2 ^ 31 by omega) (show aN a < 2 ^ 31 by omega), Nat.le_refl, true_implies, not_true_eq_false, false_implies]
          exact J.weak (by simp [lsub]) this
      · have : c = aM a := by omega
        subst this
        refine J.of tk_X10_layWays 200 fun ρ hρ => ?_
        simp only [hρ, x_c, x_il, x_ll, x_al, x_is, x_as, x_ls, x_inc, x_ii, x_iq, x_i1, x_l2, x_lq, x_lh, x_i2l, x_l2i, x_lcmp, x_dup, x_dup2, x_pop, x_if, x_ifn, x_ic, x_icn, x_go, x_sw, swc, x_l01, x_mx, x_gI, x_gL, x_gR, x_pI, x_pZ, x_pL, x_pR, x_ia, x_za, x_aa, x_ias, x_zas, x_aas, x_fac, x_fa, x_slen, x_sa, x_ac, x_oi, x_new, x_na, x_cS, x_cV, x_cI, x_rI, x_rZ, x_rL, x_r0, pa, short, oc, lg, lset, lset2, wide, cond_true, cond_false, true_and, and_true, ↓reduceIte, Bool.false_eq_true, true_or, or_true, lf_X10_layWays, h1.f, e108, em, nI_leI (show aM a < 2 ^ 31 by omega) (show aM a < 2 ^ 31 by omega), Nat.le_refl, true_implies, not_true_eq_false, false_implies]
        cases more with
        | true => exact J.weak (ls' := [some (.ref 108), some (.ref 110), some (.int (nI b0)), some (.int x), some (.int y), some (.int 1), none, none, none]) (by simp [lsub, bB]) (ihN W F (by have := hmt rfl; omega) hF hI)
        | false =>
          obtain ⟨q1, q2⟩ := hmf rfl
          exact J.weak (ls' := [some (.ref 108), some (.ref 110), some (.int (nI b0)), some (.int x), some (.int y), some (.int 0), none, none, none]) (by simp [lsub, bB]) (fin W F hF hI (fun c hc b hb => by rw [q1]; exact q2 c b hc hb))
  have key := up (P := fun i => J mt_X10_layWays R 3 [some (.ref 108), some (.ref 110), some (.int (nI b0)), some (.int x), some (.int y), some (.int (nI i)), none, none, none] [] (S, mS I 121 (fun j => if j < i then nI 99 else I 121 j), L)) (n := 15) (fun i hi ih => ?_) 0 (Nat.zero_le _)
  · have e : (fun j => if j < 0 then nI 99 else I 121 j) = I 121 := by funext j; rw [if_neg (by omega)]
    rw [e, mS_id] at key
    refine J.of tk_X10_layWays 200 fun ρ hρ => ?_
    simp only [hρ, x_c, x_il, x_ll, x_al, x_is, x_as, x_ls, x_inc, x_ii, x_iq, x_i1, x_l2, x_lq, x_lh, x_i2l, x_l2i, x_lcmp, x_dup, x_dup2, x_pop, x_if, x_ifn, x_ic, x_icn, x_go, x_sw, swc, x_l01, x_mx, x_gI, x_gL, x_gR, x_pI, x_pZ, x_pL, x_pR, x_ia, x_za, x_aa, x_ias, x_zas, x_aas, x_fac, x_fa, x_slen, x_sa, x_ac, x_oi, x_new, x_na, x_cS, x_cV, x_cI, x_rI, x_rZ, x_rL, x_r0, pa, short, oc, lg, lset, lset2, wide, cond_true, cond_false, true_and, and_true, ↓reduceIte, Bool.false_eq_true, true_or, or_true, lf_X10_layWays]
    exact key
  have e99 : (99 : Int32) = nI 99 := by decide
  by_cases hlt : i < 15
  · have eu : upd (fun j => if j < i then nI 99 else I 121 j) i (nI 99) = fun j => if j < i + 1 then nI 99 else I 121 j := by
      funext j
      rw [upd_app]
      by_cases q : j = i
      · subst q; rw [if_pos rfl, if_pos (by omega)]
      · rw [if_neg q]
        by_cases q2 : j < i
        · rw [if_pos q2, if_pos (by omega)]
        · rw [if_neg q2, if_neg (by omega)]
    refine J.of tk_X10_layWays 200 fun ρ hρ => ?_
    simp only [hρ, x_c, x_il, x_ll, x_al, x_is, x_as, x_ls, x_inc, x_ii, x_iq, x_i1, x_l2, x_lq, x_lh, x_i2l, x_l2i, x_lcmp, x_dup, x_dup2, x_pop, x_if, x_ifn, x_ic, x_icn, x_go, x_sw, swc, x_l01, x_mx, x_gI, x_gL, x_gR, x_pI, x_pZ, x_pL, x_pR, x_ia, x_za, x_aa, x_ias, x_zas, x_aas, x_fac, x_fa, x_slen, x_sa, x_ac, x_oi, x_new, x_na, x_cS, x_cV, x_cI, x_rI, x_rZ, x_rL, x_r0, pa, short, oc, lg, lset, lset2, wide, cond_true, cond_false, true_and, and_true, ↓reduceIte, Bool.false_eq_true, true_or, or_true, lf_X10_layWays, h1.f, e108, e99, show (15 : Int32) = nI 15 by decide, nI_leI (show 15 < 2 ^ 31 by omega) (show i < 2 ^ 31 by omega), ncl (show i < 2 ^ 31 by omega), nI_1, mS_s, mS_ss, eu]
    exact ⟨fun h => absurd h (by omega), fun _ => ⟨vp_in_nI (by omega) (by omega), ih hlt⟩⟩
  · have : i = 15 := by omega
    subst this
    refine J.of tk_X10_layWays 200 fun ρ hρ => ?_
    simp only [hρ, x_c, x_il, x_ll, x_al, x_is, x_as, x_ls, x_inc, x_ii, x_iq, x_i1, x_l2, x_lq, x_lh, x_i2l, x_l2i, x_lcmp, x_dup, x_dup2, x_pop, x_if, x_ifn, x_ic, x_icn, x_go, x_sw, swc, x_l01, x_mx, x_gI, x_gL, x_gR, x_pI, x_pZ, x_pL, x_pR, x_ia, x_za, x_aa, x_ias, x_zas, x_aas, x_fac, x_fa, x_slen, x_sa, x_ac, x_oi, x_new, x_na, x_cS, x_cV, x_cI, x_rI, x_rZ, x_rL, x_r0, pa, short, oc, lg, lset, lset2, wide, cond_true, cond_false, true_and, and_true, ↓reduceIte, Bool.false_eq_true, true_or, or_true, lf_X10_layWays, h1.f, e108, show (15 : Int32) = nI 15 by decide, nI_leI (show 15 < 2 ^ 31 by omega) (show 15 < 2 ^ 31 by omega), ncl (show b0 < 2 ^ 31 by omega), Nat.le_refl, mS_s, mS_ss, true_implies, not_true_eq_false, false_implies]
    refine ⟨vp_in_nI (by omega) (by omega), loop _ (va_up (fun _ => 99) b0 0) _ (Nat.lt_succ_self _) ?_ ?_⟩
    · intro j hj
      rw [upd_app]
      unfold va_up
      by_cases q : j = b0
      · rw [if_pos q, if_pos q]; rfl
      · rw [if_neg q, if_neg q, if_pos hj]
    · have e : ∀ j, va_up (fun _ => 99) b0 0 j = if j = b0 then 0 else 99 := fun j => rfl
      refine ⟨fun j hj => ?_, ?_, fun b hb hl => ⟨0, ?_⟩, fun c hc hl => ?_⟩
      · rw [e]; split <;> omega
      · rw [e, if_pos rfl]
      · rw [e] at hl ⊢
        by_cases q : b = b0
        · rw [if_pos q]; exact ⟨rfl, pow_bit.mpr q⟩
        · rw [if_neg q] at hl; omega
      · rw [e, if_neg (by omega)] at hl; omega
