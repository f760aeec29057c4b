/-! SHARE of the model: a rank grows by one at most -/
def Sb (B : Nat → Nat) : Nat → Nat → Prop
  | 0, x => x = 0
  | d + 1, x => Sb B d x ∨ Sb B d (x ^^^ B d)
theorem Sb_0 (B : Nat → Nat) : ∀ d, Sb B d 0
  | 0 => rfl
  | d + 1 => .inl (Sb_0 B d)
theorem xr1 (x y b : Nat) : x ^^^ (y ^^^ b) = (x ^^^ y) ^^^ b := (Nat.xor_assoc x y b).symm
theorem xr2 (x y b : Nat) : (x ^^^ b) ^^^ y = (x ^^^ y) ^^^ b := by rw [Nat.xor_assoc, Nat.xor_comm b y, ← Nat.xor_assoc]
theorem xr3 (x b : Nat) : (x ^^^ b) ^^^ b = x := by rw [Nat.xor_assoc, Nat.xor_self, Nat.xor_zero]
theorem xr4 (x y b : Nat) : (x ^^^ b) ^^^ (y ^^^ b) = x ^^^ y := by rw [xr1, xr2, xr3]
theorem Sb_x {B : Nat → Nat} : ∀ {d x y : Nat}, Sb B d x → Sb B d y → Sb B d (x ^^^ y)
  | 0, x, y, hx, hy => by
    have h1 : x = 0 := hx
    have h2 : y = 0 := hy
    show x ^^^ y = 0
    rw [h1, h2]; rfl
  | d + 1, x, y, hx, hy => by
    rcases hx with hx | hx
    · rcases hy with hy | hy
      · exact .inl (Sb_x hx hy)
      · exact .inr (by rw [← xr1]; exact Sb_x hx hy)
    · rcases hy with hy | hy
      · exact .inr (by rw [← xr2]; exact Sb_x hx hy)
      · exact .inl (by rw [← xr4 x y (B d)]; exact Sb_x hx hy)
theorem Sb_self {B : Nat → Nat} : ∀ {D e : Nat}, e < D → Sb B D (B e)
  | D + 1, e, h => by
    by_cases q : e = D
    · subst q; exact .inr (by rw [Nat.xor_self]; exact Sb_0 B e)
    · exact .inl (Sb_self (by omega))
/-- what is added of the span changes nothing -/
theorem Sb_add {B : Nat → Nat} {d x y : Nat} (h : Sb B d y) : Sb B d (x ^^^ y) ↔ Sb B d x := by
  constructor
  · intro q; have := Sb_x q h; rwa [xr3] at this
  · intro q; exact Sb_x q h
def Ec (B : Nat → Nat) : Prop := ∀ b, b < 9 → B b = 0 ∨ (B b < 2 ^ (b + 1) ∧ (B b).testBit b = true)
theorem bit_ge {x d : Nat} (h : x.testBit d = true) : 2 ^ d ≤ x := Nat.ge_two_pow_of_testBit h
theorem lt_of_bit {x d : Nat} (h : x < 2 ^ (d + 1)) (hb : ¬ x.testBit d = true) : x < 2 ^ d := by
  refine Nat.lt_pow_two_of_testBit x (fun i hi => ?_)
  by_cases q : i = d
  · subst q; simpa using hb
  · exact Nat.testBit_lt_two_pow (Nat.lt_of_lt_of_le h (Nat.pow_le_pow_right (by omega) (by omega)))
theorem xor_top {x b d : Nat} (hx : x < 2 ^ (d + 1)) (hb : b < 2 ^ (d + 1)) (h1 : x.testBit d = true) (h2 : b.testBit d = true) : x ^^^ b < 2 ^ d := by
  refine lt_of_bit (Nat.xor_lt_two_pow hx hb) ?_
  rw [Nat.testBit_xor, h1, h2]; decide
theorem pow_s (d : Nat) : 2 ^ d < 2 ^ (d + 1) := Nat.pow_lt_pow_right (by omega) (by omega)
theorem Sb_lt {B : Nat → Nat} (hB : Ec B) : ∀ {d x : Nat}, d ≤ 9 → Sb B d x → x < 2 ^ d
  | 0, x, _, h => by
    have : x = 0 := h
    subst this; decide
  | d + 1, x, hd, h => by
    have hs := pow_s d
    rcases h with h | h
    · have := Sb_lt hB (by omega) h; omega
    · have h1 := Sb_lt hB (by omega) h
      have h2 : B d < 2 ^ (d + 1) := by
        rcases hB d (by omega) with q | q
        · rw [q]; exact Nat.pow_pos (by omega)
        · exact q.1
      have := Nat.xor_lt_two_pow (Nat.lt_trans h1 hs) h2
      rwa [xr3] at this
theorem ins_Sb {B : Nat → Nat} (hB : Ec B) : ∀ {d x : Nat}, d ≤ 9 → x < 2 ^ d → ((ins d B x).1 = true ↔ ¬ Sb B d x)
  | 0, x, _, hx => by
    have : x = 0 := by simp at hx; exact hx
    subst this
    simp [ins, Sb]
  | d + 1, x, hd, hx => by
    simp only [ins]
    by_cases hb : x.testBit d = true
    · rw [if_pos hb]
      have hge := bit_ge hb
      have hno : ¬ Sb B d x := fun q => by have := Sb_lt hB (by omega) q; omega
      by_cases h0 : B d = 0
      · rw [if_pos h0]
        refine ⟨fun _ q => ?_, fun _ => rfl⟩
        rcases q with q | q
        · exact hno q
        · rw [h0, Nat.xor_zero] at q; exact hno q
      · rw [if_neg h0]
        have hbd := (hB d (by omega)).resolve_left h0
        rw [ins_Sb hB (by omega) (xor_top hx hbd.1 hb hbd.2)]
        exact ⟨fun q z => z.elim hno q, fun q z => q (.inr z)⟩
    · rw [if_neg hb]
      have hlt := lt_of_bit hx hb
      rw [ins_Sb hB (by omega) hlt]
      refine ⟨fun q z => z.elim q (fun z => ?_), fun q z => q (.inl z)⟩
      by_cases h0 : B d = 0
      · rw [h0, Nat.xor_zero] at z; exact q z
      · have hbd := (hB d (by omega)).resolve_left h0
        have h1 := Sb_lt hB (by omega) z
        have : (x ^^^ B d).testBit d = true := by rw [Nat.testBit_xor, hbd.2]; revert hb; cases x.testBit d <;> decide
        have := bit_ge this
        omega
theorem ins_Ec {B : Nat → Nat} (hB : Ec B) : ∀ {d x : Nat}, d ≤ 9 → x < 2 ^ d → Ec (ins d B x).2
  | 0, x, _, _ => hB
  | d + 1, x, hd, hx => by
    simp only [ins]
    by_cases hb : x.testBit d = true
    · rw [if_pos hb]
      by_cases h0 : B d = 0
      · rw [if_pos h0]
        intro b hb9
        show va_up B d x b = 0 ∨ (va_up B d x b < 2 ^ (b + 1) ∧ (va_up B d x b).testBit b = true)
        unfold va_up
        by_cases q : b = d
        · subst q; rw [if_pos rfl]; exact .inr ⟨hx, hb⟩
        · rw [if_neg q]; exact hB b hb9
      · rw [if_neg h0]
        have hbd := (hB d (by omega)).resolve_left h0
        exact ins_Ec hB (by omega) (xor_top hx hbd.1 hb hbd.2)
    · rw [if_neg hb]
      exact ins_Ec hB (by omega) (lt_of_bit hx hb)
theorem Sb_up {B : Nat → Nat} {e x : Nat} (h0 : B e = 0) : ∀ {D : Nat}, (D ≤ e → ∀ y, Sb (va_up B e x) D y ↔ Sb B D y) ∧ (e < D → ∀ y, Sb (va_up B e x) D y ↔ (Sb B D y ∨ Sb B D (y ^^^ x)))
  | 0 => ⟨fun _ _ => Iff.rfl, fun h => absurd h (by omega)⟩
  | D + 1 => by
    obtain ⟨i1, i2⟩ := Sb_up (x := x) h0 (D := D)
    refine ⟨fun h y => ?_, fun h y => ?_⟩
    · have hv : va_up B e x D = B D := by unfold va_up; rw [if_neg (by omega)]
      simp only [Sb]
      rw [hv, i1 (by omega), i1 (by omega)]
    · by_cases q : D = e
      · subst q
        have hv : va_up B D x D = x := by unfold va_up; rw [if_pos rfl]
        simp only [Sb]
        rw [hv, i1 (Nat.le_refl _), i1 (Nat.le_refl _), h0, Nat.xor_zero, Nat.xor_zero, or_self, or_self]
      · have hv : va_up B e x D = B D := by unfold va_up; rw [if_neg q]
        simp only [Sb]
        rw [hv, i2 (by omega), i2 (by omega), xr2 y x (B D)]
        constructor
        · rintro ((h | h) | (h | h))
          · exact .inl (.inl h)
          · exact .inr (.inl h)
          · exact .inl (.inr h)
          · exact .inr (.inr h)
        · rintro ((h | h) | (h | h))
          · exact .inl (.inl h)
          · exact .inr (.inl h)
          · exact .inl (.inr h)
          · exact .inr (.inr h)
theorem ins_up {B : Nat → Nat} : ∀ {d x : Nat}, (ins d B x).1 = true → ∀ D, d ≤ D → ∀ y, Sb (ins d B x).2 D y ↔ (Sb B D y ∨ Sb B D (y ^^^ x))
  | 0, x, h => by simp [ins] at h
  | d + 1, x, h => by
    intro D hD y
    simp only [ins] at h ⊢
    by_cases hb : x.testBit d = true
    · rw [if_pos hb] at h ⊢
      by_cases h0 : B d = 0
      · rw [if_pos h0]
        exact (Sb_up h0).2 (by omega) y
      · rw [if_neg h0] at h ⊢
        rw [ins_up h D (by omega) y, xr1, Sb_add (Sb_self (show d < D by omega))]
    · rw [if_neg hb] at h ⊢
      exact ins_up h D (by omega) y
/-- two runs, one with c, one without -/
def Two (r1 r2 : Nat × (Nat → Nat)) : Prop := Ec r1.2 ∧ Ec r2.2 ∧ ((r2.1 = r1.1 ∧ ∀ y, Sb r2.2 9 y ↔ Sb r1.2 9 y) ∨ (r2.1 = r1.1 + 1 ∧ ∃ u, ¬ Sb r1.2 9 u ∧ ∀ y, Sb r2.2 9 y ↔ (Sb r1.2 9 y ∨ Sb r1.2 9 (y ^^^ u))))
def insR (r : Nat × (Nat → Nat)) (t : Nat) : Nat × (Nat → Nat) := (r.1 + (if (ins 9 r.2 t).1 = true then 1 else 0), (ins 9 r.2 t).2)
theorem Two.st {r1 r2 : Nat × (Nat → Nat)} {t : Nat} (h : Two r1 r2) (ht : t < 512) : Two (insR r1 t) (insR r2 t) := by
  obtain ⟨e1, e2, h⟩ := h
  have b1 := ins_Sb e1 (Nat.le_refl 9) ht
  have b2 := ins_Sb e2 (Nat.le_refl 9) ht
  refine ⟨ins_Ec e1 (Nat.le_refl 9) ht, ins_Ec e2 (Nat.le_refl 9) ht, ?_⟩
  by_cases q1 : (ins 9 r1.2 t).1 = true
  · have u1 := ins_up q1 9 (Nat.le_refl 9)
    have a1 : (insR r1 t).1 = r1.1 + 1 := by simp only [insR]; rw [if_pos q1]
    have s1 : (insR r1 t).2 = (ins 9 r1.2 t).2 := rfl
    by_cases q2 : (ins 9 r2.2 t).1 = true
    · have u2 := ins_up q2 9 (Nat.le_refl 9)
      have a2 : (insR r2 t).1 = r2.1 + 1 := by simp only [insR]; rw [if_pos q2]
      have s2 : (insR r2 t).2 = (ins 9 r2.2 t).2 := rfl
      rcases h with ⟨h1, h2⟩ | ⟨h1, u, hu, h2⟩
      · exact .inl ⟨by omega, fun y => by rw [s1, s2, u1, u2, h2, h2]⟩
      · refine .inr ⟨by omega, u, fun z => ?_, fun y => ?_⟩
        · rw [s1, u1] at z
          rcases z with z | z
          · exact hu z
          · exact b2.mp q2 ((h2 t).mpr (.inr (by rw [Nat.xor_comm]; exact z)))
        · rw [s1, s2, u1, u2, h2, h2, u1, xr2 y u t]
          constructor
          · rintro ((h | h) | (h | h))
            · exact .inl (.inl h)
            · exact .inr (.inl h)
            · exact .inl (.inr h)
            · exact .inr (.inr h)
          · rintro ((h | h) | (h | h))
            · exact .inl (.inl h)
            · exact .inr (.inl h)
            · exact .inl (.inr h)
            · exact .inr (.inr h)
    · have a2 : (insR r2 t).1 = r2.1 := by simp only [insR]; rw [if_neg q2]; rfl
      have s2 : (insR r2 t).2 = r2.2 := ins_no q2
      have m2 : Sb r2.2 9 t := Classical.byContradiction fun z => q2 (b2.mpr z)
      rcases h with ⟨h1, h2⟩ | ⟨h1, u, hu, h2⟩
      · exact absurd ((h2 t).mp m2) (b1.mp q1)
      · have mt : Sb r1.2 9 (t ^^^ u) := ((h2 t).mp m2).resolve_left (b1.mp q1)
        refine .inl ⟨by omega, fun y => ?_⟩
        rw [s1, s2, u1, h2, ← Sb_add (x := y ^^^ u) mt, xr4 y t u]
  · have a1 : (insR r1 t).1 = r1.1 := by simp only [insR]; rw [if_neg q1]; rfl
    have s1 : (insR r1 t).2 = r1.2 := ins_no q1
    have m1 : Sb r1.2 9 t := Classical.byContradiction fun z => q1 (b1.mpr z)
    have m2 : Sb r2.2 9 t := by
      rcases h with ⟨h1, h2⟩ | ⟨h1, u, hu, h2⟩
      · exact (h2 t).mpr m1
      · exact (h2 t).mpr (.inl m1)
    have q2 : ¬ (ins 9 r2.2 t).1 = true := fun z => b2.mp z m2
    have a2 : (insR r2 t).1 = r2.1 := by simp only [insR]; rw [if_neg q2]; rfl
    have s2 : (insR r2 t).2 = r2.2 := ins_no q2
    rw [a1, a2, s1, s2]
    exact h
theorem Ec_0 : Ec (fun _ => 0) := fun _ _ => .inl rfl
theorem rkS_Ec {ov : Nat → Nat} {s : Nat} : ∀ {c : Nat}, (∀ i, i < c → ov i < 512) → Ec (rkS ov s c).2
  | 0, _ => Ec_0
  | c + 1, h => by
    simp only [rkS]
    split
    · exact ins_Ec (rkS_Ec (fun i hi => h i (by omega))) (Nat.le_refl 9) (h c (by omega))
    · exact rkS_Ec (fun i hi => h i (by omega))
theorem rk_two {ov : Nat → Nat} {s c m : Nat} (hv : ∀ i, i < m → ov i < 512) (hs : ¬ s.testBit c = true) : ∀ k, k ≤ m → Two (rkS ov s k) (rkS ov (s ||| 2 ^ c) k)
  | 0, _ => ⟨Ec_0, Ec_0, .inl ⟨rfl, fun _ => Iff.rfl⟩⟩
  | k + 1, hk => by
    have hvk := hv k (by omega)
    have ih := rk_two hv hs k (by omega)
    have hb : (s ||| 2 ^ c).testBit k = (s.testBit k || decide (c = k)) := by rw [Nat.testBit_or, Nat.testBit_two_pow]
    by_cases q : c = k
    · subst q
      have e : rkS ov (s ||| 2 ^ c) c = rkS ov s c := rkS_congr (fun _ _ => rfl) (fun i hi => by rw [Nat.testBit_or, Nat.testBit_two_pow, decide_eq_false (by omega), Bool.or_false])
      have e1 : rkS ov s (c + 1) = rkS ov s c := by rw [rkS, if_neg hs]
      have e2 : rkS ov (s ||| 2 ^ c) (c + 1) = insR (rkS ov s c) (ov c) := by rw [rkS, hb, decide_eq_true rfl, Bool.or_true, if_pos rfl, e]; rfl
      have hE := rkS_Ec (s := s) (c := c) (fun i hi => hv i (by omega))
      rw [e1, e2]
      refine ⟨hE, ins_Ec hE (Nat.le_refl 9) hvk, ?_⟩
      by_cases q1 : (ins 9 (rkS ov s c).2 (ov c)).1 = true
      · exact .inr ⟨by simp only [insR]; rw [if_pos q1], ov c, (ins_Sb hE (Nat.le_refl 9) hvk).mp q1, ins_up q1 9 (Nat.le_refl 9)⟩
      · refine .inl ⟨by simp only [insR]; rw [if_neg q1]; rfl, fun y => ?_⟩
        show Sb (ins 9 (rkS ov s c).2 (ov c)).2 9 y ↔ _
        rw [ins_no q1]
    · rw [decide_eq_false q, Bool.or_false] at hb
      by_cases hk2 : s.testBit k = true
      · have e1 : rkS ov s (k + 1) = insR (rkS ov s k) (ov k) := by rw [rkS, if_pos hk2]; rfl
        have e2 : rkS ov (s ||| 2 ^ c) (k + 1) = insR (rkS ov (s ||| 2 ^ c) k) (ov k) := by rw [rkS, hb, if_pos hk2]; rfl
        rw [e1, e2]
        exact ih.st hvk
      · have e1 : rkS ov s (k + 1) = rkS ov s k := by rw [rkS, if_neg hk2]
        have e2 : rkS ov (s ||| 2 ^ c) (k + 1) = rkS ov (s ||| 2 ^ c) k := by rw [rkS, hb, if_neg hk2]
        rw [e1, e2]
        exact ih
theorem rk_01 {a : AS} {s c : Nat} (ha : AOk a) (hs : ¬ s.testBit c = true) : rkA a (s ||| 2 ^ c) = rkA a s ∨ rkA a (s ||| 2 ^ c) = rkA a s + 1 := by
  rcases (rk_two (ov := aV a) (c := c) (m := aM a) (fun i hi => ha.v hi) hs (aM a) (Nat.le_refl _)).2.2 with ⟨h, -⟩ | ⟨h, -⟩
  · exact .inl h
  · exact .inr h
def il_X10_share : List (Nat × Instr × Nat) := [(0, .aload_n 0, 1), (1, .iload_n 1, 1), (2, .invokevirtual 174, 3), (5, .ifCond .ne 5, 3), (8, .iconst (-1), 1), (9, .ireturn, 1), (10, .iconst 0, 1), (11, .istore_n 3, 1), (12, .iload_n 3, 1), (13, .iconst 1, 1), (14, .aload_n 0, 1), (15, .getfield 64, 3), (18, .ishl, 1), (19, .if_icmp .ge 20, 3), (22, .aload_n 0, 1), (23, .getfield 44, 3), (26, .iload_n 3, 1), (27, .aload_n 0, 1), (28, .iload_n 3, 1), (29, .invokevirtual 150, 3), (32, .iastore, 1), (33, .iinc 3 1, 3), (36, .goto (-24), 3), (39, .iconst 0, 1), (40, .istore_n 3, 1), (41, .iconst 0, 1), (42, .istore 4, 2), (44, .iload 4, 2), (46, .iconst 1, 1), (47, .aload_n 0, 1), (48, .getfield 64, 3), (51, .ishl, 1), (52, .if_icmp .ge 66, 3), (55, .iload 4, 2), (57, .iload_n 1, 1), (58, .invokestatic 102, 3), (61, .ifCond .ne 51, 3), (64, .iload 4, 2), (66, .invokestatic 114, 3), (69, .istore 5, 2), (71, .iload_n 3, 1), (72, .iload 5, 2), (74, .invokestatic 217, 3), (77, .aload_n 0, 1), (78, .getfield 64, 3), (81, .iconst 1, 1), (82, .isub, 1), (83, .iload 5, 2), (85, .isub, 1), (86, .invokestatic 217, 3), (89, .imul, 1), (90, .aload_n 0, 1), (91, .getfield 44, 3), (94, .iload 4, 2), (96, .iconst 1, 1), (97, .iload_n 1, 1), (98, .ishl, 1), (99, .ior, 1), (100, .iaload, 1), (101, .aload_n 0, 1), (102, .getfield 44, 3), (105, .iload 4, 2), (107, .iaload, 1), (108, .isub, 1), (109, .imul, 1), (110, .iadd, 1), (111, .istore_n 3, 1), (112, .iinc 4 1, 3), (115, .goto (-71), 3), (118, .iload_n 3, 1), (119, .aload_n 0, 1), (120, .getfield 64, 3), (123, .invokestatic 217, 3), (126, .iload_n 2, 1), (127, .invokestatic 220, 3), (130, .ireturn, 1)]
def mt_X10_share : Mt := (cX10_share, RX10, 6, (some .int), ({ frames := 2, cells := 0, slots := 0, locals := 46 } : Room), false, none, none)
set_option maxRecDepth 100000 in
theorem dl_X10_share : ∀ q ∈ il_X10_share, decode (mt_X10_share).1 q.1 = .ok q.2 := by decide +kernel
def tb_X10_share : Tb := [(0, x_al 1 0, false),
  (1, x_il 2 1, false),
  (2, x_cV 10 1 P_X10_isCheck 5, false),
  (5, x_ifn 10 8 (fun x : Int32 => x = 0), false),
  (8, x_c 9 (.int (-1)), false),
  (9, x_rI, false),
  (10, x_c 11 (.int 0), false),
  (11, x_is 12 3, false),
  (12, x_il 13 3, true),
  (13, x_c 14 (.int 1), false),
  (14, x_al 15 0, false),
  (15, x_gI 10 3 18, false),
  (18, x_ii 19 (fun x y : Int32 => x <<< (y &&& 31)), false),
  (19, x_ic 39 22 (fun x y : Int32 => y ≤ x), false),
  (22, x_al 23 0, false),
  (23, x_gR 10 18 26, false),
  (26, x_il 27 3, false),
  (27, x_al 28 0, false),
  (28, x_il 29 3, false),
  (29, x_cV 10 1 P_X10_rankBy 32, false),
  (32, x_ias 33, false),
  (33, x_inc 36 3 1, false),
  (36, x_go 12, false),
  (39, x_c 40 (.int 0), false),
  (40, x_is 41 3, false),
  (41, x_c 42 (.int 0), false),
  (42, x_is 44 4, false),
  (44, x_il 46 4, true),
  (46, x_c 47 (.int 1), false),
  (47, x_al 48 0, false),
  (48, x_gI 10 3 51, false),
  (51, x_ii 52 (fun x y : Int32 => x <<< (y &&& 31)), false),
  (52, x_ic 118 55 (fun x y : Int32 => y ≤ x), false),
  (55, x_il 57 4, false),
  (57, x_il 58 1, false),
  (58, x_cS 2 P_X10_has 61, false),
  (61, x_ifn 112 64 (fun x : Int32 => x = 0), false),
  (64, x_il 66 4, false),
  (66, x_cS 1 P_X10_ones 69, false),
  (69, x_is 71 5, false),
  (71, x_il 72 3, false),
  (72, x_il 74 5, false),
  (74, x_cS 1 P_X10_factorial 77, false),
  (77, x_al 78 0, false),
  (78, x_gI 10 3 81, false),
  (81, x_c 82 (.int 1), false),
  (82, x_ii 83 (fun x y : Int32 => x - y), false),
  (83, x_il 85 5, false),
  (85, x_ii 86 (fun x y : Int32 => x - y), false),
  (86, x_cS 1 P_X10_factorial 89, false),
  (89, x_ii 90 (fun x y : Int32 => x * y), false),
  (90, x_al 91 0, false),
  (91, x_gR 10 18 94, false),
  (94, x_il 96 4, false),
  (96, x_c 97 (.int 1), false),
  (97, x_il 98 1, false),
  (98, x_ii 99 (fun x y : Int32 => x <<< (y &&& 31)), false),
  (99, x_ii 100 (fun x y : Int32 => x ||| y), false),
  (100, x_ia 101, false),
  (101, x_al 102 0, false),
  (102, x_gR 10 18 105, false),
  (105, x_il 107 4, false),
  (107, x_ia 108, false),
  (108, x_ii 109 (fun x y : Int32 => x - y), false),
  (109, x_ii 110 (fun x y : Int32 => x * y), false),
  (110, x_ii 111 (fun x y : Int32 => x + y), false),
  (111, x_is 112 3, false),
  (112, x_inc 115 4 1, false),
  (115, x_go 44, false),
  (118, x_il 119 3, false),
  (119, x_al 120 0, false),
  (120, x_gI 10 3 123, false),
  (123, x_cS 1 P_X10_factorial 126, false),
  (126, x_il 127 2, false),
  (127, x_cS 3 P_X10_fraction 130, false),
  (130, x_rI, false)]
set_option maxRecDepth 100000 in
theorem tk_X10_share : TbOk (mt_X10_share) (tb_X10_share) :=
  tkc (s_aload_n (at_ dl_X10_share 0 (ins := .aload_n 0) rfl)) (
  tkc (s_iload_n (at_ dl_X10_share 1 (ins := .iload_n 1) rfl)) (
  tkc (s_cV ok_X10_isCheck (at_ dl_X10_share 2 (ins := .invokevirtual 174) rfl) (by decide) rfl (tg 892 (by decide +kernel) (by decide +kernel)) (tg 894 (by decide +kernel) (by decide +kernel)) (tg 36 (by decide +kernel) (by decide +kernel)) (tg 51 (by decide +kernel) (by decide +kernel)) (tg 895 (by decide +kernel) (by decide +kernel)) (⟨by decide, by decide, by decide +kernel⟩) (⟨by decide, by decide⟩) rfl rfl) (
  tkc (s_if_ne (at_ dl_X10_share 3 (ins := .ifCond .ne 5) rfl) (by decide)) (
  tkc (s_iconst (at_ dl_X10_share 4 (ins := .iconst (-1)) rfl) (by first | rfl | decide)) (
  tkc (s_rI (at_ dl_X10_share 5 (ins := .ireturn) rfl) rfl) (
  tkc (s_iconst (at_ dl_X10_share 6 (ins := .iconst 0) rfl) (by first | rfl | decide)) (
  tkc (s_istore_n (at_ dl_X10_share 7 (ins := .istore_n 3) rfl) (by decide)) (
  tkc (s_iload_n (at_ dl_X10_share 8 (ins := .iload_n 3) rfl)) (
  tkc (s_iconst (at_ dl_X10_share 9 (ins := .iconst 1) rfl) (by first | rfl | decide)) (
  tkc (s_aload_n (at_ dl_X10_share 10 (ins := .aload_n 0) rfl)) (
  tkc (s_gI (at_ dl_X10_share 11 (ins := .getfield 64) rfl) (by decide) (by decide) (by decide) (tg 699 (by decide +kernel) (by decide +kernel))) (
  tkc (s_ishl (at_ dl_X10_share 12 (ins := .ishl) rfl)) (
  tkc (s_ic_ge (at_ dl_X10_share 13 (ins := .if_icmp .ge 20) rfl) (by decide)) (
  tkc (s_aload_n (at_ dl_X10_share 14 (ins := .aload_n 0) rfl)) (
  tkc (s_gR (at_ dl_X10_share 15 (ins := .getfield 44) rfl) (by decide) (by decide) (by decide) (tg 714 (by decide +kernel) (by decide +kernel))) (
  tkc (s_iload_n (at_ dl_X10_share 16 (ins := .iload_n 3) rfl)) (
  tkc (s_aload_n (at_ dl_X10_share 17 (ins := .aload_n 0) rfl)) (
  tkc (s_iload_n (at_ dl_X10_share 18 (ins := .iload_n 3) rfl)) (
  tkc (s_cV ok_X10_rankBy (at_ dl_X10_share 19 (ins := .invokevirtual 150) rfl) (by decide) rfl (tg 835 (by decide +kernel) (by decide +kernel)) (tg 837 (by decide +kernel) (by decide +kernel)) (tg 26 (by decide +kernel) (by decide +kernel)) (tg 51 (by decide +kernel) (by decide +kernel)) (tg 838 (by decide +kernel) (by decide +kernel)) (⟨by decide, by decide, by decide +kernel⟩) (⟨by decide, by decide⟩) rfl rfl) (
  tkc (s_ias (at_ dl_X10_share 20 (ins := .iastore) rfl)) (
  tkc (s_iinc (at_ dl_X10_share 21 (ins := .iinc 3 1) rfl) (by decide) (by first | rfl | decide)) (
  tkc (s_goto (at_ dl_X10_share 22 (ins := .goto (-24)) rfl) (by decide)) (
  tkc (s_iconst (at_ dl_X10_share 23 (ins := .iconst 0) rfl) (by first | rfl | decide)) (
  tkc (s_istore_n (at_ dl_X10_share 24 (ins := .istore_n 3) rfl) (by decide)) (
  tkc (s_iconst (at_ dl_X10_share 25 (ins := .iconst 0) rfl) (by first | rfl | decide)) (
  tkc (s_istore (at_ dl_X10_share 26 (ins := .istore 4) rfl) (by decide)) (
  tkc (s_iload (at_ dl_X10_share 27 (ins := .iload 4) rfl)) (
  tkc (s_iconst (at_ dl_X10_share 28 (ins := .iconst 1) rfl) (by first | rfl | decide)) (
  tkc (s_aload_n (at_ dl_X10_share 29 (ins := .aload_n 0) rfl)) (
  tkc (s_gI (at_ dl_X10_share 30 (ins := .getfield 64) rfl) (by decide) (by decide) (by decide) (tg 699 (by decide +kernel) (by decide +kernel))) (
  tkc (s_ishl (at_ dl_X10_share 31 (ins := .ishl) rfl)) (
  tkc (s_ic_ge (at_ dl_X10_share 32 (ins := .if_icmp .ge 66) rfl) (by decide)) (
  tkc (s_iload (at_ dl_X10_share 33 (ins := .iload 4) rfl)) (
  tkc (s_iload_n (at_ dl_X10_share 34 (ins := .iload_n 1) rfl)) (
  tkc (s_cS ok_X10_has (at_ dl_X10_share 35 (ins := .invokestatic 102) rfl) (tg 828 (by decide +kernel) (by decide +kernel)) (tg 829 (by decide +kernel) (by decide +kernel)) (tg 51 (by decide +kernel) (by decide +kernel)) (tg 830 (by decide +kernel) (by decide +kernel)) (⟨by decide, by decide, by decide +kernel⟩) (⟨by decide, by decide⟩) rfl rfl) (
  tkc (s_if_ne (at_ dl_X10_share 36 (ins := .ifCond .ne 51) rfl) (by decide)) (
  tkc (s_iload (at_ dl_X10_share 37 (ins := .iload 4) rfl)) (
  tkc (s_cS ok_X10_ones (at_ dl_X10_share 38 (ins := .invokestatic 114) rfl) (tg 821 (by decide +kernel) (by decide +kernel)) (tg 822 (by decide +kernel) (by decide +kernel)) (tg 51 (by decide +kernel) (by decide +kernel)) (tg 823 (by decide +kernel) (by decide +kernel)) (⟨by decide, by decide, by decide +kernel⟩) (⟨by decide, by decide⟩) rfl rfl) (
  tkc (s_istore (at_ dl_X10_share 39 (ins := .istore 5) rfl) (by decide)) (
  tkc (s_iload_n (at_ dl_X10_share 40 (ins := .iload_n 3) rfl)) (
  tkc (s_iload (at_ dl_X10_share 41 (ins := .iload 5) rfl)) (
  tkc (s_cS ok_X10_factorial (at_ dl_X10_share 42 (ins := .invokestatic 217) rfl) (tg 986 (by decide +kernel) (by decide +kernel)) (tg 987 (by decide +kernel) (by decide +kernel)) (tg 51 (by decide +kernel) (by decide +kernel)) (tg 988 (by decide +kernel) (by decide +kernel)) (⟨by decide, by decide, by decide +kernel⟩) (⟨by decide, by decide⟩) rfl rfl) (
  tkc (s_aload_n (at_ dl_X10_share 43 (ins := .aload_n 0) rfl)) (
  tkc (s_gI (at_ dl_X10_share 44 (ins := .getfield 64) rfl) (by decide) (by decide) (by decide) (tg 699 (by decide +kernel) (by decide +kernel))) (
  tkc (s_iconst (at_ dl_X10_share 45 (ins := .iconst 1) rfl) (by first | rfl | decide)) (
  tkc (s_isub (at_ dl_X10_share 46 (ins := .isub) rfl)) (
  tkc (s_iload (at_ dl_X10_share 47 (ins := .iload 5) rfl)) (
  tkc (s_isub (at_ dl_X10_share 48 (ins := .isub) rfl)) (
  tkc (s_cS ok_X10_factorial (at_ dl_X10_share 49 (ins := .invokestatic 217) rfl) (tg 986 (by decide +kernel) (by decide +kernel)) (tg 987 (by decide +kernel) (by decide +kernel)) (tg 51 (by decide +kernel) (by decide +kernel)) (tg 988 (by decide +kernel) (by decide +kernel)) (⟨by decide, by decide, by decide +kernel⟩) (⟨by decide, by decide⟩) rfl rfl) (
  tkc (s_imul (at_ dl_X10_share 50 (ins := .imul) rfl)) (
  tkc (s_aload_n (at_ dl_X10_share 51 (ins := .aload_n 0) rfl)) (
  tkc (s_gR (at_ dl_X10_share 52 (ins := .getfield 44) rfl) (by decide) (by decide) (by decide) (tg 714 (by decide +kernel) (by decide +kernel))) (
  tkc (s_iload (at_ dl_X10_share 53 (ins := .iload 4) rfl)) (
  tkc (s_iconst (at_ dl_X10_share 54 (ins := .iconst 1) rfl) (by first | rfl | decide)) (
  tkc (s_iload_n (at_ dl_X10_share 55 (ins := .iload_n 1) rfl)) (
  tkc (s_ishl (at_ dl_X10_share 56 (ins := .ishl) rfl)) (
  tkc (s_ior (at_ dl_X10_share 57 (ins := .ior) rfl)) (
  tkc (s_ia (at_ dl_X10_share 58 (ins := .iaload) rfl)) (
  tkc (s_aload_n (at_ dl_X10_share 59 (ins := .aload_n 0) rfl)) (
  tkc (s_gR (at_ dl_X10_share 60 (ins := .getfield 44) rfl) (by decide) (by decide) (by decide) (tg 714 (by decide +kernel) (by decide +kernel))) (
  tkc (s_iload (at_ dl_X10_share 61 (ins := .iload 4) rfl)) (
  tkc (s_ia (at_ dl_X10_share 62 (ins := .iaload) rfl)) (
  tkc (s_isub (at_ dl_X10_share 63 (ins := .isub) rfl)) (
  tkc (s_imul (at_ dl_X10_share 64 (ins := .imul) rfl)) (
  tkc (s_iadd (at_ dl_X10_share 65 (ins := .iadd) rfl)) (
  tkc (s_istore_n (at_ dl_X10_share 66 (ins := .istore_n 3) rfl) (by decide)) (
  tkc (s_iinc (at_ dl_X10_share 67 (ins := .iinc 4 1) rfl) (by decide) (by first | rfl | decide)) (
  tkc (s_goto (at_ dl_X10_share 68 (ins := .goto (-71)) rfl) (by decide)) (
  tkc (s_iload_n (at_ dl_X10_share 69 (ins := .iload_n 3) rfl)) (
  tkc (s_aload_n (at_ dl_X10_share 70 (ins := .aload_n 0) rfl)) (
  tkc (s_gI (at_ dl_X10_share 71 (ins := .getfield 64) rfl) (by decide) (by decide) (by decide) (tg 699 (by decide +kernel) (by decide +kernel))) (
  tkc (s_cS ok_X10_factorial (at_ dl_X10_share 72 (ins := .invokestatic 217) rfl) (tg 986 (by decide +kernel) (by decide +kernel)) (tg 987 (by decide +kernel) (by decide +kernel)) (tg 51 (by decide +kernel) (by decide +kernel)) (tg 988 (by decide +kernel) (by decide +kernel)) (⟨by decide, by decide, by decide +kernel⟩) (⟨by decide, by decide⟩) rfl rfl) (
  tkc (s_iload_n (at_ dl_X10_share 73 (ins := .iload_n 2) rfl)) (
  tkc (s_cS ok_X10_fraction (at_ dl_X10_share 74 (ins := .invokestatic 220) rfl) (tg 989 (by decide +kernel) (by decide +kernel)) (tg 990 (by decide +kernel) (by decide +kernel)) (tg 51 (by decide +kernel) (by decide +kernel)) (tg 991 (by decide +kernel) (by decide +kernel)) (⟨by decide, by decide, by decide +kernel⟩) (⟨by decide, by decide⟩) rfl rfl) (
  tkc (s_rI (at_ dl_X10_share 75 (ins := .ireturn) rfl) rfl) ( tk0))))))))))))))))))))))))))))))))))))))))))))))))))))))))))))))))))))))))))))
theorem lf_X10_share : lk (tb_X10_share) 0 = (x_al 1 0, false) ∧ lk (tb_X10_share) 1 = (x_il 2 1, false) ∧ lk (tb_X10_share) 2 = (x_cV 10 1 P_X10_isCheck 5, false) ∧ lk (tb_X10_share) 5 = (x_ifn 10 8 (fun x : Int32 => x = 0), false) ∧ lk (tb_X10_share) 8 = (x_c 9 (.int (-1)), false) ∧ lk (tb_X10_share) 9 = (x_rI, false) ∧ lk (tb_X10_share) 10 = (x_c 11 (.int 0), false) ∧ lk (tb_X10_share) 11 = (x_is 12 3, false) ∧ lk (tb_X10_share) 12 = (x_il 13 3, true) ∧ lk (tb_X10_share) 13 = (x_c 14 (.int 1), false) ∧ lk (tb_X10_share) 14 = (x_al 15 0, false) ∧ lk (tb_X10_share) 15 = (x_gI 10 3 18, false) ∧ lk (tb_X10_share) 18 = (x_ii 19 (fun x y : Int32 => x <<< (y &&& 31)), false) ∧ lk (tb_X10_share) 19 = (x_ic 39 22 (fun x y : Int32 => y ≤ x), false) ∧ lk (tb_X10_share) 22 = (x_al 23 0, false) ∧ lk (tb_X10_share) 23 = (x_gR 10 18 26, false) ∧ lk (tb_X10_share) 26 = (x_il 27 3, false) ∧ lk (tb_X10_share) 27 = (x_al 28 0, false) ∧ lk (tb_X10_share) 28 = (x_il 29 3, false) ∧ lk (tb_X10_share) 29 = (x_cV 10 1 P_X10_rankBy 32, false) ∧ lk (tb_X10_share) 32 = (x_ias 33, false) ∧ lk (tb_X10_share) 33 = (x_inc 36 3 1, false) ∧ lk (tb_X10_share) 36 = (x_go 12, false) ∧ lk (tb_X10_share) 39 = (x_c 40 (.int 0), false) ∧ lk (tb_X10_share) 40 = (x_is 41 3, false) ∧ lk (tb_X10_share) 41 = (x_c 42 (.int 0), false) ∧ lk (tb_X10_share) 42 = (x_is 44 4, false) ∧ lk (tb_X10_share) 44 = (x_il 46 4, true) ∧ lk (tb_X10_share) 46 = (x_c 47 (.int 1), false) ∧ lk (tb_X10_share) 47 = (x_al 48 0, false) ∧ lk (tb_X10_share) 48 = (x_gI 10 3 51, false) ∧ lk (tb_X10_share) 51 = (x_ii 52 (fun x y : Int32 => x <<< (y &&& 31)), false) ∧ lk (tb_X10_share) 52 = (x_ic 118 55 (fun x y : Int32 => y ≤ x), false) ∧ lk (tb_X10_share) 55 = (x_il 57 4, false) ∧ lk (tb_X10_share) 57 = (x_il 58 1, false) ∧ lk (tb_X10_share) 58 = (x_cS 2 P_X10_has 61, false) ∧ lk (tb_X10_share) 61 = (x_ifn 112 64 (fun x : Int32 => x = 0), false) ∧ lk (tb_X10_share) 64 = (x_il 66 4, false) ∧ lk (tb_X10_share) 66 = (x_cS 1 P_X10_ones 69, false) ∧ lk (tb_X10_share) 69 = (x_is 71 5, false) ∧ lk (tb_X10_share) 71 = (x_il 72 3, false) ∧ lk (tb_X10_share) 72 = (x_il 74 5, false) ∧ lk (tb_X10_share) 74 = (x_cS 1 P_X10_factorial 77, false) ∧ lk (tb_X10_share) 77 = (x_al 78 0, false) ∧ lk (tb_X10_share) 78 = (x_gI 10 3 81, false) ∧ lk (tb_X10_share) 81 = (x_c 82 (.int 1), false) ∧ lk (tb_X10_share) 82 = (x_ii 83 (fun x y : Int32 => x - y), false) ∧ lk (tb_X10_share) 83 = (x_il 85 5, false) ∧ lk (tb_X10_share) 85 = (x_ii 86 (fun x y : Int32 => x - y), false) ∧ lk (tb_X10_share) 86 = (x_cS 1 P_X10_factorial 89, false) ∧ lk (tb_X10_share) 89 = (x_ii 90 (fun x y : Int32 => x * y), false) ∧ lk (tb_X10_share) 90 = (x_al 91 0, false) ∧ lk (tb_X10_share) 91 = (x_gR 10 18 94, false) ∧ lk (tb_X10_share) 94 = (x_il 96 4, false) ∧ lk (tb_X10_share) 96 = (x_c 97 (.int 1), false) ∧ lk (tb_X10_share) 97 = (x_il 98 1, false) ∧ lk (tb_X10_share) 98 = (x_ii 99 (fun x y : Int32 => x <<< (y &&& 31)), false) ∧ lk (tb_X10_share) 99 = (x_ii 100 (fun x y : Int32 => x ||| y), false) ∧ lk (tb_X10_share) 100 = (x_ia 101, false) ∧ lk (tb_X10_share) 101 = (x_al 102 0, false) ∧ lk (tb_X10_share) 102 = (x_gR 10 18 105, false) ∧ lk (tb_X10_share) 105 = (x_il 107 4, false) ∧ lk (tb_X10_share) 107 = (x_ia 108, false) ∧ lk (tb_X10_share) 108 = (x_ii 109 (fun x y : Int32 => x - y), false) ∧ lk (tb_X10_share) 109 = (x_ii 110 (fun x y : Int32 => x * y), false) ∧ lk (tb_X10_share) 110 = (x_ii 111 (fun x y : Int32 => x + y), false) ∧ lk (tb_X10_share) 111 = (x_is 112 3, false) ∧ lk (tb_X10_share) 112 = (x_inc 115 4 1, false) ∧ lk (tb_X10_share) 115 = (x_go 44, false) ∧ lk (tb_X10_share) 118 = (x_il 119 3, false) ∧ lk (tb_X10_share) 119 = (x_al 120 0, false) ∧ lk (tb_X10_share) 120 = (x_gI 10 3 123, false) ∧ lk (tb_X10_share) 123 = (x_cS 1 P_X10_factorial 126, false) ∧ lk (tb_X10_share) 126 = (x_il 127 2, false) ∧ lk (tb_X10_share) 127 = (x_cS 3 P_X10_fraction 130, false) ∧ lk (tb_X10_share) 130 = (x_rI, false) := ⟨rfl, rfl, rfl, rfl, rfl, rfl, rfl, rfl, rfl, rfl, rfl, rfl, rfl, rfl, rfl, rfl, rfl, rfl, rfl, rfl, rfl, rfl, rfl, rfl, rfl, rfl, rfl, rfl, rfl, rfl, rfl, rfl, rfl, rfl, rfl, rfl, rfl, rfl, rfl, rfl, rfl, rfl, rfl, rfl, rfl, rfl, rfl, rfl, rfl, rfl, rfl, rfl, rfl, rfl, rfl, rfl, rfl, rfl, rfl, rfl, rfl, rfl, rfl, rfl, rfl, rfl, rfl, rfl, rfl, rfl, rfl, rfl, rfl, rfl, rfl, rfl⟩
def P_X10_share : PTT := fun as M R => match as with
  | [.ref k, .int c, .int u] => k = 108 ∧ ∃ g, MR M.1 M.2.1 M.2.2 g ∧ GOk g ∧ Anm M R (gShare g c u) g
  | _ => False
set_option maxRecDepth 20000 in
theorem ok_X10_share : Ok yX10_share mt_X10_share P_X10_share := by
  refine Ok.of (by decide) rfl rfl rfl rfl fun av ⟨S, I, L⟩ R hP => ?_
  unfold P_X10_share at hP
  split at hP
  case h_2 => exact hP.elim
  rename_i k c u
  obtain ⟨k, rfl⟩ : ∃ q : Nat, q = k := ⟨k, rfl⟩
  refine ⟨by simp [ent, wide, mt_X10_share], ?_⟩
  show J mt_X10_share R 0 [some (.ref k), some (.int c), some (.int u), none, none, none] [] (S, I, L)
  try dsimp only at hP
  obtain ⟨rfl, g, hc, ho, hA⟩ := hP
  obtain ⟨h1, h2, h3, h4, h5, h6, h7, h8, h9⟩ := id hc
  have hok := ho.2.1
  have hm := ho.2.1.1
  have hp := pow6 hm.2.2
  have h1p := one_le (aM (gA g))
  have hfin : ∀ v I', gShare g c u = v → (∀ q, q ≠ 119 → q ≠ 120 → I' q = I q) → R (some (.int v)) (S, I', L) := fun v I' hv hf => (hv ▸ hA).q hc ⟨fun q a b c => hf q (by omega) (by omega), fun j _ => by rw [hf 108 (by omega) (by omega)]⟩
  refine J.of tk_X10_share 200 fun ρ hρ => ?_
  simp only [hρ, x_c, x_il, x_ll, x_al, x_is, x_as, x_ls, x_inc, x_ii, x_iq, x_i1, x_l2, x_lq, x_lh, x_i2l, x_l2i, x_lcmp, x_dup, x_dup2, x_pop, x_if, x_ifn, x_ic, x_icn, x_go, x_sw, swc, x_l01, x_mx, x_gI, x_gL, x_gR, x_pI, x_pZ, x_pL, x_pR, x_ia, x_za, x_aa, x_ias, x_zas, x_aas, x_fac, x_fa, x_slen, x_sa, x_ac, x_oi, x_new, x_na, x_cS, x_cV, x_cI, x_rI, x_rZ, x_rL, x_r0, pa, short, oc, lg, lset, lset2, wide, cond_true, cond_false, true_and, and_true, ↓reduceIte, Bool.false_eq_true, true_or, or_true, lf_X10_share, h1.f, P_X10_isCheck]
  refine ⟨aM (gA g), by omega, h3.2, ?_⟩
  simp only [bI_0, Classical.not_not]
  refine ⟨fun h => ?_, fun h => hfin _ I (by rw [gShare, if_pos h]) (fun _ _ _ => rfl)⟩
  obtain ⟨i, hi, rfl⟩ := hC.i (g := g) h ho
  have ht : tn (nI i) = i := tn_nI (by omega)
  have hg : gShare g (nI i) u = ltA (shS (gA g) i (2 ^ aM (gA g))) (facN (aM (gA g))) u := by rw [gShare, if_neg (fun q => q h), ht]
  have hpm := pow_m hi hm.2.2
  have second : ∀ I', (∀ q, q ≠ 119 → q ≠ 120 → I' q = I q) → (∀ s, s < 2 ^ aM (gA g) → I' 120 s = nI (rkA (gA g) s)) → ∀ s, s ≤ 2 ^ aM (gA g) → ∀ w, J mt_X10_share R 44 [some (.ref 108), some (.int (nI i)), some (.int u), some (.int (nI (shS (gA g) i s))), some (.int (nI s)), w] [] (S, I', L) := by
    intro I' hf hw
    refine up (P := fun s => ∀ w, J mt_X10_share R 44 [some (.ref 108), some (.int (nI i)), some (.int u), some (.int (nI (shS (gA g) i s))), some (.int (nI s)), w] [] (S, I', L)) (n := 2 ^ aM (gA g)) (fun s hs ih w => ?_)
    have e108 : I' 108 = I 108 := hf 108 (by omega) (by omega)
    by_cases hlt : s < 2 ^ aM (gA g)
    · have ts : tn (nI s) = s := tn_nI (by omega)
      have hor : s ||| 2 ^ i < 2 ^ aM (gA g) := Nat.or_lt_two_pow hlt (Nat.pow_lt_pow_right (by omega) hi)
      by_cases hb : s.testBit i = true
      · have := ih hlt w
        rw [shS, if_neg (fun q => q.1 hb)] at this
        refine J.of tk_X10_share 200 fun ρ hρ => ?_
        simp only [hρ, x_c, x_il, x_ll, x_al, x_is, x_as, x_ls, x_inc, x_ii, x_iq, x_i1, x_l2, x_lq, x_lh, x_i2l, x_l2i, x_lcmp, x_dup, x_dup2, x_pop, x_if, x_ifn, x_ic, x_icn, x_go, x_sw, swc, x_l01, x_mx, x_gI, x_gL, x_gR, x_pI, x_pZ, x_pL, x_pR, x_ia, x_za, x_aa, x_ias, x_zas, x_aas, x_fac, x_fa, x_slen, x_sa, x_ac, x_oi, x_new, x_na, x_cS, x_cV, x_cI, x_rI, x_rZ, x_rL, x_r0, pa, short, oc, lg, lset, lset2, wide, cond_true, cond_false, true_and, and_true, ↓reduceIte, Bool.false_eq_true, true_or, or_true, lf_X10_share, h1.f, e108, h3.2, shl1 (show aM (gA g) < 31 by omega), nI_leI (show 2 ^ aM (gA g) < 2 ^ 31 by omega) (show s < 2 ^ 31 by omega), P_X10_has, bB_0, nI_1, Classical.not_not]
        refine ⟨fun h => absurd h (by omega), fun _ => ⟨s, i, rfl, by omega, rfl, by omega, fun _ => this, fun q => absurd hb q⟩⟩
      · have ho9 := ones_m (aM (gA g)) (by omega) i hi s hlt hb
        have es : nI (aM (gA g)) - 1 - nI (ones9 s) = nI (aM (gA g) - 1 - ones9 s) := by rw [nI_m1 (by omega), nI_sub (by omega)]
        have r01 := rk_01 (c := i) hok hb
        have ew1 : I' 120 s = nI (rkA (gA g) s) := hw s hlt
        have ew2 : I' 120 (s ||| 2 ^ i) = nI (rkA (gA g) (s ||| 2 ^ i)) := hw _ hor
        refine J.of tk_X10_share 200 fun ρ hρ => ?_
        simp only [hρ, x_c, x_il, x_ll, x_al, x_is, x_as, x_ls, x_inc, x_ii, x_iq, x_i1, x_l2, x_lq, x_lh, x_i2l, x_l2i, x_lcmp, x_dup, x_dup2, x_pop, x_if, x_ifn, x_ic, x_icn, x_go, x_sw, swc, x_l01, x_mx, x_gI, x_gL, x_gR, x_pI, x_pZ, x_pL, x_pR, x_ia, x_za, x_aa, x_ias, x_zas, x_aas, x_fac, x_fa, x_slen, x_sa, x_ac, x_oi, x_new, x_na, x_cS, x_cV, x_cI, x_rI, x_rZ, x_rL, x_r0, pa, short, oc, lg, lset, lset2, wide, cond_true, cond_false, true_and, and_true, ↓reduceIte, Bool.false_eq_true, true_or, or_true, lf_X10_share, h1.f, e108, h3.2, shl1 (show aM (gA g) < 31 by omega), shl1 (show i < 31 by omega), nI_or, nI_leI (show 2 ^ aM (gA g) < 2 ^ 31 by omega) (show s < 2 ^ 31 by omega), P_X10_has, P_X10_ones, P_X10_factorial, bB_0, ts, eq_true (show s < 512 by omega), es, ncl (show s < 2 ^ 31 by omega), ncl (show s ||| 2 ^ i < 2 ^ 31 by omega), ew1, ew2, nI_1, Classical.not_not]
        refine ⟨fun h => absurd h (by omega), fun _ => ⟨s, i, rfl, by omega, rfl, by omega, fun q => absurd q hb, fun _ => ⟨ones9 s, rfl, by omega, aM (gA g) - 1 - ones9 s, rfl, by omega, vp_in_nI (by omega) (by omega), vp_in_nI (by omega) (by omega), ?_⟩⟩⟩
        have hnx := ih hlt (some (.int (nI (ones9 s))))
        rcases r01 with q | q
        · rw [shS, if_neg (fun z => by omega)] at hnx
          rw [q, Int32.sub_self, Int32.mul_zero, Int32.add_zero]
          exact hnx
        · rw [shS, if_pos ⟨hb, by omega⟩] at hnx
          rw [q, nI_sub (by omega), show rkA (gA g) s + 1 - rkA (gA g) s = 1 by omega, pk_mul, pk_mul, nI_add, Nat.mul_one]
          exact hnx
    · have : s = 2 ^ aM (gA g) := by omega
      subst this
      have hsh : shS (gA g) i (2 ^ aM (gA g)) < 2 ^ 31 := by
        have := shS_le (gA g) i (2 ^ aM (gA g))
        have h2 := Nat.mul_le_mul_right 518400 hp
        omega
      have hfa := facN_le (aM (gA g))
      refine J.of tk_X10_share 200 fun ρ hρ => ?_
      simp only [hρ, x_c, x_il, x_ll, x_al, x_is, x_as, x_ls, x_inc, x_ii, x_iq, x_i1, x_l2, x_lq, x_lh, x_i2l, x_l2i, x_lcmp, x_dup, x_dup2, x_pop, x_if, x_ifn, x_ic, x_icn, x_go, x_sw, swc, x_l01, x_mx, x_gI, x_gL, x_gR, x_pI, x_pZ, x_pL, x_pR, x_ia, x_za, x_aa, x_ias, x_zas, x_aas, x_fac, x_fa, x_slen, x_sa, x_ac, x_oi, x_new, x_na, x_cS, x_cV, x_cI, x_rI, x_rZ, x_rL, x_r0, pa, short, oc, lg, lset, lset2, wide, cond_true, cond_false, true_and, and_true, ↓reduceIte, Bool.false_eq_true, true_or, or_true, lf_X10_share, h1.f, e108, h3.2, shl1 (show aM (gA g) < 31 by omega), nI_leI (show 2 ^ aM (gA g) < 2 ^ 31 by omega) (show 2 ^ aM (gA g) < 2 ^ 31 by omega), Nat.le_refl, true_implies, not_true_eq_false, false_implies, P_X10_factorial, P_X10_fraction]
      exact ⟨aM (gA g), rfl, hm.2.2, _, _, rfl, rfl, hsh, facN_pos _ (by omega), by omega, hfin _ I' hg hf⟩
  refine up (P := fun s => ∀ I', (∀ q, q ≠ 119 → q ≠ 120 → I' q = I q) → (∀ t, t < s → I' 120 t = nI (rkA (gA g) t)) → J mt_X10_share R 12 [some (.ref 108), some (.int (nI i)), some (.int u), some (.int (nI s)), none, none] [] (S, I', L)) (n := 2 ^ aM (gA g)) (fun s hs ih I' hf hw => ?_) 0 (Nat.zero_le _) I (fun _ _ _ => rfl) (fun t ht => absurd ht (by omega))
  have e108 : I' 108 = I 108 := hf 108 (by omega) (by omega)
  by_cases hlt : s < 2 ^ aM (gA g)
  · refine J.of tk_X10_share 200 fun ρ hρ => ?_
    simp only [hρ, x_c, x_il, x_ll, x_al, x_is, x_as, x_ls, x_inc, x_ii, x_iq, x_i1, x_l2, x_lq, x_lh, x_i2l, x_l2i, x_lcmp, x_dup, x_dup2, x_pop, x_if, x_ifn, x_ic, x_icn, x_go, x_sw, swc, x_l01, x_mx, x_gI, x_gL, x_gR, x_pI, x_pZ, x_pL, x_pR, x_ia, x_za, x_aa, x_ias, x_zas, x_aas, x_fac, x_fa, x_slen, x_sa, x_ac, x_oi, x_new, x_na, x_cS, x_cV, x_cI, x_rI, x_rZ, x_rL, x_r0, pa, short, oc, lg, lset, lset2, wide, cond_true, cond_false, true_and, and_true, ↓reduceIte, Bool.false_eq_true, true_or, or_true, lf_X10_share, h1, h1.f, e108, h3.2, shl1 (show aM (gA g) < 31 by omega), nI_leI (show 2 ^ aM (gA g) < 2 ^ 31 by omega) (show s < 2 ^ 31 by omega), ncl (show s < 2 ^ 31 by omega), P_X10_rankBy, nI_1]
    have hms : MS S I' 110 (gA g) := MS.of h1 (Or.inl rfl) (by rw [hf 110 (by omega) (by omega)]; exact h4) hok (by rw [e108]; exact h3.1) (by rw [e108]; exact h3.2)
    refine ⟨fun h => absurd h (by omega), fun _ => ⟨s, gA g, rfl, by omega, hms, fun I2 hf2 => ⟨vp_in_nI (by omega) (by omega), ih hlt _ (fun q a b => by rw [mS_n b, hf2 q a, hf q a b]) (fun t ht => ?_)⟩⟩⟩
    rw [mS_s, upd_app]
    by_cases q : t = s
    · subst q; rw [if_pos rfl]
    · rw [if_neg q, hf2 120 (by omega)]; exact hw t (by omega)
  · have : s = 2 ^ aM (gA g) := by omega
    subst this
    have := second I' hf hw 0 (Nat.zero_le _) none
    refine J.of tk_X10_share 200 fun ρ hρ => ?_
    simp only [hρ, x_c, x_il, x_ll, x_al, x_is, x_as, x_ls, x_inc, x_ii, x_iq, x_i1, x_l2, x_lq, x_lh, x_i2l, x_l2i, x_lcmp, x_dup, x_dup2, x_pop, x_if, x_ifn, x_ic, x_icn, x_go, x_sw, swc, x_l01, x_mx, x_gI, x_gL, x_gR, x_pI, x_pZ, x_pL, x_pR, x_ia, x_za, x_aa, x_ias, x_zas, x_aas, x_fac, x_fa, x_slen, x_sa, x_ac, x_oi, x_new, x_na, x_cS, x_cV, x_cI, x_rI, x_rZ, x_rL, x_r0, pa, short, oc, lg, lset, lset2, wide, cond_true, cond_false, true_and, and_true, ↓reduceIte, Bool.false_eq_true, true_or, or_true, lf_X10_share, h1.f, e108, h3.2, shl1 (show aM (gA g) < 31 by omega), nI_leI (show 2 ^ aM (gA g) < 2 ^ 31 by omega) (show 2 ^ aM (gA g) < 2 ^ 31 by omega), Nat.le_refl, true_implies, not_true_eq_false, false_implies]
    exact this
