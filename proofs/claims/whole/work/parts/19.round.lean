/-! A ROUND, as numbers: what both sides come to -/
abbrev DS : Type := (Nat → Int32) × (Nat → Int32)
def lsO (Q : Nat → Int32) (s b : Nat) : Nat → Int32
  | 0 => 99
  | i + 1 => if i ≠ b ∧ s.testBit i = true then (if lsO Q s b i ≤ am (Q i) then lsO Q s b i else am (Q i)) else lsO Q s b i
def sgO (Q : Nat → Int32) (s b : Nat) : Nat → Bool
  | 0 => false
  | i + 1 => if i ≠ b ∧ s.testBit i = true then (sgO Q s b i != decide (Q i < 0)) else sgO Q s b i
def nmS (Q : Nat → Int32) (s b n : Nat) (off : Int32) : Int32 := if sgO Q s b n = true then -hld (lsO Q s b n - off) 0 31 else hld (lsO Q s b n - off) 0 31
def QD (d : DS) (c : Nat) : Nat → Int32 := fun b => d.1 b - d.2 (9 * c + b)
def stpD (n : Nat) (off : Int32) (s c : Nat) (d : DS) : DS :=
  (fun b => if b < n ∧ s.testBit b = true then hld (QD d c b + nmS (QD d c) s b n off) (-99) 99 else d.1 b,
   fun j => if 9 * c ≤ j ∧ j < 9 * c + n ∧ s.testBit (j - 9 * c) = true then nmS (QD d c) s (j - 9 * c) n off else d.2 j)
def rndD (n : Nat) (off : Int32) (ov ord : Nat → Nat) : Nat → DS → DS
  | 0, d => d
  | i + 1, d => stpD n off (ov (ord i)) (ord i) (rndD n off ov ord i d)
/-! sizes -/
theorem hld_in {v : Int32} {a b : Int32} (h : a ≤ b) : a ≤ hld v a b ∧ hld v a b ≤ b := by
  unfold hld
  by_cases h1 : a ≤ v
  · rw [if_pos h1]
    by_cases h2 : v ≤ b
    · rw [if_pos h2]; exact ⟨h1, h2⟩
    · rw [if_neg h2]; exact ⟨h, Int32.le_refl _⟩
  · rw [if_neg h1]; exact ⟨Int32.le_refl _, h⟩
theorem hld_id {v : Int32} (h : inR 99 v) : hld v (-99) 99 = v := by
  have h1 : (-99 : Int32) ≤ v := by rw [Int32.le_iff_toInt_le]; exact h.1
  have h2 : v ≤ 99 := by rw [Int32.le_iff_toInt_le]; exact h.2
  simp [hld, h1, h2]
theorem hld99 (v : Int32) : inR 99 (hld v (-99) 99) := by
  have := hld_in (v := v) (a := -99) (b := 99) (by decide)
  rw [Int32.le_iff_toInt_le, Int32.le_iff_toInt_le] at this
  exact this
theorem hld31 (v : Int32) : 0 ≤ (hld v 0 31).toInt ∧ (hld v 0 31).toInt ≤ 31 := by
  have := hld_in (v := v) (a := 0) (b := 31) (by decide)
  rw [Int32.le_iff_toInt_le, Int32.le_iff_toInt_le] at this
  exact this
theorem neg_toInt {x : Int32} (h : -1000 ≤ x.toInt ∧ x.toInt ≤ 1000) : (-x).toInt = -x.toInt := by
  rw [Int32.toInt_neg, Int.bmod_eq_of_le (by omega) (by omega)]
theorem nmS_in (Q : Nat → Int32) (s b n : Nat) (off : Int32) : inR 31 (nmS Q s b n off) := by
  have h := hld31 (lsO Q s b n - off)
  unfold nmS
  split
  · unfold inR
    rw [neg_toInt (by omega)]
    omega
  · exact ⟨by omega, h.2⟩
def DSok (d : DS) : Prop := (∀ b, b < 9 → inR 99 (d.1 b)) ∧ (∀ j, j < 54 → inR 31 (d.2 j))
theorem stpD_ok {n : Nat} {off : Int32} {s c : Nat} {d : DS} (h : DSok d) : DSok (stpD n off s c d) := by
  refine ⟨fun b hb => ?_, fun j hj => ?_⟩
  · simp only [stpD]
    split
    · exact hld99 _
    · exact h.1 b hb
  · simp only [stpD]
    split
    · exact nmS_in _ _ _ _ _
    · exact h.2 j hj
theorem rndD_ok {n : Nat} {off : Int32} {ov ord : Nat → Nat} {d : DS} (h : DSok d) : ∀ i, DSok (rndD n off ov ord i d)
  | 0 => h
  | i + 1 => stpD_ok (rndD_ok h i)
/-! signs -/
theorem lt0_tn (x : Int32) : x < 0 ↔ 2 ^ 31 ≤ tn x := by
  rw [Int32.lt_iff_toInt_lt]
  have h : x.toInt = x.toBitVec.toInt := rfl
  rw [h, BitVec.toInt_eq_toNat_cond]
  have hl := x.toBitVec.isLt
  have h0 : (0 : Int32).toInt = 0 := rfl
  rw [h0]
  unfold tn
  split
  · omega
  · omega
theorem ushr31 (x : Int32) : ushr x 31 = bI (x < 0) := by
  have h := pk_ushr x 31 31 (by decide)
  apply tn_inj
  have e : tn (ushr x 31) = tn x / 2 ^ 31 := h
  rw [e]
  have hl : tn x < 2 ^ 32 := x.toBitVec.isLt
  by_cases h0 : x < 0
  · rw [bI_t h0, show tn (1 : Int32) = 1 by decide]
    have := (lt0_tn x).mp h0
    omega
  · rw [bI_f h0, show tn (0 : Int32) = 0 by decide]
    have : ¬ 2 ^ 31 ≤ tn x := fun q => h0 ((lt0_tn x).mpr q)
    omega
def sgA (Q : Nat → Int32) (s : Nat) : Nat → Bool
  | 0 => false
  | i + 1 => if s.testBit i = true then (sgA Q s i != decide (Q i < 0)) else sgA Q s i
theorem bI_xor (a b : Bool) : bI (a = true) ^^^ bI (b = true) = bI ((a != b) = true) := by cases a <;> cases b <;> decide
theorem bI_dec (p : Prop) [Decidable p] : bI p = bI (decide p = true) := bI_congr (by simp)
theorem fo_sg (Q : Nat → Int32) (s : Nat) : ∀ i, (foS Q s i).2.2.2 = bI (sgA Q s i = true)
  | 0 => rfl
  | i + 1 => by
    have ih := fo_sg Q s i
    by_cases hb : s.testBit i = true
    · have e : (foS Q s (i + 1)).2.2.2 = (foS Q s i).2.2.2 ^^^ ushr (Q i) 31 := by
        by_cases h1 : (foS Q s i).1 ≤ am (Q i)
        · by_cases h2 : (foS Q s i).2.1 ≤ am (Q i)
          · rw [foS_a hb h1 h2]
          · rw [foS_b hb h1 h2]
        · rw [foS_c hb h1]
      rw [e, ih, ushr31, bI_dec (Q i < 0), bI_xor, sgA, if_pos hb]
    · rw [foS, if_neg hb, ih, sgA, if_neg hb]
theorem sg_lo (Q : Nat → Int32) (s b : Nat) : ∀ i, i ≤ b → sgO Q s b i = sgA Q s i
  | 0, _ => rfl
  | i + 1, h => by
    rw [sgO, sgA, sg_lo Q s b i (by omega)]
    by_cases hb : s.testBit i = true
    · rw [if_pos ⟨by omega, hb⟩, if_pos hb]
    · rw [if_neg (fun z => hb z.2), if_neg hb]
theorem sg_hi (Q : Nat → Int32) (s b : Nat) (hb : s.testBit b = true) : ∀ i, b < i → sgO Q s b i = (sgA Q s i != decide (Q b < 0))
  | 0, h => by omega
  | i + 1, h => by
    rw [sgO, sgA]
    by_cases e : i = b
    · subst e
      rw [if_neg (fun z => z.1 rfl), if_pos hb, sg_lo Q s i i (by omega)]
      cases sgA Q s i <;> cases decide (Q i < 0) <;> rfl
    · rw [sg_hi Q s b hb i (by omega)]
      by_cases hi : s.testBit i = true
      · rw [if_pos ⟨e, hi⟩, if_pos hi]
        cases sgA Q s i <;> cases decide (Q b < 0) <;> cases decide (Q i < 0) <;> rfl
      · rw [if_neg (fun z => hi z.2), if_neg hi]
/-! least of the others -/
theorem i32_lt_of_not_le {a b : Int32} (h : ¬ a ≤ b) : b < a := Int32.not_le.mp h
theorem fo_wh (Q : Nat → Int32) (s : Nat) : ∀ i, i ≤ 31 → ((foS Q s i).1 ≤ (foS Q s i).2.1) ∧ ∀ b, i ≤ b → b < 31 → ¬ nI b = (foS Q s i).2.2.1
  | 0, _ => ⟨Int32.le_refl _, fun b _ hb e => by
      have := congrArg Int32.toInt e
      rw [nI_toInt (by omega)] at this
      have h1 : (-1 : Int32).toInt = -1 := by decide
      have h2 : (foS Q s 0).2.2.1 = -1 := rfl
      rw [h2] at this
      omega⟩
  | i + 1, hi => by
    obtain ⟨h1, h2⟩ := fo_wh Q s i (by omega)
    by_cases hb : s.testBit i = true
    · by_cases c1 : (foS Q s i).1 ≤ am (Q i)
      · by_cases c2 : (foS Q s i).2.1 ≤ am (Q i)
        · rw [foS_a hb c1 c2]; exact ⟨h1, fun b hb => h2 b (by omega)⟩
        · rw [foS_b hb c1 c2]; exact ⟨c1, fun b hb => h2 b (by omega)⟩
      · rw [foS_c hb c1]
        refine ⟨Int32.le_of_lt (Int32.not_le.mp c1), fun b hb hb2 e => ?_⟩
        have := (nI_eq (a := b) (b := i) (by omega) (by omega)).mp e
        omega
    · rw [foS, if_neg hb]
      exact ⟨h1, fun b hb => h2 b (by omega)⟩
theorem fo_ls (Q : Nat → Int32) (s b : Nat) (hb31 : b < 31) : ∀ i, i ≤ 31 → lsO Q s b i = if nI b = (foS Q s i).2.2.1 then (foS Q s i).2.1 else (foS Q s i).1
  | 0, _ => by
    rw [if_neg ((fo_wh Q s 0 (by omega)).2 b (by omega) hb31)]
    rfl
  | i + 1, hi => by
    have ih := fo_ls Q s b hb31 i (by omega)
    obtain ⟨w1, w2⟩ := fo_wh Q s i (by omega)
    by_cases hs : s.testBit i = true
    · by_cases e : i = b
      · subst e
        have hn := w2 i (by omega) hb31
        rw [if_neg hn] at ih
        rw [lsO, if_neg (fun z => z.1 rfl), ih]
        by_cases c1 : (foS Q s i).1 ≤ am (Q i)
        · by_cases c2 : (foS Q s i).2.1 ≤ am (Q i)
          · rw [foS_a hs c1 c2, if_neg hn]
          · rw [foS_b hs c1 c2, if_neg hn]
        · rw [foS_c hs c1, if_pos rfl]
      · rw [lsO, if_pos ⟨e, hs⟩]
        by_cases c1 : (foS Q s i).1 ≤ am (Q i)
        · by_cases c2 : (foS Q s i).2.1 ≤ am (Q i)
          · rw [foS_a hs c1 c2]
            by_cases hl : nI b = (foS Q s i).2.2.1
            · rw [if_pos hl] at ih ⊢; rw [ih, if_pos c2]
            · rw [if_neg hl] at ih ⊢; rw [ih, if_pos c1]
          · rw [foS_b hs c1 c2]
            by_cases hl : nI b = (foS Q s i).2.2.1
            · rw [if_pos hl] at ih ⊢; rw [ih, if_neg c2]
            · rw [if_neg hl] at ih ⊢; rw [ih, if_pos c1]
        · rw [foS_c hs c1]
          have hnb : ¬ nI b = nI i := fun q => e ((nI_eq (by omega) (by omega)).mp q).symm
          rw [if_neg hnb]
          by_cases hl : nI b = (foS Q s i).2.2.1
          · rw [if_pos hl] at ih
            rw [ih, if_neg (fun q => c1 (Int32.le_trans w1 q))]
          · rw [if_neg hl] at ih
            rw [ih, if_neg c1]
    · rw [lsO, if_neg (fun z => hs z.2), ih, foS, if_neg hs]
theorem sN_nm {Q q : Nat → Int32} {s b n : Nat} {off : Int32} (hn : n ≤ 9) (hb : b < n) (hs : s.testBit b = true) (hq : q b = Q b) : sN (foS Q s n).1 (foS Q s n).2.1 (foS Q s n).2.2.1 off (foS Q s n).2.2.2 q b = nmS Q s b n off := by
  have e : sB (foS Q s n).1 (foS Q s n).2.1 (foS Q s n).2.2.1 off b = hld (lsO Q s b n - off) 0 31 := by
    rw [fo_ls Q s b (by omega) n (by omega)]
    unfold sB
    split <;> rfl
  unfold sN nmS
  rw [e, fo_sg, hq, ushr31, bI_dec (Q b < 0), bI_xor, sg_hi Q s b hs n hb]
  cases h : (sgA Q s n != decide (Q b < 0)) with
  | true => rw [if_neg (by decide), if_pos rfl]
  | false => rw [if_pos (by decide), if_neg (by decide)]
