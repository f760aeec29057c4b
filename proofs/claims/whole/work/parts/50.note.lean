/-! NOTE of the model -/
def sgC (f g : Nat → Int32) (o i : Nat) : Nat → Int32 := fun j => if o ≤ j ∧ j < o + i then f (j - o) else g j
theorem sgC_0 (f g : Nat → Int32) (o : Nat) : sgC f g o 0 = g := by funext j; rw [sgC, if_neg (by omega)]
theorem sgC_s (f g : Nat → Int32) (o i : Nat) : upd (sgC f g o i) (o + i) (f i) = sgC f g o (i + 1) := by
  funext j
  rw [upd_app]
  simp only [sgC]
  by_cases h : j = o + i
  · subst h
    rw [if_pos rfl, if_pos (by omega), show o + i - o = i by omega]
  · rw [if_neg h]
    by_cases h2 : o ≤ j ∧ j < o + i
    · rw [if_pos h2, if_pos (by omega)]
    · rw [if_neg h2, if_neg (by omega)]
theorem RW.sg {f g : Nat → Int32} {o : Nat} {a : AS} (h : RW f 0 a) (hm : aM a ≤ 6) : RW (sgC f g o 80) o a := by
  have e : ∀ j, j < 80 → sgC f g o 80 (o + j) = f j := fun j hj => by rw [sgC, if_pos (by omega), show o + j - o = j by omega]
  refine ⟨fun b hb => ?_, fun b hb => ?_, fun c hc => ?_, fun j hj => ?_, ?_, ?_⟩
  · rw [e b (by omega)]; exact h.l hb
  · rw [Nat.add_assoc, e (9 + b) (by omega)]; exact h.t hb
  · rw [Nat.add_assoc, e (18 + c) (by omega)]; exact h.v hc
  · rw [Nat.add_assoc, e (24 + j) (by omega)]; exact h.m hj
  · rw [e 78 (by omega)]; exact h.2.2.2.2.1
  · rw [e 79 (by omega)]; exact h.2.2.2.2.2
theorem RW.sn {f g : Nat → Int32} {o p : Nat} {a : AS} (h : RW g p a) (hm : aM a ≤ 6) (ho : p + 80 ≤ o ∨ o + 80 ≤ p) : RW (sgC f g o 80) p a := by
  have e : ∀ j, j < 80 → sgC f g o 80 (p + j) = g (p + j) := fun j hj => by rw [sgC, if_neg (by omega)]
  refine ⟨fun b hb => ?_, fun b hb => ?_, fun c hc => ?_, fun j hj => ?_, ?_, ?_⟩
  · rw [e b (by omega)]; exact h.1 b hb
  · rw [Nat.add_assoc, e (9 + b) (by omega), ← Nat.add_assoc]; exact h.2.1 b hb
  · rw [Nat.add_assoc, e (18 + c) (by omega), ← Nat.add_assoc]; exact h.2.2.1 c hc
  · rw [Nat.add_assoc, e (24 + j) (by omega), ← Nat.add_assoc]; exact h.2.2.2.1 j hj
  · rw [e 78 (by omega)]; exact h.2.2.2.2.1
  · rw [e 79 (by omega)]; exact h.2.2.2.2.2
