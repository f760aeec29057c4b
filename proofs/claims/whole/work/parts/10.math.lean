/-! NUMBERS: sets as naturals, loops -/
def tn (x : Int32) : Nat := x.toBitVec.toNat
theorem tn_nI {n : Nat} (h : n < 2 ^ 32) : tn (nI n) = n := pk_tn h
theorem nI_tn (x : Int32) : nI (tn x) = x := by
  apply Int32.toBitVec_inj.mp
  apply BitVec.eq_of_toNat_eq
  exact pk_tn x.toBitVec.isLt
theorem tn_inj {x y : Int32} (h : tn x = tn y) : x = y := by rw [← nI_tn x, ← nI_tn y, h]
theorem tn_and (x y : Int32) : tn (x &&& y) = tn x &&& tn y := by simp [tn]
theorem tn_or (x y : Int32) : tn (x ||| y) = tn x ||| tn y := by simp [tn]
theorem tn_xor (x y : Int32) : tn (x ^^^ y) = tn x ^^^ tn y := by simp [tn]
theorem ncl {n : Nat} (h : n < 2 ^ 31) : (nI n).toNatClampNeg = n := nI_clamp h
/-- a bit, as an int -/
def bI (p : Prop) [Decidable p] : Int32 := if p then 1 else 0
theorem bI_0 {p : Prop} [Decidable p] : bI p = 0 ↔ ¬ p := by unfold bI; split <;> simp_all
theorem bI_1 {p : Prop} [Decidable p] : bI p = 1 ↔ p := by unfold bI; split <;> simp_all
theorem bI_t {p : Prop} [Decidable p] (h : p) : bI p = 1 := by simp [bI, h]
theorem bI_f {p : Prop} [Decidable p] (h : ¬ p) : bI p = 0 := by simp [bI, h]
theorem bI_or {p : Prop} [Decidable p] : bI p = 0 ∨ bI p = 1 := by unfold bI; split <;> simp
theorem bI_congr {p q : Prop} [Decidable p] [Decidable q] (h : p ↔ q) : bI p = bI q := by simp [bI, h]
/-- a loop that counts up to n -/
theorem up {P : Nat → Prop} {n : Nat} (h : ∀ i, i ≤ n → (i < n → P (i + 1)) → P i) : ∀ i, i ≤ n → P i := by
  have key : ∀ d i, i + d = n → P i := by
    intro d
    induction d with
    | zero => intro i hi; exact h i (by omega) (fun h' => absurd h' (by omega))
    | succ d ih => intro i hi; exact h i (by omega) (fun _ => ih (i + 1) (by omega))
  exact fun i hi => key (n - i) i (by omega)
/-- a loop that counts down to 0: P of how many are left -/
theorem dn {P : Nat → Prop} (h : ∀ i, (∀ j, i = j + 1 → P j) → P i) : ∀ i, P i := by
  intro i
  induction i with
  | zero => exact h 0 (fun j hj => by omega)
  | succ i ih => exact h (i + 1) (fun j hj => by have : i = j := by omega
                                                 subst this; exact ih)
theorem s31 : ∀ n, n < 32 → ((nI n &&& 31).toBitVec.smod 32).toNat = n := by decide +kernel
theorem shl1 {i : Nat} (h : i < 31) : (1 : Int32) <<< (nI i &&& 31) = nI (2 ^ i) := by
  have := pk_shlN (n := 1) (nI i &&& 31) i (s31 i (by omega)) (by rw [Nat.one_mul]; exact Nat.pow_lt_pow_right (by omega) (by omega))
  rw [Nat.one_mul] at this
  exact this
theorem shlB {x i : Nat} (hx : x ≤ 1) (h : i < 31) : nI x <<< (nI i &&& 31) = nI (x * 2 ^ i) := by
  refine pk_shlN (n := x) (nI i &&& 31) i (s31 i (by omega)) ?_
  have h2 : 2 ^ i < 2 ^ 31 := Nat.pow_lt_pow_right (by omega) h
  have h3 : x * 2 ^ i ≤ 1 * 2 ^ i := Nat.mul_le_mul_right _ hx
  omega
theorem nI_tb (n : Nat) : (nI n).toBitVec = BitVec.ofNat 32 n := rfl
theorem nI_or (a b : Nat) : nI a ||| nI b = nI (a ||| b) := by
  apply Int32.toBitVec_inj.mp
  rw [Int32.toBitVec_or, nI_tb, nI_tb, nI_tb]
  apply BitVec.eq_of_getLsbD_eq
  intro i hi
  simp [BitVec.getLsbD_ofNat, hi]
theorem nI_and (a b : Nat) : nI a &&& nI b = nI (a &&& b) := by
  apply Int32.toBitVec_inj.mp
  rw [Int32.toBitVec_and, nI_tb, nI_tb, nI_tb]
  apply BitVec.eq_of_getLsbD_eq
  intro i hi
  simp [BitVec.getLsbD_ofNat, hi]
theorem nI_xor (a b : Nat) : nI a ^^^ nI b = nI (a ^^^ b) := by
  apply Int32.toBitVec_inj.mp
  rw [Int32.toBitVec_xor, nI_tb, nI_tb, nI_tb]
  apply BitVec.eq_of_getLsbD_eq
  intro i hi
  simp [BitVec.getLsbD_ofNat, hi]
theorem or_pow {a i : Nat} (h : a < 2 ^ i) : a ||| 2 ^ i = a + 2 ^ i := by
  have h1 := Nat.two_pow_add_eq_or_of_lt h 1
  rw [Nat.mul_one] at h1
  rw [Nat.or_comm, ← h1, Nat.add_comm]
theorem bitAt {v b : Nat} (hv : v < 2 ^ 31) (hb : b < 31) : (nI v >>> (nI b &&& 31)) &&& 1 = nI (if v.testBit b then 1 else 0) := by
  rw [pk_shrN hv (nI b &&& 31) b (s31 b (by omega))]
  rw [show (1 : Int32) = nI 1 from by decide, nI_and]
  congr 1
  rw [Nat.and_one_is_mod]
  have := Nat.testBit_eq_decide_div_mod_eq (x := v) (i := b)
  rw [this]
  have h2 : v / 2 ^ b % 2 < 2 := Nat.mod_lt _ (by omega)
  by_cases h : v / 2 ^ b % 2 = 1
  · simp [h]
  · simp [h]; omega
/-- sums of bits -/
def bs (f : Nat → Bool) : Nat → Nat
  | 0 => 0
  | n + 1 => bs f n + (if f n then 2 ^ n else 0)
theorem bs_lt (f : Nat → Bool) : ∀ n, bs f n < 2 ^ n
  | 0 => by simp [bs]
  | n + 1 => by
    have := bs_lt f n
    simp only [bs, Nat.pow_succ]
    split <;> omega
theorem bs_congr {f g : Nat → Bool} : ∀ {n : Nat}, (∀ i, i < n → f i = g i) → bs f n = bs g n
  | 0, _ => rfl
  | n + 1, h => by rw [bs, bs, bs_congr (fun i hi => h i (by omega)), h n (by omega)]
theorem bs_bit (f : Nat → Bool) : ∀ n i, (bs f n).testBit i = (decide (i < n) && f i)
  | 0, i => by simp [bs]
  | n + 1, i => by
    have hl := bs_lt f n
    rw [bs]
    have e : (bs f n + (if f n then 2 ^ n else 0)) = (bs f n ||| (if f n then 2 ^ n else 0)) := by
      split
      · rw [or_pow hl]
      · simp
    rw [e, Nat.testBit_or, bs_bit f n i]
    by_cases h : i = n
    · subst h
      cases hf : f i <;> simp [hf]
    · by_cases h2 : i < n
      · cases hf : f n <;> simp [h2, show i < n + 1 by omega, hf, Nat.testBit_two_pow, Ne.symm h]
      · cases hf : f n <;> simp [h2, show ¬ i < n + 1 by omega, hf, Nat.testBit_two_pow, Ne.symm h]
theorem bs_eq0 (f : Nat → Bool) (n : Nat) : bs f n = 0 ↔ ∀ i, i < n → f i = false := by
  constructor
  · intro h i hi
    have := bs_bit f n i
    rw [h] at this
    simp [hi] at this
    exact this
  · intro h
    rw [bs_congr h]
    clear h
    induction n with
    | zero => rfl
    | succ n ih => simp [bs, ih]
theorem bs_t {f : Nat → Bool} {i : Nat} (hi : i < 31) (h : f i = true) : nI (bs f i) ||| (1 : Int32) <<< (nI i &&& 31) = nI (bs f (i + 1)) := by
  rw [shl1 hi, nI_or, or_pow (bs_lt f i), bs, h]; rfl
theorem bs_f {f : Nat → Bool} {i : Nat} (h : f i = false) : bs f i = bs f (i + 1) := by rw [bs, h]; rfl
theorem bs_b {f : Nat → Bool} {i x : Nat} (hi : i < 31) (h : x = if f i then 1 else 0) : nI (bs f i) ||| nI x <<< (nI i &&& 31) = nI (bs f (i + 1)) := by
  rw [shlB (by rw [h]; split <;> omega) hi, nI_or]
  cases hf : f i with
  | true => rw [hf] at h; simp at h; rw [h, Nat.one_mul, or_pow (bs_lt f i), bs, hf]; rfl
  | false => rw [hf] at h; simp at h; rw [h, Nat.zero_mul, Nat.or_zero, bs, hf]; rfl
/-- how many of nine bits -/
def on9 (v : Nat) : Nat → Nat
  | 0 => 0
  | n + 1 => on9 v n + (if v.testBit n then 1 else 0)
def ones9 (v : Nat) : Nat := on9 v 9
theorem on9_le (v : Nat) : ∀ n, on9 v n ≤ n
  | 0 => Nat.le_refl _
  | n + 1 => by have := on9_le v n; simp only [on9]; split <;> omega
theorem ones9_le (v : Nat) : ones9 v ≤ 9 := on9_le v 9
theorem one_nI : (1 : Int32) = nI 1 := by decide
theorem zero_nI : (0 : Int32) = nI 0 := by decide
