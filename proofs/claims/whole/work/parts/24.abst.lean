/-! THE ABSTRACT STATE: bits, checks, offset, rounds, sets, levels, totals and messages; what is in range counts alone -/
def DSeq (d e : DS) : Prop := (∀ b, b < 9 → d.1 b = e.1 b) ∧ (∀ j, j < 54 → d.2 j = e.2 j)
theorem DSeq.symm {d e : DS} (h : DSeq d e) : DSeq e d := ⟨fun b hb => (h.1 b hb).symm, fun j hj => (h.2 j hj).symm⟩
theorem DSeq.trans {d e f : DS} (h : DSeq d e) (h' : DSeq e f) : DSeq d f := ⟨fun b hb => (h.1 b hb).trans (h'.1 b hb), fun j hj => (h.2 j hj).trans (h'.2 j hj)⟩
theorem DSeq.ok {d e : DS} (h : DSeq d e) (ho : DSok e) : DSok d := ⟨fun b hb => by rw [h.1 b hb]; exact ho.1 b hb, fun j hj => by rw [h.2 j hj]; exact ho.2 j hj⟩
theorem lsO_congr {Q Q' : Nat → Int32} {s b : Nat} : ∀ {n : Nat}, (∀ i, i < n → Q i = Q' i) → lsO Q s b n = lsO Q' s b n
  | 0, _ => rfl
  | n + 1, h => by rw [lsO, lsO, lsO_congr (fun i hi => h i (by omega)), h n (by omega)]
theorem sgO_congr {Q Q' : Nat → Int32} {s b : Nat} : ∀ {n : Nat}, (∀ i, i < n → Q i = Q' i) → sgO Q s b n = sgO Q' s b n
  | 0, _ => rfl
  | n + 1, h => by rw [sgO, sgO, sgO_congr (fun i hi => h i (by omega)), h n (by omega)]
theorem nmS_congr {Q Q' : Nat → Int32} {s b n : Nat} {off : Int32} (h : ∀ i, i < n → Q i = Q' i) : nmS Q s b n off = nmS Q' s b n off := by
  unfold nmS; rw [lsO_congr h, sgO_congr h]
theorem QD_congr {d e : DS} {c n : Nat} (hn : n ≤ 9) (hc : c < 6) (h : DSeq d e) : ∀ i, i < n → QD d c i = QD e c i := by
  intro i hi
  simp only [QD]
  rw [h.1 i (by omega), h.2 (9 * c + i) (by omega)]
theorem stpD_congr {n s c : Nat} {off : Int32} {d e : DS} (hn : n ≤ 9) (hc : c < 6) (h : DSeq d e) : DSeq (stpD n off s c d) (stpD n off s c e) := by
  have hq := QD_congr hn hc h
  refine ⟨fun b hb => ?_, fun j hj => ?_⟩
  · simp only [stpD]
    by_cases h1 : b < n ∧ s.testBit b = true
    · rw [if_pos h1, if_pos h1, hq b h1.1, nmS_congr hq]
    · rw [if_neg h1, if_neg h1, h.1 b hb]
  · simp only [stpD]
    by_cases h1 : 9 * c ≤ j ∧ j < 9 * c + n ∧ s.testBit (j - 9 * c) = true
    · rw [if_pos h1, if_pos h1, nmS_congr hq]
    · rw [if_neg h1, if_neg h1, h.2 j hj]
theorem rndD_congr {n m : Nat} {off : Int32} {ov ov' ord ord' : Nat → Nat} {d e : DS} (hn : n ≤ 9) (hm : m ≤ 6) (ho : ∀ i, i < m → ord i < m ∧ ord i = ord' i) (hv : ∀ c, c < m → ov c = ov' c) (h : DSeq d e) : ∀ i, i ≤ m → DSeq (rndD n off ov ord i d) (rndD n off ov' ord' i e)
  | 0, _ => h
  | i + 1, hi => by
    obtain ⟨o1, o2⟩ := ho i (by omega)
    have := rndD_congr (off := off) hn hm ho hv h i (by omega)
    simp only [rndD]
    rw [← o2, ← hv (ord i) o1]
    exact stpD_congr hn (by omega) this
theorem itD_congr {n m : Nat} {off : Int32} {ov ov' ord ord' : Nat → Nat} {d e : DS} (hn : n ≤ 9) (hm : m ≤ 6) (ho : ∀ i, i < m → ord i < m ∧ ord i = ord' i) (hv : ∀ c, c < m → ov c = ov' c) (h : DSeq d e) : ∀ r, DSeq (itD n m off ov ord r d) (itD n m off ov' ord' r e)
  | 0 => h
  | r + 1 => rndD_congr hn hm ho hv (itD_congr hn hm ho hv h r) m (Nat.le_refl m)
theorem wdF_congr {t t' : Nat → Int32} {n : Nat} (h : ∀ b, b < n → t b = t' b) : wdF t n = wdF t' n := bs_congr (fun i hi => by rw [h i hi])
theorem opB_congr {ov ov' : Nat → Nat} {m w : Nat} (h : ∀ c, c < m → ov c = ov' c) : opB ov m w = opB ov' m w := bs_congr (fun i hi => by rw [h i hi])
theorem opD_congr {n m : Nat} {ov ov' : Nat → Nat} {d e : DS} (hn : n ≤ 9) (hv : ∀ c, c < m → ov c = ov' c) (h : DSeq d e) : opD n m ov d = opD n m ov' e := by
  unfold opD
  rw [opB_congr hv, wdF_congr (fun b hb => h.1 b (by omega))]
theorem solS_congr {n m : Nat} {off : Int32} {ov ov' ord ord' : Nat → Nat} {d e : DS} (hn : n ≤ 9) (hm : m ≤ 6) (ho : ∀ i, i < m → ord i < m ∧ ord i = ord' i) (hv : ∀ c, c < m → ov c = ov' c) (h : DSeq d e) (r : Nat) : solS n m off ov ord d r = solS n m off ov' ord' e r := by
  unfold solS
  rw [opD_congr hn hv (itD_congr hn hm ho hv h r)]
/-- bits, checks, offset, rounds, sets, levels, totals and messages -/
abbrev AS : Type := Nat × Nat × Int32 × Int32 × (Nat → Nat) × (Nat → Int32) × DS
abbrev aN (a : AS) : Nat := a.1
abbrev aM (a : AS) : Nat := a.2.1
abbrev aO (a : AS) : Int32 := a.2.2.1
abbrev aR (a : AS) : Int32 := a.2.2.2.1
abbrev aV (a : AS) : Nat → Nat := a.2.2.2.2.1
abbrev aL (a : AS) : Nat → Int32 := a.2.2.2.2.2.1
abbrev aD (a : AS) : DS := a.2.2.2.2.2.2
def AOk (a : AS) : Prop := (2 ≤ aN a ∧ aN a ≤ 9 ∧ aM a ≤ 6) ∧ (∀ c, c < aM a → aV a c < 2 ^ aN a) ∧ (∃ o, o ≤ 9 ∧ aO a = nI o) ∧ (∀ b, b < 9 → inR 31 (aL a b)) ∧ DSok (aD a)
/-- the state at k is a -/
def SR (I : MI) (k : Nat) (a : AS) : Prop := I k 4 = nI (aN a) ∧ I k 5 = nI (aM a) ∧ I k 6 = aO a ∧ I k 7 = aR a ∧ (∀ c, c < aM a → I (k + 1) c = nI (aV a c)) ∧ (∀ b, b < 9 → I (k + 2) b = aL a b) ∧ DSeq (I (k + 3), I (k + 4)) (aD a)
theorem AOk.v {a : AS} (h : AOk a) {c : Nat} (hc : c < aM a) : aV a c < 512 := Nat.lt_of_lt_of_le (h.2.1 c hc) (pow9 h.1.2.1)
theorem SR.SV {I : MI} {k : Nat} {a : AS} (h : SR I k a) (ho : AOk a) : SV I k (aN a) (aM a) := by
  obtain ⟨h1, h2, h3, h4, h5, h6, h7⟩ := h
  refine ⟨ho.1, ⟨h1, h2⟩, fun c hc => ?_, ?_, fun b hb => by rw [h6 b hb]; exact ho.2.2.2.1 b hb, (h7.ok ho.2.2.2.2).1, (h7.ok ho.2.2.2.2).2⟩
  · rw [h5 c hc, tn_nI (by have := ho.v hc; omega)]; exact ho.2.1 c hc
  · obtain ⟨o, h8, h9⟩ := ho.2.2.1
    exact ⟨o, h8, h3.trans h9⟩
theorem SR.ov {I : MI} {k : Nat} {a : AS} (h : SR I k a) (ho : AOk a) : ∀ c, c < aM a → ovS I k c = aV a c := fun c hc => by
  unfold ovS; rw [h.2.2.2.2.1 c hc]; exact tn_nI (by have := ho.v hc; omega)
theorem SR.cp {I' I : MI} {k o : Nat} {a : AS} (h : StCp I' k I o) (hr : SR I o a) (hm : aM a ≤ 6) : SR I' k a := by
  obtain ⟨⟨a1, a2, a3, a4⟩, a5, a6, a7, a8⟩ := h
  obtain ⟨h1, h2, h3, h4, h5, h6, h7⟩ := hr
  exact ⟨a1.trans h1, a2.trans h2, a3.trans h3, a4.trans h4, fun c hc => (a5 c (by omega)).trans (h5 c hc), fun b hb => (a6 b hb).trans (h6 b hb), fun b hb => (a7 b hb).trans (h7.1 b hb), fun j hj => (a8 j hj).trans (h7.2 j hj)⟩
theorem SR.fr {I' I : MI} {k : Nat} {a : AS} (h : SR I k a) (hf : ∀ q, k ≤ q → q < k + 5 → I' q = I q) : SR I' k a := by
  unfold SR at h ⊢
  rw [hf k (by omega) (by omega), hf (k + 1) (by omega) (by omega), hf (k + 2) (by omega) (by omega), hf (k + 3) (by omega) (by omega), hf (k + 4) (by omega) (by omega)]
  exact h
theorem SR.cpI {I : MI} {k o : Nat} {a : AS} (hr : SR I o a) (hm : aM a ≤ 6) : SR (cpI I k o) k a := SR.cp (cpI_cp I k o) hr hm
/-- begun -/
def d0A (a : AS) : DS := (aL a, fun _ => 0)
def begA (a : AS) : AS := (a.1, a.2.1, a.2.2.1, 0, a.2.2.2.2.1, a.2.2.2.2.2.1, d0A a)
theorem d0_eq {I : MI} {k : Nat} {a : AS} (h : SR I k a) : DSeq (d0S I k) (d0A a) := by
  refine ⟨fun b hb => ?_, fun j hj => ?_⟩
  · simp only [d0S, d0A]; rw [cpy_in hb]; exact h.2.2.2.2.2.1 b hb
  · simp only [d0S, d0A, zr]; rw [if_pos hj]
theorem d0A_ok {a : AS} (h : AOk a) : DSok (d0A a) := by
  refine ⟨fun b hb => ?_, fun j hj => ⟨show (-31 : Int) ≤ (0 : Int32).toInt by decide, show (0 : Int32).toInt ≤ (31 : Int) by decide⟩⟩
  have := h.2.2.2.1 b hb
  exact ⟨by have := this.1; simp only [d0A]; omega, by have := this.2; simp only [d0A]; omega⟩
theorem begA_ok {a : AS} (h : AOk a) : AOk (begA a) := ⟨h.1, h.2.1, h.2.2.1, h.2.2.2.1, d0A_ok h⟩
theorem SR.beg {I : MI} {k : Nat} {a : AS} (h : SR I k a) : SR (begI I k) k (begA a) := by
  have hd := d0_eq h
  obtain ⟨h1, h2, h3, h4, h5, h6, h7⟩ := h
  have e1 : begI I k (k + 1) = I (k + 1) := beg_r (by omega) (by omega) (by omega)
  have e2 : begI I k (k + 2) = I (k + 2) := beg_r (by omega) (by omega) (by omega)
  refine ⟨by rw [beg_k]; exact h1, by rw [beg_k]; exact h2, by rw [beg_k]; exact h3, by rw [beg_k]; rfl, by rw [e1]; exact h5, by rw [e2]; exact h6, ?_⟩
  rw [beg_3, beg_4]
  exact hd
/-- checks in their own order -/
def OrdId (I : MI) : Prop := ∀ i, i < 6 → I 16 i = nI i
theorem OrdId.V {I : MI} (h : OrdId I) {m : Nat} (hm : m ≤ 6) : OrdV I m := fun i hi => by rw [h i (by omega), tn_nI (by omega)]; exact hi
theorem OrdId.e {I : MI} (h : OrdId I) {m : Nat} (hm : m ≤ 6) : ∀ i, i < m → ordI I i < m ∧ ordI I i = id i := fun i hi => by
  unfold ordI; rw [h i (by omega), tn_nI (by omega)]; exact ⟨hi, rfl⟩
/-- behind r more rounds -/
def itA (r : Nat) (a : AS) : AS := (a.1, a.2.1, a.2.2.1, a.2.2.2.1 + nI r, a.2.2.2.2.1, a.2.2.2.2.2.1, itD (aN a) (aM a) (aO a) (aV a) id r (aD a))
theorem itA_ok {r : Nat} {a : AS} (h : AOk a) : AOk (itA r a) := ⟨h.1, h.2.1, h.2.2.1, h.2.2.2.1, itD_ok h.2.2.2.2 r⟩
theorem SR.it {I I' : MI} {k r : Nat} {a : AS} (h : SR I k a) (ho : AOk a) (hor : OrdId I) (h1 : I' (k + 1) = I (k + 1)) (h2 : I' (k + 2) = I (k + 2)) (hk : I' k = upd (I k) 7 (I k 7 + nI r)) (hd : (I' (k + 3), I' (k + 4)) = itD (aN a) (aM a) (I k 6) (ovS I k) (ordI I) r (I (k + 3), I (k + 4))) : SR I' k (itA r a) := by
  have hv := h.ov ho
  obtain ⟨g1, g2, g3, g4, g5, g6, g7⟩ := h
  refine ⟨by rw [hk]; exact g1, by rw [hk]; exact g2, by rw [hk]; exact g3, by rw [hk]; show I k 7 + nI r = aR a + nI r; rw [g4], by rw [h1]; exact g5, by rw [h2]; exact g6, ?_⟩
  rw [hd, g3]
  exact itD_congr ho.1.2.1 ho.1.2.2 (hor.e ho.1.2.2) hv g7 r
/-- needs, ends -/
def solA (a : AS) : Nat → Bool := solS (aN a) (aM a) (aO a) (aV a) id (d0A a)
def ndA (a : AS) : Int32 × Nat := need (solA a)
/-- behind as many rounds as are needed, begun anew -/
def endA (a : AS) : DS := itD (aN a) (aM a) (aO a) (aV a) id (ndA a).2 (d0A a)
theorem SR.need {I : MI} {k : Nat} {a : AS} (h : SR I k a) (ho : AOk a) (hor : OrdId I) : need (solS (aN a) (aM a) (I k 6) (ovS I k) (ordI I) (d0S I k)) = ndA a := by
  unfold ndA solA
  refine need_congr (fun r _ => ?_)
  rw [h.2.2.1]
  exact solS_congr ho.1.2.1 ho.1.2.2 (hor.e ho.1.2.2) (h.ov ho) (d0_eq h) r
theorem SR.ends {I : MI} {k : Nat} {a : AS} (h : SR I k a) (ho : AOk a) (hor : OrdId I) : DSeq (itD (aN a) (aM a) (I k 6) (ovS I k) (ordI I) (ndA a).2 (d0S I k)) (endA a) := by
  rw [h.2.2.1]
  exact itD_congr ho.1.2.1 ho.1.2.2 (hor.e ho.1.2.2) (h.ov ho) (d0_eq h) _
/-- the word, what is open -/
def wdA (a : AS) : Nat := wdF (aD a).1 (aN a)
def opA (a : AS) : Nat := opD (aN a) (aM a) (aV a) (aD a)
theorem SR.wd {I : MI} {k : Nat} {a : AS} (h : SR I k a) (ho : AOk a) : wdF (I (k + 3)) (tn (I k 4)) = wdA a := by
  rw [h.1, tn_nI (n := aN a) (by have := ho.1; omega)]
  exact wdF_congr (fun b hb => h.2.2.2.2.2.2.1 b (by have := ho.1; omega))
theorem SR.op {I : MI} {k : Nat} {a : AS} (h : SR I k a) (ho : AOk a) : opS I k = opA a := by
  unfold opS opA opD
  rw [h.wd ho, h.2.1, tn_nI (n := aM a) (by have := ho.1; omega)]
  exact opB_congr (h.ov ho)
/-- put -/
def putA (a : AS) (c b : Nat) : AS := (a.1, a.2.1, a.2.2.1, a.2.2.2.1, va_up a.2.2.2.2.1 c (a.2.2.2.2.1 c ^^^ 2 ^ b), a.2.2.2.2.2.1, (aD a).1, upd (aD a).2 (9 * c + b) 0)
theorem putA_ok {a : AS} {c b : Nat} (h : AOk a) (hc : c < aM a) (hb : b < aN a) : AOk (putA a c b) := by
  refine ⟨h.1, fun x hx => ?_, h.2.2.1, h.2.2.2.1, h.2.2.2.2.1, fun j hj => ?_⟩
  · show va_up (aV a) c (aV a c ^^^ 2 ^ b) x < 2 ^ aN a
    unfold va_up
    split
    · exact Nat.xor_lt_two_pow (h.2.1 c hc) (Nat.pow_lt_pow_right (by omega) hb)
    · exact h.2.1 x hx
  · show inR 31 (upd (aD a).2 (9 * c + b) 0 j)
    rw [upd_app]
    split
    · exact ⟨by decide, by decide⟩
    · exact h.2.2.2.2.2 j hj
theorem SR.put {I : MI} {k c b : Nat} {a : AS} (h : SR I k a) (ho : AOk a) (hc : c < aM a) (hb : b < aN a) : SR (putI I k (nI c) (nI b)) k (putA a c b) := by
  obtain ⟨g1, g2, g3, g4, g5, g6, g7⟩ := h
  have h9 := ho.1
  have e0 : putI I k (nI c) (nI b) k = I k := by unfold putI; rw [mS_n (by omega), mS_n (by omega)]
  have e1 : putI I k (nI c) (nI b) (k + 1) = upd (I (k + 1)) c (nI (aV a c ^^^ 2 ^ b)) := by
    unfold putI
    rw [mS_n (by omega), mS_s, ncl (by omega), g5 c hc, shl1 (by omega), nI_xor]
  have e2 : putI I k (nI c) (nI b) (k + 2) = I (k + 2) := by unfold putI; rw [mS_n (by omega), mS_n (by omega)]
  have e3 : putI I k (nI c) (nI b) (k + 3) = I (k + 3) := by unfold putI; rw [mS_n (by omega), mS_n (by omega)]
  have e4 : putI I k (nI c) (nI b) (k + 4) = upd (I (k + 4)) (9 * c + b) 0 := by
    unfold putI
    rw [mS_s, nI9, pk_mul, nI_add, ncl (by omega), Nat.mul_comm]
  refine ⟨by rw [e0]; exact g1, by rw [e0]; exact g2, by rw [e0]; exact g3, by rw [e0]; exact g4, fun x hx => ?_, by rw [e2]; exact g6, ?_⟩
  · rw [e1, upd_app]
    show _ = nI (va_up (aV a) c (aV a c ^^^ 2 ^ b) x)
    unfold va_up
    split
    · rfl
    · exact g5 x hx
  · rw [e3, e4]
    refine ⟨g7.1, fun j hj => ?_⟩
    show upd (I (k + 4)) (9 * c + b) 0 j = upd (aD a).2 (9 * c + b) 0 j
    rw [upd_app, upd_app]
    split
    · rfl
    · exact g7.2 j hj
