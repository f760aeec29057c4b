/-! THE STEPS -/
def lg : Vals → Nat → Option Value
  | [], _ => none
  | a :: _, 0 => a
  | _ :: r, i + 1 => lg r i
theorem lg_get : ∀ {ls : Vals} {i : Nat} {v : Value}, lg ls i = some v → ls[i]? = some (some v)
  | [], i, v, h => by simp [lg] at h
  | a :: r, 0, v, h => by simp only [lg] at h; simp [h]
  | a :: r, i + 1, v, h => by simp only [lg] at h; simp only [List.getElem?_cons_succ]; exact lg_get h
def wide : Option Value → Bool
  | some (.long _) => true
  | some (.double _) => true
  | _ => false
/-- a value of one word is stored -/
def lset : Vals → Nat → Value → Vals
  | [], _, _ => []
  | _ :: r, 0, v => some v :: r
  | a :: r, 1, v => (bif wide a then none else a) :: lset r 0 v
  | a :: r, i + 2, v => a :: lset r (i + 1) v
/-- a value of two words is stored -/
def lset2 : Vals → Nat → Value → Vals
  | [], _, _ => []
  | [_], 0, _ => [none]
  | _ :: _ :: r, 0, v => some v :: none :: r
  | a :: r, 1, v => (bif wide a then none else a) :: lset2 r 0 v
  | a :: r, i + 2, v => a :: lset2 r (i + 1) v
theorem lset_get : ∀ {ls : Vals} {i : Nat} {v : Value} (j : Nat) (w : Value), (lset ls i v)[j]? = some (some w) → (j = i ∧ w = v) ∨ (j ≠ i ∧ ls[j]? = some (some w) ∧ (j + 1 = i → wide (some w) = false))
  | [], i, v, j, w, h => by simp [lset] at h
  | a :: r, 0, v, j, w, h => by
    cases j with
    | zero => simp [lset] at h; exact Or.inl ⟨rfl, h.symm⟩
    | succ j => simp only [lset, List.getElem?_cons_succ] at h ⊢; exact Or.inr ⟨by omega, h, by omega⟩
  | a :: r, 1, v, j, w, h => by
    cases j with
    | zero =>
      simp only [lset, List.getElem?_cons_zero, Option.some.injEq] at h ⊢
      cases hw : wide a with
      | true => rw [hw] at h; simp at h
      | false => rw [hw] at h; simp only [cond_false] at h; exact Or.inr ⟨by omega, h, fun _ => by rw [← h]; exact hw⟩
    | succ j =>
      simp only [lset, List.getElem?_cons_succ] at h ⊢
      rcases lset_get (ls := r) (i := 0) j w h with ⟨h1, h2⟩ | ⟨h1, h2, h3⟩
      · exact Or.inl ⟨by omega, h2⟩
      · exact Or.inr ⟨by omega, h2, by omega⟩
  | a :: r, i + 2, v, j, w, h => by
    cases j with
    | zero => simp only [lset, List.getElem?_cons_zero] at h ⊢; exact Or.inr ⟨by omega, h, by omega⟩
    | succ j =>
      simp only [lset, List.getElem?_cons_succ] at h ⊢
      rcases lset_get (ls := r) (i := i + 1) j w h with ⟨h1, h2⟩ | ⟨h1, h2, h3⟩
      · exact Or.inl ⟨by omega, h2⟩
      · exact Or.inr ⟨by omega, h2, fun e => h3 (by omega)⟩
theorem lset2_get : ∀ {ls : Vals} {i : Nat} {v : Value} (j : Nat) (w : Value), (lset2 ls i v)[j]? = some (some w) → (j = i ∧ w = v) ∨ (j ≠ i ∧ j ≠ i + 1 ∧ ls[j]? = some (some w) ∧ (j + 1 = i → wide (some w) = false))
  | [], i, v, j, w, h => by simp [lset2] at h
  | [a], 0, v, j, w, h => by cases j <;> simp [lset2] at h
  | a :: b :: r, 0, v, j, w, h => by
    match j with
    | 0 => simp [lset2] at h; exact Or.inl ⟨rfl, h.symm⟩
    | 1 => simp [lset2] at h
    | j + 2 => simp only [lset2, List.getElem?_cons_succ] at h ⊢; exact Or.inr ⟨by omega, by omega, h, by omega⟩
  | a :: r, 1, v, j, w, h => by
    cases j with
    | zero =>
      simp only [lset2, List.getElem?_cons_zero, Option.some.injEq] at h ⊢
      cases hw : wide a with
      | true => rw [hw] at h; simp at h
      | false => rw [hw] at h; simp only [cond_false] at h; exact Or.inr ⟨by omega, by omega, h, fun _ => by rw [← h]; exact hw⟩
    | succ j =>
      simp only [lset2, List.getElem?_cons_succ] at h ⊢
      rcases lset2_get (ls := r) (i := 0) j w h with ⟨h1, h2⟩ | ⟨h1, h1', h2, h3⟩
      · exact Or.inl ⟨by omega, h2⟩
      · exact Or.inr ⟨by omega, by omega, h2, by omega⟩
  | a :: r, i + 2, v, j, w, h => by
    cases j with
    | zero => simp only [lset2, List.getElem?_cons_zero] at h ⊢; exact Or.inr ⟨by omega, by omega, h, by omega⟩
    | succ j =>
      simp only [lset2, List.getElem?_cons_succ] at h ⊢
      rcases lset2_get (ls := r) (i := i + 1) j w h with ⟨h1, h2⟩ | ⟨h1, h1', h2, h3⟩
      · exact Or.inl ⟨by omega, h2⟩
      · exact Or.inr ⟨by omega, by omega, h2, fun e => h3 (by omega)⟩
theorem va_rf_cat (o : Option Nat) : (va_rf o).category = 1 := by cases o <;> rfl
theorem cv_cat (ad : Nat → Nat) (v : Value) : (cv ad v).category = v.category := by
  cases v <;> first | rfl | exact va_rf_cat _
theorem wide_cat (v : Value) : wide (some v) = false → v.category = 1 := by cases v <;> simp [wide, Value.category]
theorem LH.at {ad : Nat → Nat} {la : Array Slot} {nL : Nat} {ls : Vals} (h : LH ad la nL ls) {i : Nat} {v : Value} (hi : lg ls i = some v) : la[i]? = some (.val (cv ad v)) := by
  obtain ⟨lv, h1, h2⟩ := h
  exact h1.2.2 _ (h2 i v (lg_get hi))
theorem LH.set {ad : Nat → Nat} {la' : Array Slot} {nL i : Nat} {ls : Vals} {v : Value} {lv : List (Nat × Value)} (h2 : ∀ (i : Nat) (v : Value), ls[i]? = some (some v) → (i, cv ad v) ∈ lv) (h : lv_has la' nL ((i, cv ad v) :: lv.filter (fun q => !(q.1 == i) && !(q.1 + 1 == i && q.2.category == 2)))) : LH ad la' nL (lset ls i v) := by
  refine ⟨_, h, fun j w hj => ?_⟩
  rcases lset_get j w hj with ⟨rfl, rfl⟩ | ⟨h3, h4, h5⟩
  · exact List.mem_cons_self
  · refine List.mem_cons_of_mem _ (List.mem_filter.mpr ⟨h2 j w h4, ?_⟩)
    simp only [Bool.and_eq_true, Bool.not_eq_true', beq_eq_false_iff_ne, ne_eq, Bool.and_eq_false_iff]
    refine ⟨h3, ?_⟩
    by_cases e : j + 1 = i
    · exact Or.inr (by rw [cv_cat, wide_cat w (h5 e)]; decide)
    · exact Or.inl e
theorem LH.set2 {ad : Nat → Nat} {la' : Array Slot} {nL i : Nat} {ls : Vals} {v : Value} {lv : List (Nat × Value)} (h2 : ∀ (i : Nat) (v : Value), ls[i]? = some (some v) → (i, cv ad v) ∈ lv) (h : lv_has la' nL ((i, cv ad v) :: lv.filter (fun q => !(q.1 == i) && (!(q.1 == i + 1) && !(q.1 + 1 == i && q.2.category == 2))))) : LH ad la' nL (lset2 ls i v) := by
  refine ⟨_, h, fun j w hj => ?_⟩
  rcases lset2_get j w hj with ⟨rfl, rfl⟩ | ⟨h3, h3', h4, h5⟩
  · exact List.mem_cons_self
  · refine List.mem_cons_of_mem _ (List.mem_filter.mpr ⟨h2 j w h4, ?_⟩)
    simp only [Bool.and_eq_true, Bool.not_eq_true', beq_eq_false_iff_ne, ne_eq, Bool.and_eq_false_iff]
    refine ⟨h3, h3', ?_⟩
    by_cases e : j + 1 = i
    · exact Or.inr (by rw [cv_cat, wide_cat w (h5 e)]; decide)
    · exact Or.inl e
/-! kinds of a place -/
def tO (S : Sh) (k ci : Nat) : Prop := k < S.1 ∧ S.2.2.1 k = (0, ci)
def tA (S : Sh) (k t : Nat) : Prop := k < S.1 ∧ (S.2.2.1 k).1 = t
def ln (S : Sh) (k : Nat) : Nat := (S.2.2.1 k).2
abbrev sR (S : Sh) (k j : Nat) : Nat := S.2.2.2 k j
def mS {α : Type} (I : Nat → α) (k : Nat) (r : α) : Nat → α := fun q => if q = k then r else I q
theorem mS_s {α : Type} {I : Nat → α} {k : Nat} {r : α} : mS I k r k = r := by simp [mS]
theorem mS_n {α : Type} {I : Nat → α} {k q : Nat} {r : α} (h : q ≠ k) : mS I k r q = I q := by simp [mS, h]
/-! the steps as transformers -/
def x_c (nx : Nat) (v : Value) : X := fun ls st M K _ => K nx ls (v :: st) M
def x_il (nx i : Nat) : X := fun ls st M K _ => match lg ls i with
  | some (.int x) => K nx ls (.int x :: st) M
  | _ => False
def x_ll (nx i : Nat) : X := fun ls st M K _ => match lg ls i with
  | some (.long x) => K nx ls (.long x :: st) M
  | _ => False
def x_al (nx i : Nat) : X := fun ls st M K _ => match lg ls i with
  | some (.ref x) => K nx ls (.ref x :: st) M
  | _ => False
def x_is (nx i : Nat) : X := fun ls st M K _ => match st with
  | .int x :: st => K nx (lset ls i (.int x)) st M
  | _ => False
def x_as (nx i : Nat) : X := fun ls st M K _ => match st with
  | .ref x :: st => K nx (lset ls i (.ref x)) st M
  | _ => False
def x_ls (nx i : Nat) : X := fun ls st M K _ => match st with
  | .long x :: st => K nx (lset2 ls i (.long x)) st M
  | _ => False
def x_inc (nx i : Nat) (d : Int32) : X := fun ls st M K _ => match lg ls i with
  | some (.int x) => K nx (lset ls i (.int (x + d))) st M
  | _ => False
def x_ii (nx : Nat) (f : Int32 → Int32 → Int32) : X := fun ls st M K _ => match st with
  | .int y :: .int x :: st => K nx ls (.int (f x y) :: st) M
  | _ => False
def x_iq (nx : Nat) (f : Int32 → Int32 → Int32) : X := fun ls st M K _ => match st with
  | .int y :: .int x :: st => ¬ y = 0 ∧ K nx ls (.int (f x y) :: st) M
  | _ => False
def x_i1 (nx : Nat) (f : Int32 → Int32) : X := fun ls st M K _ => match st with
  | .int x :: st => K nx ls (.int (f x) :: st) M
  | _ => False
def x_l2 (nx : Nat) (f : Int64 → Int64 → Int64) : X := fun ls st M K _ => match st with
  | .long y :: .long x :: st => K nx ls (.long (f x y) :: st) M
  | _ => False
def x_lq (nx : Nat) (f : Int64 → Int64 → Int64) : X := fun ls st M K _ => match st with
  | .long y :: .long x :: st => ¬ y = 0 ∧ K nx ls (.long (f x y) :: st) M
  | _ => False
def x_lh (nx : Nat) (f : Int64 → Int32 → Int64) : X := fun ls st M K _ => match st with
  | .int y :: .long x :: st => K nx ls (.long (f x y) :: st) M
  | _ => False
def x_i2l (nx : Nat) : X := fun ls st M K _ => match st with
  | .int x :: st => K nx ls (.long x.toInt64 :: st) M
  | _ => False
def x_l2i (nx : Nat) : X := fun ls st M K _ => match st with
  | .long x :: st => K nx ls (.int x.toInt32 :: st) M
  | _ => False
def x_lcmp (nx : Nat) : X := fun ls st M K _ => match st with
  | .long y :: .long x :: st => K nx ls (.int (lg_cmp x y) :: st) M
  | _ => False
def x_dup (nx : Nat) : X := fun ls st M K _ => match st with
  | .int x :: st => K nx ls (.int x :: .int x :: st) M
  | .ref x :: st => K nx ls (.ref x :: .ref x :: st) M
  | _ => False
def x_dup2 (nx : Nat) : X := fun ls st M K _ => match st with
  | .int y :: .ref x :: st => K nx ls (.int y :: .ref x :: .int y :: .ref x :: st) M
  | _ => False
def x_pop (nx : Nat) : X := fun ls st M K _ => match st with
  | .int _ :: st => K nx ls st M
  | _ => False
def x_if (tgt nx : Nat) (c : Int32 → Prop) : X := fun ls st M K _ => match st with
  | .int x :: st => (c x → K tgt ls st M) ∧ (¬ c x → K nx ls st M)
  | _ => False
def x_ic (tgt nx : Nat) (c : Int32 → Int32 → Prop) : X := fun ls st M K _ => match st with
  | .int y :: .int x :: st => (c x y → K tgt ls st M) ∧ (¬ c x y → K nx ls st M)
  | _ => False
def x_go (tgt : Nat) : X := fun ls st M K _ => K tgt ls st M
def swc (P : Nat → Prop) (x : Int32) : Int → List Nat → Prop
  | _, [] => True
  | lo, t :: r => (x.toInt = lo → P t) ∧ swc P x (lo + 1) r
def x_sw (lo hi : Int) (ts : List Nat) (d : Nat) : X := fun ls st M K _ => match st with
  | .int x :: st => swc (fun t => K t ls st M) x lo ts ∧ ((x.toInt < lo ∨ hi < x.toInt) → K d ls st M)
  | _ => False
def x_gI (ci j nx : Nat) : X := fun ls st M K _ => match st with
  | .ref k :: st => tO M.1 k ci ∧ K nx ls (.int (M.2.1 k j) :: st) M
  | _ => False
def x_gL (ci j nx : Nat) : X := fun ls st M K _ => match st with
  | .ref k :: st => tO M.1 k ci ∧ K nx ls (.long (M.2.2 k j) :: st) M
  | _ => False
def x_gR (ci j nx : Nat) : X := fun ls st M K _ => match st with
  | .ref k :: st => tO M.1 k ci ∧ K nx ls (.ref (sR M.1 k j) :: st) M
  | _ => False
def x_pI (ci j nx : Nat) : X := fun ls st M K _ => match st with
  | .int x :: .ref k :: st => tO M.1 k ci ∧ K nx ls st (M.1, mS M.2.1 k (upd (M.2.1 k) j x), M.2.2)
  | _ => False
def x_pZ (ci j nx : Nat) : X := fun ls st M K _ => match st with
  | .int x :: .ref k :: st => tO M.1 k ci ∧ (x = 0 ∨ x = 1) ∧ K nx ls st (M.1, mS M.2.1 k (upd (M.2.1 k) j x), M.2.2)
  | _ => False
def x_pL (ci j nx : Nat) : X := fun ls st M K _ => match st with
  | .long x :: .ref k :: st => tO M.1 k ci ∧ K nx ls st (M.1, M.2.1, mS M.2.2 k (vp_updL (M.2.2 k) j x))
  | _ => False
def x_pR (ci j nx : Nat) : X := fun ls st M K _ => match st with
  | .ref x :: .ref k :: st => tO M.1 k ci ∧ K nx ls st ((M.1.1, M.1.2.1, M.1.2.2.1, mS M.1.2.2.2 k (va_up (M.1.2.2.2 k) j x)), M.2.1, M.2.2)
  | _ => False
def x_ia (nx : Nat) : X := fun ls st M K _ => match st with
  | .int i :: .ref k :: st => tA M.1 k 1 ∧ vp_in i (ln M.1 k) ∧ K nx ls (.int (M.2.1 k i.toNatClampNeg) :: st) M
  | _ => False
def x_za (nx : Nat) : X := fun ls st M K _ => match st with
  | .int i :: .ref k :: st => tA M.1 k 2 ∧ vp_in i (ln M.1 k) ∧ K nx ls (.int (M.2.1 k i.toNatClampNeg) :: st) M
  | _ => False
def x_aa (nx : Nat) : X := fun ls st M K _ => match st with
  | .int i :: .ref k :: st => tA M.1 k 3 ∧ vp_in i (ln M.1 k) ∧ K nx ls (.ref (sR M.1 k i.toNatClampNeg) :: st) M
  | _ => False
def x_ias (nx : Nat) : X := fun ls st M K _ => match st with
  | .int x :: .int i :: .ref k :: st => tA M.1 k 1 ∧ vp_in i (ln M.1 k) ∧ K nx ls st (M.1, mS M.2.1 k (upd (M.2.1 k) i.toNatClampNeg x), M.2.2)
  | _ => False
def x_zas (nx : Nat) : X := fun ls st M K _ => match st with
  | .int x :: .int i :: .ref k :: st => tA M.1 k 2 ∧ vp_in i (ln M.1 k) ∧ (x = 0 ∨ x = 1) ∧ K nx ls st (M.1, mS M.2.1 k (upd (M.2.1 k) i.toNatClampNeg x), M.2.2)
  | _ => False
def x_aas (nx : Nat) : X := fun ls st M K _ => match st with
  | .ref x :: .int i :: .ref k :: st => tA M.1 k 3 ∧ vp_in i (ln M.1 k) ∧ tO M.1 x 5 ∧ ¬ x = 9999 ∧ K nx ls st ((M.1.1, M.1.2.1, M.1.2.2.1, mS M.1.2.2.2 k (va_up (M.1.2.2.2 k) i.toNatClampNeg x)), M.2.1, M.2.2)
  | _ => False
def x_fac (nx : Nat) : X := fun ls st M K _ => K nx ls (.ref 9001 :: st) M
def x_fa (nx : Nat) : X := fun ls st M K _ => match st with
  | .int i :: .ref k :: st => k = 9001 ∧ vp_in i 7 ∧ K nx ls (.int (facI i.toNatClampNeg) :: st) M
  | _ => False
def x_slen (nx : Nat) (q : Nat × (Nat → Int32)) : X := fun ls st M K _ => match st with
  | .ref k :: st => k = 9002 ∧ K nx ls (.int (nI q.1) :: st) M
  | _ => False
def x_sa (nx : Nat) (q : Nat × (Nat → Int32)) : X := fun ls st M K _ => match st with
  | .int i :: .ref k :: st => k = 9002 ∧ vp_in i q.1 ∧ K nx ls (.int (q.2 i.toNatClampNeg) :: st) M
  | _ => False
def x_ac (nx N : Nat) : X := fun ls st M K _ => match st with
  | .int n :: .int d :: .ref b :: .int s :: .ref a :: st => n = nI N ∧ d = 0 ∧ s = 0 ∧ tA M.1 a 1 ∧ tA M.1 b 1 ∧ N ≤ ln M.1 a ∧ N ≤ ln M.1 b ∧ st = [] ∧ K nx ls [] (M.1, mS M.2.1 b (va_cpy (M.2.1 a) (M.2.1 b) 0 0 N), M.2.2)
  | _ => False
def x_oi (nx : Nat) : X := fun ls st M K _ => match st with
  | [.ref _] => K nx ls [] M
  | _ => False
def x_new (ci nx : Nat) (cap : Nat × Nat) : X := fun ls st M K _ => M.1.1 + 1 ≤ cap.1 ∧ M.1.2.1 + nfC ci ≤ cap.2 ∧ M.1.1 + 1 ≤ 9000 ∧ ci < 11 ∧
  K nx ls (.ref M.1.1 :: st) ((M.1.1 + 1, M.1.2.1 + nfC ci, mS M.1.2.2.1 M.1.1 (0, ci), mS M.1.2.2.2 M.1.1 (fun _ => 9999)), mS M.2.1 M.1.1 (fun _ => 0), mS M.2.2 M.1.1 (fun _ => 0))
def x_na (t nx : Nat) (cap : Nat × Nat) : X := fun ls st M K _ => match st with
  | .int n :: st => ¬ n < 0 ∧ n.toNatClampNeg ≤ 10000 ∧ M.1.1 + 1 ≤ cap.1 ∧ M.1.2.1 + n.toNatClampNeg ≤ cap.2 ∧ M.1.1 + 1 ≤ 9000 ∧
    K nx ls (.ref M.1.1 :: st) ((M.1.1 + 1, M.1.2.1 + n.toNatClampNeg, mS M.1.2.2.1 M.1.1 (t, n.toNatClampNeg), mS M.1.2.2.2 M.1.1 (fun _ => 9999)), mS M.2.1 M.1.1 (fun _ => 0), M.2.2)
  | _ => False
def pa : Nat → List Value → List Value → Option (List Value × List Value)
  | 0, st, acc => some (acc, st)
  | _ + 1, [], _ => none
  | n + 1, v :: st, acc => pa n st (v :: acc)
def short : List Value → Nat → Bool
  | [], _ => true
  | _ :: _, 0 => false
  | _ :: r, n + 1 => short r n
def oc : Option Value → List Value → List Value
  | none, l => l
  | some v, l => v :: l
abbrev PTT : Type := List Value → Mem → (Option Value → Mem → Prop) → Prop
def x_cS (n : Nat) (P : PTT) (nx : Nat) : X := fun ls st M K _ => match pa n st [] with
  | some (as, r) => short r 4 = true ∧ P as M (fun v M' => M'.1 = M.1 ∧ K nx ls (oc v r) M')
  | none => False
def x_cV (ci n : Nat) (P : PTT) (nx : Nat) : X := fun ls st M K _ => match pa (n + 1) st [] with
  | some (.ref k :: as, r) => tO M.1 k ci ∧ short r 4 = true ∧ P (.ref k :: as) M (fun v M' => M'.1 = M.1 ∧ K nx ls (oc v r) M')
  | _ => False
def x_cI (n : Nat) (P : PTT) (nx mc ms : Nat) (cap : Nat × Nat) : X := fun ls st M K _ => match pa (n + 1) st [] with
  | some (.ref k :: as, r) => ¬ k = 9999 ∧ short r 4 = true ∧ M.1.1 + mc ≤ cap.1 ∧ M.1.2.1 + ms ≤ cap.2 ∧ P (.ref k :: as) M (fun v M' => v = none ∧ M'.1.1 = M.1.1 + mc ∧ M'.1.2.1 = M.1.2.1 + ms ∧ K nx ls r M')
  | _ => False
def x_rI : X := fun _ st M _ R => match st with
  | [.int v] => R (some (.int v)) M
  | _ => False
def x_rZ : X := fun _ st M _ R => match st with
  | [.int v] => (v = 0 ∨ v = 1) ∧ R (some (.int v)) M
  | _ => False
def x_rL : X := fun _ st M _ R => match st with
  | [.long v] => R (some (.long v)) M
  | _ => False
def x_r0 : X := fun _ st M _ R => match st with
  | [] => R none M
  | _ => False
