/-! the world's cells, and what a write makes of them -/
theorem wsM_get {ca : Nat → ClassId} {ad : Nat → Nat} {M : Mem} {k : Nat} (h : k < M.1.1) : (wsM ca ad M)[k]? = some (ad k, cEnc ca ad M k) := by
  unfold wsM
  rw [List.getElem?_map, List.getElem?_range h]; rfl
theorem wsM_len {ca : Nat → ClassId} {ad : Nat → Nat} {M : Mem} : (wsM ca ad M).length = M.1.1 := by simp [wsM]
theorem wsM_ext {ca : Nat → ClassId} {ad : Nat → Nat} {M : Mem} {w : va_W} (hl : w.length = M.1.1) (h : ∀ k, k < M.1.1 → w[k]? = some (ad k, cEnc ca ad M k)) : w = wsM ca ad M := by
  apply List.ext_getElem?
  intro k
  by_cases hk : k < M.1.1
  · rw [h k hk, wsM_get hk]
  · rw [List.getElem?_eq_none (by omega), List.getElem?_eq_none (by rw [wsM_len]; omega)]
theorem cEnc_obj {ca : Nat → ClassId} {ad : Nat → Nat} {M : Mem} {k ci : Nat} (h : M.1.2.2.1 k = (0, ci)) : cEnc ca ad M k = .inr (ci, fsM ad M ci k) := by simp [cEnc, h]
theorem cEnc_arr {ca : Nat → ClassId} {ad : Nat → Nat} {M : Mem} {k t : Nat} (h : (M.1.2.2.1 k).1 = t) (h0 : t ≠ 0) (h3 : t ≠ 3) : cEnc ca ad M k = .inl (ca t, ln M.1 k, .inl (M.2.1 k)) := by simp [cEnc, h, h0, h3, ln]
theorem cEnc_ref {ca : Nat → ClassId} {ad : Nat → Nat} {M : Mem} {k : Nat} (h : (M.1.2.2.1 k).1 = 3) : cEnc ca ad M k = .inl (ca 3, ln M.1 k, .inr (.inr (.inr (.inr (fun j => rO ad (M.1.2.2.2 k j)))))) := by simp [cEnc, h, ln]
theorem wsM_obj {ca : Nat → ClassId} {ad : Nat → Nat} {M : Mem} {k ci : Nat} (h : tO M.1 k ci) : (wsM ca ad M)[k]? = some (ad k, .inr (ci, fsM ad M ci k)) := by rw [wsM_get h.1, cEnc_obj h.2]
theorem wsM_arr {ca : Nat → ClassId} {ad : Nat → Nat} {M : Mem} {k t : Nat} (h : tA M.1 k t) (h0 : t ≠ 0) (h3 : t ≠ 3) : (wsM ca ad M)[k]? = some (ad k, .inl (ca t, ln M.1 k, .inl (M.2.1 k))) := by rw [wsM_get h.1, cEnc_arr h.2 h0 h3]
theorem wsM_ref {ca : Nat → ClassId} {ad : Nat → Nat} {M : Mem} {k : Nat} (h : tA M.1 k 3) : (wsM ca ad M)[k]? = some (ad k, .inl (ca 3, ln M.1 k, .inr (.inr (.inr (.inr (fun j => rO ad (M.1.2.2.2 k j))))))) := by rw [wsM_get h.1, cEnc_ref h.2]
theorem fsM_get {ad : Nat → Nat} {M : Mem} {ci k j : Nat} (h : j < nfC ci) : (fsM ad M ci k)[j]? = some (fV ad M ci k j) := by
  unfold fsM
  rw [List.getElem?_map, List.getElem?_range h]; rfl
theorem fsM_len {ad : Nat → Nat} {M : Mem} {ci k : Nat} : (fsM ad M ci k).length = nfC ci := by simp [fsM]
theorem fsM_set {ad : Nat → Nat} {M M' : Mem} {ci k j : Nat} {v : Value} (hv : j < nfC ci → fV ad M' ci k j = v) (ho : ∀ i, i ≠ j → fV ad M' ci k i = fV ad M ci k i) : (fsM ad M ci k).set j v = fsM ad M' ci k := by
  apply List.ext_getElem?
  intro i
  by_cases hi : i < nfC ci
  · rw [fsM_get hi]
    by_cases e : i = j
    · subst e
      rw [List.getElem?_set_self (by rw [fsM_len]; exact hi), hv hi]
    · rw [List.getElem?_set_ne (Ne.symm e), fsM_get hi, ho i e]
  · rw [List.getElem?_eq_none (by rw [List.length_set, fsM_len]; omega), List.getElem?_eq_none (by rw [fsM_len]; omega)]
/-- one place's cell is another: the world of the new memory -/
theorem wsM_set {ca : Nat → ClassId} {ad : Nat → Nat} {M M' : Mem} {k : Nat} {E : va_E} (hn : M'.1.1 = M.1.1) (he : cEnc ca ad M' k = E) (ho : ∀ q, q ≠ k → cEnc ca ad M' q = cEnc ca ad M q) : (wsM ca ad M).set k (ad k, E) = wsM ca ad M' := by
  refine wsM_ext (by rw [List.length_set, wsM_len, hn]) fun q hq => ?_
  by_cases e : q = k
  · subst e
    rw [List.getElem?_set_self (by rw [wsM_len]; omega), he]
  · rw [List.getElem?_set_ne (Ne.symm e), wsM_get (by omega), ho q e]
theorem wsM_D {ca : Nat → ClassId} {ad : Nat → Nat} {M : Mem} (hn : M.1.1 ≤ 9000) (had : ∀ k, k < 9000 → ad k = ad 0 + k) : va_D (AA ad) (wsM ca ad M) := by
  have key : ∀ (k : Nat) (q : Nat × va_E), (wsM ca ad M)[k]? = some q → k < M.1.1 ∧ q.1 = ad k := by
    intro k q h
    have hk : k < M.1.1 := by
      have := (List.getElem?_eq_some_iff.mp h).1
      rwa [wsM_len] at this
    rw [wsM_get hk] at h
    cases h
    exact ⟨hk, rfl⟩
  refine ⟨fun i j p q hi hj e => ?_, fun k q hk => ?_⟩
  · obtain ⟨i1, i2⟩ := key i p hi
    obtain ⟨j1, j2⟩ := key j q hj
    rw [i2, j2, had i (by omega), had j (by omega)] at e
    omega
  · obtain ⟨k1, k2⟩ := key k q hk
    show ad 0 ≤ q.1
    rw [k2, had k (by omega)]
    omega
theorem cv_ref {ad : Nat → Nat} {k : Nat} (h : k < 9000) : cv ad (.ref k) = .ref (ad k) := by simp [cv, rO, va_rf, show ¬ k = 9999 by omega]
theorem cv_ref' {ad : Nat → Nat} {k : Nat} (h : ¬ k = 9999) : cv ad (.ref k) = .ref (ad k) := by simp [cv, rO, va_rf, h]
theorem fV_congr {ad : Nat → Nat} {M M' : Mem} {ci k j : Nat} (h1 : M'.2.1 k j = M.2.1 k j) (h2 : M'.2.2 k j = M.2.2 k j) (h3 : M'.1.2.2.2 k j = M.1.2.2.2 k j) : fV ad M' ci k j = fV ad M ci k j := by simp [fV, h1, h2, h3]
theorem cEnc_congr {ca : Nat → ClassId} {ad : Nat → Nat} {M M' : Mem} {k : Nat} (h0 : M'.1.2.2.1 k = M.1.2.2.1 k) (h1 : M'.2.1 k = M.2.1 k) (h2 : M'.2.2 k = M.2.2 k) (h3 : M'.1.2.2.2 k = M.1.2.2.2 k) : cEnc ca ad M' k = cEnc ca ad M k := by
  have hf : ∀ ci, fV ad M' ci k = fV ad M ci k := fun ci => funext fun j => by simp only [fV, h1, h2, h3]
  simp only [cEnc, h0, h1, h3, fsM, hf]
/-- the heap is no larger than what was made -/
theorem W.size {p : Program} {l : Launch} {e : Env} {R : Room} {s : State} {m : MethodId} {args : Array Value} {below : List Frame} {meth : Method} {c : Code} {H : Heap} {locs : List Loc} {cells slots : Nat} {Q : State → Prop} {g : JFrame} (h : H.size ≤ s.heap.size + cells → W p l e R s m args below meth c H locs cells slots Q g) : W p l e R s m args below meth c H locs cells slots Q g := by
  intro T hT X
  have hs := X.same.2.2.1
  have hs' : T.heap.size ≤ s.heap.size + cells := hs
  exact h (by rw [← hT]; exact hs') T hT X
theorem Wd_size {D : va_G} {ca : Nat → ClassId} {ad : Nat → Nat} {M : Mem} {H : Heap} {s : State} {locs : List Loc} {cells N0 : Nat} (hw : Wd D ca ad M H) (had : ∀ k, k < 9000 → ad k = ad 0 + k) (hS : va_S (AA ad) s.heap H locs) (h0 : s.heap.size = ad 0 + N0) (h1 : N0 + cells = M.1.1) (hu : H.size ≤ s.heap.size + cells) : H.size = ad 0 + M.1.1 := by
  by_cases hz : M.1.1 = 0
  · have := hS.1
    omega
  · have hk : M.1.1 - 1 < M.1.1 := by omega
    have := (hw.1 _ _ (wsM_get (ca := ca) (ad := ad) hk)).lt
    have h9 := hw.2
    simp only [] at this
    rw [had _ (by omega)] at this
    omega
