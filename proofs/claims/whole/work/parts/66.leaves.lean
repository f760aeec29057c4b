/-! CONSTRUCTORS: leaves -/
def Kp (n : Nat) (M M' : Mem) : Prop := ∀ q, q < n → M'.1.2.2.1 q = M.1.2.2.1 q ∧ M'.1.2.2.2 q = M.1.2.2.2 q ∧ M'.2.1 q = M.2.1 q ∧ M'.2.2 q = M.2.2 q
theorem Kp.refl (n : Nat) (M : Mem) : Kp n M M := fun _ _ => ⟨rfl, rfl, rfl, rfl⟩
theorem Kp.trans {n : Nat} {A B C : Mem} (h : Kp n A B) (h' : Kp n B C) : Kp n A C := fun q hq => ⟨(h' q hq).1.trans (h q hq).1, (h' q hq).2.1.trans (h q hq).2.1, (h' q hq).2.2.1.trans (h q hq).2.2.1, (h' q hq).2.2.2.trans (h q hq).2.2.2⟩
theorem Kp.le {n n' : Nat} {A B : Mem} (h : Kp n A B) (hn : n' ≤ n) : Kp n' A B := fun q hq => h q (by omega)
theorem tO.na {S : Sh} {k ci : Nat} (h : tO S k ci) {s : Nat} {v : Nat × Nat} {r : Nat → Nat → Nat} : tO (S.1 + 1, s, mS S.2.2.1 S.1 v, r) k ci := ⟨Nat.lt_succ_of_lt h.1, (mS_n (Nat.ne_of_lt h.1)).trans h.2⟩
/-- an object at k, and the rows made for it so far: field, kind, length -/
def Ob (k ci : Nat) (A : List (Nat × Nat × Nat)) (M0 M : Mem) : Prop := M0.1.1 = k + 1 ∧ M.1.1 = k + 1 + A.length ∧ M.1.2.1 = M0.1.2.1 + (A.map (fun a => a.2.2)).sum ∧ tO M.1 k ci ∧ Kp k M0 M ∧ M.2.1 k = M0.2.1 k ∧ M.2.2 k = M0.2.2 k ∧ (∀ f, (∀ a ∈ A, a.1 ≠ f) → M.1.2.2.2 k f = M0.1.2.2.2 k f) ∧ ∀ (r : Nat) (a : Nat × Nat × Nat), A[r]? = some a → M.1.2.2.1 (k + 1 + r) = (a.2.1, a.2.2) ∧ M.1.2.2.2 k a.1 = k + 1 + r ∧ ∀ j, M.2.1 (k + 1 + r) j = 0
theorem Ob.zero {k ci : Nat} {M : Mem} (h : M.1.1 = k + 1) (ht : tO M.1 k ci) : Ob k ci [] M M := ⟨h, by simpa using h, by simp, ht, Kp.refl k M, rfl, rfl, fun _ _ => rfl, fun r a h => by simp at h⟩
theorem Ob.st {k ci f t n : Nat} {A : List (Nat × Nat × Nat)} {M0 M : Mem} (h : Ob k ci A M0 M) (hf : ∀ a ∈ A, a.1 ≠ f) : Ob k ci (A ++ [(f, t, n)]) M0 ((M.1.1 + 1, M.1.2.1 + n, mS M.1.2.2.1 M.1.1 (t, n), mS (mS M.1.2.2.2 M.1.1 (fun _ => 9999)) k (va_up ((mS M.1.2.2.2 M.1.1 (fun _ => 9999)) k) f M.1.1)), mS M.2.1 M.1.1 (fun _ => 0), M.2.2) := by
  obtain ⟨h1, h2, h3, h4, h5, h6, h7, h8, h9⟩ := h
  have hk : k ≠ M.1.1 := by omega
  have er : mS M.1.2.2.2 M.1.1 (fun _ => 9999) k = M.1.2.2.2 k := mS_n hk
  refine ⟨h1, ?_, ?_, h4.na, fun q hq => ⟨?_, ?_, ?_, ?_⟩, ?_, h7, fun g hg => ?_, fun r a hr => ?_⟩
  · simp only [List.length_append, List.length_cons, List.length_nil]; omega
  · simp only [List.map_append, List.sum_append, List.map_cons, List.map_nil, List.sum_cons, List.sum_nil]; omega
  · exact (mS_n (by omega)).trans (h5 q hq).1
  · exact ((mS_n (by omega)).trans (mS_n (by omega))).trans (h5 q hq).2.1
  · exact (mS_n (by omega)).trans (h5 q hq).2.2.1
  · exact (h5 q hq).2.2.2
  · exact (mS_n hk).trans h6
  · simp only [mS_s, er]
    unfold va_up
    rw [if_neg (fun q => hg (f, t, n) (by simp) q.symm)]
    exact h8 g (fun a ha => hg a (by simp [ha]))
  · by_cases q : r < A.length
    · rw [List.getElem?_append_left q] at hr
      obtain ⟨g1, g2, g3⟩ := h9 r a hr
      refine ⟨(mS_n (by omega)).trans g1, ?_, fun j => ?_⟩
      · simp only [mS_s, er]
        unfold va_up
        rw [if_neg (hf a (List.mem_of_getElem? hr))]
        exact g2
      · show mS M.2.1 M.1.1 (fun _ => 0) (k + 1 + r) j = 0
        rw [mS_n (by omega)]
        exact g3 j
    · have hr2 : r = A.length := by
        have := (List.getElem?_eq_some_iff.mp hr).1
        simp at this; omega
      subst hr2
      rw [List.getElem?_append_right (Nat.le_refl _), Nat.sub_self] at hr
      cases hr
      have e : k + 1 + A.length = M.1.1 := by omega
      rw [e]
      refine ⟨mS_s, ?_, fun j => ?_⟩
      · simp only [mS_s]
        unfold va_up
        rw [if_pos rfl]
      · simp only [mS_s]
theorem Ob.a {k ci r : Nat} {a : Nat × Nat × Nat} {A : List (Nat × Nat × Nat)} {M0 M : Mem} (h : Ob k ci A M0 M) (hr : A[r]? = some a) : tA M.1 (k + 1 + r) a.2.1 ∧ ln M.1 (k + 1 + r) = a.2.2 ∧ sR M.1 k a.1 = k + 1 + r ∧ ∀ j, M.2.1 (k + 1 + r) j = 0 := by
  obtain ⟨g1, g2, g3⟩ := h.2.2.2.2.2.2.2.2 r a hr
  have hl := (List.getElem?_eq_some_iff.mp hr).1
  have := h.2.1
  exact ⟨⟨by omega, by rw [g1]⟩, by unfold ln; rw [g1], g2, g3⟩
def StN (I : MI) (k : Nat) : Prop := (I k 4 = nI 2 ∧ I k 5 = nI 0 ∧ I k 6 = 0 ∧ I k 7 = 0) ∧ ∀ j, I (k + 1) j = 0 ∧ I (k + 2) j = 0 ∧ I (k + 3) j = 0 ∧ I (k + 4) j = 0
def il_X5_init : List (Nat × Instr × Nat) := [(0, .aload_n 0, 1), (1, .invokespecial 3, 3), (4, .aload_n 0, 1), (5, .bipush 6, 2), (7, .newarray .int, 2), (9, .putfield 9, 3), (12, .aload_n 0, 1), (13, .bipush 9, 2), (15, .newarray .int, 2), (17, .putfield 15, 3), (20, .aload_n 0, 1), (21, .bipush 9, 2), (23, .newarray .int, 2), (25, .putfield 18, 3), (28, .aload_n 0, 1), (29, .bipush 54, 2), (31, .newarray .int, 2), (33, .putfield 21, 3), (36, .aload_n 0, 1), (37, .iconst 2, 1), (38, .putfield 24, 3), (41, .aload_n 0, 1), (42, .iconst 0, 1), (43, .putfield 28, 3), (46, .aload_n 0, 1), (47, .iconst 0, 1), (48, .putfield 31, 3), (51, .aload_n 0, 1), (52, .iconst 0, 1), (53, .putfield 34, 3), (56, .return_, 1)]
def mt_X5_init (n0 s0 : Nat) : Mt := (cX5_init, RX5, 1, none, ({ frames := 1, cells := 4, slots := 78, locals := 12 } : Room), true, none, some (n0, s0))
set_option maxRecDepth 100000 in
theorem dl_X5_init (n0 s0 : Nat) : ∀ q ∈ il_X5_init, decode (mt_X5_init n0 s0).1 q.1 = .ok q.2 := (by decide +kernel : ∀ q ∈ il_X5_init, decode cX5_init q.1 = .ok q.2)
def tb_X5_init (n0 s0 : Nat) : Tb := [(0, x_al 1 0, false),
  (1, x_o2 4, false),
  (4, x_al 5 0, true),
  (5, x_c 7 (.int 6), false),
  (7, x_na 1 9 (n0 + 4, s0 + 78), false),
  (9, x_pR 5 0 12, false),
  (12, x_al 13 0, true),
  (13, x_c 15 (.int 9), false),
  (15, x_na 1 17 (n0 + 4, s0 + 78), false),
  (17, x_pR 5 1 20, false),
  (20, x_al 21 0, true),
  (21, x_c 23 (.int 9), false),
  (23, x_na 1 25 (n0 + 4, s0 + 78), false),
  (25, x_pR 5 2 28, false),
  (28, x_al 29 0, true),
  (29, x_c 31 (.int 54), false),
  (31, x_na 1 33 (n0 + 4, s0 + 78), false),
  (33, x_pR 5 3 36, false),
  (36, x_al 37 0, true),
  (37, x_c 38 (.int 2), false),
  (38, x_pI 5 4 41, false),
  (41, x_al 42 0, false),
  (42, x_c 43 (.int 0), false),
  (43, x_pI 5 5 46, false),
  (46, x_al 47 0, false),
  (47, x_c 48 (.int 0), false),
  (48, x_pI 5 6 51, false),
  (51, x_al 52 0, false),
  (52, x_c 53 (.int 0), false),
  (53, x_pI 5 7 56, false),
  (56, x_r0, false)]
set_option maxRecDepth 100000 in
theorem tk_X5_init (n0 s0 : Nat) : TbOk (mt_X5_init n0 s0) (tb_X5_init n0 s0) :=
  tkc (s_aload_n (at_ (dl_X5_init n0 s0) 0 (ins := .aload_n 0) rfl)) (
  tkc (s_o2 (at_ (dl_X5_init n0 s0) 1 (ins := .invokespecial 3) rfl) (show Cond.methodLink RX5 3 Lib.objectInit ∈ tblG from (tg 120 (by decide +kernel) (by decide +kernel))) (Nat.le_of_ble_eq_true rfl) (Nat.le_of_ble_eq_true rfl)) (
  tkc (s_aload_n (at_ (dl_X5_init n0 s0) 2 (ins := .aload_n 0) rfl)) (
  tkc (s_bipush (at_ (dl_X5_init n0 s0) 3 (ins := .bipush 6) rfl) (by first | rfl | decide)) (
  tkc (s_na1 (q := (n0, s0)) (at_ (dl_X5_init n0 s0) 4 (ins := .newarray .int) rfl) rfl rfl (tg 102 (by decide +kernel) (by decide +kernel))) (
  tkc (s_pR (at_ (dl_X5_init n0 s0) 5 (ins := .putfield 9) rfl) (by decide) (by decide) (by decide) (by decide) rfl rfl (show Cond.fieldLink RX5 9 (TCl 5 0).1 (TCl 5 0).2.1 (TCl 5 0).2.2.1 ∈ tblG from (tg 121 (by decide +kernel) (by decide +kernel)))) (
  tkc (s_aload_n (at_ (dl_X5_init n0 s0) 6 (ins := .aload_n 0) rfl)) (
  tkc (s_bipush (at_ (dl_X5_init n0 s0) 7 (ins := .bipush 9) rfl) (by first | rfl | decide)) (
  tkc (s_na1 (q := (n0, s0)) (at_ (dl_X5_init n0 s0) 8 (ins := .newarray .int) rfl) rfl rfl (tg 102 (by decide +kernel) (by decide +kernel))) (
  tkc (s_pR (at_ (dl_X5_init n0 s0) 9 (ins := .putfield 15) rfl) (by decide) (by decide) (by decide) (by decide) rfl rfl (show Cond.fieldLink RX5 15 (TCl 5 1).1 (TCl 5 1).2.1 (TCl 5 1).2.2.1 ∈ tblG from (tg 126 (by decide +kernel) (by decide +kernel)))) (
  tkc (s_aload_n (at_ (dl_X5_init n0 s0) 10 (ins := .aload_n 0) rfl)) (
  tkc (s_bipush (at_ (dl_X5_init n0 s0) 11 (ins := .bipush 9) rfl) (by first | rfl | decide)) (
  tkc (s_na1 (q := (n0, s0)) (at_ (dl_X5_init n0 s0) 12 (ins := .newarray .int) rfl) rfl rfl (tg 102 (by decide +kernel) (by decide +kernel))) (
  tkc (s_pR (at_ (dl_X5_init n0 s0) 13 (ins := .putfield 18) rfl) (by decide) (by decide) (by decide) (by decide) rfl rfl (show Cond.fieldLink RX5 18 (TCl 5 2).1 (TCl 5 2).2.1 (TCl 5 2).2.2.1 ∈ tblG from (tg 128 (by decide +kernel) (by decide +kernel)))) (
  tkc (s_aload_n (at_ (dl_X5_init n0 s0) 14 (ins := .aload_n 0) rfl)) (
  tkc (s_bipush (at_ (dl_X5_init n0 s0) 15 (ins := .bipush 54) rfl) (by first | rfl | decide)) (
  tkc (s_na1 (q := (n0, s0)) (at_ (dl_X5_init n0 s0) 16 (ins := .newarray .int) rfl) rfl rfl (tg 102 (by decide +kernel) (by decide +kernel))) (
  tkc (s_pR (at_ (dl_X5_init n0 s0) 17 (ins := .putfield 21) rfl) (by decide) (by decide) (by decide) (by decide) rfl rfl (show Cond.fieldLink RX5 21 (TCl 5 3).1 (TCl 5 3).2.1 (TCl 5 3).2.2.1 ∈ tblG from (tg 131 (by decide +kernel) (by decide +kernel)))) (
  tkc (s_aload_n (at_ (dl_X5_init n0 s0) 18 (ins := .aload_n 0) rfl)) (
  tkc (s_iconst (at_ (dl_X5_init n0 s0) 19 (ins := .iconst 2) rfl) (by first | rfl | decide)) (
  tkc (s_pI (at_ (dl_X5_init n0 s0) 20 (ins := .putfield 24) rfl) (by decide) (by decide) (by decide) (by decide) (show Cond.fieldLink RX5 24 (TCl 5 4).1 (TCl 5 4).2.1 (TCl 5 4).2.2.1 ∈ tblG from (tg 134 (by decide +kernel) (by decide +kernel)))) (
  tkc (s_aload_n (at_ (dl_X5_init n0 s0) 21 (ins := .aload_n 0) rfl)) (
  tkc (s_iconst (at_ (dl_X5_init n0 s0) 22 (ins := .iconst 0) rfl) (by first | rfl | decide)) (
  tkc (s_pI (at_ (dl_X5_init n0 s0) 23 (ins := .putfield 28) rfl) (by decide) (by decide) (by decide) (by decide) (show Cond.fieldLink RX5 28 (TCl 5 5).1 (TCl 5 5).2.1 (TCl 5 5).2.2.1 ∈ tblG from (tg 139 (by decide +kernel) (by decide +kernel)))) (
  tkc (s_aload_n (at_ (dl_X5_init n0 s0) 24 (ins := .aload_n 0) rfl)) (
  tkc (s_iconst (at_ (dl_X5_init n0 s0) 25 (ins := .iconst 0) rfl) (by first | rfl | decide)) (
  tkc (s_pI (at_ (dl_X5_init n0 s0) 26 (ins := .putfield 31) rfl) (by decide) (by decide) (by decide) (by decide) (show Cond.fieldLink RX5 31 (TCl 5 6).1 (TCl 5 6).2.1 (TCl 5 6).2.2.1 ∈ tblG from (tg 144 (by decide +kernel) (by decide +kernel)))) (
  tkc (s_aload_n (at_ (dl_X5_init n0 s0) 27 (ins := .aload_n 0) rfl)) (
  tkc (s_iconst (at_ (dl_X5_init n0 s0) 28 (ins := .iconst 0) rfl) (by first | rfl | decide)) (
  tkc (s_pI (at_ (dl_X5_init n0 s0) 29 (ins := .putfield 34) rfl) (by decide) (by decide) (by decide) (by decide) (show Cond.fieldLink RX5 34 (TCl 5 7).1 (TCl 5 7).2.1 (TCl 5 7).2.2.1 ∈ tblG from (tg 148 (by decide +kernel) (by decide +kernel)))) (
  tkc (s_r0 (at_ (dl_X5_init n0 s0) 30 (ins := .return_) rfl) rfl) ( tk0)))))))))))))))))))))))))))))))
theorem lf_X5_init (n0 s0 : Nat) : lk (tb_X5_init n0 s0) 0 = (x_al 1 0, false) ∧ lk (tb_X5_init n0 s0) 1 = (x_o2 4, false) ∧ lk (tb_X5_init n0 s0) 4 = (x_al 5 0, true) ∧ lk (tb_X5_init n0 s0) 5 = (x_c 7 (.int 6), false) ∧ lk (tb_X5_init n0 s0) 7 = (x_na 1 9 (n0 + 4, s0 + 78), false) ∧ lk (tb_X5_init n0 s0) 9 = (x_pR 5 0 12, false) ∧ lk (tb_X5_init n0 s0) 12 = (x_al 13 0, true) ∧ lk (tb_X5_init n0 s0) 13 = (x_c 15 (.int 9), false) ∧ lk (tb_X5_init n0 s0) 15 = (x_na 1 17 (n0 + 4, s0 + 78), false) ∧ lk (tb_X5_init n0 s0) 17 = (x_pR 5 1 20, false) ∧ lk (tb_X5_init n0 s0) 20 = (x_al 21 0, true) ∧ lk (tb_X5_init n0 s0) 21 = (x_c 23 (.int 9), false) ∧ lk (tb_X5_init n0 s0) 23 = (x_na 1 25 (n0 + 4, s0 + 78), false) ∧ lk (tb_X5_init n0 s0) 25 = (x_pR 5 2 28, false) ∧ lk (tb_X5_init n0 s0) 28 = (x_al 29 0, true) ∧ lk (tb_X5_init n0 s0) 29 = (x_c 31 (.int 54), false) ∧ lk (tb_X5_init n0 s0) 31 = (x_na 1 33 (n0 + 4, s0 + 78), false) ∧ lk (tb_X5_init n0 s0) 33 = (x_pR 5 3 36, false) ∧ lk (tb_X5_init n0 s0) 36 = (x_al 37 0, true) ∧ lk (tb_X5_init n0 s0) 37 = (x_c 38 (.int 2), false) ∧ lk (tb_X5_init n0 s0) 38 = (x_pI 5 4 41, false) ∧ lk (tb_X5_init n0 s0) 41 = (x_al 42 0, false) ∧ lk (tb_X5_init n0 s0) 42 = (x_c 43 (.int 0), false) ∧ lk (tb_X5_init n0 s0) 43 = (x_pI 5 5 46, false) ∧ lk (tb_X5_init n0 s0) 46 = (x_al 47 0, false) ∧ lk (tb_X5_init n0 s0) 47 = (x_c 48 (.int 0), false) ∧ lk (tb_X5_init n0 s0) 48 = (x_pI 5 6 51, false) ∧ lk (tb_X5_init n0 s0) 51 = (x_al 52 0, false) ∧ lk (tb_X5_init n0 s0) 52 = (x_c 53 (.int 0), false) ∧ lk (tb_X5_init n0 s0) 53 = (x_pI 5 7 56, false) ∧ lk (tb_X5_init n0 s0) 56 = (x_r0, false) := ⟨rfl, rfl, rfl, rfl, rfl, rfl, rfl, rfl, rfl, rfl, rfl, rfl, rfl, rfl, rfl, rfl, rfl, rfl, rfl, rfl, rfl, rfl, rfl, rfl, rfl, rfl, rfl, rfl, rfl, rfl, rfl⟩
def P_X5_init : PTT := fun as M R => match as with
  | [.ref k] => M.1.1 = k + 1 ∧ tO M.1 k 5 ∧ M.1.1 + 4 ≤ 9000 ∧ ∀ M', M'.1.1 = M.1.1 + 4 → M'.1.2.1 = M.1.2.1 + 78 → Kp k M M' → IsSt M'.1 k → StN M'.2.1 k → R none M'
  | _ => False
set_option maxRecDepth 20000 in
theorem ok_X5_init : Ok yX5_init (mt_X5_init 0 0) P_X5_init := by
  refine Ok.ofI (mtf := mt_X5_init) (fun _ _ => rfl) (by decide) rfl rfl fun av ⟨S, I, L⟩ R hP => ?_
  unfold P_X5_init at hP
  split at hP
  case h_2 => exact hP.elim
  rename_i k
  obtain ⟨k, rfl⟩ : ∃ q : Nat, q = k := ⟨k, rfl⟩
  refine ⟨by simp [ent, wide], ?_⟩
  show J (mt_X5_init S.1 S.2.1) R 0 [some (.ref k)] [] (S, I, L)
  try dsimp only at hP
  obtain ⟨hn, ht, h9, hR⟩ := hP
  have st4 : ∀ M, Ob k 5 [(0, 1, 6), (1, 1, 9), (2, 1, 9), (3, 1, 54)] (S, I, L) M → J (mt_X5_init S.1 S.2.1) R 36 [some (.ref k)] [] M := fun ⟨S1, I1, L1⟩ hO => by
    have e0 : S.1 = k + 1 := hO.1
    have e1 : S1.1 = k + 1 + 4 := hO.2.1
    have e2 : S1.2.1 = S.2.1 + 78 := hO.2.2.1
    obtain ⟨a1, a2, a3, a4⟩ := hO.a (r := 0) rfl
    obtain ⟨b1, b2, b3, b4⟩ := hO.a (r := 1) rfl
    obtain ⟨c1, c2, c3, c4⟩ := hO.a (r := 2) rfl
    obtain ⟨d1, d2, d3, d4⟩ := hO.a (r := 3) rfl
    refine J.of (tk_X5_init S.1 S.2.1) 200 fun ρ hρ => ?_
    simp only [hρ, x_c, x_il, x_ll, x_al, x_is, x_as, x_ls, x_inc, x_ii, x_iq, x_i1, x_l2, x_lq, x_lh, x_i2l, x_l2i, x_lcmp, x_dup, x_dup2, x_pop, x_if, x_ifn, x_ic, x_icn, x_go, x_sw, swc, x_l01, x_mx, x_gI, x_gL, x_gR, x_pI, x_pZ, x_pL, x_pR, x_ia, x_za, x_aa, x_ias, x_zas, x_aas, x_fac, x_fa, x_slen, x_sa, x_ac, x_oi, x_new, x_na, x_cS, x_cV, x_cI, x_rI, x_rZ, x_rL, x_r0, pa, short, oc, lg, lset, lset2, wide, cond_true, cond_false, true_and, and_true, ↓reduceIte, Bool.false_eq_true, true_or, or_true, lf_X5_init, hO.2.2.2.1, mS_s, mS_ss]
    refine hR _ (by show S1.1 = S.1 + 4; omega) e2 (fun q hq => ⟨(hO.2.2.2.2.1 q hq).1, (hO.2.2.2.2.1 q hq).2.1, (mS_n (by omega)).trans (hO.2.2.2.2.1 q hq).2.2.1, (hO.2.2.2.2.1 q hq).2.2.2⟩) ⟨hO.2.2.2.1, a3, b3, c3, d3, a1, a2, b1, b2, c1, c2, d1, d2⟩ ⟨?_, fun j => ⟨?_, ?_, ?_, ?_⟩⟩
    · dsimp only; rw [mS_s]; exact ⟨rfl, rfl, rfl, rfl⟩
    · dsimp only; rw [mS_n (by omega)]; exact a4 j
    · dsimp only; rw [mS_n (by omega)]; exact b4 j
    · dsimp only; rw [mS_n (by omega)]; exact c4 j
    · dsimp only; rw [mS_n (by omega)]; exact d4 j
  have st3 : ∀ M, Ob k 5 [(0, 1, 6), (1, 1, 9), (2, 1, 9)] (S, I, L) M → J (mt_X5_init S.1 S.2.1) R 28 [some (.ref k)] [] M := fun ⟨S1, I1, L1⟩ hO => by
    have e0 : S.1 = k + 1 := hO.1
    have e1 : S1.1 = k + 1 + 3 := hO.2.1
    have e2 : S1.2.1 = S.2.1 + 24 := hO.2.2.1
    refine J.of (tk_X5_init S.1 S.2.1) 200 fun ρ hρ => ?_
    simp only [hρ, x_c, x_il, x_ll, x_al, x_is, x_as, x_ls, x_inc, x_ii, x_iq, x_i1, x_l2, x_lq, x_lh, x_i2l, x_l2i, x_lcmp, x_dup, x_dup2, x_pop, x_if, x_ifn, x_ic, x_icn, x_go, x_sw, swc, x_l01, x_mx, x_gI, x_gL, x_gR, x_pI, x_pZ, x_pL, x_pR, x_ia, x_za, x_aa, x_ias, x_zas, x_aas, x_fac, x_fa, x_slen, x_sa, x_ac, x_oi, x_new, x_na, x_cS, x_cV, x_cI, x_rI, x_rZ, x_rL, x_r0, pa, short, oc, lg, lset, lset2, wide, cond_true, cond_false, true_and, and_true, ↓reduceIte, Bool.false_eq_true, true_or, or_true, lf_X5_init, show (54 : Int32).toNatClampNeg = 54 by decide]
    exact ⟨by decide, by decide, by omega, by omega, by omega, hO.2.2.2.1.na, st4 _ (hO.st (by decide))⟩
  have st2 : ∀ M, Ob k 5 [(0, 1, 6), (1, 1, 9)] (S, I, L) M → J (mt_X5_init S.1 S.2.1) R 20 [some (.ref k)] [] M := fun ⟨S1, I1, L1⟩ hO => by
    have e0 : S.1 = k + 1 := hO.1
    have e1 : S1.1 = k + 1 + 2 := hO.2.1
    have e2 : S1.2.1 = S.2.1 + 15 := hO.2.2.1
    refine J.of (tk_X5_init S.1 S.2.1) 200 fun ρ hρ => ?_
    simp only [hρ, x_c, x_il, x_ll, x_al, x_is, x_as, x_ls, x_inc, x_ii, x_iq, x_i1, x_l2, x_lq, x_lh, x_i2l, x_l2i, x_lcmp, x_dup, x_dup2, x_pop, x_if, x_ifn, x_ic, x_icn, x_go, x_sw, swc, x_l01, x_mx, x_gI, x_gL, x_gR, x_pI, x_pZ, x_pL, x_pR, x_ia, x_za, x_aa, x_ias, x_zas, x_aas, x_fac, x_fa, x_slen, x_sa, x_ac, x_oi, x_new, x_na, x_cS, x_cV, x_cI, x_rI, x_rZ, x_rL, x_r0, pa, short, oc, lg, lset, lset2, wide, cond_true, cond_false, true_and, and_true, ↓reduceIte, Bool.false_eq_true, true_or, or_true, lf_X5_init, show (9 : Int32).toNatClampNeg = 9 by decide]
    exact ⟨by decide, by decide, by omega, by omega, by omega, hO.2.2.2.1.na, st3 _ (hO.st (by decide))⟩
  have st1 : ∀ M, Ob k 5 [(0, 1, 6)] (S, I, L) M → J (mt_X5_init S.1 S.2.1) R 12 [some (.ref k)] [] M := fun ⟨S1, I1, L1⟩ hO => by
    have e0 : S.1 = k + 1 := hO.1
    have e1 : S1.1 = k + 1 + 1 := hO.2.1
    have e2 : S1.2.1 = S.2.1 + 6 := hO.2.2.1
    refine J.of (tk_X5_init S.1 S.2.1) 200 fun ρ hρ => ?_
    simp only [hρ, x_c, x_il, x_ll, x_al, x_is, x_as, x_ls, x_inc, x_ii, x_iq, x_i1, x_l2, x_lq, x_lh, x_i2l, x_l2i, x_lcmp, x_dup, x_dup2, x_pop, x_if, x_ifn, x_ic, x_icn, x_go, x_sw, swc, x_l01, x_mx, x_gI, x_gL, x_gR, x_pI, x_pZ, x_pL, x_pR, x_ia, x_za, x_aa, x_ias, x_zas, x_aas, x_fac, x_fa, x_slen, x_sa, x_ac, x_oi, x_new, x_na, x_cS, x_cV, x_cI, x_rI, x_rZ, x_rL, x_r0, pa, short, oc, lg, lset, lset2, wide, cond_true, cond_false, true_and, and_true, ↓reduceIte, Bool.false_eq_true, true_or, or_true, lf_X5_init, show (9 : Int32).toNatClampNeg = 9 by decide]
    exact ⟨by decide, by decide, by omega, by omega, by omega, hO.2.2.2.1.na, st2 _ (hO.st (by decide))⟩
  have st0 : ∀ M, Ob k 5 [] (S, I, L) M → J (mt_X5_init S.1 S.2.1) R 4 [some (.ref k)] [] M := fun ⟨S1, I1, L1⟩ hO => by
    have e0 : S.1 = k + 1 := hO.1
    have e1 : S1.1 = k + 1 + 0 := hO.2.1
    have e2 : S1.2.1 = S.2.1 + 0 := hO.2.2.1
    refine J.of (tk_X5_init S.1 S.2.1) 200 fun ρ hρ => ?_
    simp only [hρ, x_c, x_il, x_ll, x_al, x_is, x_as, x_ls, x_inc, x_ii, x_iq, x_i1, x_l2, x_lq, x_lh, x_i2l, x_l2i, x_lcmp, x_dup, x_dup2, x_pop, x_if, x_ifn, x_ic, x_icn, x_go, x_sw, swc, x_l01, x_mx, x_gI, x_gL, x_gR, x_pI, x_pZ, x_pL, x_pR, x_ia, x_za, x_aa, x_ias, x_zas, x_aas, x_fac, x_fa, x_slen, x_sa, x_ac, x_oi, x_new, x_na, x_cS, x_cV, x_cI, x_rI, x_rZ, x_rL, x_r0, pa, short, oc, lg, lset, lset2, wide, cond_true, cond_false, true_and, and_true, ↓reduceIte, Bool.false_eq_true, true_or, or_true, lf_X5_init, show (6 : Int32).toNatClampNeg = 6 by decide]
    exact ⟨by decide, by decide, by omega, by omega, by omega, hO.2.2.2.1.na, st1 _ (hO.st (by decide))⟩
  refine J.of (tk_X5_init S.1 S.2.1) 200 fun ρ hρ => ?_
  simp only [hρ, x_c, x_il, x_ll, x_al, x_is, x_as, x_ls, x_inc, x_ii, x_iq, x_i1, x_l2, x_lq, x_lh, x_i2l, x_l2i, x_lcmp, x_dup, x_dup2, x_pop, x_if, x_ifn, x_ic, x_icn, x_go, x_sw, swc, x_l01, x_mx, x_gI, x_gL, x_gR, x_pI, x_pZ, x_pL, x_pR, x_ia, x_za, x_aa, x_ias, x_zas, x_aas, x_fac, x_fa, x_slen, x_sa, x_ac, x_oi, x_new, x_na, x_cS, x_cV, x_cI, x_rI, x_rZ, x_rL, x_r0, pa, short, oc, lg, lset, lset2, wide, cond_true, cond_false, true_and, and_true, ↓reduceIte, Bool.false_eq_true, true_or, or_true, lf_X5_init, x_o2]
  exact ⟨(show ¬ k = 9999 by omega), st0 _ (Ob.zero hn ht)⟩
def il_X3_init : List (Nat × Instr × Nat) := [(0, .aload_n 0, 1), (1, .invokespecial 3, 3), (4, .aload_n 0, 1), (5, .bipush 6, 2), (7, .newarray .int, 2), (9, .putfield 9, 3), (12, .return_, 1)]
def mt_X3_init (n0 s0 : Nat) : Mt := (cX3_init, RX3, 1, none, ({ frames := 1, cells := 1, slots := 6, locals := 12 } : Room), true, none, some (n0, s0))
set_option maxRecDepth 100000 in
theorem dl_X3_init (n0 s0 : Nat) : ∀ q ∈ il_X3_init, decode (mt_X3_init n0 s0).1 q.1 = .ok q.2 := (by decide +kernel : ∀ q ∈ il_X3_init, decode cX3_init q.1 = .ok q.2)
def tb_X3_init (n0 s0 : Nat) : Tb := [(0, x_al 1 0, false),
  (1, x_o2 4, false),
  (4, x_al 5 0, true),
  (5, x_c 7 (.int 6), false),
  (7, x_na 1 9 (n0 + 1, s0 + 6), false),
  (9, x_pR 3 0 12, false),
  (12, x_r0, true)]
set_option maxRecDepth 100000 in
theorem tk_X3_init (n0 s0 : Nat) : TbOk (mt_X3_init n0 s0) (tb_X3_init n0 s0) :=
  tkc (s_aload_n (at_ (dl_X3_init n0 s0) 0 (ins := .aload_n 0) rfl)) (
  tkc (s_o2 (at_ (dl_X3_init n0 s0) 1 (ins := .invokespecial 3) rfl) (show Cond.methodLink RX3 3 Lib.objectInit ∈ tblG from (tg 75 (by decide +kernel) (by decide +kernel))) (Nat.le_of_ble_eq_true rfl) (Nat.le_of_ble_eq_true rfl)) (
  tkc (s_aload_n (at_ (dl_X3_init n0 s0) 2 (ins := .aload_n 0) rfl)) (
  tkc (s_bipush (at_ (dl_X3_init n0 s0) 3 (ins := .bipush 6) rfl) (by first | rfl | decide)) (
  tkc (s_na1 (q := (n0, s0)) (at_ (dl_X3_init n0 s0) 4 (ins := .newarray .int) rfl) rfl rfl (tg 102 (by decide +kernel) (by decide +kernel))) (
  tkc (s_pR (at_ (dl_X3_init n0 s0) 5 (ins := .putfield 9) rfl) (by decide) (by decide) (by decide) (by decide) rfl rfl (show Cond.fieldLink RX3 9 (TCl 3 0).1 (TCl 3 0).2.1 (TCl 3 0).2.2.1 ∈ tblG from (tg 76 (by decide +kernel) (by decide +kernel)))) (
  tkc (s_r0 (at_ (dl_X3_init n0 s0) 6 (ins := .return_) rfl) rfl) ( tk0)))))))
theorem lf_X3_init (n0 s0 : Nat) : lk (tb_X3_init n0 s0) 0 = (x_al 1 0, false) ∧ lk (tb_X3_init n0 s0) 1 = (x_o2 4, false) ∧ lk (tb_X3_init n0 s0) 4 = (x_al 5 0, true) ∧ lk (tb_X3_init n0 s0) 5 = (x_c 7 (.int 6), false) ∧ lk (tb_X3_init n0 s0) 7 = (x_na 1 9 (n0 + 1, s0 + 6), false) ∧ lk (tb_X3_init n0 s0) 9 = (x_pR 3 0 12, false) ∧ lk (tb_X3_init n0 s0) 12 = (x_r0, true) := ⟨rfl, rfl, rfl, rfl, rfl, rfl, rfl⟩
def P_X3_init : PTT := fun as M R => match as with
  | [.ref k] => M.1.1 = k + 1 ∧ tO M.1 k 3 ∧ M.1.1 + 1 ≤ 9000 ∧ ∀ M', M'.1.1 = M.1.1 + 1 → M'.1.2.1 = M.1.2.1 + 6 → Kp k M M' → IsRd M'.1 k → R none M'
  | _ => False
set_option maxRecDepth 20000 in
theorem ok_X3_init : Ok yX3_init (mt_X3_init 0 0) P_X3_init := by
  refine Ok.ofI (mtf := mt_X3_init) (fun _ _ => rfl) (by decide) rfl rfl fun av ⟨S, I, L⟩ R hP => ?_
  unfold P_X3_init at hP
  split at hP
  case h_2 => exact hP.elim
  rename_i k
  obtain ⟨k, rfl⟩ : ∃ q : Nat, q = k := ⟨k, rfl⟩
  refine ⟨by simp [ent, wide], ?_⟩
  show J (mt_X3_init S.1 S.2.1) R 0 [some (.ref k)] [] (S, I, L)
  try dsimp only at hP
  obtain ⟨hn, ht, h9, hR⟩ := hP
  have st1 : ∀ M, Ob k 3 [(0, 1, 6)] (S, I, L) M → J (mt_X3_init S.1 S.2.1) R 12 [some (.ref k)] [] M := fun ⟨S1, I1, L1⟩ hO => by
    have e0 : S.1 = k + 1 := hO.1
    have e1 : S1.1 = k + 1 + 1 := hO.2.1
    have e2 : S1.2.1 = S.2.1 + 6 := hO.2.2.1
    obtain ⟨a1, a2, a3, a4⟩ := hO.a (r := 0) rfl
    refine J.of (tk_X3_init S.1 S.2.1) 200 fun ρ hρ => ?_
    simp only [hρ, x_c, x_il, x_ll, x_al, x_is, x_as, x_ls, x_inc, x_ii, x_iq, x_i1, x_l2, x_lq, x_lh, x_i2l, x_l2i, x_lcmp, x_dup, x_dup2, x_pop, x_if, x_ifn, x_ic, x_icn, x_go, x_sw, swc, x_l01, x_mx, x_gI, x_gL, x_gR, x_pI, x_pZ, x_pL, x_pR, x_ia, x_za, x_aa, x_ias, x_zas, x_aas, x_fac, x_fa, x_slen, x_sa, x_ac, x_oi, x_new, x_na, x_cS, x_cV, x_cI, x_rI, x_rZ, x_rL, x_r0, pa, short, oc, lg, lset, lset2, wide, cond_true, cond_false, true_and, and_true, ↓reduceIte, Bool.false_eq_true, true_or, or_true, lf_X3_init]
    exact hR _ (by show S1.1 = S.1 + 1; omega) e2 hO.2.2.2.2.1 ⟨hO.2.2.2.1, a3, a1, a2⟩
  have st0 : ∀ M, Ob k 3 [] (S, I, L) M → J (mt_X3_init S.1 S.2.1) R 4 [some (.ref k)] [] M := fun ⟨S1, I1, L1⟩ hO => by
    have e0 : S.1 = k + 1 := hO.1
    have e1 : S1.1 = k + 1 + 0 := hO.2.1
    have e2 : S1.2.1 = S.2.1 + 0 := hO.2.2.1
    refine J.of (tk_X3_init S.1 S.2.1) 200 fun ρ hρ => ?_
    simp only [hρ, x_c, x_il, x_ll, x_al, x_is, x_as, x_ls, x_inc, x_ii, x_iq, x_i1, x_l2, x_lq, x_lh, x_i2l, x_l2i, x_lcmp, x_dup, x_dup2, x_pop, x_if, x_ifn, x_ic, x_icn, x_go, x_sw, swc, x_l01, x_mx, x_gI, x_gL, x_gR, x_pI, x_pZ, x_pL, x_pR, x_ia, x_za, x_aa, x_ias, x_zas, x_aas, x_fac, x_fa, x_slen, x_sa, x_ac, x_oi, x_new, x_na, x_cS, x_cV, x_cI, x_rI, x_rZ, x_rL, x_r0, pa, short, oc, lg, lset, lset2, wide, cond_true, cond_false, true_and, and_true, ↓reduceIte, Bool.false_eq_true, true_or, or_true, lf_X3_init, show (6 : Int32).toNatClampNeg = 6 by decide]
    exact ⟨by decide, by decide, by omega, by omega, by omega, hO.2.2.2.1.na, st1 _ (hO.st (by decide))⟩
  refine J.of (tk_X3_init S.1 S.2.1) 200 fun ρ hρ => ?_
  simp only [hρ, x_c, x_il, x_ll, x_al, x_is, x_as, x_ls, x_inc, x_ii, x_iq, x_i1, x_l2, x_lq, x_lh, x_i2l, x_l2i, x_lcmp, x_dup, x_dup2, x_pop, x_if, x_ifn, x_ic, x_icn, x_go, x_sw, swc, x_l01, x_mx, x_gI, x_gL, x_gR, x_pI, x_pZ, x_pL, x_pR, x_ia, x_za, x_aa, x_ias, x_zas, x_aas, x_fac, x_fa, x_slen, x_sa, x_ac, x_oi, x_new, x_na, x_cS, x_cV, x_cI, x_rI, x_rZ, x_rL, x_r0, pa, short, oc, lg, lset, lset2, wide, cond_true, cond_false, true_and, and_true, ↓reduceIte, Bool.false_eq_true, true_or, or_true, lf_X3_init, x_o2]
  exact ⟨(show ¬ k = 9999 by omega), st0 _ (Ob.zero hn ht)⟩
def il_X1_init : List (Nat × Instr × Nat) := [(0, .aload_n 0, 1), (1, .invokespecial 3, 3), (4, .aload_n 0, 1), (5, .bipush 6, 2), (7, .newarray .int, 2), (9, .putfield 9, 3), (12, .aload_n 0, 1), (13, .bipush 9, 2), (15, .newarray .int, 2), (17, .putfield 15, 3), (20, .aload_n 0, 1), (21, .invokevirtual 18, 3), (24, .return_, 1)]
def mt_X1_init (n0 s0 : Nat) : Mt := (cX1_init, RX1, 1, none, ({ frames := 1, cells := 2, slots := 15, locals := 21 } : Room), true, none, some (n0, s0))
set_option maxRecDepth 100000 in
theorem dl_X1_init (n0 s0 : Nat) : ∀ q ∈ il_X1_init, decode (mt_X1_init n0 s0).1 q.1 = .ok q.2 := (by decide +kernel : ∀ q ∈ il_X1_init, decode cX1_init q.1 = .ok q.2)
def tb_X1_init (n0 s0 : Nat) : Tb := [(0, x_al 1 0, false),
  (1, x_o2 4, false),
  (4, x_al 5 0, true),
  (5, x_c 7 (.int 6), false),
  (7, x_na 1 9 (n0 + 2, s0 + 15), false),
  (9, x_pR 1 0 12, false),
  (12, x_al 13 0, true),
  (13, x_c 15 (.int 9), false),
  (15, x_na 1 17 (n0 + 2, s0 + 15), false),
  (17, x_pR 1 1 20, false),
  (20, x_al 21 0, true),
  (21, x_cV 1 0 P_X1_orderAsNumbered 24, false),
  (24, x_r0, false)]
set_option maxRecDepth 100000 in
theorem tk_X1_init (n0 s0 : Nat) : TbOk (mt_X1_init n0 s0) (tb_X1_init n0 s0) :=
  tkc (s_aload_n (at_ (dl_X1_init n0 s0) 0 (ins := .aload_n 0) rfl)) (
  tkc (s_o2 (at_ (dl_X1_init n0 s0) 1 (ins := .invokespecial 3) rfl) (show Cond.methodLink RX1 3 Lib.objectInit ∈ tblG from (tg 173 (by decide +kernel) (by decide +kernel))) (Nat.le_of_ble_eq_true rfl) (Nat.le_of_ble_eq_true rfl)) (
  tkc (s_aload_n (at_ (dl_X1_init n0 s0) 2 (ins := .aload_n 0) rfl)) (
  tkc (s_bipush (at_ (dl_X1_init n0 s0) 3 (ins := .bipush 6) rfl) (by first | rfl | decide)) (
  tkc (s_na1 (q := (n0, s0)) (at_ (dl_X1_init n0 s0) 4 (ins := .newarray .int) rfl) rfl rfl (tg 102 (by decide +kernel) (by decide +kernel))) (
  tkc (s_pR (at_ (dl_X1_init n0 s0) 5 (ins := .putfield 9) rfl) (by decide) (by decide) (by decide) (by decide) rfl rfl (show Cond.fieldLink RX1 9 (TCl 1 0).1 (TCl 1 0).2.1 (TCl 1 0).2.2.1 ∈ tblG from (tg 178 (by decide +kernel) (by decide +kernel)))) (
  tkc (s_aload_n (at_ (dl_X1_init n0 s0) 6 (ins := .aload_n 0) rfl)) (
  tkc (s_bipush (at_ (dl_X1_init n0 s0) 7 (ins := .bipush 9) rfl) (by first | rfl | decide)) (
  tkc (s_na1 (q := (n0, s0)) (at_ (dl_X1_init n0 s0) 8 (ins := .newarray .int) rfl) rfl rfl (tg 102 (by decide +kernel) (by decide +kernel))) (
  tkc (s_pR (at_ (dl_X1_init n0 s0) 9 (ins := .putfield 15) rfl) (by decide) (by decide) (by decide) (by decide) rfl rfl (show Cond.fieldLink RX1 15 (TCl 1 1).1 (TCl 1 1).2.1 (TCl 1 1).2.2.1 ∈ tblG from (tg 179 (by decide +kernel) (by decide +kernel)))) (
  tkc (s_aload_n (at_ (dl_X1_init n0 s0) 10 (ins := .aload_n 0) rfl)) (
  tkc (s_cV ok_X1_orderAsNumbered (at_ (dl_X1_init n0 s0) 11 (ins := .invokevirtual 18) rfl) (by decide) rfl (show Cond.methodLink RX1 18 yX1_orderAsNumbered ∈ tblG from (tg 174 (by decide +kernel) (by decide +kernel))) (tg 175 (by decide +kernel) (by decide +kernel)) (tg 176 (by decide +kernel) (by decide +kernel)) (tg 46 (by decide +kernel) (by decide +kernel)) (tg 177 (by decide +kernel) (by decide +kernel)) (⟨by decide, by decide, by decide +kernel⟩) (⟨(Nat.le_of_ble_eq_true rfl), (Nat.le_of_ble_eq_true rfl)⟩) rfl rfl) (
  tkc (s_r0 (at_ (dl_X1_init n0 s0) 12 (ins := .return_) rfl) rfl) ( tk0)))))))))))))
theorem lf_X1_init (n0 s0 : Nat) : lk (tb_X1_init n0 s0) 0 = (x_al 1 0, false) ∧ lk (tb_X1_init n0 s0) 1 = (x_o2 4, false) ∧ lk (tb_X1_init n0 s0) 4 = (x_al 5 0, true) ∧ lk (tb_X1_init n0 s0) 5 = (x_c 7 (.int 6), false) ∧ lk (tb_X1_init n0 s0) 7 = (x_na 1 9 (n0 + 2, s0 + 15), false) ∧ lk (tb_X1_init n0 s0) 9 = (x_pR 1 0 12, false) ∧ lk (tb_X1_init n0 s0) 12 = (x_al 13 0, true) ∧ lk (tb_X1_init n0 s0) 13 = (x_c 15 (.int 9), false) ∧ lk (tb_X1_init n0 s0) 15 = (x_na 1 17 (n0 + 2, s0 + 15), false) ∧ lk (tb_X1_init n0 s0) 17 = (x_pR 1 1 20, false) ∧ lk (tb_X1_init n0 s0) 20 = (x_al 21 0, true) ∧ lk (tb_X1_init n0 s0) 21 = (x_cV 1 0 P_X1_orderAsNumbered 24, false) ∧ lk (tb_X1_init n0 s0) 24 = (x_r0, false) := ⟨rfl, rfl, rfl, rfl, rfl, rfl, rfl, rfl, rfl, rfl, rfl, rfl, rfl⟩
def P_X1_init : PTT := fun as M R => match as with
  | [.ref k] => k = 15 ∧ M.1.1 = 16 ∧ tO M.1 15 1 ∧ ∀ M', M'.1.1 = 18 → M'.1.2.1 = M.1.2.1 + 15 → Kp 15 M M' → IsDc M'.1 → OrdId M'.2.1 → R none M'
  | _ => False
set_option maxRecDepth 20000 in
theorem ok_X1_init : Ok yX1_init (mt_X1_init 0 0) P_X1_init := by
  refine Ok.ofI (mtf := mt_X1_init) (fun _ _ => rfl) (by decide) rfl rfl fun av ⟨S, I, L⟩ R hP => ?_
  unfold P_X1_init at hP
  split at hP
  case h_2 => exact hP.elim
  rename_i k
  obtain ⟨k, rfl⟩ : ∃ q : Nat, q = k := ⟨k, rfl⟩
  refine ⟨by simp [ent, wide], ?_⟩
  show J (mt_X1_init S.1 S.2.1) R 0 [some (.ref k)] [] (S, I, L)
  try dsimp only at hP
  obtain ⟨rfl, hn, ht, hR⟩ := hP
  have hn' : S.1 = 16 := hn
  have st2 : ∀ M, Ob 15 1 [(0, 1, 6), (1, 1, 9)] (S, I, L) M → J (mt_X1_init S.1 S.2.1) R 20 [some (.ref 15)] [] M := fun ⟨S1, I1, L1⟩ hO => by
    have e0 : S.1 = 15 + 1 := hO.1
    have e1 : S1.1 = 15 + 1 + 2 := hO.2.1
    have e2 : S1.2.1 = S.2.1 + 15 := hO.2.2.1
    obtain ⟨a1, a2, a3, a4⟩ := hO.a (r := 0) rfl
    obtain ⟨b1, b2, b3, b4⟩ := hO.a (r := 1) rfl
    have hD : IsDc S1 := ⟨hO.2.2.2.1, a3, b3, a1, a2, b1, b2⟩
    refine J.of (tk_X1_init S.1 S.2.1) 200 fun ρ hρ => ?_
    simp only [hρ, x_c, x_il, x_ll, x_al, x_is, x_as, x_ls, x_inc, x_ii, x_iq, x_i1, x_l2, x_lq, x_lh, x_i2l, x_l2i, x_lcmp, x_dup, x_dup2, x_pop, x_if, x_ifn, x_ic, x_icn, x_go, x_sw, swc, x_l01, x_mx, x_gI, x_gL, x_gR, x_pI, x_pZ, x_pL, x_pR, x_ia, x_za, x_aa, x_ias, x_zas, x_aas, x_fac, x_fa, x_slen, x_sa, x_ac, x_oi, x_new, x_na, x_cS, x_cV, x_cI, x_rI, x_rZ, x_rL, x_r0, pa, short, oc, lg, lset, lset2, wide, cond_true, cond_false, true_and, and_true, ↓reduceIte, Bool.false_eq_true, true_or, or_true, lf_X1_init, hD, hD.f, P_X1_orderAsNumbered]
    exact hR _ e1 e2 (fun q hq => ⟨(hO.2.2.2.2.1 q hq).1, (hO.2.2.2.2.1 q hq).2.1, (mS_n (by omega)).trans (hO.2.2.2.2.1 q hq).2.2.1, (hO.2.2.2.2.1 q hq).2.2.2⟩) hD OrdId_idr
  have st1 : ∀ M, Ob 15 1 [(0, 1, 6)] (S, I, L) M → J (mt_X1_init S.1 S.2.1) R 12 [some (.ref 15)] [] M := fun ⟨S1, I1, L1⟩ hO => by
    have e0 : S.1 = 15 + 1 := hO.1
    have e1 : S1.1 = 15 + 1 + 1 := hO.2.1
    have e2 : S1.2.1 = S.2.1 + 6 := hO.2.2.1
    refine J.of (tk_X1_init S.1 S.2.1) 200 fun ρ hρ => ?_
    simp only [hρ, x_c, x_il, x_ll, x_al, x_is, x_as, x_ls, x_inc, x_ii, x_iq, x_i1, x_l2, x_lq, x_lh, x_i2l, x_l2i, x_lcmp, x_dup, x_dup2, x_pop, x_if, x_ifn, x_ic, x_icn, x_go, x_sw, swc, x_l01, x_mx, x_gI, x_gL, x_gR, x_pI, x_pZ, x_pL, x_pR, x_ia, x_za, x_aa, x_ias, x_zas, x_aas, x_fac, x_fa, x_slen, x_sa, x_ac, x_oi, x_new, x_na, x_cS, x_cV, x_cI, x_rI, x_rZ, x_rL, x_r0, pa, short, oc, lg, lset, lset2, wide, cond_true, cond_false, true_and, and_true, ↓reduceIte, Bool.false_eq_true, true_or, or_true, lf_X1_init, show (9 : Int32).toNatClampNeg = 9 by decide]
    exact ⟨by decide, by decide, by omega, by omega, by omega, hO.2.2.2.1.na, st2 _ (hO.st (by decide))⟩
  have st0 : ∀ M, Ob 15 1 [] (S, I, L) M → J (mt_X1_init S.1 S.2.1) R 4 [some (.ref 15)] [] M := fun ⟨S1, I1, L1⟩ hO => by
    have e0 : S.1 = 15 + 1 := hO.1
    have e1 : S1.1 = 15 + 1 + 0 := hO.2.1
    have e2 : S1.2.1 = S.2.1 + 0 := hO.2.2.1
    refine J.of (tk_X1_init S.1 S.2.1) 200 fun ρ hρ => ?_
    simp only [hρ, x_c, x_il, x_ll, x_al, x_is, x_as, x_ls, x_inc, x_ii, x_iq, x_i1, x_l2, x_lq, x_lh, x_i2l, x_l2i, x_lcmp, x_dup, x_dup2, x_pop, x_if, x_ifn, x_ic, x_icn, x_go, x_sw, swc, x_l01, x_mx, x_gI, x_gL, x_gR, x_pI, x_pZ, x_pL, x_pR, x_ia, x_za, x_aa, x_ias, x_zas, x_aas, x_fac, x_fa, x_slen, x_sa, x_ac, x_oi, x_new, x_na, x_cS, x_cV, x_cI, x_rI, x_rZ, x_rL, x_r0, pa, short, oc, lg, lset, lset2, wide, cond_true, cond_false, true_and, and_true, ↓reduceIte, Bool.false_eq_true, true_or, or_true, lf_X1_init, show (6 : Int32).toNatClampNeg = 6 by decide]
    exact ⟨by decide, by decide, by omega, by omega, by omega, hO.2.2.2.1.na, st1 _ (hO.st (by decide))⟩
  refine J.of (tk_X1_init S.1 S.2.1) 200 fun ρ hρ => ?_
  simp only [hρ, x_c, x_il, x_ll, x_al, x_is, x_as, x_ls, x_inc, x_ii, x_iq, x_i1, x_l2, x_lq, x_lh, x_i2l, x_l2i, x_lcmp, x_dup, x_dup2, x_pop, x_if, x_ifn, x_ic, x_icn, x_go, x_sw, swc, x_l01, x_mx, x_gI, x_gL, x_gR, x_pI, x_pZ, x_pL, x_pR, x_ia, x_za, x_aa, x_ias, x_zas, x_aas, x_fac, x_fa, x_slen, x_sa, x_ac, x_oi, x_new, x_na, x_cS, x_cV, x_cI, x_rI, x_rZ, x_rL, x_r0, pa, short, oc, lg, lset, lset2, wide, cond_true, cond_false, true_and, and_true, ↓reduceIte, Bool.false_eq_true, true_or, or_true, lf_X1_init, x_o2]
  exact ⟨(show ¬ (15 : Nat) = 9999 by decide), st0 _ (Ob.zero hn ht)⟩
def il_X4_init : List (Nat × Instr × Nat) := [(0, .aload_n 0, 1), (1, .invokespecial 3, 3), (4, .aload_n 0, 1), (5, .bipush 6, 2), (7, .newarray .int, 2), (9, .putfield 9, 3), (12, .aload_n 0, 1), (13, .bipush 6, 2), (15, .newarray .int, 2), (17, .putfield 15, 3), (20, .aload_n 0, 1), (21, .iconst 0, 1), (22, .putfield 18, 3), (25, .return_, 1)]
def mt_X4_init (n0 s0 : Nat) : Mt := (cX4_init, RX4, 1, none, ({ frames := 1, cells := 2, slots := 12, locals := 12 } : Room), true, none, some (n0, s0))
set_option maxRecDepth 100000 in
theorem dl_X4_init (n0 s0 : Nat) : ∀ q ∈ il_X4_init, decode (mt_X4_init n0 s0).1 q.1 = .ok q.2 := (by decide +kernel : ∀ q ∈ il_X4_init, decode cX4_init q.1 = .ok q.2)
def tb_X4_init (n0 s0 : Nat) : Tb := [(0, x_al 1 0, false),
  (1, x_o2 4, false),
  (4, x_al 5 0, true),
  (5, x_c 7 (.int 6), false),
  (7, x_na 1 9 (n0 + 2, s0 + 12), false),
  (9, x_pR 4 0 12, false),
  (12, x_al 13 0, true),
  (13, x_c 15 (.int 6), false),
  (15, x_na 1 17 (n0 + 2, s0 + 12), false),
  (17, x_pR 4 1 20, false),
  (20, x_al 21 0, true),
  (21, x_c 22 (.int 0), false),
  (22, x_pI 4 2 25, false),
  (25, x_r0, false)]
set_option maxRecDepth 100000 in
theorem tk_X4_init (n0 s0 : Nat) : TbOk (mt_X4_init n0 s0) (tb_X4_init n0 s0) :=
  tkc (s_aload_n (at_ (dl_X4_init n0 s0) 0 (ins := .aload_n 0) rfl)) (
  tkc (s_o2 (at_ (dl_X4_init n0 s0) 1 (ins := .invokespecial 3) rfl) (show Cond.methodLink RX4 3 Lib.objectInit ∈ tblG from (tg 242 (by decide +kernel) (by decide +kernel))) (Nat.le_of_ble_eq_true rfl) (Nat.le_of_ble_eq_true rfl)) (
  tkc (s_aload_n (at_ (dl_X4_init n0 s0) 2 (ins := .aload_n 0) rfl)) (
  tkc (s_bipush (at_ (dl_X4_init n0 s0) 3 (ins := .bipush 6) rfl) (by first | rfl | decide)) (
  tkc (s_na1 (q := (n0, s0)) (at_ (dl_X4_init n0 s0) 4 (ins := .newarray .int) rfl) rfl rfl (tg 102 (by decide +kernel) (by decide +kernel))) (
  tkc (s_pR (at_ (dl_X4_init n0 s0) 5 (ins := .putfield 9) rfl) (by decide) (by decide) (by decide) (by decide) rfl rfl (show Cond.fieldLink RX4 9 (TCl 4 0).1 (TCl 4 0).2.1 (TCl 4 0).2.2.1 ∈ tblG from (tg 243 (by decide +kernel) (by decide +kernel)))) (
  tkc (s_aload_n (at_ (dl_X4_init n0 s0) 6 (ins := .aload_n 0) rfl)) (
  tkc (s_bipush (at_ (dl_X4_init n0 s0) 7 (ins := .bipush 6) rfl) (by first | rfl | decide)) (
  tkc (s_na1 (q := (n0, s0)) (at_ (dl_X4_init n0 s0) 8 (ins := .newarray .int) rfl) rfl rfl (tg 102 (by decide +kernel) (by decide +kernel))) (
  tkc (s_pR (at_ (dl_X4_init n0 s0) 9 (ins := .putfield 15) rfl) (by decide) (by decide) (by decide) (by decide) rfl rfl (show Cond.fieldLink RX4 15 (TCl 4 1).1 (TCl 4 1).2.1 (TCl 4 1).2.2.1 ∈ tblG from (tg 244 (by decide +kernel) (by decide +kernel)))) (
  tkc (s_aload_n (at_ (dl_X4_init n0 s0) 10 (ins := .aload_n 0) rfl)) (
  tkc (s_iconst (at_ (dl_X4_init n0 s0) 11 (ins := .iconst 0) rfl) (by first | rfl | decide)) (
  tkc (s_pI (at_ (dl_X4_init n0 s0) 12 (ins := .putfield 18) rfl) (by decide) (by decide) (by decide) (by decide) (show Cond.fieldLink RX4 18 (TCl 4 2).1 (TCl 4 2).2.1 (TCl 4 2).2.2.1 ∈ tblG from (tg 245 (by decide +kernel) (by decide +kernel)))) (
  tkc (s_r0 (at_ (dl_X4_init n0 s0) 13 (ins := .return_) rfl) rfl) ( tk0))))))))))))))
theorem lf_X4_init (n0 s0 : Nat) : lk (tb_X4_init n0 s0) 0 = (x_al 1 0, false) ∧ lk (tb_X4_init n0 s0) 1 = (x_o2 4, false) ∧ lk (tb_X4_init n0 s0) 4 = (x_al 5 0, true) ∧ lk (tb_X4_init n0 s0) 5 = (x_c 7 (.int 6), false) ∧ lk (tb_X4_init n0 s0) 7 = (x_na 1 9 (n0 + 2, s0 + 12), false) ∧ lk (tb_X4_init n0 s0) 9 = (x_pR 4 0 12, false) ∧ lk (tb_X4_init n0 s0) 12 = (x_al 13 0, true) ∧ lk (tb_X4_init n0 s0) 13 = (x_c 15 (.int 6), false) ∧ lk (tb_X4_init n0 s0) 15 = (x_na 1 17 (n0 + 2, s0 + 12), false) ∧ lk (tb_X4_init n0 s0) 17 = (x_pR 4 1 20, false) ∧ lk (tb_X4_init n0 s0) 20 = (x_al 21 0, true) ∧ lk (tb_X4_init n0 s0) 21 = (x_c 22 (.int 0), false) ∧ lk (tb_X4_init n0 s0) 22 = (x_pI 4 2 25, false) ∧ lk (tb_X4_init n0 s0) 25 = (x_r0, false) := ⟨rfl, rfl, rfl, rfl, rfl, rfl, rfl, rfl, rfl, rfl, rfl, rfl, rfl, rfl⟩
def P_X4_init : PTT := fun as M R => match as with
  | [.ref k] => k = 93 ∧ M.1.1 = 94 ∧ tO M.1 93 4 ∧ ∀ M', M'.1.1 = 96 → M'.1.2.1 = M.1.2.1 + 12 → Kp 93 M M' → IsSe M'.1 → M'.2.1 93 2 = nI 0 → R none M'
  | _ => False
set_option maxRecDepth 20000 in
theorem ok_X4_init : Ok yX4_init (mt_X4_init 0 0) P_X4_init := by
  refine Ok.ofI (mtf := mt_X4_init) (fun _ _ => rfl) (by decide) rfl rfl fun av ⟨S, I, L⟩ R hP => ?_
  unfold P_X4_init at hP
  split at hP
  case h_2 => exact hP.elim
  rename_i k
  obtain ⟨k, rfl⟩ : ∃ q : Nat, q = k := ⟨k, rfl⟩
  refine ⟨by simp [ent, wide], ?_⟩
  show J (mt_X4_init S.1 S.2.1) R 0 [some (.ref k)] [] (S, I, L)
  try dsimp only at hP
  obtain ⟨rfl, hn, ht, hR⟩ := hP
  have hn' : S.1 = 94 := hn
  have st2 : ∀ M, Ob 93 4 [(0, 1, 6), (1, 1, 6)] (S, I, L) M → J (mt_X4_init S.1 S.2.1) R 20 [some (.ref 93)] [] M := fun ⟨S1, I1, L1⟩ hO => by
    have e0 : S.1 = 93 + 1 := hO.1
    have e1 : S1.1 = 93 + 1 + 2 := hO.2.1
    have e2 : S1.2.1 = S.2.1 + 12 := hO.2.2.1
    obtain ⟨a1, a2, a3, a4⟩ := hO.a (r := 0) rfl
    obtain ⟨b1, b2, b3, b4⟩ := hO.a (r := 1) rfl
    refine J.of (tk_X4_init S.1 S.2.1) 200 fun ρ hρ => ?_
    simp only [hρ, x_c, x_il, x_ll, x_al, x_is, x_as, x_ls, x_inc, x_ii, x_iq, x_i1, x_l2, x_lq, x_lh, x_i2l, x_l2i, x_lcmp, x_dup, x_dup2, x_pop, x_if, x_ifn, x_ic, x_icn, x_go, x_sw, swc, x_l01, x_mx, x_gI, x_gL, x_gR, x_pI, x_pZ, x_pL, x_pR, x_ia, x_za, x_aa, x_ias, x_zas, x_aas, x_fac, x_fa, x_slen, x_sa, x_ac, x_oi, x_new, x_na, x_cS, x_cV, x_cI, x_rI, x_rZ, x_rL, x_r0, pa, short, oc, lg, lset, lset2, wide, cond_true, cond_false, true_and, and_true, ↓reduceIte, Bool.false_eq_true, true_or, or_true, lf_X4_init, hO.2.2.2.1]
    exact hR _ e1 e2 (fun q hq => ⟨(hO.2.2.2.2.1 q hq).1, (hO.2.2.2.2.1 q hq).2.1, (mS_n (by omega)).trans (hO.2.2.2.2.1 q hq).2.2.1, (hO.2.2.2.2.1 q hq).2.2.2⟩) ⟨hO.2.2.2.1, a3, b3, a1, a2, b1, b2⟩ (by simp only [mS_s, upd_s]; rfl)
  have st1 : ∀ M, Ob 93 4 [(0, 1, 6)] (S, I, L) M → J (mt_X4_init S.1 S.2.1) R 12 [some (.ref 93)] [] M := fun ⟨S1, I1, L1⟩ hO => by
    have e0 : S.1 = 93 + 1 := hO.1
    have e1 : S1.1 = 93 + 1 + 1 := hO.2.1
    have e2 : S1.2.1 = S.2.1 + 6 := hO.2.2.1
    refine J.of (tk_X4_init S.1 S.2.1) 200 fun ρ hρ => ?_
    simp only [hρ, x_c, x_il, x_ll, x_al, x_is, x_as, x_ls, x_inc, x_ii, x_iq, x_i1, x_l2, x_lq, x_lh, x_i2l, x_l2i, x_lcmp, x_dup, x_dup2, x_pop, x_if, x_ifn, x_ic, x_icn, x_go, x_sw, swc, x_l01, x_mx, x_gI, x_gL, x_gR, x_pI, x_pZ, x_pL, x_pR, x_ia, x_za, x_aa, x_ias, x_zas, x_aas, x_fac, x_fa, x_slen, x_sa, x_ac, x_oi, x_new, x_na, x_cS, x_cV, x_cI, x_rI, x_rZ, x_rL, x_r0, pa, short, oc, lg, lset, lset2, wide, cond_true, cond_false, true_and, and_true, ↓reduceIte, Bool.false_eq_true, true_or, or_true, lf_X4_init, show (6 : Int32).toNatClampNeg = 6 by decide]
    exact ⟨by decide, by decide, by omega, by omega, by omega, hO.2.2.2.1.na, st2 _ (hO.st (by decide))⟩
  have st0 : ∀ M, Ob 93 4 [] (S, I, L) M → J (mt_X4_init S.1 S.2.1) R 4 [some (.ref 93)] [] M := fun ⟨S1, I1, L1⟩ hO => by
    have e0 : S.1 = 93 + 1 := hO.1
    have e1 : S1.1 = 93 + 1 + 0 := hO.2.1
    have e2 : S1.2.1 = S.2.1 + 0 := hO.2.2.1
    refine J.of (tk_X4_init S.1 S.2.1) 200 fun ρ hρ => ?_
    simp only [hρ, x_c, x_il, x_ll, x_al, x_is, x_as, x_ls, x_inc, x_ii, x_iq, x_i1, x_l2, x_lq, x_lh, x_i2l, x_l2i, x_lcmp, x_dup, x_dup2, x_pop, x_if, x_ifn, x_ic, x_icn, x_go, x_sw, swc, x_l01, x_mx, x_gI, x_gL, x_gR, x_pI, x_pZ, x_pL, x_pR, x_ia, x_za, x_aa, x_ias, x_zas, x_aas, x_fac, x_fa, x_slen, x_sa, x_ac, x_oi, x_new, x_na, x_cS, x_cV, x_cI, x_rI, x_rZ, x_rL, x_r0, pa, short, oc, lg, lset, lset2, wide, cond_true, cond_false, true_and, and_true, ↓reduceIte, Bool.false_eq_true, true_or, or_true, lf_X4_init, show (6 : Int32).toNatClampNeg = 6 by decide]
    exact ⟨by decide, by decide, by omega, by omega, by omega, hO.2.2.2.1.na, st1 _ (hO.st (by decide))⟩
  refine J.of (tk_X4_init S.1 S.2.1) 200 fun ρ hρ => ?_
  simp only [hρ, x_c, x_il, x_ll, x_al, x_is, x_as, x_ls, x_inc, x_ii, x_iq, x_i1, x_l2, x_lq, x_lh, x_i2l, x_l2i, x_lcmp, x_dup, x_dup2, x_pop, x_if, x_ifn, x_ic, x_icn, x_go, x_sw, swc, x_l01, x_mx, x_gI, x_gL, x_gR, x_pI, x_pZ, x_pL, x_pR, x_ia, x_za, x_aa, x_ias, x_zas, x_aas, x_fac, x_fa, x_slen, x_sa, x_ac, x_oi, x_new, x_na, x_cS, x_cV, x_cI, x_rI, x_rZ, x_rL, x_r0, pa, short, oc, lg, lset, lset2, wide, cond_true, cond_false, true_and, and_true, ↓reduceIte, Bool.false_eq_true, true_or, or_true, lf_X4_init, x_o2]
  exact ⟨(show ¬ (93 : Nat) = 9999 by decide), st0 _ (Ob.zero hn ht)⟩
def il_X8_init : List (Nat × Instr × Nat) := [(0, .aload_n 0, 1), (1, .invokespecial 3, 3), (4, .aload_n 0, 1), (5, .aload_n 1, 1), (6, .putfield 9, 3), (9, .return_, 1)]
def mt_X8_init (n0 s0 : Nat) : Mt := (cX8_init, RX8, 2, none, ({ frames := 1, cells := 0, slots := 0, locals := 12 } : Room), true, none, some (n0, s0))
set_option maxRecDepth 100000 in
theorem dl_X8_init (n0 s0 : Nat) : ∀ q ∈ il_X8_init, decode (mt_X8_init n0 s0).1 q.1 = .ok q.2 := (by decide +kernel : ∀ q ∈ il_X8_init, decode cX8_init q.1 = .ok q.2)
def tb_X8_init (n0 s0 : Nat) : Tb := [(0, x_al 1 0, false),
  (1, x_o2 4, false),
  (4, x_al 5 0, false),
  (5, x_al 6 1, false),
  (6, x_pR 8 0 9, false),
  (9, x_r0, false)]
set_option maxRecDepth 100000 in
theorem tk_X8_init (n0 s0 : Nat) : TbOk (mt_X8_init n0 s0) (tb_X8_init n0 s0) :=
  tkc (s_aload_n (at_ (dl_X8_init n0 s0) 0 (ins := .aload_n 0) rfl)) (
  tkc (s_o2 (at_ (dl_X8_init n0 s0) 1 (ins := .invokespecial 3) rfl) (show Cond.methodLink RX8 3 Lib.objectInit ∈ tblG from (tg 199 (by decide +kernel) (by decide +kernel))) (Nat.le_of_ble_eq_true rfl) (Nat.le_of_ble_eq_true rfl)) (
  tkc (s_aload_n (at_ (dl_X8_init n0 s0) 2 (ins := .aload_n 0) rfl)) (
  tkc (s_aload_n (at_ (dl_X8_init n0 s0) 3 (ins := .aload_n 1) rfl)) (
  tkc (s_pR (at_ (dl_X8_init n0 s0) 4 (ins := .putfield 9) rfl) (by decide) (by decide) (by decide) (by decide) rfl rfl (show Cond.fieldLink RX8 9 (TCl 8 0).1 (TCl 8 0).2.1 (TCl 8 0).2.2.1 ∈ tblG from (tg 200 (by decide +kernel) (by decide +kernel)))) (
  tkc (s_r0 (at_ (dl_X8_init n0 s0) 5 (ins := .return_) rfl) rfl) ( tk0))))))
theorem lf_X8_init (n0 s0 : Nat) : lk (tb_X8_init n0 s0) 0 = (x_al 1 0, false) ∧ lk (tb_X8_init n0 s0) 1 = (x_o2 4, false) ∧ lk (tb_X8_init n0 s0) 4 = (x_al 5 0, false) ∧ lk (tb_X8_init n0 s0) 5 = (x_al 6 1, false) ∧ lk (tb_X8_init n0 s0) 6 = (x_pR 8 0 9, false) ∧ lk (tb_X8_init n0 s0) 9 = (x_r0, false) := ⟨rfl, rfl, rfl, rfl, rfl, rfl⟩
def P_X8_init : PTT := fun as M R => match as with
  | [.ref k, .ref x] => k = 18 ∧ x = 5 ∧ M.1.1 = 19 ∧ tO M.1 18 8 ∧ ∀ M', M'.1.1 = 19 → M'.1.2.1 = M.1.2.1 → Kp 18 M M' → IsWa M'.1 → R none M'
  | _ => False
set_option maxRecDepth 20000 in
theorem ok_X8_init : Ok yX8_init (mt_X8_init 0 0) P_X8_init := by
  refine Ok.ofI (mtf := mt_X8_init) (fun _ _ => rfl) (by decide) rfl rfl fun av ⟨S, I, L⟩ R hP => ?_
  unfold P_X8_init at hP
  split at hP
  case h_2 => exact hP.elim
  rename_i k x
  obtain ⟨k, rfl⟩ : ∃ q : Nat, q = k := ⟨k, rfl⟩
  obtain ⟨x, rfl⟩ : ∃ q : Nat, q = x := ⟨x, rfl⟩
  refine ⟨by simp [ent, wide], ?_⟩
  show J (mt_X8_init S.1 S.2.1) R 0 [some (.ref k), some (.ref x)] [] (S, I, L)
  try dsimp only at hP
  obtain ⟨rfl, rfl, hn, ht, hR⟩ := hP
  have hn' : S.1 = 19 := hn
  refine J.of (tk_X8_init S.1 S.2.1) 200 fun ρ hρ => ?_
  simp only [hρ, x_c, x_il, x_ll, x_al, x_is, x_as, x_ls, x_inc, x_ii, x_iq, x_i1, x_l2, x_lq, x_lh, x_i2l, x_l2i, x_lcmp, x_dup, x_dup2, x_pop, x_if, x_ifn, x_ic, x_icn, x_go, x_sw, swc, x_l01, x_mx, x_gI, x_gL, x_gR, x_pI, x_pZ, x_pL, x_pR, x_ia, x_za, x_aa, x_ias, x_zas, x_aas, x_fac, x_fa, x_slen, x_sa, x_ac, x_oi, x_new, x_na, x_cS, x_cV, x_cI, x_rI, x_rZ, x_rL, x_r0, pa, short, oc, lg, lset, lset2, wide, cond_true, cond_false, true_and, and_true, ↓reduceIte, Bool.false_eq_true, true_or, or_true, lf_X8_init, x_o2, ht]
  exact ⟨(show ¬ (18 : Nat) = 9999 by decide), hR _ hn rfl (fun q hq => ⟨rfl, mS_n (by omega), rfl, rfl⟩) ⟨ht, by show mS S.2.2.2 18 _ 18 0 = 5; rw [mS_s]; rfl⟩⟩
def il_X6_init : List (Nat × Instr × Nat) := [(0, .aload_n 0, 1), (1, .invokespecial 3, 3), (4, .aload_n 0, 1), (5, .aload_n 1, 1), (6, .putfield 9, 3), (9, .aload_n 0, 1), (10, .bipush 9, 2), (12, .newarray .int, 2), (14, .putfield 15, 3), (17, .return_, 1)]
def mt_X6_init (n0 s0 : Nat) : Mt := (cX6_init, RX6, 2, none, ({ frames := 1, cells := 1, slots := 9, locals := 12 } : Room), true, none, some (n0, s0))
set_option maxRecDepth 100000 in
theorem dl_X6_init (n0 s0 : Nat) : ∀ q ∈ il_X6_init, decode (mt_X6_init n0 s0).1 q.1 = .ok q.2 := (by decide +kernel : ∀ q ∈ il_X6_init, decode cX6_init q.1 = .ok q.2)
def tb_X6_init (n0 s0 : Nat) : Tb := [(0, x_al 1 0, false),
  (1, x_o2 4, false),
  (4, x_al 5 0, true),
  (5, x_al 6 1, false),
  (6, x_pR 6 0 9, false),
  (9, x_al 10 0, true),
  (10, x_c 12 (.int 9), false),
  (12, x_na 1 14 (n0 + 1, s0 + 9), false),
  (14, x_pR 6 1 17, false),
  (17, x_r0, false)]
set_option maxRecDepth 100000 in
theorem tk_X6_init (n0 s0 : Nat) : TbOk (mt_X6_init n0 s0) (tb_X6_init n0 s0) :=
  tkc (s_aload_n (at_ (dl_X6_init n0 s0) 0 (ins := .aload_n 0) rfl)) (
  tkc (s_o2 (at_ (dl_X6_init n0 s0) 1 (ins := .invokespecial 3) rfl) (show Cond.methodLink RX6 3 Lib.objectInit ∈ tblG from (tg 209 (by decide +kernel) (by decide +kernel))) (Nat.le_of_ble_eq_true rfl) (Nat.le_of_ble_eq_true rfl)) (
  tkc (s_aload_n (at_ (dl_X6_init n0 s0) 2 (ins := .aload_n 0) rfl)) (
  tkc (s_aload_n (at_ (dl_X6_init n0 s0) 3 (ins := .aload_n 1) rfl)) (
  tkc (s_pR (at_ (dl_X6_init n0 s0) 4 (ins := .putfield 9) rfl) (by decide) (by decide) (by decide) (by decide) rfl rfl (show Cond.fieldLink RX6 9 (TCl 6 0).1 (TCl 6 0).2.1 (TCl 6 0).2.2.1 ∈ tblG from (tg 210 (by decide +kernel) (by decide +kernel)))) (
  tkc (s_aload_n (at_ (dl_X6_init n0 s0) 5 (ins := .aload_n 0) rfl)) (
  tkc (s_bipush (at_ (dl_X6_init n0 s0) 6 (ins := .bipush 9) rfl) (by first | rfl | decide)) (
  tkc (s_na1 (q := (n0, s0)) (at_ (dl_X6_init n0 s0) 7 (ins := .newarray .int) rfl) rfl rfl (tg 102 (by decide +kernel) (by decide +kernel))) (
  tkc (s_pR (at_ (dl_X6_init n0 s0) 8 (ins := .putfield 15) rfl) (by decide) (by decide) (by decide) (by decide) rfl rfl (show Cond.fieldLink RX6 15 (TCl 6 1).1 (TCl 6 1).2.1 (TCl 6 1).2.2.1 ∈ tblG from (tg 211 (by decide +kernel) (by decide +kernel)))) (
  tkc (s_r0 (at_ (dl_X6_init n0 s0) 9 (ins := .return_) rfl) rfl) ( tk0))))))))))
theorem lf_X6_init (n0 s0 : Nat) : lk (tb_X6_init n0 s0) 0 = (x_al 1 0, false) ∧ lk (tb_X6_init n0 s0) 1 = (x_o2 4, false) ∧ lk (tb_X6_init n0 s0) 4 = (x_al 5 0, true) ∧ lk (tb_X6_init n0 s0) 5 = (x_al 6 1, false) ∧ lk (tb_X6_init n0 s0) 6 = (x_pR 6 0 9, false) ∧ lk (tb_X6_init n0 s0) 9 = (x_al 10 0, true) ∧ lk (tb_X6_init n0 s0) 10 = (x_c 12 (.int 9), false) ∧ lk (tb_X6_init n0 s0) 12 = (x_na 1 14 (n0 + 1, s0 + 9), false) ∧ lk (tb_X6_init n0 s0) 14 = (x_pR 6 1 17, false) ∧ lk (tb_X6_init n0 s0) 17 = (x_r0, false) := ⟨rfl, rfl, rfl, rfl, rfl, rfl, rfl, rfl, rfl, rfl⟩
def P_X6_init : PTT := fun as M R => match as with
  | [.ref k, .ref x] => k = 19 ∧ x = 5 ∧ M.1.1 = 20 ∧ tO M.1 19 6 ∧ ∀ M', M'.1.1 = 21 → M'.1.2.1 = M.1.2.1 + 9 → Kp 19 M M' → IsSu M'.1 → R none M'
  | _ => False
set_option maxRecDepth 20000 in
theorem ok_X6_init : Ok yX6_init (mt_X6_init 0 0) P_X6_init := by
  refine Ok.ofI (mtf := mt_X6_init) (fun _ _ => rfl) (by decide) rfl rfl fun av ⟨S, I, L⟩ R hP => ?_
  unfold P_X6_init at hP
  split at hP
  case h_2 => exact hP.elim
  rename_i k x
  obtain ⟨k, rfl⟩ : ∃ q : Nat, q = k := ⟨k, rfl⟩
  obtain ⟨x, rfl⟩ : ∃ q : Nat, q = x := ⟨x, rfl⟩
  refine ⟨by simp [ent, wide], ?_⟩
  show J (mt_X6_init S.1 S.2.1) R 0 [some (.ref k), some (.ref x)] [] (S, I, L)
  try dsimp only at hP
  obtain ⟨rfl, rfl, hn, ht, hR⟩ := hP
  have hn' : S.1 = 20 := hn
  refine J.of (tk_X6_init S.1 S.2.1) 200 fun ρ hρ => ?_
  simp only [hρ, x_c, x_il, x_ll, x_al, x_is, x_as, x_ls, x_inc, x_ii, x_iq, x_i1, x_l2, x_lq, x_lh, x_i2l, x_l2i, x_lcmp, x_dup, x_dup2, x_pop, x_if, x_ifn, x_ic, x_icn, x_go, x_sw, swc, x_l01, x_mx, x_gI, x_gL, x_gR, x_pI, x_pZ, x_pL, x_pR, x_ia, x_za, x_aa, x_ias, x_zas, x_aas, x_fac, x_fa, x_slen, x_sa, x_ac, x_oi, x_new, x_na, x_cS, x_cV, x_cI, x_rI, x_rZ, x_rL, x_r0, pa, short, oc, lg, lset, lset2, wide, cond_true, cond_false, true_and, and_true, ↓reduceIte, Bool.false_eq_true, true_or, or_true, lf_X6_init, x_o2]
  refine ⟨(show ¬ (19 : Nat) = 9999 by decide), ?_⟩
  refine J.of (tk_X6_init S.1 S.2.1) 200 fun ρ hρ => ?_
  simp only [hρ, x_c, x_il, x_ll, x_al, x_is, x_as, x_ls, x_inc, x_ii, x_iq, x_i1, x_l2, x_lq, x_lh, x_i2l, x_l2i, x_lcmp, x_dup, x_dup2, x_pop, x_if, x_ifn, x_ic, x_icn, x_go, x_sw, swc, x_l01, x_mx, x_gI, x_gL, x_gR, x_pI, x_pZ, x_pL, x_pR, x_ia, x_za, x_aa, x_ias, x_zas, x_aas, x_fac, x_fa, x_slen, x_sa, x_ac, x_oi, x_new, x_na, x_cS, x_cV, x_cI, x_rI, x_rZ, x_rL, x_r0, pa, short, oc, lg, lset, lset2, wide, cond_true, cond_false, true_and, and_true, ↓reduceIte, Bool.false_eq_true, true_or, or_true, lf_X6_init, ht, true_and]
  refine J.of (tk_X6_init S.1 S.2.1) 200 fun ρ hρ => ?_
  simp only [hρ, x_c, x_il, x_ll, x_al, x_is, x_as, x_ls, x_inc, x_ii, x_iq, x_i1, x_l2, x_lq, x_lh, x_i2l, x_l2i, x_lcmp, x_dup, x_dup2, x_pop, x_if, x_ifn, x_ic, x_icn, x_go, x_sw, swc, x_l01, x_mx, x_gI, x_gL, x_gR, x_pI, x_pZ, x_pL, x_pR, x_ia, x_za, x_aa, x_ias, x_zas, x_aas, x_fac, x_fa, x_slen, x_sa, x_ac, x_oi, x_new, x_na, x_cS, x_cV, x_cI, x_rI, x_rZ, x_rL, x_r0, pa, short, oc, lg, lset, lset2, wide, cond_true, cond_false, true_and, and_true, ↓reduceIte, Bool.false_eq_true, true_or, or_true, lf_X6_init, show (9 : Int32).toNatClampNeg = 9 by decide]
  have ht2 : tO (S.1, S.2.1, S.2.2.1, mS S.2.2.2 19 (va_up (S.2.2.2 19) 0 5)) 19 6 := ht
  have hO := (Ob.zero (M := ((S.1, S.2.1, S.2.2.1, mS S.2.2.2 19 (va_up (S.2.2.2 19) 0 5)), I, L)) hn ht2).st (f := 1) (t := 1) (n := 9) (by simp)
  obtain ⟨a1, a2, a3, a4⟩ := hO.a (r := 0) rfl
  refine ⟨by decide, by decide, by omega, by omega, by omega, ht2.na, hR _ (by rw [hn']) rfl (fun q hq => ?_) ⟨hO.2.2.2.1, ?_, a3, a1, a2⟩⟩
  · have := hO.2.2.2.2.1 q hq
    exact ⟨this.1, this.2.1.trans (mS_n (by omega)), this.2.2.1, this.2.2.2⟩
  · have := hO.2.2.2.2.2.2.2.1 0 (by simp)
    rw [show (((S.1, S.2.1, S.2.2.1, mS S.2.2.2 19 (va_up (S.2.2.2 19) 0 5)), I, L) : Mem).1.2.2.2 19 0 = 5 from by show mS S.2.2.2 19 (va_up (S.2.2.2 19) 0 5) 19 0 = 5; rw [mS_s]; rfl] at this
    exact this
