/-! CONSTRUCTOR of the class -/
def a0 : AS := (2, 0, 0, 0, fun _ => 0, fun _ => 0, fun _ => 0, fun _ => 0)
def g0 : GS := (0, fun _ => 0, a0, 0, fun _ => a0, fun _ => false, fun _ => a0, 0, fun _ => 0, fun _ => 0, 0)
theorem a0_ok : AOk a0 := ⟨⟨by decide, by decide, by decide⟩, fun c hc => absurd hc (Nat.not_lt_zero c), ⟨0, by omega, by decide⟩, fun _ _ => in31, fun _ _ => in99, fun _ _ => in31⟩
theorem g0_ok : GOk g0 := ⟨⟨Nat.zero_le _, fun j hj => absurd hj (Nat.not_lt_zero j)⟩, a0_ok, ⟨Nat.zero_le _, fun j hj => absurd hj (Nat.not_lt_zero j)⟩, fun i _ h => absurd h Bool.false_ne_true, Nat.zero_le _, fun j hj => absurd hj (Nat.not_lt_zero j)⟩
/-- a step of the class's constructor: below n nothing is another, but the field f of the object -/
def Up (n f : Nat) (M M' : Mem) : Prop := Gr 1 n M.1 M'.1 ∧ (∀ q, q < n → M'.2.1 q = M.2.1 q ∧ M'.2.2 q = M.2.2 q) ∧ ∀ j, j ≠ f → M'.1.2.2.2 0 j = M.1.2.2.2 0 j
theorem Up.w {n n' f : Nat} {M M' : Mem} (h : Up n f M M') (hn : n' ≤ n) : Up n' f M M' := ⟨h.1.w (Nat.le_refl 1) hn, fun q hq => h.2.1 q (by omega), h.2.2⟩
theorem Up.pu {M M' : Mem} {n f x : Nat} (h : Kp n M M') (h0 : 0 < n) (hn : n ≤ M'.1.1) : Up n f M (puM M' 0 f x) := by
  refine ⟨⟨hn, fun q hq => ⟨(h q hq).1, fun hz => ?_⟩⟩, fun q hq => ⟨(h q hq).2.2.1, (h q hq).2.2.2⟩, fun j hj => ?_⟩
  · exact (mS_n (by omega)).trans (h q hq).2.1
  · show mS M'.1.2.2.2 0 (va_up (M'.1.2.2.2 0) f x) 0 j = _
    rw [mS_s]
    unfold va_up
    rw [if_neg hj, (h 0 h0).2.1]
def C0 (M0 M : Mem) : Prop := tO M.1 0 9 ∧ M.2.1 0 = M0.2.1 0 ∧ M.2.2 0 = M0.2.2 0
def C1 (M : Mem) : Prop := sR M.1 0 0 = 1 ∧ IsTx M.1 ∧ IsRd M.1 3 ∧ M.2.1 1 2 = nI 0
def C2 (M : Mem) : Prop := sR M.1 0 1 = 5 ∧ IsSt M.1 5 ∧ StN M.2.1 5
def C3 (M : Mem) : Prop := sR M.1 0 2 = 10 ∧ IsSt M.1 10
def C4 (M : Mem) : Prop := sR M.1 0 3 = 15 ∧ IsDc M.1 ∧ OrdId M.2.1
def C5 (M : Mem) : Prop := sR M.1 0 4 = 18 ∧ IsWa M.1
def C6 (M : Mem) : Prop := sR M.1 0 5 = 19 ∧ IsSu M.1
def C7 (M : Mem) : Prop := sR M.1 0 6 = 21 ∧ IsAc M.1 ∧ M.2.1 21 1 = nI 0 ∧ M.2.1 21 2 = nI 0
def C8 (M : Mem) : Prop := sR M.1 0 7 = 93 ∧ IsSe M.1 ∧ M.2.1 93 2 = nI 0
section UPS
variable {n f : Nat} {M0 M M' : Mem}
theorem C0.u (h : C0 M0 M) (u : Up n f M M') (hn : 1 ≤ n) : C0 M0 M' := ⟨u.1.O (by omega) h.1, (u.2.1 0 (by omega)).1.trans h.2.1, (u.2.1 0 (by omega)).2.trans h.2.2⟩
theorem StN.i {I I' : MI} {k : Nat} (h : StN I k) (hi : ∀ q, k ≤ q → q < k + 5 → I' q = I q) : StN I' k := by
  unfold StN at h ⊢
  rw [hi k (by omega) (by omega), hi (k + 1) (by omega) (by omega), hi (k + 2) (by omega) (by omega), hi (k + 3) (by omega) (by omega), hi (k + 4) (by omega) (by omega)]
  exact h
theorem C1.u (h : C1 M) (u : Up n f M M') (hn : 5 ≤ n) (hf : 0 ≠ f) : C1 M' := ⟨(u.2.2 0 hf).trans h.1, h.2.1.gr u.1 (by omega) (by omega), h.2.2.1.gr u.1 (by omega) (by omega), by rw [(u.2.1 1 (by omega)).1]; exact h.2.2.2⟩
theorem C2.u (h : C2 M) (u : Up n f M M') (hn : 10 ≤ n) (hf : 1 ≠ f) : C2 M' := ⟨(u.2.2 1 hf).trans h.1, h.2.1.gr u.1 (by omega) (by omega), h.2.2.i (fun q a b => (u.2.1 q (by omega)).1)⟩
theorem C3.u (h : C3 M) (u : Up n f M M') (hn : 15 ≤ n) (hf : 2 ≠ f) : C3 M' := ⟨(u.2.2 2 hf).trans h.1, h.2.gr u.1 (by omega) (by omega)⟩
theorem C4.u (h : C4 M) (u : Up n f M M') (hn : 18 ≤ n) (hf : 3 ≠ f) : C4 M' := ⟨(u.2.2 3 hf).trans h.1, h.2.1.gr u.1 (by omega) (by omega), h.2.2.fr (u.2.1 16 (by omega)).1⟩
theorem C5.u (h : C5 M) (u : Up n f M M') (hn : 19 ≤ n) (hf : 4 ≠ f) : C5 M' := ⟨(u.2.2 4 hf).trans h.1, h.2.gr u.1 (by omega) (by omega)⟩
theorem C6.u (h : C6 M) (u : Up n f M M') (hn : 21 ≤ n) (hf : 5 ≠ f) : C6 M' := ⟨(u.2.2 5 hf).trans h.1, h.2.gr u.1 (by omega) (by omega)⟩
theorem C7.u (h : C7 M) (u : Up n f M M') (hn : 93 ≤ n) (hf : 6 ≠ f) : C7 M' := ⟨(u.2.2 6 hf).trans h.1, h.2.1.gr u.1 (by omega) (by omega), by rw [(u.2.1 21 (by omega)).1]; exact h.2.2.1, by rw [(u.2.1 21 (by omega)).1]; exact h.2.2.2⟩
theorem C8.u (h : C8 M) (u : Up n f M M') (hn : 96 ≤ n) (hf : 7 ≠ f) : C8 M' := ⟨(u.2.2 7 hf).trans h.1, h.2.1.gr u.1 (by omega) (by omega), by rw [(u.2.1 93 (by omega)).1]; exact h.2.2⟩
end UPS
def B1 (M0 M : Mem) : Prop := C0 M0 M ∧ C1 M
def B2 (M0 M : Mem) : Prop := B1 M0 M ∧ C2 M
def B3 (M0 M : Mem) : Prop := B2 M0 M ∧ C3 M
def B4 (M0 M : Mem) : Prop := B3 M0 M ∧ C4 M
def B5 (M0 M : Mem) : Prop := B4 M0 M ∧ C5 M
def B6 (M0 M : Mem) : Prop := B5 M0 M ∧ C6 M
def B7 (M0 M : Mem) : Prop := B6 M0 M ∧ C7 M
def B8 (M0 M : Mem) : Prop := B7 M0 M ∧ C8 M
section UPT
variable {n f : Nat} {M0 M M' : Mem}
theorem B1.u (h : B1 M0 M) (u : Up n f M M') (hn : 5 ≤ n) (hf : 0 < f) : B1 M0 M' := ⟨h.1.u u (by omega), h.2.u u hn (by omega)⟩
theorem B2.u (h : B2 M0 M) (u : Up n f M M') (hn : 10 ≤ n) (hf : 1 < f) : B2 M0 M' := ⟨h.1.u u (by omega) (by omega), h.2.u u hn (by omega)⟩
theorem B3.u (h : B3 M0 M) (u : Up n f M M') (hn : 15 ≤ n) (hf : 2 < f) : B3 M0 M' := ⟨h.1.u u (by omega) (by omega), h.2.u u hn (by omega)⟩
theorem B4.u (h : B4 M0 M) (u : Up n f M M') (hn : 18 ≤ n) (hf : 3 < f) : B4 M0 M' := ⟨h.1.u u (by omega) (by omega), h.2.u u hn (by omega)⟩
theorem B5.u (h : B5 M0 M) (u : Up n f M M') (hn : 19 ≤ n) (hf : 4 < f) : B5 M0 M' := ⟨h.1.u u (by omega) (by omega), h.2.u u hn (by omega)⟩
theorem B6.u (h : B6 M0 M) (u : Up n f M M') (hn : 21 ≤ n) (hf : 5 < f) : B6 M0 M' := ⟨h.1.u u (by omega) (by omega), h.2.u u hn (by omega)⟩
theorem B7.u (h : B7 M0 M) (u : Up n f M M') (hn : 93 ≤ n) (hf : 6 < f) : B7 M0 M' := ⟨h.1.u u (by omega) (by omega), h.2.u u hn (by omega)⟩
theorem B8.u (h : B8 M0 M) (u : Up n f M M') (hn : 96 ≤ n) (hf : 7 < f) : B8 M0 M' := ⟨h.1.u u (by omega) (by omega), h.2.u u hn (by omega)⟩
end UPT
/-- the slots: the row at 96, i states behind it -/
def C9 (i : Nat) (M : Mem) : Prop := sR M.1 0 8 = 96 ∧ tA M.1 96 3 ∧ ln M.1 96 = 2 ∧ ∀ r, r < i → sR M.1 96 r = 97 + 5 * r ∧ IsSt M.1 (97 + 5 * r)
theorem SR_a0 {I : MI} (h : StN I 5) : SR I 5 a0 := by
  obtain ⟨⟨h1, h2, h3, h4⟩, h5⟩ := h
  exact ⟨h1, h2, h3, h4, fun c hc => absurd hc (Nat.not_lt_zero c), fun b _ => (h5 b).2.1, fun b _ => (h5 b).2.2.1, fun j _ => (h5 j).2.2.2⟩
def il_X9_init : List (Nat × Instr × Nat) := [(0, .aload_n 0, 1), (1, .invokespecial 1, 3), (4, .aload_n 0, 1), (5, .new 7, 3), (8, .dup, 1), (9, .invokespecial 9, 3), (12, .putfield 10, 3), (15, .aload_n 0, 1), (16, .new 16, 3), (19, .dup, 1), (20, .invokespecial 18, 3), (23, .putfield 19, 3), (26, .aload_n 0, 1), (27, .new 16, 3), (30, .dup, 1), (31, .invokespecial 18, 3), (34, .putfield 23, 3), (37, .aload_n 0, 1), (38, .new 26, 3), (41, .dup, 1), (42, .invokespecial 28, 3), (45, .putfield 29, 3), (48, .aload_n 0, 1), (49, .new 33, 3), (52, .dup, 1), (53, .aload_n 0, 1), (54, .getfield 19, 3), (57, .invokespecial 35, 3), (60, .putfield 38, 3), (63, .aload_n 0, 1), (64, .new 42, 3), (67, .dup, 1), (68, .aload_n 0, 1), (69, .getfield 19, 3), (72, .invokespecial 44, 3), (75, .putfield 45, 3), (78, .aload_n 0, 1), (79, .new 49, 3), (82, .dup, 1), (83, .invokespecial 51, 3), (86, .putfield 52, 3), (89, .aload_n 0, 1), (90, .new 56, 3), (93, .dup, 1), (94, .invokespecial 58, 3), (97, .putfield 59, 3), (100, .aload_n 0, 1), (101, .iconst 2, 1), (102, .anewarray 16, 3), (105, .putfield 63, 3), (108, .iconst 0, 1), (109, .istore_n 1, 1), (110, .iload_n 1, 1), (111, .iconst 2, 1), (112, .if_icmp .ge 22, 3), (115, .aload_n 0, 1), (116, .getfield 63, 3), (119, .iload_n 1, 1), (120, .new 16, 3), (123, .dup, 1), (124, .invokespecial 18, 3), (127, .aastore, 1), (128, .iinc 1 1, 3), (131, .goto (-21), 3), (134, .aload_n 0, 1), (135, .iconst 2, 1), (136, .newarray .boolean, 2), (138, .putfield 67, 3), (141, .aload_n 0, 1), (142, .lconst 0, 1), (143, .putfield 71, 3), (146, .return_, 1)]
def mt_X9_init (n0 s0 : Nat) : Mt := (cX9_init, RX9, 2, none, ({ frames := 3, cells := 107, slots := 1702, locals := 53 } : Room), true, none, some (n0, s0))
set_option maxRecDepth 100000 in
theorem dl_X9_init (n0 s0 : Nat) : ∀ q ∈ il_X9_init, decode (mt_X9_init n0 s0).1 q.1 = .ok q.2 := (by decide +kernel : ∀ q ∈ il_X9_init, decode cX9_init q.1 = .ok q.2)
def tb_X9_init (n0 s0 : Nat) : Tb := [(0, x_al 1 0, false),
  (1, x_o2 4, false),
  (4, x_al 5 0, true),
  (5, x_new 7 8 (n0 + 107, s0 + 1702), false),
  (8, x_dup 9, false),
  (9, x_cI 0 P_X7_init 12 3 83 (n0 + 107, s0 + 1702), false),
  (12, x_pR 9 0 15, false),
  (15, x_al 16 0, true),
  (16, x_new 5 19 (n0 + 107, s0 + 1702), false),
  (19, x_dup 20, false),
  (20, x_cI 0 P_X5_init 23 4 78 (n0 + 107, s0 + 1702), false),
  (23, x_pR 9 1 26, false),
  (26, x_al 27 0, true),
  (27, x_new 5 30 (n0 + 107, s0 + 1702), false),
  (30, x_dup 31, false),
  (31, x_cI 0 P_X5_init 34 4 78 (n0 + 107, s0 + 1702), false),
  (34, x_pR 9 2 37, false),
  (37, x_al 38 0, true),
  (38, x_new 1 41 (n0 + 107, s0 + 1702), false),
  (41, x_dup 42, false),
  (42, x_cI 0 P_X1_init 45 2 15 (n0 + 107, s0 + 1702), false),
  (45, x_pR 9 3 48, false),
  (48, x_al 49 0, true),
  (49, x_new 8 52 (n0 + 107, s0 + 1702), false),
  (52, x_dup 53, false),
  (53, x_al 54 0, false),
  (54, x_gR 9 1 57, false),
  (57, x_cI 1 P_X8_init 60 0 0 (n0 + 107, s0 + 1702), false),
  (60, x_pR 9 4 63, false),
  (63, x_al 64 0, true),
  (64, x_new 6 67 (n0 + 107, s0 + 1702), false),
  (67, x_dup 68, false),
  (68, x_al 69 0, false),
  (69, x_gR 9 1 72, false),
  (72, x_cI 1 P_X6_init 75 1 9 (n0 + 107, s0 + 1702), false),
  (75, x_pR 9 5 78, false),
  (78, x_al 79 0, true),
  (79, x_new 0 82 (n0 + 107, s0 + 1702), false),
  (82, x_dup 83, false),
  (83, x_cI 0 P_X0_init 86 71 1218 (n0 + 107, s0 + 1702), false),
  (86, x_pR 9 6 89, false),
  (89, x_al 90 0, true),
  (90, x_new 4 93 (n0 + 107, s0 + 1702), false),
  (93, x_dup 94, false),
  (94, x_cI 0 P_X4_init 97 2 12 (n0 + 107, s0 + 1702), false),
  (97, x_pR 9 7 100, false),
  (100, x_al 101 0, true),
  (101, x_c 102 (.int 2), false),
  (102, x_na 3 105 (n0 + 107, s0 + 1702), false),
  (105, x_pR 9 8 108, false),
  (108, x_c 109 (.int 0), true),
  (109, x_is 110 1, false),
  (110, x_il 111 1, true),
  (111, x_c 112 (.int 2), false),
  (112, x_ic 134 115 (fun x y : Int32 => y ≤ x), false),
  (115, x_al 116 0, false),
  (116, x_gR 9 8 119, false),
  (119, x_il 120 1, false),
  (120, x_new 5 123 (n0 + 107, s0 + 1702), false),
  (123, x_dup 124, false),
  (124, x_cI 0 P_X5_init 127 4 78 (n0 + 107, s0 + 1702), false),
  (127, x_aas 128, false),
  (128, x_inc 131 1 1, false),
  (131, x_go 110, false),
  (134, x_al 135 0, true),
  (135, x_c 136 (.int 2), false),
  (136, x_na 2 138 (n0 + 107, s0 + 1702), false),
  (138, x_pR 9 9 141, false),
  (141, x_al 142 0, false),
  (142, x_c 143 (.long 0), false),
  (143, x_pL 9 10 146, false),
  (146, x_r0, false)]
set_option maxRecDepth 100000 in
theorem tk_X9_init (n0 s0 : Nat) : TbOk (mt_X9_init n0 s0) (tb_X9_init n0 s0) :=
  tkc (s_aload_n (at_ (dl_X9_init n0 s0) 0 (ins := .aload_n 0) rfl)) (
  tkc (s_o2 (at_ (dl_X9_init n0 s0) 1 (ins := .invokespecial 1) rfl) (show Cond.methodLink RX9 1 Lib.objectInit ∈ tblG from (tg 61 (by decide +kernel) (by decide +kernel))) (Nat.le_of_ble_eq_true rfl) (Nat.le_of_ble_eq_true rfl)) (
  tkc (s_aload_n (at_ (dl_X9_init n0 s0) 2 (ins := .aload_n 0) rfl)) (
  tkc (s_new (q := (n0, s0)) (at_ (dl_X9_init n0 s0) 3 (ins := .new 7) rfl) rfl rfl (show Cond.classLink RX9 7 (RCl 7) ∈ tblG from (tg 64 (by decide +kernel) (by decide +kernel))) (tg 65 (by decide +kernel) (by decide +kernel)) (tg 43 (by decide +kernel) (by decide +kernel))) (
  tkc (s_dup (at_ (dl_X9_init n0 s0) 4 (ins := .dup) rfl)) (
  tkc (s_cI (q := (n0, s0)) ok_X7_init (at_ (dl_X9_init n0 s0) 5 (ins := .invokespecial 9) rfl) rfl rfl rfl (show Cond.methodLink RX9 9 yX7_init ∈ tblG from (tg 66 (by decide +kernel) (by decide +kernel))) (tg 67 (by decide +kernel) (by decide +kernel)) (tg 43 (by decide +kernel) (by decide +kernel)) (tg 68 (by decide +kernel) (by decide +kernel)) rfl (⟨by decide, by decide, by decide +kernel⟩) (⟨(Nat.le_of_ble_eq_true rfl), (Nat.le_of_ble_eq_true rfl)⟩) rfl rfl) (
  tkc (s_pR (at_ (dl_X9_init n0 s0) 6 (ins := .putfield 10) rfl) (by decide) (by decide) (by decide) (by decide) rfl rfl (show Cond.fieldLink RX9 10 (TCl 9 0).1 (TCl 9 0).2.1 (TCl 9 0).2.2.1 ∈ tblG from (tg 254 (by decide +kernel) (by decide +kernel)))) (
  tkc (s_aload_n (at_ (dl_X9_init n0 s0) 7 (ins := .aload_n 0) rfl)) (
  tkc (s_new (q := (n0, s0)) (at_ (dl_X9_init n0 s0) 8 (ins := .new 16) rfl) rfl rfl (show Cond.classLink RX9 16 (RCl 5) ∈ tblG from (tg 115 (by decide +kernel) (by decide +kernel))) (tg 116 (by decide +kernel) (by decide +kernel)) (tg 45 (by decide +kernel) (by decide +kernel))) (
  tkc (s_dup (at_ (dl_X9_init n0 s0) 9 (ins := .dup) rfl)) (
  tkc (s_cI (q := (n0, s0)) ok_X5_init (at_ (dl_X9_init n0 s0) 10 (ins := .invokespecial 18) rfl) rfl rfl rfl (show Cond.methodLink RX9 18 yX5_init ∈ tblG from (tg 117 (by decide +kernel) (by decide +kernel))) (tg 118 (by decide +kernel) (by decide +kernel)) (tg 45 (by decide +kernel) (by decide +kernel)) (tg 119 (by decide +kernel) (by decide +kernel)) rfl (⟨by decide, by decide, by decide +kernel⟩) (⟨(Nat.le_of_ble_eq_true rfl), (Nat.le_of_ble_eq_true rfl)⟩) rfl rfl) (
  tkc (s_pR (at_ (dl_X9_init n0 s0) 11 (ins := .putfield 19) rfl) (by decide) (by decide) (by decide) (by decide) rfl rfl (show Cond.fieldLink RX9 19 (TCl 9 1).1 (TCl 9 1).2.1 (TCl 9 1).2.2.1 ∈ tblG from (tg 255 (by decide +kernel) (by decide +kernel)))) (
  tkc (s_aload_n (at_ (dl_X9_init n0 s0) 12 (ins := .aload_n 0) rfl)) (
  tkc (s_new (q := (n0, s0)) (at_ (dl_X9_init n0 s0) 13 (ins := .new 16) rfl) rfl rfl (show Cond.classLink RX9 16 (RCl 5) ∈ tblG from (tg 115 (by decide +kernel) (by decide +kernel))) (tg 116 (by decide +kernel) (by decide +kernel)) (tg 45 (by decide +kernel) (by decide +kernel))) (
  tkc (s_dup (at_ (dl_X9_init n0 s0) 14 (ins := .dup) rfl)) (
  tkc (s_cI (q := (n0, s0)) ok_X5_init (at_ (dl_X9_init n0 s0) 15 (ins := .invokespecial 18) rfl) rfl rfl rfl (show Cond.methodLink RX9 18 yX5_init ∈ tblG from (tg 117 (by decide +kernel) (by decide +kernel))) (tg 118 (by decide +kernel) (by decide +kernel)) (tg 45 (by decide +kernel) (by decide +kernel)) (tg 119 (by decide +kernel) (by decide +kernel)) rfl (⟨by decide, by decide, by decide +kernel⟩) (⟨(Nat.le_of_ble_eq_true rfl), (Nat.le_of_ble_eq_true rfl)⟩) rfl rfl) (
  tkc (s_pR (at_ (dl_X9_init n0 s0) 16 (ins := .putfield 23) rfl) (by decide) (by decide) (by decide) (by decide) rfl rfl (show Cond.fieldLink RX9 23 (TCl 9 2).1 (TCl 9 2).2.1 (TCl 9 2).2.2.1 ∈ tblG from (tg 256 (by decide +kernel) (by decide +kernel)))) (
  tkc (s_aload_n (at_ (dl_X9_init n0 s0) 17 (ins := .aload_n 0) rfl)) (
  tkc (s_new (q := (n0, s0)) (at_ (dl_X9_init n0 s0) 18 (ins := .new 26) rfl) rfl rfl (show Cond.classLink RX9 26 (RCl 1) ∈ tblG from (tg 168 (by decide +kernel) (by decide +kernel))) (tg 169 (by decide +kernel) (by decide +kernel)) (tg 46 (by decide +kernel) (by decide +kernel))) (
  tkc (s_dup (at_ (dl_X9_init n0 s0) 19 (ins := .dup) rfl)) (
  tkc (s_cI (q := (n0, s0)) ok_X1_init (at_ (dl_X9_init n0 s0) 20 (ins := .invokespecial 28) rfl) rfl rfl rfl (show Cond.methodLink RX9 28 yX1_init ∈ tblG from (tg 170 (by decide +kernel) (by decide +kernel))) (tg 171 (by decide +kernel) (by decide +kernel)) (tg 46 (by decide +kernel) (by decide +kernel)) (tg 172 (by decide +kernel) (by decide +kernel)) rfl (⟨by decide, by decide, by decide +kernel⟩) (⟨(Nat.le_of_ble_eq_true rfl), (Nat.le_of_ble_eq_true rfl)⟩) rfl rfl) (
  tkc (s_pR (at_ (dl_X9_init n0 s0) 21 (ins := .putfield 29) rfl) (by decide) (by decide) (by decide) (by decide) rfl rfl (show Cond.fieldLink RX9 29 (TCl 9 3).1 (TCl 9 3).2.1 (TCl 9 3).2.2.1 ∈ tblG from (tg 257 (by decide +kernel) (by decide +kernel)))) (
  tkc (s_aload_n (at_ (dl_X9_init n0 s0) 22 (ins := .aload_n 0) rfl)) (
  tkc (s_new (q := (n0, s0)) (at_ (dl_X9_init n0 s0) 23 (ins := .new 33) rfl) rfl rfl (show Cond.classLink RX9 33 (RCl 8) ∈ tblG from (tg 194 (by decide +kernel) (by decide +kernel))) (tg 195 (by decide +kernel) (by decide +kernel)) (tg 47 (by decide +kernel) (by decide +kernel))) (
  tkc (s_dup (at_ (dl_X9_init n0 s0) 24 (ins := .dup) rfl)) (
  tkc (s_aload_n (at_ (dl_X9_init n0 s0) 25 (ins := .aload_n 0) rfl)) (
  tkc (s_gR (at_ (dl_X9_init n0 s0) 26 (ins := .getfield 19) rfl) (by decide) (by decide) (by decide) (show Cond.fieldLink RX9 19 (TCl 9 1).1 (TCl 9 1).2.1 (TCl 9 1).2.2.1 ∈ tblG from (tg 255 (by decide +kernel) (by decide +kernel)))) (
  tkc (s_cI (q := (n0, s0)) ok_X8_init (at_ (dl_X9_init n0 s0) 27 (ins := .invokespecial 35) rfl) rfl rfl rfl (show Cond.methodLink RX9 35 yX8_init ∈ tblG from (tg 196 (by decide +kernel) (by decide +kernel))) (tg 197 (by decide +kernel) (by decide +kernel)) (tg 47 (by decide +kernel) (by decide +kernel)) (tg 198 (by decide +kernel) (by decide +kernel)) rfl (⟨by decide, by decide, by decide +kernel⟩) (⟨(Nat.le_of_ble_eq_true rfl), (Nat.le_of_ble_eq_true rfl)⟩) rfl rfl) (
  tkc (s_pR (at_ (dl_X9_init n0 s0) 28 (ins := .putfield 38) rfl) (by decide) (by decide) (by decide) (by decide) rfl rfl (show Cond.fieldLink RX9 38 (TCl 9 4).1 (TCl 9 4).2.1 (TCl 9 4).2.2.1 ∈ tblG from (tg 258 (by decide +kernel) (by decide +kernel)))) (
  tkc (s_aload_n (at_ (dl_X9_init n0 s0) 29 (ins := .aload_n 0) rfl)) (
  tkc (s_new (q := (n0, s0)) (at_ (dl_X9_init n0 s0) 30 (ins := .new 42) rfl) rfl rfl (show Cond.classLink RX9 42 (RCl 6) ∈ tblG from (tg 204 (by decide +kernel) (by decide +kernel))) (tg 205 (by decide +kernel) (by decide +kernel)) (tg 48 (by decide +kernel) (by decide +kernel))) (
  tkc (s_dup (at_ (dl_X9_init n0 s0) 31 (ins := .dup) rfl)) (
  tkc (s_aload_n (at_ (dl_X9_init n0 s0) 32 (ins := .aload_n 0) rfl)) (
  tkc (s_gR (at_ (dl_X9_init n0 s0) 33 (ins := .getfield 19) rfl) (by decide) (by decide) (by decide) (show Cond.fieldLink RX9 19 (TCl 9 1).1 (TCl 9 1).2.1 (TCl 9 1).2.2.1 ∈ tblG from (tg 255 (by decide +kernel) (by decide +kernel)))) (
  tkc (s_cI (q := (n0, s0)) ok_X6_init (at_ (dl_X9_init n0 s0) 34 (ins := .invokespecial 44) rfl) rfl rfl rfl (show Cond.methodLink RX9 44 yX6_init ∈ tblG from (tg 206 (by decide +kernel) (by decide +kernel))) (tg 207 (by decide +kernel) (by decide +kernel)) (tg 48 (by decide +kernel) (by decide +kernel)) (tg 208 (by decide +kernel) (by decide +kernel)) rfl (⟨by decide, by decide, by decide +kernel⟩) (⟨(Nat.le_of_ble_eq_true rfl), (Nat.le_of_ble_eq_true rfl)⟩) rfl rfl) (
  tkc (s_pR (at_ (dl_X9_init n0 s0) 35 (ins := .putfield 45) rfl) (by decide) (by decide) (by decide) (by decide) rfl rfl (show Cond.fieldLink RX9 45 (TCl 9 5).1 (TCl 9 5).2.1 (TCl 9 5).2.2.1 ∈ tblG from (tg 259 (by decide +kernel) (by decide +kernel)))) (
  tkc (s_aload_n (at_ (dl_X9_init n0 s0) 36 (ins := .aload_n 0) rfl)) (
  tkc (s_new (q := (n0, s0)) (at_ (dl_X9_init n0 s0) 37 (ins := .new 49) rfl) rfl rfl (show Cond.classLink RX9 49 (RCl 0) ∈ tblG from (tg 217 (by decide +kernel) (by decide +kernel))) (tg 218 (by decide +kernel) (by decide +kernel)) (tg 49 (by decide +kernel) (by decide +kernel))) (
  tkc (s_dup (at_ (dl_X9_init n0 s0) 38 (ins := .dup) rfl)) (
  tkc (s_cI (q := (n0, s0)) ok_X0_init (at_ (dl_X9_init n0 s0) 39 (ins := .invokespecial 51) rfl) rfl rfl rfl (show Cond.methodLink RX9 51 yX0_init ∈ tblG from (tg 219 (by decide +kernel) (by decide +kernel))) (tg 220 (by decide +kernel) (by decide +kernel)) (tg 49 (by decide +kernel) (by decide +kernel)) (tg 221 (by decide +kernel) (by decide +kernel)) rfl (⟨by decide, by decide, by decide +kernel⟩) (⟨(Nat.le_of_ble_eq_true rfl), (Nat.le_of_ble_eq_true rfl)⟩) rfl rfl) (
  tkc (s_pR (at_ (dl_X9_init n0 s0) 40 (ins := .putfield 52) rfl) (by decide) (by decide) (by decide) (by decide) rfl rfl (show Cond.fieldLink RX9 52 (TCl 9 6).1 (TCl 9 6).2.1 (TCl 9 6).2.2.1 ∈ tblG from (tg 260 (by decide +kernel) (by decide +kernel)))) (
  tkc (s_aload_n (at_ (dl_X9_init n0 s0) 41 (ins := .aload_n 0) rfl)) (
  tkc (s_new (q := (n0, s0)) (at_ (dl_X9_init n0 s0) 42 (ins := .new 56) rfl) rfl rfl (show Cond.classLink RX9 56 (RCl 4) ∈ tblG from (tg 237 (by decide +kernel) (by decide +kernel))) (tg 238 (by decide +kernel) (by decide +kernel)) (tg 50 (by decide +kernel) (by decide +kernel))) (
  tkc (s_dup (at_ (dl_X9_init n0 s0) 43 (ins := .dup) rfl)) (
  tkc (s_cI (q := (n0, s0)) ok_X4_init (at_ (dl_X9_init n0 s0) 44 (ins := .invokespecial 58) rfl) rfl rfl rfl (show Cond.methodLink RX9 58 yX4_init ∈ tblG from (tg 239 (by decide +kernel) (by decide +kernel))) (tg 240 (by decide +kernel) (by decide +kernel)) (tg 50 (by decide +kernel) (by decide +kernel)) (tg 241 (by decide +kernel) (by decide +kernel)) rfl (⟨by decide, by decide, by decide +kernel⟩) (⟨(Nat.le_of_ble_eq_true rfl), (Nat.le_of_ble_eq_true rfl)⟩) rfl rfl) (
  tkc (s_pR (at_ (dl_X9_init n0 s0) 45 (ins := .putfield 59) rfl) (by decide) (by decide) (by decide) (by decide) rfl rfl (show Cond.fieldLink RX9 59 (TCl 9 7).1 (TCl 9 7).2.1 (TCl 9 7).2.2.1 ∈ tblG from (tg 261 (by decide +kernel) (by decide +kernel)))) (
  tkc (s_aload_n (at_ (dl_X9_init n0 s0) 46 (ins := .aload_n 0) rfl)) (
  tkc (s_iconst (at_ (dl_X9_init n0 s0) 47 (ins := .iconst 2) rfl) (by first | rfl | decide)) (
  tkc (s_na3 (q := (n0, s0)) (at_ (dl_X9_init n0 s0) 48 (ins := .anewarray 16) rfl) rfl rfl (show Cond.classLink RX9 16 RX5 ∈ tblG from (tg 115 (by decide +kernel) (by decide +kernel)))) (
  tkc (s_pR (at_ (dl_X9_init n0 s0) 49 (ins := .putfield 63) rfl) (by decide) (by decide) (by decide) (by decide) rfl rfl (show Cond.fieldLink RX9 63 (TCl 9 8).1 (TCl 9 8).2.1 (TCl 9 8).2.2.1 ∈ tblG from (tg 262 (by decide +kernel) (by decide +kernel)))) (
  tkc (s_iconst (at_ (dl_X9_init n0 s0) 50 (ins := .iconst 0) rfl) (by first | rfl | decide)) (
  tkc (s_istore_n (at_ (dl_X9_init n0 s0) 51 (ins := .istore_n 1) rfl) (Nat.le_of_ble_eq_true rfl)) (
  tkc (s_iload_n (at_ (dl_X9_init n0 s0) 52 (ins := .iload_n 1) rfl)) (
  tkc (s_iconst (at_ (dl_X9_init n0 s0) 53 (ins := .iconst 2) rfl) (by first | rfl | decide)) (
  tkc (s_ic_ge (at_ (dl_X9_init n0 s0) 54 (ins := .if_icmp .ge 22) rfl) (by decide)) (
  tkc (s_aload_n (at_ (dl_X9_init n0 s0) 55 (ins := .aload_n 0) rfl)) (
  tkc (s_gR (at_ (dl_X9_init n0 s0) 56 (ins := .getfield 63) rfl) (by decide) (by decide) (by decide) (show Cond.fieldLink RX9 63 (TCl 9 8).1 (TCl 9 8).2.1 (TCl 9 8).2.2.1 ∈ tblG from (tg 262 (by decide +kernel) (by decide +kernel)))) (
  tkc (s_iload_n (at_ (dl_X9_init n0 s0) 57 (ins := .iload_n 1) rfl)) (
  tkc (s_new (q := (n0, s0)) (at_ (dl_X9_init n0 s0) 58 (ins := .new 16) rfl) rfl rfl (show Cond.classLink RX9 16 (RCl 5) ∈ tblG from (tg 115 (by decide +kernel) (by decide +kernel))) (tg 116 (by decide +kernel) (by decide +kernel)) (tg 45 (by decide +kernel) (by decide +kernel))) (
  tkc (s_dup (at_ (dl_X9_init n0 s0) 59 (ins := .dup) rfl)) (
  tkc (s_cI (q := (n0, s0)) ok_X5_init (at_ (dl_X9_init n0 s0) 60 (ins := .invokespecial 18) rfl) rfl rfl rfl (show Cond.methodLink RX9 18 yX5_init ∈ tblG from (tg 117 (by decide +kernel) (by decide +kernel))) (tg 118 (by decide +kernel) (by decide +kernel)) (tg 45 (by decide +kernel) (by decide +kernel)) (tg 119 (by decide +kernel) (by decide +kernel)) rfl (⟨by decide, by decide, by decide +kernel⟩) (⟨(Nat.le_of_ble_eq_true rfl), (Nat.le_of_ble_eq_true rfl)⟩) rfl rfl) (
  tkc (s_aas (at_ (dl_X9_init n0 s0) 61 (ins := .aastore) rfl)) (
  tkc (s_iinc (at_ (dl_X9_init n0 s0) 62 (ins := .iinc 1 1) rfl) (Nat.le_of_ble_eq_true rfl) (by first | rfl | decide)) (
  tkc (s_goto (at_ (dl_X9_init n0 s0) 63 (ins := .goto (-21)) rfl) (by decide)) (
  tkc (s_aload_n (at_ (dl_X9_init n0 s0) 64 (ins := .aload_n 0) rfl)) (
  tkc (s_iconst (at_ (dl_X9_init n0 s0) 65 (ins := .iconst 2) rfl) (by first | rfl | decide)) (
  tkc (s_na2 (q := (n0, s0)) (at_ (dl_X9_init n0 s0) 66 (ins := .newarray .boolean) rfl) rfl rfl (tg 288 (by decide +kernel) (by decide +kernel))) (
  tkc (s_pR (at_ (dl_X9_init n0 s0) 67 (ins := .putfield 67) rfl) (by decide) (by decide) (by decide) (by decide) rfl rfl (show Cond.fieldLink RX9 67 (TCl 9 9).1 (TCl 9 9).2.1 (TCl 9 9).2.2.1 ∈ tblG from (tg 263 (by decide +kernel) (by decide +kernel)))) (
  tkc (s_aload_n (at_ (dl_X9_init n0 s0) 68 (ins := .aload_n 0) rfl)) (
  tkc (s_lconst (at_ (dl_X9_init n0 s0) 69 (ins := .lconst 0) rfl) (by first | rfl | decide)) (
  tkc (s_pL (at_ (dl_X9_init n0 s0) 70 (ins := .putfield 71) rfl) (by decide) (by decide) (by decide) (by decide) (show Cond.fieldLink RX9 71 (TCl 9 10).1 (TCl 9 10).2.1 (TCl 9 10).2.2.1 ∈ tblG from (tg 264 (by decide +kernel) (by decide +kernel)))) (
  tkc (s_r0 (at_ (dl_X9_init n0 s0) 71 (ins := .return_) rfl) rfl) ( tk0))))))))))))))))))))))))))))))))))))))))))))))))))))))))))))))))))))))))
theorem lf_X9_init (n0 s0 : Nat) : lk (tb_X9_init n0 s0) 0 = (x_al 1 0, false) ∧ lk (tb_X9_init n0 s0) 1 = (x_o2 4, false) ∧ lk (tb_X9_init n0 s0) 4 = (x_al 5 0, true) ∧ lk (tb_X9_init n0 s0) 5 = (x_new 7 8 (n0 + 107, s0 + 1702), false) ∧ lk (tb_X9_init n0 s0) 8 = (x_dup 9, false) ∧ lk (tb_X9_init n0 s0) 9 = (x_cI 0 P_X7_init 12 3 83 (n0 + 107, s0 + 1702), false) ∧ lk (tb_X9_init n0 s0) 12 = (x_pR 9 0 15, false) ∧ lk (tb_X9_init n0 s0) 15 = (x_al 16 0, true) ∧ lk (tb_X9_init n0 s0) 16 = (x_new 5 19 (n0 + 107, s0 + 1702), false) ∧ lk (tb_X9_init n0 s0) 19 = (x_dup 20, false) ∧ lk (tb_X9_init n0 s0) 20 = (x_cI 0 P_X5_init 23 4 78 (n0 + 107, s0 + 1702), false) ∧ lk (tb_X9_init n0 s0) 23 = (x_pR 9 1 26, false) ∧ lk (tb_X9_init n0 s0) 26 = (x_al 27 0, true) ∧ lk (tb_X9_init n0 s0) 27 = (x_new 5 30 (n0 + 107, s0 + 1702), false) ∧ lk (tb_X9_init n0 s0) 30 = (x_dup 31, false) ∧ lk (tb_X9_init n0 s0) 31 = (x_cI 0 P_X5_init 34 4 78 (n0 + 107, s0 + 1702), false) ∧ lk (tb_X9_init n0 s0) 34 = (x_pR 9 2 37, false) ∧ lk (tb_X9_init n0 s0) 37 = (x_al 38 0, true) ∧ lk (tb_X9_init n0 s0) 38 = (x_new 1 41 (n0 + 107, s0 + 1702), false) ∧ lk (tb_X9_init n0 s0) 41 = (x_dup 42, false) ∧ lk (tb_X9_init n0 s0) 42 = (x_cI 0 P_X1_init 45 2 15 (n0 + 107, s0 + 1702), false) ∧ lk (tb_X9_init n0 s0) 45 = (x_pR 9 3 48, false) ∧ lk (tb_X9_init n0 s0) 48 = (x_al 49 0, true) ∧ lk (tb_X9_init n0 s0) 49 = (x_new 8 52 (n0 + 107, s0 + 1702), false) ∧ lk (tb_X9_init n0 s0) 52 = (x_dup 53, false) ∧ lk (tb_X9_init n0 s0) 53 = (x_al 54 0, false) ∧ lk (tb_X9_init n0 s0) 54 = (x_gR 9 1 57, false) ∧ lk (tb_X9_init n0 s0) 57 = (x_cI 1 P_X8_init 60 0 0 (n0 + 107, s0 + 1702), false) ∧ lk (tb_X9_init n0 s0) 60 = (x_pR 9 4 63, false) ∧ lk (tb_X9_init n0 s0) 63 = (x_al 64 0, true) ∧ lk (tb_X9_init n0 s0) 64 = (x_new 6 67 (n0 + 107, s0 + 1702), false) ∧ lk (tb_X9_init n0 s0) 67 = (x_dup 68, false) ∧ lk (tb_X9_init n0 s0) 68 = (x_al 69 0, false) ∧ lk (tb_X9_init n0 s0) 69 = (x_gR 9 1 72, false) ∧ lk (tb_X9_init n0 s0) 72 = (x_cI 1 P_X6_init 75 1 9 (n0 + 107, s0 + 1702), false) ∧ lk (tb_X9_init n0 s0) 75 = (x_pR 9 5 78, false) ∧ lk (tb_X9_init n0 s0) 78 = (x_al 79 0, true) ∧ lk (tb_X9_init n0 s0) 79 = (x_new 0 82 (n0 + 107, s0 + 1702), false) ∧ lk (tb_X9_init n0 s0) 82 = (x_dup 83, false) ∧ lk (tb_X9_init n0 s0) 83 = (x_cI 0 P_X0_init 86 71 1218 (n0 + 107, s0 + 1702), false) ∧ lk (tb_X9_init n0 s0) 86 = (x_pR 9 6 89, false) ∧ lk (tb_X9_init n0 s0) 89 = (x_al 90 0, true) ∧ lk (tb_X9_init n0 s0) 90 = (x_new 4 93 (n0 + 107, s0 + 1702), false) ∧ lk (tb_X9_init n0 s0) 93 = (x_dup 94, false) ∧ lk (tb_X9_init n0 s0) 94 = (x_cI 0 P_X4_init 97 2 12 (n0 + 107, s0 + 1702), false) ∧ lk (tb_X9_init n0 s0) 97 = (x_pR 9 7 100, false) ∧ lk (tb_X9_init n0 s0) 100 = (x_al 101 0, true) ∧ lk (tb_X9_init n0 s0) 101 = (x_c 102 (.int 2), false) ∧ lk (tb_X9_init n0 s0) 102 = (x_na 3 105 (n0 + 107, s0 + 1702), false) ∧ lk (tb_X9_init n0 s0) 105 = (x_pR 9 8 108, false) ∧ lk (tb_X9_init n0 s0) 108 = (x_c 109 (.int 0), true) ∧ lk (tb_X9_init n0 s0) 109 = (x_is 110 1, false) ∧ lk (tb_X9_init n0 s0) 110 = (x_il 111 1, true) ∧ lk (tb_X9_init n0 s0) 111 = (x_c 112 (.int 2), false) ∧ lk (tb_X9_init n0 s0) 112 = (x_ic 134 115 (fun x y : Int32 => y ≤ x), false) ∧ lk (tb_X9_init n0 s0) 115 = (x_al 116 0, false) ∧ lk (tb_X9_init n0 s0) 116 = (x_gR 9 8 119, false) ∧ lk (tb_X9_init n0 s0) 119 = (x_il 120 1, false) ∧ lk (tb_X9_init n0 s0) 120 = (x_new 5 123 (n0 + 107, s0 + 1702), false) ∧ lk (tb_X9_init n0 s0) 123 = (x_dup 124, false) ∧ lk (tb_X9_init n0 s0) 124 = (x_cI 0 P_X5_init 127 4 78 (n0 + 107, s0 + 1702), false) ∧ lk (tb_X9_init n0 s0) 127 = (x_aas 128, false) ∧ lk (tb_X9_init n0 s0) 128 = (x_inc 131 1 1, false) ∧ lk (tb_X9_init n0 s0) 131 = (x_go 110, false) ∧ lk (tb_X9_init n0 s0) 134 = (x_al 135 0, true) ∧ lk (tb_X9_init n0 s0) 135 = (x_c 136 (.int 2), false) ∧ lk (tb_X9_init n0 s0) 136 = (x_na 2 138 (n0 + 107, s0 + 1702), false) ∧ lk (tb_X9_init n0 s0) 138 = (x_pR 9 9 141, false) ∧ lk (tb_X9_init n0 s0) 141 = (x_al 142 0, false) ∧ lk (tb_X9_init n0 s0) 142 = (x_c 143 (.long 0), false) ∧ lk (tb_X9_init n0 s0) 143 = (x_pL 9 10 146, false) ∧ lk (tb_X9_init n0 s0) 146 = (x_r0, false) := ⟨rfl, rfl, rfl, rfl, rfl, rfl, rfl, rfl, rfl, rfl, rfl, rfl, rfl, rfl, rfl, rfl, rfl, rfl, rfl, rfl, rfl, rfl, rfl, rfl, rfl, rfl, rfl, rfl, rfl, rfl, rfl, rfl, rfl, rfl, rfl, rfl, rfl, rfl, rfl, rfl, rfl, rfl, rfl, rfl, rfl, rfl, rfl, rfl, rfl, rfl, rfl, rfl, rfl, rfl, rfl, rfl, rfl, rfl, rfl, rfl, rfl, rfl, rfl, rfl, rfl, rfl, rfl, rfl, rfl, rfl, rfl, rfl⟩
def P_X9_init : PTT := fun as M R => match as with
  | [.ref k] => k = 0 ∧ M.1.1 = 1 ∧ tO M.1 0 9 ∧ ∀ M', M'.1.1 = 108 → M'.1.2.1 = M.1.2.1 + 1702 → CR M'.1 M'.2.1 M'.2.2 g0 → R none M'
  | _ => False
set_option maxRecDepth 20000 in
theorem ok_X9_init : Ok yX9_init (mt_X9_init 0 0) P_X9_init := by
  refine Ok.ofI (mtf := mt_X9_init) (fun _ _ => rfl) (by decide) rfl rfl fun av ⟨S, I, L⟩ R hP => ?_
  unfold P_X9_init at hP
  split at hP
  case h_2 => exact hP.elim
  rename_i k
  obtain ⟨k, rfl⟩ : ∃ q : Nat, q = k := ⟨k, rfl⟩
  refine ⟨by simp [ent, wide], ?_⟩
  show J (mt_X9_init S.1 S.2.1) R 0 [some (.ref k), none] [] (S, I, L)
  try dsimp only at hP
  obtain ⟨rfl, hn, ht, hR⟩ := hP
  have hn' : S.1 = 1 := hn
  have st134 : ∀ M, M.1.1 = 107 → M.1.2.1 = S.2.1 + 1700 → B8 (S, I, L) M → C9 2 M → J (mt_X9_init S.1 S.2.1) R 134 [some (.ref 0), none] [] M := fun ⟨S1, I1, L1⟩ q1 q2 hB h9 => by
    replace q1 : S1.1 = 107 := q1
    replace q2 : S1.2.1 = S.2.1 + 1700 := q2
    have t0 : tO S1 0 9 := hB.1.1.1.1.1.1.1.1.1
    refine J.of (tk_X9_init S.1 S.2.1) 200 fun ρ hρ => ?_
    simp only [hρ, x_c, x_il, x_ll, x_al, x_is, x_as, x_ls, x_inc, x_ii, x_iq, x_i1, x_l2, x_lq, x_lh, x_i2l, x_l2i, x_lcmp, x_dup, x_dup2, x_pop, x_if, x_ifn, x_ic, x_icn, x_go, x_sw, swc, x_l01, x_mx, x_gI, x_gL, x_gR, x_pI, x_pZ, x_pL, x_pR, x_ia, x_za, x_aa, x_ias, x_zas, x_aas, x_fac, x_fa, x_slen, x_sa, x_ac, x_oi, x_new, x_na, x_cS, x_cV, x_cI, x_rI, x_rZ, x_rL, x_r0, pa, short, oc, lg, lset, lset2, wide, cond_true, cond_false, true_and, and_true, ↓reduceIte, Bool.false_eq_true, true_or, or_true, lf_X9_init, show (2 : Int32).toNatClampNeg = 2 by decide]
    have hK : Kp 107 (S1, I1, L1) ((S1.1 + 1, S1.2.1 + 2, mS S1.2.2.1 S1.1 (2, 2), mS S1.2.2.2 S1.1 (fun _ => 9999)), mS I1 S1.1 (fun _ => 0), L1) := fun q hq => ⟨mS_n (by omega), mS_n (by omega), mS_n (by omega), rfl⟩
    have hU := Up.pu (f := 9) (x := S1.1) hK (by omega) (by show 107 ≤ S1.1 + 1; omega)
    have hB' := hB.u hU (by omega) (by omega)
    have hG : Gr 0 107 S1 (S1.1 + 1, S1.2.1 + 2, mS S1.2.2.1 S1.1 (2, 2), mS S1.2.2.2 S1.1 (fun _ => 9999)) := hK.g (by show 107 ≤ S1.1 + 1; omega)
    refine ⟨by decide, by decide, by omega, by omega, by omega, hG.O (by omega) t0, hB'.1.1.1.1.1.1.1.1.1, ?_⟩
    obtain ⟨⟨⟨⟨⟨⟨⟨⟨c0, c1⟩, c2⟩, c3⟩, c4⟩, c5⟩, c6⟩, c7⟩, c8⟩ := hB'
    obtain ⟨s8, sa, sl, ss⟩ := h9
    have hG1 := hU.1
    have e107 : (puM ((S1.1 + 1, S1.2.1 + 2, mS S1.2.2.1 S1.1 (2, 2), mS S1.2.2.2 S1.1 (fun _ => 9999)), mS I1 S1.1 (fun _ => 0), L1) 0 9 S1.1).1.2.2.1 107 = (2, 2) := by show mS S1.2.2.1 S1.1 (2, 2) 107 = _; rw [← q1, mS_s]
    refine hR _ (by show S1.1 + 1 = 108; omega) (by show S1.2.1 + 2 = S.2.1 + 1702; omega) ⟨⟨⟨c0.1, c1.1, c2.1, c3.1, c4.1, c5.1, c6.1, c7.1, c8.1, (hU.2.2 8 (by omega)).trans s8, ?_⟩, c1.2.1, c1.2.2.1, c2.2.1, c3.2, c4.2.1, c5.2, c6.2, c7.2.1, c8.2.1, ⟨hG1.A (by omega) sa, hG1.l (by omega) sl, hG1.r (by omega) (by omega) (ss 0 (by omega)).1, hG1.r (by omega) (by omega) (ss 1 (by omega)).1, ⟨by show 107 < S1.1 + 1; omega, by rw [e107]⟩, by unfold ln; rw [e107]⟩, (ss 0 (by omega)).2.gr hG1 (by omega) (by omega), (ss 1 (by omega)).2.gr hG1 (by omega) (by omega)⟩, ?_, SR_a0 c2.2.2, ⟨0, ⟨by omega, by decide, c7.2.2.1, c7.2.2.2⟩, fun j hj => absurd hj (Nat.not_lt_zero j)⟩, fun i hi => ⟨?_, fun h => absurd h Bool.false_ne_true⟩, ⟨c8.2.2, fun j hj => absurd hj (Nat.not_lt_zero j)⟩, ?_, c4.2.2⟩
    · rw [sR_pu ((S1.1 + 1, S1.2.1 + 2, mS S1.2.2.1 S1.1 (2, 2), mS S1.2.2.2 S1.1 (fun _ => 9999)), mS I1 S1.1 (fun _ => 0), L1) 0 9 S1.1]; exact q1
    · exact ⟨c1.2.2.2, fun j hj => absurd hj (Nat.not_lt_zero j)⟩
    · show mS I1 S1.1 (fun _ => 0) 107 i = _
      rw [← q1, mS_s]; rfl
    · show mS L1 0 (vp_updL (L1 0) 10 0) 0 10 = 0
      rw [mS_s]; simp [vp_updL]
  have loop := up (P := fun i => ∀ M, M.1.1 = 97 + 5 * i → M.1.2.1 = S.2.1 + 1528 + 86 * i → B8 (S, I, L) M → C9 i M → J (mt_X9_init S.1 S.2.1) R 110 [some (.ref 0), some (.int (nI i))] [] M) (n := 2) (fun i hi ih M q1 q2 hB h9 => ?_) 0 (Nat.zero_le _)
  · have st100 : ∀ M, M.1.1 = 96 → M.1.2.1 = S.2.1 + 1526 → B8 (S, I, L) M → J (mt_X9_init S.1 S.2.1) R 100 [some (.ref 0), none] [] M := fun ⟨S1, I1, L1⟩ q1 q2 hB => by
      replace q1 : S1.1 = 96 := q1
      replace q2 : S1.2.1 = S.2.1 + 1526 := q2
      have t0 : tO S1 0 9 := hB.1.1.1.1.1.1.1.1.1
      refine J.of (tk_X9_init S.1 S.2.1) 200 fun ρ hρ => ?_
      simp only [hρ, x_c, x_il, x_ll, x_al, x_is, x_as, x_ls, x_inc, x_ii, x_iq, x_i1, x_l2, x_lq, x_lh, x_i2l, x_l2i, x_lcmp, x_dup, x_dup2, x_pop, x_if, x_ifn, x_ic, x_icn, x_go, x_sw, swc, x_l01, x_mx, x_gI, x_gL, x_gR, x_pI, x_pZ, x_pL, x_pR, x_ia, x_za, x_aa, x_ias, x_zas, x_aas, x_fac, x_fa, x_slen, x_sa, x_ac, x_oi, x_new, x_na, x_cS, x_cV, x_cI, x_rI, x_rZ, x_rL, x_r0, pa, short, oc, lg, lset, lset2, wide, cond_true, cond_false, true_and, and_true, ↓reduceIte, Bool.false_eq_true, true_or, or_true, lf_X9_init, show (2 : Int32).toNatClampNeg = 2 by decide]
      have hK : Kp 96 (S1, I1, L1) ((S1.1 + 1, S1.2.1 + 2, mS S1.2.2.1 S1.1 (3, 2), mS S1.2.2.2 S1.1 (fun _ => 9999)), mS I1 S1.1 (fun _ => 0), L1) := fun q hq => ⟨mS_n (by omega), mS_n (by omega), mS_n (by omega), rfl⟩
      have hU := Up.pu (f := 8) (x := S1.1) hK (by omega) (by show 96 ≤ S1.1 + 1; omega)
      have hG : Gr 0 96 S1 (S1.1 + 1, S1.2.1 + 2, mS S1.2.2.1 S1.1 (3, 2), mS S1.2.2.2 S1.1 (fun _ => 9999)) := hK.g (by show 96 ≤ S1.1 + 1; omega)
      have e96 : (puM ((S1.1 + 1, S1.2.1 + 2, mS S1.2.2.1 S1.1 (3, 2), mS S1.2.2.2 S1.1 (fun _ => 9999)), mS I1 S1.1 (fun _ => 0), L1) 0 8 S1.1).1.2.2.1 96 = (3, 2) := by show mS S1.2.2.1 S1.1 (3, 2) 96 = _; rw [← q1, mS_s]
      refine ⟨by decide, by decide, by omega, by omega, by omega, hG.O (by omega) t0, ?_⟩
      refine J.of (tk_X9_init S.1 S.2.1) 200 fun ρ hρ => ?_
      simp only [hρ, x_c, x_il, x_ll, x_al, x_is, x_as, x_ls, x_inc, x_ii, x_iq, x_i1, x_l2, x_lq, x_lh, x_i2l, x_l2i, x_lcmp, x_dup, x_dup2, x_pop, x_if, x_ifn, x_ic, x_icn, x_go, x_sw, swc, x_l01, x_mx, x_gI, x_gL, x_gR, x_pI, x_pZ, x_pL, x_pR, x_ia, x_za, x_aa, x_ias, x_zas, x_aas, x_fac, x_fa, x_slen, x_sa, x_ac, x_oi, x_new, x_na, x_cS, x_cV, x_cI, x_rI, x_rZ, x_rL, x_r0, pa, short, oc, lg, lset, lset2, wide, cond_true, cond_false, true_and, and_true, ↓reduceIte, Bool.false_eq_true, true_or, or_true, lf_X9_init]
      refine loop _ (by show S1.1 + 1 = _; omega) (by show S1.2.1 + 2 = _; omega) (hB.u hU (by omega) (by omega)) ⟨?_, ⟨by show 96 < S1.1 + 1; omega, by rw [e96]⟩, by unfold ln; rw [e96], fun r hr => absurd hr (by omega)⟩
      rw [sR_pu ((S1.1 + 1, S1.2.1 + 2, mS S1.2.2.1 S1.1 (3, 2), mS S1.2.2.2 S1.1 (fun _ => 9999)), mS I1 S1.1 (fun _ => 0), L1) 0 8 S1.1]; exact q1
    have st89 : ∀ M, M.1.1 = 93 → M.1.2.1 = S.2.1 + 1511 → B7 (S, I, L) M → J (mt_X9_init S.1 S.2.1) R 89 [some (.ref 0), none] [] M := fun ⟨S1, I1, L1⟩ q1 q2 hB => by
      replace q1 : S1.1 = 93 := q1
      replace q2 : S1.2.1 = S.2.1 + 1511 := q2
      have t0 : tO S1 0 9 := hB.1.1.1.1.1.1.1.1
      have nf : nfC 4 = 3 := rfl
      refine J.of (tk_X9_init S.1 S.2.1) 200 fun ρ hρ => ?_
      simp only [hρ, x_c, x_il, x_ll, x_al, x_is, x_as, x_ls, x_inc, x_ii, x_iq, x_i1, x_l2, x_lq, x_lh, x_i2l, x_l2i, x_lcmp, x_dup, x_dup2, x_pop, x_if, x_ifn, x_ic, x_icn, x_go, x_sw, swc, x_l01, x_mx, x_gI, x_gL, x_gR, x_pI, x_pZ, x_pL, x_pR, x_ia, x_za, x_aa, x_ias, x_zas, x_aas, x_fac, x_fa, x_slen, x_sa, x_ac, x_oi, x_new, x_na, x_cS, x_cV, x_cI, x_rI, x_rZ, x_rL, x_r0, pa, short, oc, lg, lset, lset2, wide, cond_true, cond_false, true_and, and_true, ↓reduceIte, Bool.false_eq_true, true_or, or_true, lf_X9_init, P_X4_init]
      have htn : tO (nwM (S1, I1, L1) 4).1 93 4 := q1 ▸ tO_nw (S1, I1, L1) 4
      refine ⟨by omega, by omega, by omega, by decide, (show ¬ S1.1 = 9999 by omega), by omega, by omega, q1, by omega, htn, fun M2 m1 m2 m3 m4 m5 => ⟨by omega, by omega, ?_⟩⟩
      have hK := ((Kp.nw (S1, I1, L1) 4).le (show 93 ≤ S1.1 by omega)).trans m3
      have hU := Up.pu (f := 7) (x := S1.1) hK (by omega) (by omega)
      have hGp := Gr.pu M2 0 7 S1.1 1 (by omega)
      refine ⟨(hK.g (by omega)).O (by omega) t0, st100 _ m1 (by show M2.1.2.1 = _; omega) ⟨hB.u hU (by omega) (by omega), ?_, m4.gr hGp (by omega) (by omega), m5⟩⟩
      rw [sR_pu]; exact q1
    have st78 : ∀ M, M.1.1 = 21 → M.1.2.1 = S.2.1 + 290 → B6 (S, I, L) M → J (mt_X9_init S.1 S.2.1) R 78 [some (.ref 0), none] [] M := fun ⟨S1, I1, L1⟩ q1 q2 hB => by
      replace q1 : S1.1 = 21 := q1
      replace q2 : S1.2.1 = S.2.1 + 290 := q2
      have t0 : tO S1 0 9 := hB.1.1.1.1.1.1.1
      have nf : nfC 0 = 3 := rfl
      refine J.of (tk_X9_init S.1 S.2.1) 200 fun ρ hρ => ?_
      simp only [hρ, x_c, x_il, x_ll, x_al, x_is, x_as, x_ls, x_inc, x_ii, x_iq, x_i1, x_l2, x_lq, x_lh, x_i2l, x_l2i, x_lcmp, x_dup, x_dup2, x_pop, x_if, x_ifn, x_ic, x_icn, x_go, x_sw, swc, x_l01, x_mx, x_gI, x_gL, x_gR, x_pI, x_pZ, x_pL, x_pR, x_ia, x_za, x_aa, x_ias, x_zas, x_aas, x_fac, x_fa, x_slen, x_sa, x_ac, x_oi, x_new, x_na, x_cS, x_cV, x_cI, x_rI, x_rZ, x_rL, x_r0, pa, short, oc, lg, lset, lset2, wide, cond_true, cond_false, true_and, and_true, ↓reduceIte, Bool.false_eq_true, true_or, or_true, lf_X9_init, P_X0_init]
      have htn : tO (nwM (S1, I1, L1) 0).1 21 0 := q1 ▸ tO_nw (S1, I1, L1) 0
      refine ⟨by omega, by omega, by omega, by decide, (show ¬ S1.1 = 9999 by omega), by omega, by omega, q1, by omega, htn, fun M2 m1 m2 m3 m4 m5 m6 => ⟨by omega, by omega, ?_⟩⟩
      have hK := ((Kp.nw (S1, I1, L1) 0).le (show 21 ≤ S1.1 by omega)).trans m3
      have hU := Up.pu (f := 6) (x := S1.1) hK (by omega) (by omega)
      have hGp := Gr.pu M2 0 6 S1.1 1 (by omega)
      refine ⟨(hK.g (by omega)).O (by omega) t0, st89 _ m1 (by show M2.1.2.1 = _; omega) ⟨hB.u hU (by omega) (by omega), ?_, m4.gr hGp (by omega) (by omega), m5, m6⟩⟩
      rw [sR_pu]; exact q1
    have st63 : ∀ M, M.1.1 = 19 → M.1.2.1 = S.2.1 + 279 → B5 (S, I, L) M → J (mt_X9_init S.1 S.2.1) R 63 [some (.ref 0), none] [] M := fun ⟨S1, I1, L1⟩ q1 q2 hB => by
      replace q1 : S1.1 = 19 := q1
      replace q2 : S1.2.1 = S.2.1 + 279 := q2
      have t0 : tO S1 0 9 := hB.1.1.1.1.1.1
      have nf : nfC 6 = 2 := rfl
      have s5 : sR (nwM (S1, I1, L1) 6).1 0 1 = 5 := by
        have h : sR S1 0 1 = 5 := hB.1.1.1.2.1
        show mS S1.2.2.2 S1.1 _ 0 1 = 5
        rw [mS_n (by omega)]; exact h
      have t0n : tO (nwM (S1, I1, L1) 6).1 0 9 := t0.na
      refine J.of (tk_X9_init S.1 S.2.1) 200 fun ρ hρ => ?_
      simp only [hρ, x_c, x_il, x_ll, x_al, x_is, x_as, x_ls, x_inc, x_ii, x_iq, x_i1, x_l2, x_lq, x_lh, x_i2l, x_l2i, x_lcmp, x_dup, x_dup2, x_pop, x_if, x_ifn, x_ic, x_icn, x_go, x_sw, swc, x_l01, x_mx, x_gI, x_gL, x_gR, x_pI, x_pZ, x_pL, x_pR, x_ia, x_za, x_aa, x_ias, x_zas, x_aas, x_fac, x_fa, x_slen, x_sa, x_ac, x_oi, x_new, x_na, x_cS, x_cV, x_cI, x_rI, x_rZ, x_rL, x_r0, pa, short, oc, lg, lset, lset2, wide, cond_true, cond_false, true_and, and_true, ↓reduceIte, Bool.false_eq_true, true_or, or_true, lf_X9_init, P_X6_init, s5, t0n]
      have htn : tO (nwM (S1, I1, L1) 6).1 19 6 := q1 ▸ tO_nw (S1, I1, L1) 6
      refine ⟨by omega, by omega, by omega, by decide, (show ¬ S1.1 = 9999 by omega), by omega, by omega, q1, (by first | exact s5 | omega), by omega, htn, fun M2 m1 m2 m3 m4 => ⟨by omega, by omega, ?_⟩⟩
      have hK := ((Kp.nw (S1, I1, L1) 6).le (show 19 ≤ S1.1 by omega)).trans m3
      have hU := Up.pu (f := 5) (x := S1.1) hK (by omega) (by omega)
      have hGp := Gr.pu M2 0 5 S1.1 1 (by omega)
      refine ⟨(hK.g (by omega)).O (by omega) t0, st78 _ m1 (by show M2.1.2.1 = _; omega) ⟨hB.u hU (by omega) (by omega), ?_, m4.gr hGp (by omega) (by omega)⟩⟩
      rw [sR_pu]; exact q1
    have st48 : ∀ M, M.1.1 = 18 → M.1.2.1 = S.2.1 + 278 → B4 (S, I, L) M → J (mt_X9_init S.1 S.2.1) R 48 [some (.ref 0), none] [] M := fun ⟨S1, I1, L1⟩ q1 q2 hB => by
      replace q1 : S1.1 = 18 := q1
      replace q2 : S1.2.1 = S.2.1 + 278 := q2
      have t0 : tO S1 0 9 := hB.1.1.1.1.1
      have nf : nfC 8 = 1 := rfl
      have s5 : sR (nwM (S1, I1, L1) 8).1 0 1 = 5 := by
        have h : sR S1 0 1 = 5 := hB.1.1.2.1
        show mS S1.2.2.2 S1.1 _ 0 1 = 5
        rw [mS_n (by omega)]; exact h
      have t0n : tO (nwM (S1, I1, L1) 8).1 0 9 := t0.na
      refine J.of (tk_X9_init S.1 S.2.1) 200 fun ρ hρ => ?_
      simp only [hρ, x_c, x_il, x_ll, x_al, x_is, x_as, x_ls, x_inc, x_ii, x_iq, x_i1, x_l2, x_lq, x_lh, x_i2l, x_l2i, x_lcmp, x_dup, x_dup2, x_pop, x_if, x_ifn, x_ic, x_icn, x_go, x_sw, swc, x_l01, x_mx, x_gI, x_gL, x_gR, x_pI, x_pZ, x_pL, x_pR, x_ia, x_za, x_aa, x_ias, x_zas, x_aas, x_fac, x_fa, x_slen, x_sa, x_ac, x_oi, x_new, x_na, x_cS, x_cV, x_cI, x_rI, x_rZ, x_rL, x_r0, pa, short, oc, lg, lset, lset2, wide, cond_true, cond_false, true_and, and_true, ↓reduceIte, Bool.false_eq_true, true_or, or_true, lf_X9_init, P_X8_init, s5, t0n]
      have htn : tO (nwM (S1, I1, L1) 8).1 18 8 := q1 ▸ tO_nw (S1, I1, L1) 8
      refine ⟨by omega, by omega, by omega, by decide, (show ¬ S1.1 = 9999 by omega), by omega, by omega, q1, (by first | exact s5 | omega), by omega, htn, fun M2 m1 m2 m3 m4 => ⟨by omega, by omega, ?_⟩⟩
      have hK := ((Kp.nw (S1, I1, L1) 8).le (show 18 ≤ S1.1 by omega)).trans m3
      have hU := Up.pu (f := 4) (x := S1.1) hK (by omega) (by omega)
      have hGp := Gr.pu M2 0 4 S1.1 1 (by omega)
      refine ⟨(hK.g (by omega)).O (by omega) t0, st63 _ m1 (by show M2.1.2.1 = _; omega) ⟨hB.u hU (by omega) (by omega), ?_, m4.gr hGp (by omega) (by omega)⟩⟩
      rw [sR_pu]; exact q1
    have st37 : ∀ M, M.1.1 = 15 → M.1.2.1 = S.2.1 + 258 → B3 (S, I, L) M → J (mt_X9_init S.1 S.2.1) R 37 [some (.ref 0), none] [] M := fun ⟨S1, I1, L1⟩ q1 q2 hB => by
      replace q1 : S1.1 = 15 := q1
      replace q2 : S1.2.1 = S.2.1 + 258 := q2
      have t0 : tO S1 0 9 := hB.1.1.1.1
      have nf : nfC 1 = 5 := rfl
      refine J.of (tk_X9_init S.1 S.2.1) 200 fun ρ hρ => ?_
      simp only [hρ, x_c, x_il, x_ll, x_al, x_is, x_as, x_ls, x_inc, x_ii, x_iq, x_i1, x_l2, x_lq, x_lh, x_i2l, x_l2i, x_lcmp, x_dup, x_dup2, x_pop, x_if, x_ifn, x_ic, x_icn, x_go, x_sw, swc, x_l01, x_mx, x_gI, x_gL, x_gR, x_pI, x_pZ, x_pL, x_pR, x_ia, x_za, x_aa, x_ias, x_zas, x_aas, x_fac, x_fa, x_slen, x_sa, x_ac, x_oi, x_new, x_na, x_cS, x_cV, x_cI, x_rI, x_rZ, x_rL, x_r0, pa, short, oc, lg, lset, lset2, wide, cond_true, cond_false, true_and, and_true, ↓reduceIte, Bool.false_eq_true, true_or, or_true, lf_X9_init, P_X1_init]
      have htn : tO (nwM (S1, I1, L1) 1).1 15 1 := q1 ▸ tO_nw (S1, I1, L1) 1
      refine ⟨by omega, by omega, by omega, by decide, (show ¬ S1.1 = 9999 by omega), by omega, by omega, q1, by omega, htn, fun M2 m1 m2 m3 m4 m5 => ⟨by omega, by omega, ?_⟩⟩
      have hK := ((Kp.nw (S1, I1, L1) 1).le (show 15 ≤ S1.1 by omega)).trans m3
      have hU := Up.pu (f := 3) (x := S1.1) hK (by omega) (by omega)
      have hGp := Gr.pu M2 0 3 S1.1 1 (by omega)
      refine ⟨(hK.g (by omega)).O (by omega) t0, st48 _ m1 (by show M2.1.2.1 = _; omega) ⟨hB.u hU (by omega) (by omega), ?_, m4.gr hGp (by omega) (by omega), m5⟩⟩
      rw [sR_pu]; exact q1
    have st26 : ∀ M, M.1.1 = 10 → M.1.2.1 = S.2.1 + 172 → B2 (S, I, L) M → J (mt_X9_init S.1 S.2.1) R 26 [some (.ref 0), none] [] M := fun ⟨S1, I1, L1⟩ q1 q2 hB => by
      replace q1 : S1.1 = 10 := q1
      replace q2 : S1.2.1 = S.2.1 + 172 := q2
      have t0 : tO S1 0 9 := hB.1.1.1
      have nf : nfC 5 = 8 := rfl
      refine J.of (tk_X9_init S.1 S.2.1) 200 fun ρ hρ => ?_
      simp only [hρ, x_c, x_il, x_ll, x_al, x_is, x_as, x_ls, x_inc, x_ii, x_iq, x_i1, x_l2, x_lq, x_lh, x_i2l, x_l2i, x_lcmp, x_dup, x_dup2, x_pop, x_if, x_ifn, x_ic, x_icn, x_go, x_sw, swc, x_l01, x_mx, x_gI, x_gL, x_gR, x_pI, x_pZ, x_pL, x_pR, x_ia, x_za, x_aa, x_ias, x_zas, x_aas, x_fac, x_fa, x_slen, x_sa, x_ac, x_oi, x_new, x_na, x_cS, x_cV, x_cI, x_rI, x_rZ, x_rL, x_r0, pa, short, oc, lg, lset, lset2, wide, cond_true, cond_false, true_and, and_true, ↓reduceIte, Bool.false_eq_true, true_or, or_true, lf_X9_init, P_X5_init]
      refine ⟨by omega, by omega, by omega, by decide, (show ¬ S1.1 = 9999 by omega), by omega, by omega, tO_nw (S1, I1, L1) 5, by omega, fun M2 m1 m2 m3 m4 m5 => ⟨m1, m2, ?_⟩⟩
      have hK := (Kp.nw (S1, I1, L1) 5).trans m3
      have hK' : Kp 10 (S1, I1, L1) M2 := q1 ▸ hK
      have hU := Up.pu (f := 2) (x := S1.1) hK' (by omega) (by omega)
      have hGp := Gr.pu M2 0 2 S1.1 1 (by omega)
      have m4' : IsSt M2.1 10 := q1 ▸ m4
      refine ⟨(hK'.g (by omega)).O (by omega) t0, st37 _ (by show M2.1.1 = 15; omega) (by show M2.1.2.1 = _; omega) ⟨hB.u hU (by omega) (by omega), ?_, m4'.gr hGp (by omega) (by omega)⟩⟩
      rw [sR_pu]; exact q1
    have st15 : ∀ M, M.1.1 = 5 → M.1.2.1 = S.2.1 + 86 → B1 (S, I, L) M → J (mt_X9_init S.1 S.2.1) R 15 [some (.ref 0), none] [] M := fun ⟨S1, I1, L1⟩ q1 q2 hB => by
      replace q1 : S1.1 = 5 := q1
      replace q2 : S1.2.1 = S.2.1 + 86 := q2
      have t0 : tO S1 0 9 := hB.1.1
      have nf : nfC 5 = 8 := rfl
      refine J.of (tk_X9_init S.1 S.2.1) 200 fun ρ hρ => ?_
      simp only [hρ, x_c, x_il, x_ll, x_al, x_is, x_as, x_ls, x_inc, x_ii, x_iq, x_i1, x_l2, x_lq, x_lh, x_i2l, x_l2i, x_lcmp, x_dup, x_dup2, x_pop, x_if, x_ifn, x_ic, x_icn, x_go, x_sw, swc, x_l01, x_mx, x_gI, x_gL, x_gR, x_pI, x_pZ, x_pL, x_pR, x_ia, x_za, x_aa, x_ias, x_zas, x_aas, x_fac, x_fa, x_slen, x_sa, x_ac, x_oi, x_new, x_na, x_cS, x_cV, x_cI, x_rI, x_rZ, x_rL, x_r0, pa, short, oc, lg, lset, lset2, wide, cond_true, cond_false, true_and, and_true, ↓reduceIte, Bool.false_eq_true, true_or, or_true, lf_X9_init, P_X5_init]
      refine ⟨by omega, by omega, by omega, by decide, (show ¬ S1.1 = 9999 by omega), by omega, by omega, tO_nw (S1, I1, L1) 5, by omega, fun M2 m1 m2 m3 m4 m5 => ⟨m1, m2, ?_⟩⟩
      have hK := (Kp.nw (S1, I1, L1) 5).trans m3
      have hK' : Kp 5 (S1, I1, L1) M2 := q1 ▸ hK
      have hU := Up.pu (f := 1) (x := S1.1) hK' (by omega) (by omega)
      have hGp := Gr.pu M2 0 1 S1.1 1 (by omega)
      have m4' : IsSt M2.1 5 := q1 ▸ m4
      have m5' : StN M2.2.1 5 := q1 ▸ m5
      refine ⟨(hK'.g (by omega)).O (by omega) t0, st26 _ (by show M2.1.1 = 10; omega) (by show M2.1.2.1 = _; omega) ⟨hB.u hU (by omega) (by omega), ?_, m4'.gr hGp (by omega) (by omega), m5'⟩⟩
      rw [sR_pu]; exact q1
    refine J.of (tk_X9_init S.1 S.2.1) 200 fun ρ hρ => ?_
    simp only [hρ, x_c, x_il, x_ll, x_al, x_is, x_as, x_ls, x_inc, x_ii, x_iq, x_i1, x_l2, x_lq, x_lh, x_i2l, x_l2i, x_lcmp, x_dup, x_dup2, x_pop, x_if, x_ifn, x_ic, x_icn, x_go, x_sw, swc, x_l01, x_mx, x_gI, x_gL, x_gR, x_pI, x_pZ, x_pL, x_pR, x_ia, x_za, x_aa, x_ias, x_zas, x_aas, x_fac, x_fa, x_slen, x_sa, x_ac, x_oi, x_new, x_na, x_cS, x_cV, x_cI, x_rI, x_rZ, x_rL, x_r0, pa, short, oc, lg, lset, lset2, wide, cond_true, cond_false, true_and, and_true, ↓reduceIte, Bool.false_eq_true, true_or, or_true, lf_X9_init, x_o2]
    refine ⟨(show ¬ (0 : Nat) = 9999 by decide), ?_⟩
    have nf : nfC 7 = 3 := rfl
    refine J.of (tk_X9_init S.1 S.2.1) 200 fun ρ hρ => ?_
    simp only [hρ, x_c, x_il, x_ll, x_al, x_is, x_as, x_ls, x_inc, x_ii, x_iq, x_i1, x_l2, x_lq, x_lh, x_i2l, x_l2i, x_lcmp, x_dup, x_dup2, x_pop, x_if, x_ifn, x_ic, x_icn, x_go, x_sw, swc, x_l01, x_mx, x_gI, x_gL, x_gR, x_pI, x_pZ, x_pL, x_pR, x_ia, x_za, x_aa, x_ias, x_zas, x_aas, x_fac, x_fa, x_slen, x_sa, x_ac, x_oi, x_new, x_na, x_cS, x_cV, x_cI, x_rI, x_rZ, x_rL, x_r0, pa, short, oc, lg, lset, lset2, wide, cond_true, cond_false, true_and, and_true, ↓reduceIte, Bool.false_eq_true, true_or, or_true, lf_X9_init, P_X7_init]
    have htn : tO (nwM (S, I, L) 7).1 1 7 := hn' ▸ tO_nw (S, I, L) 7
    refine ⟨by omega, by omega, by omega, by decide, (show ¬ S.1 = 9999 by omega), by omega, by omega, hn', by omega, htn, fun M2 m1 m2 m3 m4 m5 m6 => ⟨by omega, by omega, ?_⟩⟩
    have hK := ((Kp.nw (S, I, L) 7).le (show 1 ≤ S.1 by omega)).trans m3
    have hU := Up.pu (f := 0) (x := S.1) hK (by omega) (by omega)
    have hGp := Gr.pu M2 0 0 S.1 1 (by omega)
    refine ⟨(hK.g (by omega)).O (by omega) ht, st15 _ m1 (by show M2.1.2.1 = _; omega) ⟨C0.u (M := (S, I, L)) ⟨ht, rfl, rfl⟩ hU (by omega), ?_, m4.gr hGp (by omega) (by omega), m5.gr hGp (by omega) (by omega), m6⟩⟩
    rw [sR_pu]; exact hn'
  obtain ⟨S1, I1, L1⟩ := M
  replace q1 : S1.1 = 97 + 5 * i := q1
  replace q2 : S1.2.1 = S.2.1 + 1528 + 86 * i := q2
  have t0 : tO S1 0 9 := hB.1.1.1.1.1.1.1.1.1
  obtain ⟨s8, sa, sl, ss⟩ := id h9
  replace s8 : sR S1 0 8 = 96 := s8
  replace sa : tA S1 96 3 := sa
  replace sl : ln S1 96 = 2 := sl
  by_cases hlt : i < 2
  · have n8 : nfC 5 = 8 := rfl
    refine J.of (tk_X9_init S.1 S.2.1) 200 fun ρ hρ => ?_
    simp only [hρ, x_c, x_il, x_ll, x_al, x_is, x_as, x_ls, x_inc, x_ii, x_iq, x_i1, x_l2, x_lq, x_lh, x_i2l, x_l2i, x_lcmp, x_dup, x_dup2, x_pop, x_if, x_ifn, x_ic, x_icn, x_go, x_sw, swc, x_l01, x_mx, x_gI, x_gL, x_gR, x_pI, x_pZ, x_pL, x_pR, x_ia, x_za, x_aa, x_ias, x_zas, x_aas, x_fac, x_fa, x_slen, x_sa, x_ac, x_oi, x_new, x_na, x_cS, x_cV, x_cI, x_rI, x_rZ, x_rL, x_r0, pa, short, oc, lg, lset, lset2, wide, cond_true, cond_false, true_and, and_true, ↓reduceIte, Bool.false_eq_true, true_or, or_true, lf_X9_init, t0, s8, show (2 : Int32) = nI 2 by decide, nI_leI (show 2 < 2 ^ 31 by omega) (show i < 2 ^ 31 by omega), ncl (show i < 2 ^ 31 by omega), nI_1, P_X5_init]
    refine ⟨fun h => absurd h (by omega), fun _ => ⟨by omega, by omega, by omega, by decide, (show ¬ S1.1 = 9999 by omega), by omega, by omega, tO_nw (S1, I1, L1) 5, by omega, fun M2 m1 m2 m3 m4 m5 => ⟨m1, m2, ?_⟩⟩⟩
    have hK := (Kp.nw (S1, I1, L1) 5).trans m3
    have hG := hK.g (by rw [m1]; show S1.1 ≤ S1.1 + 1 + 4; omega)
    have hG' : Gr 0 (97 + 5 * i) S1 M2.1 := by rw [← q1]; exact hG
    have e2 : M2.1.1 = 97 + 5 * (i + 1) := by rw [m1]; omega
    have hGp := Gr.pu M2 96 i S1.1 97 (by omega)
    rw [e2] at hGp
    have hln : ln M2.1 96 = 2 := hG'.l (by omega) sl
    rw [hln]
    have hU : Up 96 99 (S1, I1, L1) (puM M2 96 i S1.1) := by
      refine ⟨⟨by show 96 ≤ M2.1.1; omega, fun q hq => ⟨(hK q (by show q < S1.1; omega)).1, fun hz => ?_⟩⟩, fun q hq => ⟨(hK q (by show q < S1.1; omega)).2.2.1, (hK q (by show q < S1.1; omega)).2.2.2⟩, fun j hj => ?_⟩
      · exact (mS_n (by omega)).trans (hK q (by show q < S1.1; omega)).2.1
      · show mS M2.1.2.2.2 96 (va_up (M2.1.2.2.2 96) i S1.1) 0 j = _
        rw [mS_n (by omega), (hK 0 (by show 0 < S1.1; omega)).2.1]
    refine ⟨hG'.A (by omega) sa, vp_in_nI (by omega) (by omega), m4.1, (show ¬ S1.1 = 9999 by omega), ?_⟩
    refine ih hlt (puM M2 96 i S1.1) e2 (by show M2.1.2.1 = _; rw [m2]; omega) (hB.u hU (by omega) (by omega)) ⟨?_, hG'.A (by omega) sa, hln, fun r hr => ?_⟩
    · show mS M2.1.2.2.2 96 (va_up (M2.1.2.2.2 96) i S1.1) 0 8 = 96
      rw [mS_n (by omega)]
      exact hG'.r (by omega) (by omega) s8
    · by_cases e : r = i
      · subst e
        refine ⟨by rw [sR_pu]; exact q1, ?_⟩
        have hz : IsSt M2.1 (97 + 5 * r) := q1 ▸ m4
        exact hz.gr hGp (by omega) (by omega)
      · have hr' := ss r (by omega)
        refine ⟨by rw [sR_pun M2 e]; exact hG'.r (by omega) (by omega) hr'.1, ?_⟩
        exact (hr'.2.gr hG' (by omega) (by omega)).gr hGp (by omega) (by omega)
  · have : i = 2 := by omega
    subst this
    refine J.of (tk_X9_init S.1 S.2.1) 200 fun ρ hρ => ?_
    simp only [hρ, x_c, x_il, x_ll, x_al, x_is, x_as, x_ls, x_inc, x_ii, x_iq, x_i1, x_l2, x_lq, x_lh, x_i2l, x_l2i, x_lcmp, x_dup, x_dup2, x_pop, x_if, x_ifn, x_ic, x_icn, x_go, x_sw, swc, x_l01, x_mx, x_gI, x_gL, x_gR, x_pI, x_pZ, x_pL, x_pR, x_ia, x_za, x_aa, x_ias, x_zas, x_aas, x_fac, x_fa, x_slen, x_sa, x_ac, x_oi, x_new, x_na, x_cS, x_cV, x_cI, x_rI, x_rZ, x_rL, x_r0, pa, short, oc, lg, lset, lset2, wide, cond_true, cond_false, true_and, and_true, ↓reduceIte, Bool.false_eq_true, true_or, or_true, lf_X9_init, show (2 : Int32) = nI 2 by decide, nI_leI (show 2 < 2 ^ 31 by omega) (show 2 < 2 ^ 31 by omega), Nat.le_refl, true_implies, not_true_eq_false, false_implies]
    exact J.weak (by simp [lsub]) (st134 _ q1 (by show S1.2.1 = _; omega) hB h9)
