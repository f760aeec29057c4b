/-! DECODER, at 15 (order 16, q 17) -/
/-- apart from the decoder -/
def ap15 (k : Nat) : Prop := k + 5 ≤ 15 ∨ 18 ≤ k
def IsDc (S : Sh) : Prop := tO S 15 1 ∧ sR S 15 0 = 16 ∧ sR S 15 1 = 17 ∧ tA S 16 1 ∧ ln S 16 = 6 ∧ tA S 17 1 ∧ ln S 17 = 9
theorem IsDc.f {S : Sh} (h : IsDc S) : tO S 15 1 ∧ sR S 15 0 = 16 ∧ sR S 15 1 = 17 ∧ tA S 16 1 ∧ ln S 16 = 6 ∧ tA S 17 1 ∧ ln S 17 = 9 := h
theorem dj {k : Nat} (h : k + 5 ≤ 15 ∨ 18 ≤ k) : (((k = 15) = False) ∧ ((k + 1 = 15) = False) ∧ ((k + 2 = 15) = False) ∧ ((k + 3 = 15) = False) ∧ ((k + 4 = 15) = False)) ∧ (((k = 16) = False) ∧ ((k + 1 = 16) = False) ∧ ((k + 2 = 16) = False) ∧ ((k + 3 = 16) = False) ∧ ((k + 4 = 16) = False)) ∧ (((k = 17) = False) ∧ ((k + 1 = 17) = False) ∧ ((k + 2 = 17) = False) ∧ ((k + 3 = 17) = False) ∧ ((k + 4 = 17) = False)) ∧ (((15 = k) = False) ∧ ((15 = k + 1) = False) ∧ ((15 = k + 2) = False) ∧ ((15 = k + 3) = False) ∧ ((15 = k + 4) = False)) ∧ (((16 = k) = False) ∧ ((16 = k + 1) = False) ∧ ((16 = k + 2) = False) ∧ ((16 = k + 3) = False) ∧ ((16 = k + 4) = False)) ∧ (((17 = k) = False) ∧ ((17 = k + 1) = False) ∧ ((17 = k + 2) = False) ∧ ((17 = k + 3) = False) ∧ ((17 = k + 4) = False)) := by
  refine ⟨⟨?_, ?_, ?_, ?_, ?_⟩, ⟨?_, ?_, ?_, ?_, ?_⟩, ⟨?_, ?_, ?_, ?_, ?_⟩, ⟨?_, ?_, ?_, ?_, ?_⟩, ⟨?_, ?_, ?_, ?_, ?_⟩, ⟨?_, ?_, ?_, ?_, ?_⟩⟩ <;> exact eq_false (by omega)
theorem mS_sw {α : Type} {p q : Nat} (h : p ≠ q) (X : Nat → α) (a b : α) : mS (mS X p a) q b = mS (mS X q b) p a := by
  funext z
  simp only [mS]
  by_cases h1 : z = q
  · subst h1; simp [Ne.symm h]
  · by_cases h2 : z = p
    · subst h2; simp [h]
    · simp [h1, h2]
theorem sw1517 (X : MI) (a b : Nat → Int32) : mS (mS X 15 a) 17 b = mS (mS X 17 b) 15 a := mS_sw (by decide) X a b
def hld (v lo hi : Int32) : Int32 := if lo ≤ v then (if v ≤ hi then v else hi) else lo
def il_X9_held : List (Nat × Instr × Nat) := [(0, .iload_n 0, 1), (1, .iload_n 1, 1), (2, .if_icmp .ge 7, 3), (5, .iload_n 1, 1), (6, .goto 13, 3), (9, .iload_n 0, 1), (10, .iload_n 2, 1), (11, .if_icmp .le 7, 3), (14, .iload_n 2, 1), (15, .goto 4, 3), (18, .iload_n 0, 1), (19, .ireturn, 1)]
def mt_X9_held : Mt := (cX9_held, RX9, 3, (some .int), ({ frames := 0, cells := 0, slots := 0, locals := 0 } : Room), false, none, none)
set_option maxRecDepth 100000 in
theorem dl_X9_held : ∀ q ∈ il_X9_held, decode (mt_X9_held).1 q.1 = .ok q.2 := by decide +kernel
def tb_X9_held : Tb := [(0, x_il 1 0, false),
  (1, x_il 2 1, false),
  (2, x_ic 9 5 (fun x y : Int32 => y ≤ x), false),
  (5, x_il 6 1, false),
  (6, x_go 19, false),
  (9, x_il 10 0, false),
  (10, x_il 11 2, false),
  (11, x_ic 18 14 (fun x y : Int32 => x ≤ y), false),
  (14, x_il 15 2, false),
  (15, x_go 19, false),
  (18, x_il 19 0, false),
  (19, x_rI, false)]
set_option maxRecDepth 100000 in
theorem tk_X9_held : TbOk (mt_X9_held) (tb_X9_held) :=
  tkc (s_iload_n (at_ dl_X9_held 0 (ins := .iload_n 0) rfl)) (
  tkc (s_iload_n (at_ dl_X9_held 1 (ins := .iload_n 1) rfl)) (
  tkc (s_ic_ge (at_ dl_X9_held 2 (ins := .if_icmp .ge 7) rfl) (by decide)) (
  tkc (s_iload_n (at_ dl_X9_held 3 (ins := .iload_n 1) rfl)) (
  tkc (s_goto (at_ dl_X9_held 4 (ins := .goto 13) rfl) (by decide)) (
  tkc (s_iload_n (at_ dl_X9_held 5 (ins := .iload_n 0) rfl)) (
  tkc (s_iload_n (at_ dl_X9_held 6 (ins := .iload_n 2) rfl)) (
  tkc (s_ic_le (at_ dl_X9_held 7 (ins := .if_icmp .le 7) rfl) (by decide)) (
  tkc (s_iload_n (at_ dl_X9_held 8 (ins := .iload_n 2) rfl)) (
  tkc (s_goto (at_ dl_X9_held 9 (ins := .goto 4) rfl) (by decide)) (
  tkc (s_iload_n (at_ dl_X9_held 10 (ins := .iload_n 0) rfl)) (
  tkc (s_rI (at_ dl_X9_held 11 (ins := .ireturn) rfl) rfl) ( tk0))))))))))))
theorem lf_X9_held : lk (tb_X9_held) 0 = (x_il 1 0, false) ∧ lk (tb_X9_held) 1 = (x_il 2 1, false) ∧ lk (tb_X9_held) 2 = (x_ic 9 5 (fun x y : Int32 => y ≤ x), false) ∧ lk (tb_X9_held) 5 = (x_il 6 1, false) ∧ lk (tb_X9_held) 6 = (x_go 19, false) ∧ lk (tb_X9_held) 9 = (x_il 10 0, false) ∧ lk (tb_X9_held) 10 = (x_il 11 2, false) ∧ lk (tb_X9_held) 11 = (x_ic 18 14 (fun x y : Int32 => x ≤ y), false) ∧ lk (tb_X9_held) 14 = (x_il 15 2, false) ∧ lk (tb_X9_held) 15 = (x_go 19, false) ∧ lk (tb_X9_held) 18 = (x_il 19 0, false) ∧ lk (tb_X9_held) 19 = (x_rI, false) := ⟨rfl, rfl, rfl, rfl, rfl, rfl, rfl, rfl, rfl, rfl, rfl, rfl⟩
def P_X9_held : PTT := fun as M R => match as with
  | [.int v, .int lo, .int hi] => R (some (.int (hld v lo hi))) M
  | _ => False
set_option maxRecDepth 20000 in
theorem ok_X9_held : Ok yX9_held mt_X9_held P_X9_held := by
  refine Ok.of (by decide) rfl rfl rfl rfl fun av ⟨S, I, L⟩ R hP => ?_
  unfold P_X9_held at hP
  split at hP
  case h_2 => exact hP.elim
  rename_i v lo hi
  refine ⟨by simp [ent, wide, mt_X9_held], ?_⟩
  show J mt_X9_held R 0 [some (.int v), some (.int lo), some (.int hi)] [] (S, I, L)
  try dsimp only at hP
  refine J.of tk_X9_held 200 fun ρ hρ => ?_
  simp only [hρ, x_c, x_il, x_ll, x_al, x_is, x_as, x_ls, x_inc, x_ii, x_iq, x_i1, x_l2, x_lq, x_lh, x_i2l, x_l2i, x_lcmp, x_dup, x_dup2, x_pop, x_if, x_ifn, x_ic, x_icn, x_go, x_sw, swc, x_l01, x_mx, x_gI, x_gL, x_gR, x_pI, x_pZ, x_pL, x_pR, x_ia, x_za, x_aa, x_ias, x_zas, x_aas, x_fac, x_fa, x_slen, x_sa, x_ac, x_oi, x_new, x_na, x_cS, x_cV, x_cI, x_rI, x_rZ, x_rL, x_r0, pa, short, oc, lg, lset, lset2, wide, cond_true, cond_false, true_and, and_true, ↓reduceIte, Bool.false_eq_true, true_or, or_true, lf_X9_held]
  unfold hld at hP
  refine ⟨fun h => ⟨fun h2 => ?_, fun h2 => ?_⟩, fun h => ?_⟩
  · rwa [if_pos h, if_pos h2] at hP
  · rwa [if_pos h, if_neg h2] at hP
  · rwa [if_neg h] at hP
def am (v : Int32) : Int32 := if 0 ≤ v then v else -v
/-- least, second, where, signs of the first i bits -/
def foS (Q : Nat → Int32) (s : Nat) : Nat → Int32 × Int32 × Int32 × Int32
  | 0 => (99, 99, -1, 0)
  | i + 1 => if s.testBit i then (if (foS Q s i).1 ≤ am (Q i) then (if (foS Q s i).2.1 ≤ am (Q i) then ((foS Q s i).1, (foS Q s i).2.1, (foS Q s i).2.2.1, (foS Q s i).2.2.2 ^^^ ushr (Q i) 31) else ((foS Q s i).1, am (Q i), (foS Q s i).2.2.1, (foS Q s i).2.2.2 ^^^ ushr (Q i) 31)) else (am (Q i), (foS Q s i).1, nI i, (foS Q s i).2.2.2 ^^^ ushr (Q i) 31)) else foS Q s i
theorem foS_a {Q : Nat → Int32} {s i : Nat} (hb : s.testBit i = true) (h1 : (foS Q s i).1 ≤ am (Q i)) (h2 : (foS Q s i).2.1 ≤ am (Q i)) : foS Q s (i + 1) = ((foS Q s i).1, (foS Q s i).2.1, (foS Q s i).2.2.1, (foS Q s i).2.2.2 ^^^ ushr (Q i) 31) := by rw [foS, if_pos hb, if_pos h1, if_pos h2]
theorem foS_b {Q : Nat → Int32} {s i : Nat} (hb : s.testBit i = true) (h1 : (foS Q s i).1 ≤ am (Q i)) (h2 : ¬ (foS Q s i).2.1 ≤ am (Q i)) : foS Q s (i + 1) = ((foS Q s i).1, am (Q i), (foS Q s i).2.2.1, (foS Q s i).2.2.2 ^^^ ushr (Q i) 31) := by rw [foS, if_pos hb, if_pos h1, if_neg h2]
theorem foS_c {Q : Nat → Int32} {s i : Nat} (hb : s.testBit i = true) (h1 : ¬ (foS Q s i).1 ≤ am (Q i)) : foS Q s (i + 1) = (am (Q i), (foS Q s i).1, nI i, (foS Q s i).2.2.2 ^^^ ushr (Q i) 31) := by rw [foS, if_pos hb, if_neg h1]
/-- q, for the bits of the check -/
def qr (Q : Nat → Int32) (s : Nat) (f : Nat → Int32) (i : Nat) : Nat → Int32 := fun b => if b < i ∧ s.testBit b = true then Q b else f b
theorem qr_0 (Q : Nat → Int32) (s : Nat) (f : Nat → Int32) : qr Q s f 0 = f := by funext b; simp [qr]
theorem qr_t {Q : Nat → Int32} {s i : Nat} (f : Nat → Int32) (h : s.testBit i = true) : upd (qr Q s f i) i (Q i) = qr Q s f (i + 1) := by
  funext b
  simp only [upd, qr]
  by_cases hb : b = i
  · subst hb; simp [h]
  · by_cases h2 : b < i
    · simp [hb, h2, show b < i + 1 by omega]
    · simp [hb, h2, show ¬ b < i + 1 by omega]
theorem qr_f {Q : Nat → Int32} {s i : Nat} (f : Nat → Int32) (h : ¬ s.testBit i = true) : qr Q s f i = qr Q s f (i + 1) := by
  funext b
  simp only [qr]
  by_cases hb : b = i
  · subst hb; simp [h]
  · by_cases h2 : b < i
    · simp [h2, show b < i + 1 by omega]
    · simp [h2, show ¬ b < i + 1 by omega]
def Qv (I : MI) (k f : Nat) : Nat → Int32 := fun b => I (k + 3) b - I (k + 4) (f + b)
def foI (I : MI) (Q : Nat → Int32) (s n : Nat) : MI := mS (mS I 17 (qr Q s (I 17) n)) 15 (upd (upd (upd (I 15) 4 (foS Q s n).2.2.1) 2 (foS Q s n).1) 3 (foS Q s n).2.1)
theorem upd_upd (f : Nat → Int32) (k : Nat) (a b : Int32) : upd (upd f k a) k b = upd f k b := by
  funext j; simp only [upd]; split <;> rfl
def il_X1_findOthers : List (Nat × Instr × Nat) := [(0, .bipush 99, 2), (2, .istore 4, 2), (4, .bipush 99, 2), (6, .istore 5, 2), (8, .iconst 0, 1), (9, .istore 6, 2), (11, .aload_n 0, 1), (12, .iconst (-1), 1), (13, .putfield 52, 3), (16, .iconst 0, 1), (17, .istore 7, 2), (19, .iload 7, 2), (21, .aload_n 1, 1), (22, .getfield 55, 3), (25, .if_icmp .ge 106, 3), (28, .iload_n 2, 1), (29, .iload 7, 2), (31, .ishr, 1), (32, .iconst 1, 1), (33, .iand, 1), (34, .ifCond .eq 91, 3), (37, .aload_n 1, 1), (38, .getfield 58, 3), (41, .iload 7, 2), (43, .iaload, 1), (44, .aload_n 1, 1), (45, .getfield 61, 3), (48, .iload_n 3, 1), (49, .iload 7, 2), (51, .iadd, 1), (52, .iaload, 1), (53, .isub, 1), (54, .istore 8, 2), (56, .iload 8, 2), (58, .ifCond .ge 9, 3), (61, .iload 8, 2), (63, .ineg, 1), (64, .goto 5, 3), (67, .iload 8, 2), (69, .istore 9, 2), (71, .aload_n 0, 1), (72, .getfield 15, 3), (75, .iload 7, 2), (77, .iload 8, 2), (79, .iastore, 1), (80, .iload 6, 2), (82, .iload 8, 2), (84, .bipush 31, 2), (86, .iushr, 1), (87, .ixor, 1), (88, .istore 6, 2), (90, .iload 9, 2), (92, .iload 4, 2), (94, .if_icmp .ge 20, 3), (97, .iload 4, 2), (99, .istore 5, 2), (101, .iload 9, 2), (103, .istore 4, 2), (105, .aload_n 0, 1), (106, .iload 7, 2), (108, .putfield 52, 3), (111, .goto 14, 3), (114, .iload 9, 2), (116, .iload 5, 2), (118, .if_icmp .ge 7, 3), (121, .iload 9, 2), (123, .istore 5, 2), (125, .iinc 7 1, 3), (128, .goto (-109), 3), (131, .aload_n 0, 1), (132, .iload 4, 2), (134, .putfield 64, 3), (137, .aload_n 0, 1), (138, .iload 5, 2), (140, .putfield 67, 3), (143, .iload 6, 2), (145, .ireturn, 1)]
def mt_X1_findOthers : Mt := (cX1_findOthers, RX1, 10, (some .int), ({ frames := 0, cells := 0, slots := 0, locals := 0 } : Room), false, none, none)
set_option maxRecDepth 100000 in
theorem dl_X1_findOthers : ∀ q ∈ il_X1_findOthers, decode (mt_X1_findOthers).1 q.1 = .ok q.2 := by decide +kernel
def tb_X1_findOthers : Tb := [(0, x_c 2 (.int 99), false),
  (2, x_is 4 4, false),
  (4, x_c 6 (.int 99), false),
  (6, x_is 8 5, false),
  (8, x_c 9 (.int 0), false),
  (9, x_is 11 6, false),
  (11, x_al 12 0, false),
  (12, x_c 13 (.int (-1)), false),
  (13, x_pI 1 4 16, false),
  (16, x_c 17 (.int 0), false),
  (17, x_is 19 7, false),
  (19, x_il 21 7, true),
  (21, x_al 22 1, false),
  (22, x_gI 5 4 25, false),
  (25, x_ic 131 28 (fun x y : Int32 => y ≤ x), false),
  (28, x_il 29 2, false),
  (29, x_il 31 7, false),
  (31, x_ii 32 (fun x y : Int32 => x >>> (y &&& 31)), false),
  (32, x_c 33 (.int 1), false),
  (33, x_ii 34 (fun x y : Int32 => x &&& y), false),
  (34, x_if 125 37 (fun x : Int32 => x = 0), false),
  (37, x_al 38 1, false),
  (38, x_gR 5 2 41, false),
  (41, x_il 43 7, false),
  (43, x_ia 44, false),
  (44, x_al 45 1, false),
  (45, x_gR 5 3 48, false),
  (48, x_il 49 3, false),
  (49, x_il 51 7, false),
  (51, x_ii 52 (fun x y : Int32 => x + y), false),
  (52, x_ia 53, false),
  (53, x_ii 54 (fun x y : Int32 => x - y), false),
  (54, x_is 56 8, false),
  (56, x_il 58 8, false),
  (58, x_if 67 61 (fun x : Int32 => 0 ≤ x), false),
  (61, x_il 63 8, false),
  (63, x_i1 64 (fun x : Int32 => -x), false),
  (64, x_go 69, false),
  (67, x_il 69 8, false),
  (69, x_is 71 9, true),
  (71, x_al 72 0, false),
  (72, x_gR 1 1 75, false),
  (75, x_il 77 7, false),
  (77, x_il 79 8, false),
  (79, x_ias 80, false),
  (80, x_il 82 6, false),
  (82, x_il 84 8, false),
  (84, x_c 86 (.int 31), false),
  (86, x_ii 87 ushr, false),
  (87, x_ii 88 (fun x y : Int32 => x ^^^ y), false),
  (88, x_is 90 6, false),
  (90, x_il 92 9, false),
  (92, x_il 94 4, false),
  (94, x_ic 114 97 (fun x y : Int32 => y ≤ x), false),
  (97, x_il 99 4, false),
  (99, x_is 101 5, false),
  (101, x_il 103 9, false),
  (103, x_is 105 4, false),
  (105, x_al 106 0, false),
  (106, x_il 108 7, false),
  (108, x_pI 1 4 111, false),
  (111, x_go 125, false),
  (114, x_il 116 9, false),
  (116, x_il 118 5, false),
  (118, x_ic 125 121 (fun x y : Int32 => y ≤ x), false),
  (121, x_il 123 9, false),
  (123, x_is 125 5, false),
  (125, x_inc 128 7 1, false),
  (128, x_go 19, false),
  (131, x_al 132 0, false),
  (132, x_il 134 4, false),
  (134, x_pI 1 2 137, false),
  (137, x_al 138 0, false),
  (138, x_il 140 5, false),
  (140, x_pI 1 3 143, false),
  (143, x_il 145 6, false),
  (145, x_rI, false)]
set_option maxRecDepth 100000 in
theorem tk_X1_findOthers : TbOk (mt_X1_findOthers) (tb_X1_findOthers) :=
  tkc (s_bipush (at_ dl_X1_findOthers 0 (ins := .bipush 99) rfl) (by first | rfl | decide)) (
  tkc (s_istore (at_ dl_X1_findOthers 1 (ins := .istore 4) rfl) (by decide)) (
  tkc (s_bipush (at_ dl_X1_findOthers 2 (ins := .bipush 99) rfl) (by first | rfl | decide)) (
  tkc (s_istore (at_ dl_X1_findOthers 3 (ins := .istore 5) rfl) (by decide)) (
  tkc (s_iconst (at_ dl_X1_findOthers 4 (ins := .iconst 0) rfl) (by first | rfl | decide)) (
  tkc (s_istore (at_ dl_X1_findOthers 5 (ins := .istore 6) rfl) (by decide)) (
  tkc (s_aload_n (at_ dl_X1_findOthers 6 (ins := .aload_n 0) rfl)) (
  tkc (s_iconst (at_ dl_X1_findOthers 7 (ins := .iconst (-1)) rfl) (by first | rfl | decide)) (
  tkc (s_pI (at_ dl_X1_findOthers 8 (ins := .putfield 52) rfl) (by decide) (by decide) (by decide) (by decide) (tg 182 (by decide +kernel) (by decide +kernel))) (
  tkc (s_iconst (at_ dl_X1_findOthers 9 (ins := .iconst 0) rfl) (by first | rfl | decide)) (
  tkc (s_istore (at_ dl_X1_findOthers 10 (ins := .istore 7) rfl) (by decide)) (
  tkc (s_iload (at_ dl_X1_findOthers 11 (ins := .iload 7) rfl)) (
  tkc (s_aload_n (at_ dl_X1_findOthers 12 (ins := .aload_n 1) rfl)) (
  tkc (s_gI (at_ dl_X1_findOthers 13 (ins := .getfield 55) rfl) (by decide) (by decide) (by decide) (tg 138 (by decide +kernel) (by decide +kernel))) (
  tkc (s_ic_ge (at_ dl_X1_findOthers 14 (ins := .if_icmp .ge 106) rfl) (by decide)) (
  tkc (s_iload_n (at_ dl_X1_findOthers 15 (ins := .iload_n 2) rfl)) (
  tkc (s_iload (at_ dl_X1_findOthers 16 (ins := .iload 7) rfl)) (
  tkc (s_ishr (at_ dl_X1_findOthers 17 (ins := .ishr) rfl)) (
  tkc (s_iconst (at_ dl_X1_findOthers 18 (ins := .iconst 1) rfl) (by first | rfl | decide)) (
  tkc (s_iand (at_ dl_X1_findOthers 19 (ins := .iand) rfl)) (
  tkc (s_if_eq (at_ dl_X1_findOthers 20 (ins := .ifCond .eq 91) rfl) (by decide)) (
  tkc (s_aload_n (at_ dl_X1_findOthers 21 (ins := .aload_n 1) rfl)) (
  tkc (s_gR (at_ dl_X1_findOthers 22 (ins := .getfield 58) rfl) (by decide) (by decide) (by decide) (tg 129 (by decide +kernel) (by decide +kernel))) (
  tkc (s_iload (at_ dl_X1_findOthers 23 (ins := .iload 7) rfl)) (
  tkc (s_ia (at_ dl_X1_findOthers 24 (ins := .iaload) rfl)) (
  tkc (s_aload_n (at_ dl_X1_findOthers 25 (ins := .aload_n 1) rfl)) (
  tkc (s_gR (at_ dl_X1_findOthers 26 (ins := .getfield 61) rfl) (by decide) (by decide) (by decide) (tg 132 (by decide +kernel) (by decide +kernel))) (
  tkc (s_iload_n (at_ dl_X1_findOthers 27 (ins := .iload_n 3) rfl)) (
  tkc (s_iload (at_ dl_X1_findOthers 28 (ins := .iload 7) rfl)) (
  tkc (s_iadd (at_ dl_X1_findOthers 29 (ins := .iadd) rfl)) (
  tkc (s_ia (at_ dl_X1_findOthers 30 (ins := .iaload) rfl)) (
  tkc (s_isub (at_ dl_X1_findOthers 31 (ins := .isub) rfl)) (
  tkc (s_istore (at_ dl_X1_findOthers 32 (ins := .istore 8) rfl) (by decide)) (
  tkc (s_iload (at_ dl_X1_findOthers 33 (ins := .iload 8) rfl)) (
  tkc (s_if_ge (at_ dl_X1_findOthers 34 (ins := .ifCond .ge 9) rfl) (by decide)) (
  tkc (s_iload (at_ dl_X1_findOthers 35 (ins := .iload 8) rfl)) (
  tkc (s_ineg (at_ dl_X1_findOthers 36 (ins := .ineg) rfl)) (
  tkc (s_goto (at_ dl_X1_findOthers 37 (ins := .goto 5) rfl) (by decide)) (
  tkc (s_iload (at_ dl_X1_findOthers 38 (ins := .iload 8) rfl)) (
  tkc (s_istore (at_ dl_X1_findOthers 39 (ins := .istore 9) rfl) (by decide)) (
  tkc (s_aload_n (at_ dl_X1_findOthers 40 (ins := .aload_n 0) rfl)) (
  tkc (s_gR (at_ dl_X1_findOthers 41 (ins := .getfield 15) rfl) (by decide) (by decide) (by decide) (tg 179 (by decide +kernel) (by decide +kernel))) (
  tkc (s_iload (at_ dl_X1_findOthers 42 (ins := .iload 7) rfl)) (
  tkc (s_iload (at_ dl_X1_findOthers 43 (ins := .iload 8) rfl)) (
  tkc (s_ias (at_ dl_X1_findOthers 44 (ins := .iastore) rfl)) (
  tkc (s_iload (at_ dl_X1_findOthers 45 (ins := .iload 6) rfl)) (
  tkc (s_iload (at_ dl_X1_findOthers 46 (ins := .iload 8) rfl)) (
  tkc (s_bipush (at_ dl_X1_findOthers 47 (ins := .bipush 31) rfl) (by first | rfl | decide)) (
  tkc (s_iushr (at_ dl_X1_findOthers 48 (ins := .iushr) rfl)) (
  tkc (s_ixor (at_ dl_X1_findOthers 49 (ins := .ixor) rfl)) (
  tkc (s_istore (at_ dl_X1_findOthers 50 (ins := .istore 6) rfl) (by decide)) (
  tkc (s_iload (at_ dl_X1_findOthers 51 (ins := .iload 9) rfl)) (
  tkc (s_iload (at_ dl_X1_findOthers 52 (ins := .iload 4) rfl)) (
  tkc (s_ic_ge (at_ dl_X1_findOthers 53 (ins := .if_icmp .ge 20) rfl) (by decide)) (
  tkc (s_iload (at_ dl_X1_findOthers 54 (ins := .iload 4) rfl)) (
  tkc (s_istore (at_ dl_X1_findOthers 55 (ins := .istore 5) rfl) (by decide)) (
  tkc (s_iload (at_ dl_X1_findOthers 56 (ins := .iload 9) rfl)) (
  tkc (s_istore (at_ dl_X1_findOthers 57 (ins := .istore 4) rfl) (by decide)) (
  tkc (s_aload_n (at_ dl_X1_findOthers 58 (ins := .aload_n 0) rfl)) (
  tkc (s_iload (at_ dl_X1_findOthers 59 (ins := .iload 7) rfl)) (
  tkc (s_pI (at_ dl_X1_findOthers 60 (ins := .putfield 52) rfl) (by decide) (by decide) (by decide) (by decide) (tg 182 (by decide +kernel) (by decide +kernel))) (
  tkc (s_goto (at_ dl_X1_findOthers 61 (ins := .goto 14) rfl) (by decide)) (
  tkc (s_iload (at_ dl_X1_findOthers 62 (ins := .iload 9) rfl)) (
  tkc (s_iload (at_ dl_X1_findOthers 63 (ins := .iload 5) rfl)) (
  tkc (s_ic_ge (at_ dl_X1_findOthers 64 (ins := .if_icmp .ge 7) rfl) (by decide)) (
  tkc (s_iload (at_ dl_X1_findOthers 65 (ins := .iload 9) rfl)) (
  tkc (s_istore (at_ dl_X1_findOthers 66 (ins := .istore 5) rfl) (by decide)) (
  tkc (s_iinc (at_ dl_X1_findOthers 67 (ins := .iinc 7 1) rfl) (by decide) (by first | rfl | decide)) (
  tkc (s_goto (at_ dl_X1_findOthers 68 (ins := .goto (-109)) rfl) (by decide)) (
  tkc (s_aload_n (at_ dl_X1_findOthers 69 (ins := .aload_n 0) rfl)) (
  tkc (s_iload (at_ dl_X1_findOthers 70 (ins := .iload 4) rfl)) (
  tkc (s_pI (at_ dl_X1_findOthers 71 (ins := .putfield 64) rfl) (by decide) (by decide) (by decide) (by decide) (tg 180 (by decide +kernel) (by decide +kernel))) (
  tkc (s_aload_n (at_ dl_X1_findOthers 72 (ins := .aload_n 0) rfl)) (
  tkc (s_iload (at_ dl_X1_findOthers 73 (ins := .iload 5) rfl)) (
  tkc (s_pI (at_ dl_X1_findOthers 74 (ins := .putfield 67) rfl) (by decide) (by decide) (by decide) (by decide) (tg 181 (by decide +kernel) (by decide +kernel))) (
  tkc (s_iload (at_ dl_X1_findOthers 75 (ins := .iload 6) rfl)) (
  tkc (s_rI (at_ dl_X1_findOthers 76 (ins := .ireturn) rfl) rfl) ( tk0)))))))))))))))))))))))))))))))))))))))))))))))))))))))))))))))))))))))))))))
theorem lf_X1_findOthers : lk (tb_X1_findOthers) 0 = (x_c 2 (.int 99), false) ∧ lk (tb_X1_findOthers) 2 = (x_is 4 4, false) ∧ lk (tb_X1_findOthers) 4 = (x_c 6 (.int 99), false) ∧ lk (tb_X1_findOthers) 6 = (x_is 8 5, false) ∧ lk (tb_X1_findOthers) 8 = (x_c 9 (.int 0), false) ∧ lk (tb_X1_findOthers) 9 = (x_is 11 6, false) ∧ lk (tb_X1_findOthers) 11 = (x_al 12 0, false) ∧ lk (tb_X1_findOthers) 12 = (x_c 13 (.int (-1)), false) ∧ lk (tb_X1_findOthers) 13 = (x_pI 1 4 16, false) ∧ lk (tb_X1_findOthers) 16 = (x_c 17 (.int 0), false) ∧ lk (tb_X1_findOthers) 17 = (x_is 19 7, false) ∧ lk (tb_X1_findOthers) 19 = (x_il 21 7, true) ∧ lk (tb_X1_findOthers) 21 = (x_al 22 1, false) ∧ lk (tb_X1_findOthers) 22 = (x_gI 5 4 25, false) ∧ lk (tb_X1_findOthers) 25 = (x_ic 131 28 (fun x y : Int32 => y ≤ x), false) ∧ lk (tb_X1_findOthers) 28 = (x_il 29 2, false) ∧ lk (tb_X1_findOthers) 29 = (x_il 31 7, false) ∧ lk (tb_X1_findOthers) 31 = (x_ii 32 (fun x y : Int32 => x >>> (y &&& 31)), false) ∧ lk (tb_X1_findOthers) 32 = (x_c 33 (.int 1), false) ∧ lk (tb_X1_findOthers) 33 = (x_ii 34 (fun x y : Int32 => x &&& y), false) ∧ lk (tb_X1_findOthers) 34 = (x_if 125 37 (fun x : Int32 => x = 0), false) ∧ lk (tb_X1_findOthers) 37 = (x_al 38 1, false) ∧ lk (tb_X1_findOthers) 38 = (x_gR 5 2 41, false) ∧ lk (tb_X1_findOthers) 41 = (x_il 43 7, false) ∧ lk (tb_X1_findOthers) 43 = (x_ia 44, false) ∧ lk (tb_X1_findOthers) 44 = (x_al 45 1, false) ∧ lk (tb_X1_findOthers) 45 = (x_gR 5 3 48, false) ∧ lk (tb_X1_findOthers) 48 = (x_il 49 3, false) ∧ lk (tb_X1_findOthers) 49 = (x_il 51 7, false) ∧ lk (tb_X1_findOthers) 51 = (x_ii 52 (fun x y : Int32 => x + y), false) ∧ lk (tb_X1_findOthers) 52 = (x_ia 53, false) ∧ lk (tb_X1_findOthers) 53 = (x_ii 54 (fun x y : Int32 => x - y), false) ∧ lk (tb_X1_findOthers) 54 = (x_is 56 8, false) ∧ lk (tb_X1_findOthers) 56 = (x_il 58 8, false) ∧ lk (tb_X1_findOthers) 58 = (x_if 67 61 (fun x : Int32 => 0 ≤ x), false) ∧ lk (tb_X1_findOthers) 61 = (x_il 63 8, false) ∧ lk (tb_X1_findOthers) 63 = (x_i1 64 (fun x : Int32 => -x), false) ∧ lk (tb_X1_findOthers) 64 = (x_go 69, false) ∧ lk (tb_X1_findOthers) 67 = (x_il 69 8, false) ∧ lk (tb_X1_findOthers) 69 = (x_is 71 9, true) ∧ lk (tb_X1_findOthers) 71 = (x_al 72 0, false) ∧ lk (tb_X1_findOthers) 72 = (x_gR 1 1 75, false) ∧ lk (tb_X1_findOthers) 75 = (x_il 77 7, false) ∧ lk (tb_X1_findOthers) 77 = (x_il 79 8, false) ∧ lk (tb_X1_findOthers) 79 = (x_ias 80, false) ∧ lk (tb_X1_findOthers) 80 = (x_il 82 6, false) ∧ lk (tb_X1_findOthers) 82 = (x_il 84 8, false) ∧ lk (tb_X1_findOthers) 84 = (x_c 86 (.int 31), false) ∧ lk (tb_X1_findOthers) 86 = (x_ii 87 ushr, false) ∧ lk (tb_X1_findOthers) 87 = (x_ii 88 (fun x y : Int32 => x ^^^ y), false) ∧ lk (tb_X1_findOthers) 88 = (x_is 90 6, false) ∧ lk (tb_X1_findOthers) 90 = (x_il 92 9, false) ∧ lk (tb_X1_findOthers) 92 = (x_il 94 4, false) ∧ lk (tb_X1_findOthers) 94 = (x_ic 114 97 (fun x y : Int32 => y ≤ x), false) ∧ lk (tb_X1_findOthers) 97 = (x_il 99 4, false) ∧ lk (tb_X1_findOthers) 99 = (x_is 101 5, false) ∧ lk (tb_X1_findOthers) 101 = (x_il 103 9, false) ∧ lk (tb_X1_findOthers) 103 = (x_is 105 4, false) ∧ lk (tb_X1_findOthers) 105 = (x_al 106 0, false) ∧ lk (tb_X1_findOthers) 106 = (x_il 108 7, false) ∧ lk (tb_X1_findOthers) 108 = (x_pI 1 4 111, false) ∧ lk (tb_X1_findOthers) 111 = (x_go 125, false) ∧ lk (tb_X1_findOthers) 114 = (x_il 116 9, false) ∧ lk (tb_X1_findOthers) 116 = (x_il 118 5, false) ∧ lk (tb_X1_findOthers) 118 = (x_ic 125 121 (fun x y : Int32 => y ≤ x), false) ∧ lk (tb_X1_findOthers) 121 = (x_il 123 9, false) ∧ lk (tb_X1_findOthers) 123 = (x_is 125 5, false) ∧ lk (tb_X1_findOthers) 125 = (x_inc 128 7 1, false) ∧ lk (tb_X1_findOthers) 128 = (x_go 19, false) ∧ lk (tb_X1_findOthers) 131 = (x_al 132 0, false) ∧ lk (tb_X1_findOthers) 132 = (x_il 134 4, false) ∧ lk (tb_X1_findOthers) 134 = (x_pI 1 2 137, false) ∧ lk (tb_X1_findOthers) 137 = (x_al 138 0, false) ∧ lk (tb_X1_findOthers) 138 = (x_il 140 5, false) ∧ lk (tb_X1_findOthers) 140 = (x_pI 1 3 143, false) ∧ lk (tb_X1_findOthers) 143 = (x_il 145 6, false) ∧ lk (tb_X1_findOthers) 145 = (x_rI, false) := ⟨rfl, rfl, rfl, rfl, rfl, rfl, rfl, rfl, rfl, rfl, rfl, rfl, rfl, rfl, rfl, rfl, rfl, rfl, rfl, rfl, rfl, rfl, rfl, rfl, rfl, rfl, rfl, rfl, rfl, rfl, rfl, rfl, rfl, rfl, rfl, rfl, rfl, rfl, rfl, rfl, rfl, rfl, rfl, rfl, rfl, rfl, rfl, rfl, rfl, rfl, rfl, rfl, rfl, rfl, rfl, rfl, rfl, rfl, rfl, rfl, rfl, rfl, rfl, rfl, rfl, rfl, rfl, rfl, rfl, rfl, rfl, rfl, rfl, rfl, rfl, rfl, rfl⟩
def P_X1_findOthers : PTT := fun as M R => match as with
  | [.ref d, .ref k, .int ov, .int fr] => d = 15 ∧ IsDc M.1 ∧ IsSt M.1 k ∧ ap15 k ∧ (∃ n, n ≤ 9 ∧ M.2.1 k 4 = nI n) ∧ tn ov < 512 ∧ (∃ c, c < 6 ∧ fr = nI (9 * c)) ∧
      R (some (.int (foS (Qv M.2.1 k (tn fr)) (tn ov) (tn (M.2.1 k 4))).2.2.2)) (M.1, foI M.2.1 (Qv M.2.1 k (tn fr)) (tn ov) (tn (M.2.1 k 4)), M.2.2)
  | _ => False
theorem bit_c {s b : Nat} (hs : s < 2 ^ 31) (hb : b < 31) : ((nI s >>> (nI b &&& 31)) &&& 1 = 0) ↔ ¬ s.testBit b = true := by
  rw [bitAt hs hb]
  cases s.testBit b <;> decide
theorem tn_ex {x : Int32} {N : Nat} (h : tn x < N) : ∃ s, s < N ∧ x = nI s := ⟨tn x, h, (nI_tn x).symm⟩
set_option maxRecDepth 20000 in
theorem ok_X1_findOthers : Ok yX1_findOthers mt_X1_findOthers P_X1_findOthers := by
  refine Ok.of (by decide) rfl rfl rfl rfl fun av ⟨S, I, L⟩ R hP => ?_
  unfold P_X1_findOthers at hP
  split at hP
  case h_2 => exact hP.elim
  rename_i d k ov fr
  obtain ⟨d, rfl⟩ : ∃ q : Nat, q = d := ⟨d, rfl⟩
  obtain ⟨k, rfl⟩ : ∃ q : Nat, q = k := ⟨k, rfl⟩
  refine ⟨by simp [ent, wide, mt_X1_findOthers], ?_⟩
  show J mt_X1_findOthers R 0 [some (.ref d), some (.ref k), some (.int ov), some (.int fr), none, none, none, none, none, none] [] (S, I, L)
  try dsimp only at hP
  obtain ⟨rfl, hd, hk, hj, ⟨n, h9, hn⟩, hov, ⟨c, hc, rfl⟩, hR⟩ := hP
  obtain ⟨s, hs, rfl⟩ := tn_ex hov
  rw [hn, tn_nI (n := n) (by omega), tn_nI (n := 9 * c) (by omega), tn_nI (n := s) (by omega)] at hR
  generalize hQ : Qv I k (9 * c) = Q at hR
  refine J.of tk_X1_findOthers 200 fun ρ hρ => ?_
  simp only [hρ, x_c, x_il, x_ll, x_al, x_is, x_as, x_ls, x_inc, x_ii, x_iq, x_i1, x_l2, x_lq, x_lh, x_i2l, x_l2i, x_lcmp, x_dup, x_dup2, x_pop, x_if, x_ifn, x_ic, x_icn, x_go, x_sw, swc, x_l01, x_mx, x_gI, x_gL, x_gR, x_pI, x_pZ, x_pL, x_pR, x_ia, x_za, x_aa, x_ias, x_zas, x_aas, x_fac, x_fa, x_slen, x_sa, x_ac, x_oi, x_new, x_na, x_cS, x_cV, x_cI, x_rI, x_rZ, x_rL, x_r0, pa, short, oc, lg, lset, lset2, wide, cond_true, cond_false, true_and, and_true, ↓reduceIte, Bool.false_eq_true, true_or, or_true, lf_X1_findOthers, hd.f, mS_app, Nat.reduceEqDiff]
  have key := up (P := fun i => J mt_X1_findOthers R 19 [some (.ref 15), some (.ref k), some (.int (nI s)), some (.int (nI (9 * c))), some (.int (foS Q s i).1), some (.int (foS Q s i).2.1), some (.int (foS Q s i).2.2.2), some (.int (nI i)), none, none] [] (S, mS (mS I 17 (qr Q s (I 17) i)) 15 (upd (I 15) 4 (foS Q s i).2.2.1), L)) (n := n) (fun i hi ih => ?_) 0 (Nat.zero_le _)
  · rw [qr_0, mS_id] at key
    exact key
  refine J.of tk_X1_findOthers 200 fun ρ hρ => ?_
  simp only [hρ, x_c, x_il, x_ll, x_al, x_is, x_as, x_ls, x_inc, x_ii, x_iq, x_i1, x_l2, x_lq, x_lh, x_i2l, x_l2i, x_lcmp, x_dup, x_dup2, x_pop, x_if, x_ifn, x_ic, x_icn, x_go, x_sw, swc, x_l01, x_mx, x_gI, x_gL, x_gR, x_pI, x_pZ, x_pL, x_pR, x_ia, x_za, x_aa, x_ias, x_zas, x_aas, x_fac, x_fa, x_slen, x_sa, x_ac, x_oi, x_new, x_na, x_cS, x_cV, x_cI, x_rI, x_rZ, x_rL, x_r0, pa, short, oc, lg, lset, lset2, wide, cond_true, cond_false, true_and, and_true, ↓reduceIte, Bool.false_eq_true, true_or, or_true, lf_X1_findOthers, hd.f, hk.f, hn, nI_leI (show n < 2 ^ 31 by omega) (show i < 2 ^ 31 by omega), mS_app, Nat.reduceEqDiff, dj hj, bit_c (show s < 2 ^ 31 by omega) (show i < 31 by omega), Classical.not_not, nI_add, ncl (show i < 2 ^ 31 by omega), ncl (show 9 * c + i < 2 ^ 31 by omega), nI_1, mS_ss, upd_upd]
  refine ⟨fun h => ?_, fun h => ⟨fun hb => ?_, fun hb => ?_⟩⟩
  · have : i = n := by omega
    subst this
    exact hR
  · have := ih (by omega)
    rw [← qr_f (I 17) hb, show foS Q s (i + 1) = foS Q s i by simp only [foS]; rw [if_neg hb]] at this
    exact this
  · have hv1 : vp_in (nI i) 9 := vp_in_nI (by omega) (by omega)
    have hv2 : vp_in (nI (9 * c + i)) 54 := vp_in_nI (by omega) (by omega)
    have hq : I (k + 3) i - I (k + 4) (9 * c + i) = Q i := by rw [← hQ]; rfl
    rw [hq]
    have k69 : J mt_X1_findOthers R 69 [some (.ref 15), some (.ref k), some (.int (nI s)), some (.int (nI (9 * c))), some (.int (foS Q s i).1), some (.int (foS Q s i).2.1), some (.int (foS Q s i).2.2.2), some (.int (nI i)), some (.int (Q i)), none] [.int (am (Q i))] (S, mS (mS I 17 (qr Q s (I 17) i)) 15 (upd (I 15) 4 (foS Q s i).2.2.1), L) := by
      have hw := ih (by omega)
      refine J.of tk_X1_findOthers 200 fun ρ hρ => ?_
      simp only [hρ, x_c, x_il, x_ll, x_al, x_is, x_as, x_ls, x_inc, x_ii, x_iq, x_i1, x_l2, x_lq, x_lh, x_i2l, x_l2i, x_lcmp, x_dup, x_dup2, x_pop, x_if, x_ifn, x_ic, x_icn, x_go, x_sw, swc, x_l01, x_mx, x_gI, x_gL, x_gR, x_pI, x_pZ, x_pL, x_pR, x_ia, x_za, x_aa, x_ias, x_zas, x_aas, x_fac, x_fa, x_slen, x_sa, x_ac, x_oi, x_new, x_na, x_cS, x_cV, x_cI, x_rI, x_rZ, x_rL, x_r0, pa, short, oc, lg, lset, lset2, wide, cond_true, cond_false, true_and, and_true, ↓reduceIte, Bool.false_eq_true, true_or, or_true, lf_X1_findOthers, hd.f, hk.f, mS_app, Nat.reduceEqDiff, ncl (show i < 2 ^ 31 by omega), nI_1, mS_ss, upd_upd, hv1, sw1517, qr_t (I 17) hb]
      refine ⟨fun h1 => ⟨fun h2 => ?_, fun h2 => ?_⟩, fun h1 => ?_⟩
      · rw [foS_a hb h1 h2] at hw
        exact J.weak (by simp [lsub]) hw
      · rw [foS_b hb h1 h2] at hw
        exact J.weak (by simp [lsub]) hw
      · rw [foS_c hb h1] at hw
        exact J.weak (by simp [lsub]) hw
    refine ⟨hv1, hv2, fun h0 => ?_, fun h0 => ?_⟩
    · rwa [show am (Q i) = Q i by simp [am, h0]] at k69
    · rwa [show am (Q i) = -Q i by simp [am, h0]] at k69
