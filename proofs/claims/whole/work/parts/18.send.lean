/-! DECODER: messages of a check -/
theorem sw34 (k : Nat) (X : MI) (a b : Nat → Int32) : mS (mS X (k + 4) a) (k + 3) b = mS (mS X (k + 3) b) (k + 4) a := mS_sw (by omega) X a b
/-- what is sent to b: by least (le), second (se), where (lb), signs, offset, q -/
def sB (le se lb off : Int32) (b : Nat) : Int32 := if nI b = lb then hld (se - off) 0 31 else hld (le - off) 0 31
def sN (le se lb off sg : Int32) (q : Nat → Int32) (b : Nat) : Int32 := if sg ^^^ ushr (q b) 31 = 0 then sB le se lb off b else -sB le se lb off b
def smT (T mu q sn : Nat → Int32) (s f i : Nat) : Nat → Int32 := fun b => if b < i ∧ s.testBit b = true ∧ ¬ mu (f + b) = sn b then hld (q b + sn b) (-99) 99 else T b
def smM (mu sn : Nat → Int32) (s f i : Nat) : Nat → Int32 := fun j => if f ≤ j ∧ j < f + i ∧ s.testBit (j - f) = true then sn (j - f) else mu j
def chg (mu sn : Nat → Int32) (s f : Nat) : Nat → Int32
  | 0 => 0
  | i + 1 => if s.testBit i = true ∧ ¬ mu (f + i) = sn i then 1 else chg mu sn s f i
theorem chg_or (mu sn : Nat → Int32) (s f : Nat) : ∀ i, chg mu sn s f i = 0 ∨ chg mu sn s f i = 1
  | 0 => Or.inl rfl
  | i + 1 => by
    simp only [chg]
    split
    · exact Or.inr rfl
    · exact chg_or mu sn s f i
theorem smT_0 (T mu q sn : Nat → Int32) (s f : Nat) : smT T mu q sn s f 0 = T := by funext b; simp [smT]
theorem smM_0 (mu sn : Nat → Int32) (s f : Nat) : smM mu sn s f 0 = mu := by
  funext j
  simp only [smM]
  rw [if_neg (by omega)]
theorem smM_at (mu sn : Nat → Int32) (s f i : Nat) : smM mu sn s f i (f + i) = mu (f + i) := by
  simp only [smM]
  rw [if_neg (by omega)]
theorem smT_t {T mu q sn : Nat → Int32} {s f i : Nat} (hb : s.testBit i = true) (h : ¬ mu (f + i) = sn i) : upd (smT T mu q sn s f i) i (hld (q i + sn i) (-99) 99) = smT T mu q sn s f (i + 1) := by
  funext b
  simp only [upd, smT]
  by_cases e : b = i
  · subst e; simp [hb, h]
  · by_cases h2 : b < i
    · simp [e, h2, show b < i + 1 by omega]
    · simp [e, h2, show ¬ b < i + 1 by omega]
theorem smT_f {T mu q sn : Nat → Int32} {s f i : Nat} (h : ¬ (s.testBit i = true ∧ ¬ mu (f + i) = sn i)) : smT T mu q sn s f i = smT T mu q sn s f (i + 1) := by
  funext b
  simp only [smT]
  by_cases e : b = i
  · subst e; rw [if_neg (by omega), if_neg (fun q => h q.2)]
  · by_cases h2 : b < i
    · simp [h2, show b < i + 1 by omega]
    · simp [h2, show ¬ b < i + 1 by omega]
theorem smM_t {mu sn : Nat → Int32} {s f i : Nat} (hb : s.testBit i = true) : upd (smM mu sn s f i) (f + i) (sn i) = smM mu sn s f (i + 1) := by
  funext j
  simp only [upd, smM]
  by_cases e : j = f + i
  · subst e
    rw [if_pos rfl, if_pos (by refine ⟨by omega, by omega, ?_⟩; rw [show f + i - f = i by omega]; exact hb), show f + i - f = i by omega]
  · rw [if_neg e]
    by_cases h2 : j < f + i
    · simp [h2, show j < f + (i + 1) by omega]
    · simp [h2, show ¬ j < f + (i + 1) by omega]
theorem smM_f {mu sn : Nat → Int32} {s f i : Nat} (h : ¬ (s.testBit i = true ∧ ¬ mu (f + i) = sn i)) : smM mu sn s f i = smM mu sn s f (i + 1) := by
  funext j
  simp only [smM]
  by_cases e : j = f + i
  · subst e
    rw [if_neg (by omega)]
    by_cases hb : s.testBit i = true
    · rw [if_pos (by refine ⟨by omega, by omega, ?_⟩; rw [show f + i - f = i by omega]; exact hb), show f + i - f = i by omega]
      exact Classical.not_not.mp (fun z => h ⟨hb, z⟩)
    · rw [if_neg (by rw [show f + i - f = i by omega]; exact fun z => hb z.2.2)]
  · by_cases h2 : j < f + i
    · simp [h2, show j < f + (i + 1) by omega]
    · simp [h2, show ¬ j < f + (i + 1) by omega]
def il_X1_sendMessages : List (Nat × Instr × Nat) := [(0, .iconst 0, 1), (1, .istore 5, 2), (3, .aload_n 0, 1), (4, .getfield 64, 3), (7, .aload_n 1, 1), (8, .getfield 70, 3), (11, .isub, 1), (12, .iconst 0, 1), (13, .bipush 31, 2), (15, .invokestatic 73, 3), (18, .istore 6, 2), (20, .aload_n 0, 1), (21, .getfield 67, 3), (24, .aload_n 1, 1), (25, .getfield 70, 3), (28, .isub, 1), (29, .iconst 0, 1), (30, .bipush 31, 2), (32, .invokestatic 73, 3), (35, .istore 7, 2), (37, .iconst 0, 1), (38, .istore 8, 2), (40, .iload 8, 2), (42, .aload_n 1, 1), (43, .getfield 55, 3), (46, .if_icmp .ge 108, 3), (49, .iload_n 2, 1), (50, .iload 8, 2), (52, .ishr, 1), (53, .iconst 1, 1), (54, .iand, 1), (55, .ifCond .eq 93, 3), (58, .aload_n 0, 1), (59, .getfield 15, 3), (62, .iload 8, 2), (64, .iaload, 1), (65, .istore 9, 2), (67, .iload 8, 2), (69, .aload_n 0, 1), (70, .getfield 52, 3), (73, .if_icmp .ne 8, 3), (76, .iload 7, 2), (78, .goto 5, 3), (81, .iload 6, 2), (83, .istore 10, 2), (85, .iload 4, 2), (87, .iload 9, 2), (89, .bipush 31, 2), (91, .iushr, 1), (92, .ixor, 1), (93, .ifCond .eq 8, 3), (96, .iload 10, 2), (98, .ineg, 1), (99, .istore 10, 2), (101, .aload_n 1, 1), (102, .getfield 61, 3), (105, .iload_n 3, 1), (106, .iload 8, 2), (108, .iadd, 1), (109, .iaload, 1), (110, .iload 10, 2), (112, .if_icmp .eq 36, 3), (115, .aload_n 1, 1), (116, .getfield 61, 3), (119, .iload_n 3, 1), (120, .iload 8, 2), (122, .iadd, 1), (123, .iload 10, 2), (125, .iastore, 1), (126, .aload_n 1, 1), (127, .getfield 58, 3), (130, .iload 8, 2), (132, .iload 9, 2), (134, .iload 10, 2), (136, .iadd, 1), (137, .bipush (-99), 2), (139, .bipush 99, 2), (141, .invokestatic 73, 3), (144, .iastore, 1), (145, .iconst 1, 1), (146, .istore 5, 2), (148, .iinc 8 1, 3), (151, .goto (-111), 3), (154, .iload 5, 2), (156, .ireturn, 1)]
def mt_X1_sendMessages : Mt := (cX1_sendMessages, RX1, 11, (some .boolean), ({ frames := 1, cells := 0, slots := 0, locals := 22 } : Room), false, none, none)
set_option maxRecDepth 100000 in
theorem dl_X1_sendMessages : ∀ q ∈ il_X1_sendMessages, decode (mt_X1_sendMessages).1 q.1 = .ok q.2 := by decide +kernel
def tb_X1_sendMessages : Tb := [(0, x_c 1 (.int 0), false),
  (1, x_is 3 5, false),
  (3, x_al 4 0, false),
  (4, x_gI 1 2 7, false),
  (7, x_al 8 1, false),
  (8, x_gI 5 6 11, false),
  (11, x_ii 12 (fun x y : Int32 => x - y), false),
  (12, x_c 13 (.int 0), false),
  (13, x_c 15 (.int 31), false),
  (15, x_cS 3 P_X9_held 18, false),
  (18, x_is 20 6, false),
  (20, x_al 21 0, false),
  (21, x_gI 1 3 24, false),
  (24, x_al 25 1, false),
  (25, x_gI 5 6 28, false),
  (28, x_ii 29 (fun x y : Int32 => x - y), false),
  (29, x_c 30 (.int 0), false),
  (30, x_c 32 (.int 31), false),
  (32, x_cS 3 P_X9_held 35, false),
  (35, x_is 37 7, false),
  (37, x_c 38 (.int 0), false),
  (38, x_is 40 8, false),
  (40, x_il 42 8, true),
  (42, x_al 43 1, false),
  (43, x_gI 5 4 46, false),
  (46, x_ic 154 49 (fun x y : Int32 => y ≤ x), false),
  (49, x_il 50 2, false),
  (50, x_il 52 8, false),
  (52, x_ii 53 (fun x y : Int32 => x >>> (y &&& 31)), false),
  (53, x_c 54 (.int 1), false),
  (54, x_ii 55 (fun x y : Int32 => x &&& y), false),
  (55, x_if 148 58 (fun x : Int32 => x = 0), false),
  (58, x_al 59 0, false),
  (59, x_gR 1 1 62, false),
  (62, x_il 64 8, false),
  (64, x_ia 65, false),
  (65, x_is 67 9, false),
  (67, x_il 69 8, false),
  (69, x_al 70 0, false),
  (70, x_gI 1 4 73, false),
  (73, x_icn 81 76 (fun x y : Int32 => x = y), false),
  (76, x_il 78 7, false),
  (78, x_go 83, false),
  (81, x_il 83 6, false),
  (83, x_is 85 10, true),
  (85, x_il 87 4, false),
  (87, x_il 89 9, false),
  (89, x_c 91 (.int 31), false),
  (91, x_ii 92 ushr, false),
  (92, x_ii 93 (fun x y : Int32 => x ^^^ y), false),
  (93, x_if 101 96 (fun x : Int32 => x = 0), false),
  (96, x_il 98 10, false),
  (98, x_i1 99 (fun x : Int32 => -x), false),
  (99, x_is 101 10, false),
  (101, x_al 102 1, true),
  (102, x_gR 5 3 105, false),
  (105, x_il 106 3, false),
  (106, x_il 108 8, false),
  (108, x_ii 109 (fun x y : Int32 => x + y), false),
  (109, x_ia 110, false),
  (110, x_il 112 10, false),
  (112, x_ic 148 115 (fun x y : Int32 => x = y), false),
  (115, x_al 116 1, false),
  (116, x_gR 5 3 119, false),
  (119, x_il 120 3, false),
  (120, x_il 122 8, false),
  (122, x_ii 123 (fun x y : Int32 => x + y), false),
  (123, x_il 125 10, false),
  (125, x_ias 126, false),
  (126, x_al 127 1, false),
  (127, x_gR 5 2 130, false),
  (130, x_il 132 8, false),
  (132, x_il 134 9, false),
  (134, x_il 136 10, false),
  (136, x_ii 137 (fun x y : Int32 => x + y), false),
  (137, x_c 139 (.int (-99)), false),
  (139, x_c 141 (.int 99), false),
  (141, x_cS 3 P_X9_held 144, false),
  (144, x_ias 145, false),
  (145, x_c 146 (.int 1), false),
  (146, x_is 148 5, false),
  (148, x_inc 151 8 1, false),
  (151, x_go 40, false),
  (154, x_il 156 5, false),
  (156, x_rZ, false)]
set_option maxRecDepth 100000 in
theorem tk_X1_sendMessages : TbOk (mt_X1_sendMessages) (tb_X1_sendMessages) :=
  tkc (s_iconst (at_ dl_X1_sendMessages 0 (ins := .iconst 0) rfl) (by first | rfl | decide)) (
  tkc (s_istore (at_ dl_X1_sendMessages 1 (ins := .istore 5) rfl) (by decide)) (
  tkc (s_aload_n (at_ dl_X1_sendMessages 2 (ins := .aload_n 0) rfl)) (
  tkc (s_gI (at_ dl_X1_sendMessages 3 (ins := .getfield 64) rfl) (by decide) (by decide) (by decide) (tg 180 (by decide +kernel) (by decide +kernel))) (
  tkc (s_aload_n (at_ dl_X1_sendMessages 4 (ins := .aload_n 1) rfl)) (
  tkc (s_gI (at_ dl_X1_sendMessages 5 (ins := .getfield 70) rfl) (by decide) (by decide) (by decide) (tg 147 (by decide +kernel) (by decide +kernel))) (
  tkc (s_isub (at_ dl_X1_sendMessages 6 (ins := .isub) rfl)) (
  tkc (s_iconst (at_ dl_X1_sendMessages 7 (ins := .iconst 0) rfl) (by first | rfl | decide)) (
  tkc (s_bipush (at_ dl_X1_sendMessages 8 (ins := .bipush 31) rfl) (by first | rfl | decide)) (
  tkc (s_cN ok_X9_held rfl (at_ dl_X1_sendMessages 9 (ins := .invokestatic 73) rfl) (tg 466 (by decide +kernel) (by decide +kernel)) (tg 42 (by decide +kernel) (by decide +kernel)) (tg 467 (by decide +kernel) (by decide +kernel)) (⟨by decide, by decide, by decide +kernel⟩) (⟨by decide, by decide⟩) rfl rfl) (
  tkc (s_istore (at_ dl_X1_sendMessages 10 (ins := .istore 6) rfl) (by decide)) (
  tkc (s_aload_n (at_ dl_X1_sendMessages 11 (ins := .aload_n 0) rfl)) (
  tkc (s_gI (at_ dl_X1_sendMessages 12 (ins := .getfield 67) rfl) (by decide) (by decide) (by decide) (tg 181 (by decide +kernel) (by decide +kernel))) (
  tkc (s_aload_n (at_ dl_X1_sendMessages 13 (ins := .aload_n 1) rfl)) (
  tkc (s_gI (at_ dl_X1_sendMessages 14 (ins := .getfield 70) rfl) (by decide) (by decide) (by decide) (tg 147 (by decide +kernel) (by decide +kernel))) (
  tkc (s_isub (at_ dl_X1_sendMessages 15 (ins := .isub) rfl)) (
  tkc (s_iconst (at_ dl_X1_sendMessages 16 (ins := .iconst 0) rfl) (by first | rfl | decide)) (
  tkc (s_bipush (at_ dl_X1_sendMessages 17 (ins := .bipush 31) rfl) (by first | rfl | decide)) (
  tkc (s_cN ok_X9_held rfl (at_ dl_X1_sendMessages 18 (ins := .invokestatic 73) rfl) (tg 466 (by decide +kernel) (by decide +kernel)) (tg 42 (by decide +kernel) (by decide +kernel)) (tg 467 (by decide +kernel) (by decide +kernel)) (⟨by decide, by decide, by decide +kernel⟩) (⟨by decide, by decide⟩) rfl rfl) (
  tkc (s_istore (at_ dl_X1_sendMessages 19 (ins := .istore 7) rfl) (by decide)) (
  tkc (s_iconst (at_ dl_X1_sendMessages 20 (ins := .iconst 0) rfl) (by first | rfl | decide)) (
  tkc (s_istore (at_ dl_X1_sendMessages 21 (ins := .istore 8) rfl) (by decide)) (
  tkc (s_iload (at_ dl_X1_sendMessages 22 (ins := .iload 8) rfl)) (
  tkc (s_aload_n (at_ dl_X1_sendMessages 23 (ins := .aload_n 1) rfl)) (
  tkc (s_gI (at_ dl_X1_sendMessages 24 (ins := .getfield 55) rfl) (by decide) (by decide) (by decide) (tg 138 (by decide +kernel) (by decide +kernel))) (
  tkc (s_ic_ge (at_ dl_X1_sendMessages 25 (ins := .if_icmp .ge 108) rfl) (by decide)) (
  tkc (s_iload_n (at_ dl_X1_sendMessages 26 (ins := .iload_n 2) rfl)) (
  tkc (s_iload (at_ dl_X1_sendMessages 27 (ins := .iload 8) rfl)) (
  tkc (s_ishr (at_ dl_X1_sendMessages 28 (ins := .ishr) rfl)) (
  tkc (s_iconst (at_ dl_X1_sendMessages 29 (ins := .iconst 1) rfl) (by first | rfl | decide)) (
  tkc (s_iand (at_ dl_X1_sendMessages 30 (ins := .iand) rfl)) (
  tkc (s_if_eq (at_ dl_X1_sendMessages 31 (ins := .ifCond .eq 93) rfl) (by decide)) (
  tkc (s_aload_n (at_ dl_X1_sendMessages 32 (ins := .aload_n 0) rfl)) (
  tkc (s_gR (at_ dl_X1_sendMessages 33 (ins := .getfield 15) rfl) (by decide) (by decide) (by decide) (tg 179 (by decide +kernel) (by decide +kernel))) (
  tkc (s_iload (at_ dl_X1_sendMessages 34 (ins := .iload 8) rfl)) (
  tkc (s_ia (at_ dl_X1_sendMessages 35 (ins := .iaload) rfl)) (
  tkc (s_istore (at_ dl_X1_sendMessages 36 (ins := .istore 9) rfl) (by decide)) (
  tkc (s_iload (at_ dl_X1_sendMessages 37 (ins := .iload 8) rfl)) (
  tkc (s_aload_n (at_ dl_X1_sendMessages 38 (ins := .aload_n 0) rfl)) (
  tkc (s_gI (at_ dl_X1_sendMessages 39 (ins := .getfield 52) rfl) (by decide) (by decide) (by decide) (tg 182 (by decide +kernel) (by decide +kernel))) (
  tkc (s_ic_ne (at_ dl_X1_sendMessages 40 (ins := .if_icmp .ne 8) rfl) (by decide)) (
  tkc (s_iload (at_ dl_X1_sendMessages 41 (ins := .iload 7) rfl)) (
  tkc (s_goto (at_ dl_X1_sendMessages 42 (ins := .goto 5) rfl) (by decide)) (
  tkc (s_iload (at_ dl_X1_sendMessages 43 (ins := .iload 6) rfl)) (
  tkc (s_istore (at_ dl_X1_sendMessages 44 (ins := .istore 10) rfl) (by decide)) (
  tkc (s_iload (at_ dl_X1_sendMessages 45 (ins := .iload 4) rfl)) (
  tkc (s_iload (at_ dl_X1_sendMessages 46 (ins := .iload 9) rfl)) (
  tkc (s_bipush (at_ dl_X1_sendMessages 47 (ins := .bipush 31) rfl) (by first | rfl | decide)) (
  tkc (s_iushr (at_ dl_X1_sendMessages 48 (ins := .iushr) rfl)) (
  tkc (s_ixor (at_ dl_X1_sendMessages 49 (ins := .ixor) rfl)) (
  tkc (s_if_eq (at_ dl_X1_sendMessages 50 (ins := .ifCond .eq 8) rfl) (by decide)) (
  tkc (s_iload (at_ dl_X1_sendMessages 51 (ins := .iload 10) rfl)) (
  tkc (s_ineg (at_ dl_X1_sendMessages 52 (ins := .ineg) rfl)) (
  tkc (s_istore (at_ dl_X1_sendMessages 53 (ins := .istore 10) rfl) (by decide)) (
  tkc (s_aload_n (at_ dl_X1_sendMessages 54 (ins := .aload_n 1) rfl)) (
  tkc (s_gR (at_ dl_X1_sendMessages 55 (ins := .getfield 61) rfl) (by decide) (by decide) (by decide) (tg 132 (by decide +kernel) (by decide +kernel))) (
  tkc (s_iload_n (at_ dl_X1_sendMessages 56 (ins := .iload_n 3) rfl)) (
  tkc (s_iload (at_ dl_X1_sendMessages 57 (ins := .iload 8) rfl)) (
  tkc (s_iadd (at_ dl_X1_sendMessages 58 (ins := .iadd) rfl)) (
  tkc (s_ia (at_ dl_X1_sendMessages 59 (ins := .iaload) rfl)) (
  tkc (s_iload (at_ dl_X1_sendMessages 60 (ins := .iload 10) rfl)) (
  tkc (s_ic_eq (at_ dl_X1_sendMessages 61 (ins := .if_icmp .eq 36) rfl) (by decide)) (
  tkc (s_aload_n (at_ dl_X1_sendMessages 62 (ins := .aload_n 1) rfl)) (
  tkc (s_gR (at_ dl_X1_sendMessages 63 (ins := .getfield 61) rfl) (by decide) (by decide) (by decide) (tg 132 (by decide +kernel) (by decide +kernel))) (
  tkc (s_iload_n (at_ dl_X1_sendMessages 64 (ins := .iload_n 3) rfl)) (
  tkc (s_iload (at_ dl_X1_sendMessages 65 (ins := .iload 8) rfl)) (
  tkc (s_iadd (at_ dl_X1_sendMessages 66 (ins := .iadd) rfl)) (
  tkc (s_iload (at_ dl_X1_sendMessages 67 (ins := .iload 10) rfl)) (
  tkc (s_ias (at_ dl_X1_sendMessages 68 (ins := .iastore) rfl)) (
  tkc (s_aload_n (at_ dl_X1_sendMessages 69 (ins := .aload_n 1) rfl)) (
  tkc (s_gR (at_ dl_X1_sendMessages 70 (ins := .getfield 58) rfl) (by decide) (by decide) (by decide) (tg 129 (by decide +kernel) (by decide +kernel))) (
  tkc (s_iload (at_ dl_X1_sendMessages 71 (ins := .iload 8) rfl)) (
  tkc (s_iload (at_ dl_X1_sendMessages 72 (ins := .iload 9) rfl)) (
  tkc (s_iload (at_ dl_X1_sendMessages 73 (ins := .iload 10) rfl)) (
  tkc (s_iadd (at_ dl_X1_sendMessages 74 (ins := .iadd) rfl)) (
  tkc (s_bipush (at_ dl_X1_sendMessages 75 (ins := .bipush (-99)) rfl) (by first | rfl | decide)) (
  tkc (s_bipush (at_ dl_X1_sendMessages 76 (ins := .bipush 99) rfl) (by first | rfl | decide)) (
  tkc (s_cN ok_X9_held rfl (at_ dl_X1_sendMessages 77 (ins := .invokestatic 73) rfl) (tg 466 (by decide +kernel) (by decide +kernel)) (tg 42 (by decide +kernel) (by decide +kernel)) (tg 467 (by decide +kernel) (by decide +kernel)) (⟨by decide, by decide, by decide +kernel⟩) (⟨by decide, by decide⟩) rfl rfl) (
  tkc (s_ias (at_ dl_X1_sendMessages 78 (ins := .iastore) rfl)) (
  tkc (s_iconst (at_ dl_X1_sendMessages 79 (ins := .iconst 1) rfl) (by first | rfl | decide)) (
  tkc (s_istore (at_ dl_X1_sendMessages 80 (ins := .istore 5) rfl) (by decide)) (
  tkc (s_iinc (at_ dl_X1_sendMessages 81 (ins := .iinc 8 1) rfl) (by decide) (by first | rfl | decide)) (
  tkc (s_goto (at_ dl_X1_sendMessages 82 (ins := .goto (-111)) rfl) (by decide)) (
  tkc (s_iload (at_ dl_X1_sendMessages 83 (ins := .iload 5) rfl)) (
  tkc (s_rZ (at_ dl_X1_sendMessages 84 (ins := .ireturn) rfl) rfl) ( tk0)))))))))))))))))))))))))))))))))))))))))))))))))))))))))))))))))))))))))))))))))))))
theorem lf_X1_sendMessages : lk (tb_X1_sendMessages) 0 = (x_c 1 (.int 0), false) ∧ lk (tb_X1_sendMessages) 1 = (x_is 3 5, false) ∧ lk (tb_X1_sendMessages) 3 = (x_al 4 0, false) ∧ lk (tb_X1_sendMessages) 4 = (x_gI 1 2 7, false) ∧ lk (tb_X1_sendMessages) 7 = (x_al 8 1, false) ∧ lk (tb_X1_sendMessages) 8 = (x_gI 5 6 11, false) ∧ lk (tb_X1_sendMessages) 11 = (x_ii 12 (fun x y : Int32 => x - y), false) ∧ lk (tb_X1_sendMessages) 12 = (x_c 13 (.int 0), false) ∧ lk (tb_X1_sendMessages) 13 = (x_c 15 (.int 31), false) ∧ lk (tb_X1_sendMessages) 15 = (x_cS 3 P_X9_held 18, false) ∧ lk (tb_X1_sendMessages) 18 = (x_is 20 6, false) ∧ lk (tb_X1_sendMessages) 20 = (x_al 21 0, false) ∧ lk (tb_X1_sendMessages) 21 = (x_gI 1 3 24, false) ∧ lk (tb_X1_sendMessages) 24 = (x_al 25 1, false) ∧ lk (tb_X1_sendMessages) 25 = (x_gI 5 6 28, false) ∧ lk (tb_X1_sendMessages) 28 = (x_ii 29 (fun x y : Int32 => x - y), false) ∧ lk (tb_X1_sendMessages) 29 = (x_c 30 (.int 0), false) ∧ lk (tb_X1_sendMessages) 30 = (x_c 32 (.int 31), false) ∧ lk (tb_X1_sendMessages) 32 = (x_cS 3 P_X9_held 35, false) ∧ lk (tb_X1_sendMessages) 35 = (x_is 37 7, false) ∧ lk (tb_X1_sendMessages) 37 = (x_c 38 (.int 0), false) ∧ lk (tb_X1_sendMessages) 38 = (x_is 40 8, false) ∧ lk (tb_X1_sendMessages) 40 = (x_il 42 8, true) ∧ lk (tb_X1_sendMessages) 42 = (x_al 43 1, false) ∧ lk (tb_X1_sendMessages) 43 = (x_gI 5 4 46, false) ∧ lk (tb_X1_sendMessages) 46 = (x_ic 154 49 (fun x y : Int32 => y ≤ x), false) ∧ lk (tb_X1_sendMessages) 49 = (x_il 50 2, false) ∧ lk (tb_X1_sendMessages) 50 = (x_il 52 8, false) ∧ lk (tb_X1_sendMessages) 52 = (x_ii 53 (fun x y : Int32 => x >>> (y &&& 31)), false) ∧ lk (tb_X1_sendMessages) 53 = (x_c 54 (.int 1), false) ∧ lk (tb_X1_sendMessages) 54 = (x_ii 55 (fun x y : Int32 => x &&& y), false) ∧ lk (tb_X1_sendMessages) 55 = (x_if 148 58 (fun x : Int32 => x = 0), false) ∧ lk (tb_X1_sendMessages) 58 = (x_al 59 0, false) ∧ lk (tb_X1_sendMessages) 59 = (x_gR 1 1 62, false) ∧ lk (tb_X1_sendMessages) 62 = (x_il 64 8, false) ∧ lk (tb_X1_sendMessages) 64 = (x_ia 65, false) ∧ lk (tb_X1_sendMessages) 65 = (x_is 67 9, false) ∧ lk (tb_X1_sendMessages) 67 = (x_il 69 8, false) ∧ lk (tb_X1_sendMessages) 69 = (x_al 70 0, false) ∧ lk (tb_X1_sendMessages) 70 = (x_gI 1 4 73, false) ∧ lk (tb_X1_sendMessages) 73 = (x_icn 81 76 (fun x y : Int32 => x = y), false) ∧ lk (tb_X1_sendMessages) 76 = (x_il 78 7, false) ∧ lk (tb_X1_sendMessages) 78 = (x_go 83, false) ∧ lk (tb_X1_sendMessages) 81 = (x_il 83 6, false) ∧ lk (tb_X1_sendMessages) 83 = (x_is 85 10, true) ∧ lk (tb_X1_sendMessages) 85 = (x_il 87 4, false) ∧ lk (tb_X1_sendMessages) 87 = (x_il 89 9, false) ∧ lk (tb_X1_sendMessages) 89 = (x_c 91 (.int 31), false) ∧ lk (tb_X1_sendMessages) 91 = (x_ii 92 ushr, false) ∧ lk (tb_X1_sendMessages) 92 = (x_ii 93 (fun x y : Int32 => x ^^^ y), false) ∧ lk (tb_X1_sendMessages) 93 = (x_if 101 96 (fun x : Int32 => x = 0), false) ∧ lk (tb_X1_sendMessages) 96 = (x_il 98 10, false) ∧ lk (tb_X1_sendMessages) 98 = (x_i1 99 (fun x : Int32 => -x), false) ∧ lk (tb_X1_sendMessages) 99 = (x_is 101 10, false) ∧ lk (tb_X1_sendMessages) 101 = (x_al 102 1, true) ∧ lk (tb_X1_sendMessages) 102 = (x_gR 5 3 105, false) ∧ lk (tb_X1_sendMessages) 105 = (x_il 106 3, false) ∧ lk (tb_X1_sendMessages) 106 = (x_il 108 8, false) ∧ lk (tb_X1_sendMessages) 108 = (x_ii 109 (fun x y : Int32 => x + y), false) ∧ lk (tb_X1_sendMessages) 109 = (x_ia 110, false) ∧ lk (tb_X1_sendMessages) 110 = (x_il 112 10, false) ∧ lk (tb_X1_sendMessages) 112 = (x_ic 148 115 (fun x y : Int32 => x = y), false) ∧ lk (tb_X1_sendMessages) 115 = (x_al 116 1, false) ∧ lk (tb_X1_sendMessages) 116 = (x_gR 5 3 119, false) ∧ lk (tb_X1_sendMessages) 119 = (x_il 120 3, false) ∧ lk (tb_X1_sendMessages) 120 = (x_il 122 8, false) ∧ lk (tb_X1_sendMessages) 122 = (x_ii 123 (fun x y : Int32 => x + y), false) ∧ lk (tb_X1_sendMessages) 123 = (x_il 125 10, false) ∧ lk (tb_X1_sendMessages) 125 = (x_ias 126, false) ∧ lk (tb_X1_sendMessages) 126 = (x_al 127 1, false) ∧ lk (tb_X1_sendMessages) 127 = (x_gR 5 2 130, false) ∧ lk (tb_X1_sendMessages) 130 = (x_il 132 8, false) ∧ lk (tb_X1_sendMessages) 132 = (x_il 134 9, false) ∧ lk (tb_X1_sendMessages) 134 = (x_il 136 10, false) ∧ lk (tb_X1_sendMessages) 136 = (x_ii 137 (fun x y : Int32 => x + y), false) ∧ lk (tb_X1_sendMessages) 137 = (x_c 139 (.int (-99)), false) ∧ lk (tb_X1_sendMessages) 139 = (x_c 141 (.int 99), false) ∧ lk (tb_X1_sendMessages) 141 = (x_cS 3 P_X9_held 144, false) ∧ lk (tb_X1_sendMessages) 144 = (x_ias 145, false) ∧ lk (tb_X1_sendMessages) 145 = (x_c 146 (.int 1), false) ∧ lk (tb_X1_sendMessages) 146 = (x_is 148 5, false) ∧ lk (tb_X1_sendMessages) 148 = (x_inc 151 8 1, false) ∧ lk (tb_X1_sendMessages) 151 = (x_go 40, false) ∧ lk (tb_X1_sendMessages) 154 = (x_il 156 5, false) ∧ lk (tb_X1_sendMessages) 156 = (x_rZ, false) := ⟨rfl, rfl, rfl, rfl, rfl, rfl, rfl, rfl, rfl, rfl, rfl, rfl, rfl, rfl, rfl, rfl, rfl, rfl, rfl, rfl, rfl, rfl, rfl, rfl, rfl, rfl, rfl, rfl, rfl, rfl, rfl, rfl, rfl, rfl, rfl, rfl, rfl, rfl, rfl, rfl, rfl, rfl, rfl, rfl, rfl, rfl, rfl, rfl, rfl, rfl, rfl, rfl, rfl, rfl, rfl, rfl, rfl, rfl, rfl, rfl, rfl, rfl, rfl, rfl, rfl, rfl, rfl, rfl, rfl, rfl, rfl, rfl, rfl, rfl, rfl, rfl, rfl, rfl, rfl, rfl, rfl, rfl, rfl, rfl, rfl⟩
/-- what sendMessages makes of memory -/
def snI (I : MI) (k : Nat) (sg : Int32) : Nat → Int32 := sN (I 15 2) (I 15 3) (I 15 4) (I k 6) sg (I 17)
def smI (I : MI) (k s f n : Nat) (sg : Int32) : MI := mS (mS I (k + 3) (smT (I (k + 3)) (I (k + 4)) (I 17) (snI I k sg) s f n)) (k + 4) (smM (I (k + 4)) (snI I k sg) s f n)
def P_X1_sendMessages : PTT := fun as M R => match as with
  | [.ref d, .ref k, .int ov, .int fr, .int sg] => d = 15 ∧ IsDc M.1 ∧ IsSt M.1 k ∧ ap15 k ∧ (∃ n, n ≤ 9 ∧ M.2.1 k 4 = nI n) ∧ tn ov < 512 ∧ (∃ c, c < 6 ∧ fr = nI (9 * c)) ∧
      R (some (.int (chg (M.2.1 (k + 4)) (snI M.2.1 k sg) (tn ov) (tn fr) (tn (M.2.1 k 4))))) (M.1, smI M.2.1 k (tn ov) (tn fr) (tn (M.2.1 k 4)) sg, M.2.2)
  | _ => False
set_option maxRecDepth 20000 in
theorem ok_X1_sendMessages : Ok yX1_sendMessages mt_X1_sendMessages P_X1_sendMessages := by
  refine Ok.of (by decide) rfl rfl rfl rfl fun av ⟨S, I, L⟩ R hP => ?_
  unfold P_X1_sendMessages at hP
  split at hP
  case h_2 => exact hP.elim
  rename_i d k ov fr sg
  obtain ⟨d, rfl⟩ : ∃ q : Nat, q = d := ⟨d, rfl⟩
  obtain ⟨k, rfl⟩ : ∃ q : Nat, q = k := ⟨k, rfl⟩
  refine ⟨by simp [ent, wide, mt_X1_sendMessages], ?_⟩
  show J mt_X1_sendMessages R 0 [some (.ref d), some (.ref k), some (.int ov), some (.int fr), some (.int sg), none, none, none, none, none, none] [] (S, I, L)
  try dsimp only at hP
  obtain ⟨rfl, hd, hk, hj, ⟨n, h9, hn⟩, hov, ⟨c, hc, rfl⟩, hR⟩ := hP
  obtain ⟨s, hs, rfl⟩ := tn_ex hov
  rw [hn, tn_nI (n := n) (by omega), tn_nI (n := 9 * c) (by omega), tn_nI (n := s) (by omega)] at hR
  unfold smI at hR
  refine J.of tk_X1_sendMessages 200 fun ρ hρ => ?_
  simp only [hρ, x_c, x_il, x_ll, x_al, x_is, x_as, x_ls, x_inc, x_ii, x_iq, x_i1, x_l2, x_lq, x_lh, x_i2l, x_l2i, x_lcmp, x_dup, x_dup2, x_pop, x_if, x_ifn, x_ic, x_icn, x_go, x_sw, swc, x_l01, x_mx, x_gI, x_gL, x_gR, x_pI, x_pZ, x_pL, x_pR, x_ia, x_za, x_aa, x_ias, x_zas, x_aas, x_fac, x_fa, x_slen, x_sa, x_ac, x_oi, x_new, x_na, x_cS, x_cV, x_cI, x_rI, x_rZ, x_rL, x_r0, pa, short, oc, lg, lset, lset2, wide, cond_true, cond_false, true_and, and_true, ↓reduceIte, Bool.false_eq_true, true_or, or_true, lf_X1_sendMessages, hd.f, hk.f, P_X9_held]
  have key := up (P := fun i => J mt_X1_sendMessages R 40 [some (.ref 15), some (.ref k), some (.int (nI s)), some (.int (nI (9 * c))), some (.int sg), some (.int (chg (I (k + 4)) (snI I k sg) s (9 * c) i)), some (.int (hld (I 15 2 - I k 6) 0 31)), some (.int (hld (I 15 3 - I k 6) 0 31)), some (.int (nI i)), none, none] [] (S, mS (mS I (k + 3) (smT (I (k + 3)) (I (k + 4)) (I 17) (snI I k sg) s (9 * c) i)) (k + 4) (smM (I (k + 4)) (snI I k sg) s (9 * c) i), L)) (n := n) (fun i hi ih => ?_) 0 (Nat.zero_le _)
  · rw [smT_0, smM_0, mS_id' (I := I) (k := k + 3) rfl, mS_id] at key
    exact key
  have hv1 : i < n → vp_in (nI i) 9 := fun h => vp_in_nI (by omega) (by omega)
  have hv2 : i < n → vp_in (nI (9 * c + i)) 54 := fun h => vp_in_nI (by omega) (by omega)
  have k101 : i < n → s.testBit i = true → J mt_X1_sendMessages R 101 [some (.ref 15), some (.ref k), some (.int (nI s)), some (.int (nI (9 * c))), some (.int sg), some (.int (chg (I (k + 4)) (snI I k sg) s (9 * c) i)), some (.int (hld (I 15 2 - I k 6) 0 31)), some (.int (hld (I 15 3 - I k 6) 0 31)), some (.int (nI i)), some (.int (I 17 i)), some (.int (snI I k sg i))] [] (S, mS (mS I (k + 3) (smT (I (k + 3)) (I (k + 4)) (I 17) (snI I k sg) s (9 * c) i)) (k + 4) (smM (I (k + 4)) (snI I k sg) s (9 * c) i), L) := by
    intro hi hb
    have hw := ih hi
    refine J.of tk_X1_sendMessages 200 fun ρ hρ => ?_
    simp only [hρ, x_c, x_il, x_ll, x_al, x_is, x_as, x_ls, x_inc, x_ii, x_iq, x_i1, x_l2, x_lq, x_lh, x_i2l, x_l2i, x_lcmp, x_dup, x_dup2, x_pop, x_if, x_ifn, x_ic, x_icn, x_go, x_sw, swc, x_l01, x_mx, x_gI, x_gL, x_gR, x_pI, x_pZ, x_pL, x_pR, x_ia, x_za, x_aa, x_ias, x_zas, x_aas, x_fac, x_fa, x_slen, x_sa, x_ac, x_oi, x_new, x_na, x_cS, x_cV, x_cI, x_rI, x_rZ, x_rL, x_r0, pa, short, oc, lg, lset, lset2, wide, cond_true, cond_false, true_and, and_true, ↓reduceIte, Bool.false_eq_true, true_or, or_true, lf_X1_sendMessages, hd.f, hk.f, P_X9_held, mS_app, kj, dj hj, hv1 hi, hv2 hi, nI_add, ncl (show i < 2 ^ 31 by omega), ncl (show 9 * c + i < 2 ^ 31 by omega), nI_1, mS_ss, sw34, smM_at, smM_t hb]
    refine ⟨fun h => ?_, fun h => ?_⟩
    · have hz : ¬ (s.testBit i = true ∧ ¬ I (k + 4) (9 * c + i) = snI I k sg i) := fun z => z.2 h
      rw [← smT_f hz, ← smM_f hz, show chg (I (k + 4)) (snI I k sg) s (9 * c) (i + 1) = chg (I (k + 4)) (snI I k sg) s (9 * c) i by rw [chg, if_neg hz]] at hw
      exact J.weak (by simp [lsub]) hw
    · rw [smT_t hb h]
      rw [show chg (I (k + 4)) (snI I k sg) s (9 * c) (i + 1) = 1 by rw [chg, if_pos ⟨hb, h⟩]] at hw
      exact J.weak (by simp [lsub]) hw
  have k83 : i < n → s.testBit i = true → J mt_X1_sendMessages R 83 [some (.ref 15), some (.ref k), some (.int (nI s)), some (.int (nI (9 * c))), some (.int sg), some (.int (chg (I (k + 4)) (snI I k sg) s (9 * c) i)), some (.int (hld (I 15 2 - I k 6) 0 31)), some (.int (hld (I 15 3 - I k 6) 0 31)), some (.int (nI i)), some (.int (I 17 i)), none] [.int (sB (I 15 2) (I 15 3) (I 15 4) (I k 6) i)] (S, mS (mS I (k + 3) (smT (I (k + 3)) (I (k + 4)) (I 17) (snI I k sg) s (9 * c) i)) (k + 4) (smM (I (k + 4)) (snI I k sg) s (9 * c) i), L) := by
    intro hi hb
    have hw := k101 hi hb
    refine J.of tk_X1_sendMessages 200 fun ρ hρ => ?_
    simp only [hρ, x_c, x_il, x_ll, x_al, x_is, x_as, x_ls, x_inc, x_ii, x_iq, x_i1, x_l2, x_lq, x_lh, x_i2l, x_l2i, x_lcmp, x_dup, x_dup2, x_pop, x_if, x_ifn, x_ic, x_icn, x_go, x_sw, swc, x_l01, x_mx, x_gI, x_gL, x_gR, x_pI, x_pZ, x_pL, x_pR, x_ia, x_za, x_aa, x_ias, x_zas, x_aas, x_fac, x_fa, x_slen, x_sa, x_ac, x_oi, x_new, x_na, x_cS, x_cV, x_cI, x_rI, x_rZ, x_rL, x_r0, pa, short, oc, lg, lset, lset2, wide, cond_true, cond_false, true_and, and_true, ↓reduceIte, Bool.false_eq_true, true_or, or_true, lf_X1_sendMessages]
    refine ⟨fun h => ?_, fun h => ?_⟩
    · rwa [show snI I k sg i = sB (I 15 2) (I 15 3) (I 15 4) (I k 6) i by simp only [snI, sN]; rw [if_pos h]] at hw
    · rwa [show snI I k sg i = -sB (I 15 2) (I 15 3) (I 15 4) (I k 6) i by simp only [snI, sN]; rw [if_neg h]] at hw
  refine J.of tk_X1_sendMessages 200 fun ρ hρ => ?_
  simp only [hρ, x_c, x_il, x_ll, x_al, x_is, x_as, x_ls, x_inc, x_ii, x_iq, x_i1, x_l2, x_lq, x_lh, x_i2l, x_l2i, x_lcmp, x_dup, x_dup2, x_pop, x_if, x_ifn, x_ic, x_icn, x_go, x_sw, swc, x_l01, x_mx, x_gI, x_gL, x_gR, x_pI, x_pZ, x_pL, x_pR, x_ia, x_za, x_aa, x_ias, x_zas, x_aas, x_fac, x_fa, x_slen, x_sa, x_ac, x_oi, x_new, x_na, x_cS, x_cV, x_cI, x_rI, x_rZ, x_rL, x_r0, pa, short, oc, lg, lset, lset2, wide, cond_true, cond_false, true_and, and_true, ↓reduceIte, Bool.false_eq_true, true_or, or_true, lf_X1_sendMessages, hd.f, hk.f, hn, nI_leI (show n < 2 ^ 31 by omega) (show i < 2 ^ 31 by omega), mS_app, kj, dj hj, bit_c (show s < 2 ^ 31 by omega) (show i < 31 by omega), Classical.not_not, ncl (show i < 2 ^ 31 by omega), nI_1]
  refine ⟨fun h => ⟨chg_or _ _ _ _ _, ?_⟩, fun h => ⟨fun hb => ?_, fun hb => ⟨hv1 (by omega), fun h2 => ?_, fun h2 => ?_⟩⟩⟩
  · have : i = n := by omega
    subst this
    exact hR
  · have hw := ih (by omega)
    have hz : ¬ (s.testBit i = true ∧ ¬ I (k + 4) (9 * c + i) = snI I k sg i) := fun z => hb z.1
    rw [← smT_f hz, ← smM_f hz, show chg (I (k + 4)) (snI I k sg) s (9 * c) (i + 1) = chg (I (k + 4)) (snI I k sg) s (9 * c) i by rw [chg, if_neg hz]] at hw
    exact hw
  · have hw := k83 (by omega) hb
    rwa [show sB (I 15 2) (I 15 3) (I 15 4) (I k 6) i = hld (I 15 2 - I k 6) 0 31 by simp only [sB]; rw [if_neg h2]] at hw
  · have hw := k83 (by omega) hb
    rwa [show sB (I 15 2) (I 15 3) (I 15 4) (I k 6) i = hld (I 15 3 - I k 6) 0 31 by simp only [sB]; rw [if_pos h2]] at hw
