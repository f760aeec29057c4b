/-! STATE: five places from k on: the object, over, level, total, message -/
def IsSt (S : Sh) (k : Nat) : Prop := tO S k 5 ∧ sR S k 0 = k + 1 ∧ sR S k 1 = k + 2 ∧ sR S k 2 = k + 3 ∧ sR S k 3 = k + 4 ∧ tA S (k + 1) 1 ∧ ln S (k + 1) = 6 ∧ tA S (k + 2) 1 ∧ ln S (k + 2) = 9 ∧ tA S (k + 3) 1 ∧ ln S (k + 3) = 9 ∧ tA S (k + 4) 1 ∧ ln S (k + 4) = 54
theorem IsSt.f {S : Sh} {k : Nat} (h : IsSt S k) : tO S k 5 ∧ sR S k 0 = k + 1 ∧ sR S k 1 = k + 2 ∧ sR S k 2 = k + 3 ∧ sR S k 3 = k + 4 ∧ tA S (k + 1) 1 ∧ ln S (k + 1) = 6 ∧ tA S (k + 2) 1 ∧ ln S (k + 2) = 9 ∧ tA S (k + 3) 1 ∧ ln S (k + 3) = 9 ∧ tA S (k + 4) 1 ∧ ln S (k + 4) = 54 := h
abbrev MI : Type := Nat → Nat → Int32
def inR (a : Int) (x : Int32) : Prop := -a ≤ x.toInt ∧ x.toInt ≤ a
/-- what holds of a state in use: n bits, m checks -/
def SV (I : MI) (k n m : Nat) : Prop := (2 ≤ n ∧ n ≤ 9 ∧ m ≤ 6) ∧ (I k 4 = nI n ∧ I k 5 = nI m) ∧ (∀ c, c < m → tn (I (k + 1) c) < 2 ^ n) ∧ (∃ o, o ≤ 9 ∧ I k 6 = nI o) ∧ (∀ b, b < 9 → inR 31 (I (k + 2) b)) ∧ (∀ b, b < 9 → inR 99 (I (k + 3) b)) ∧ (∀ j, j < 54 → inR 31 (I (k + 4) j))
theorem SV.congr {I I' : MI} {k n m : Nat} (h : SV I k n m) (h0 : I' k = I k) (h1 : I' (k + 1) = I (k + 1)) (h2 : I' (k + 2) = I (k + 2)) (h3 : I' (k + 3) = I (k + 3)) (h4 : I' (k + 4) = I (k + 4)) : SV I' k n m := by
  unfold SV at h ⊢
  rw [h0, h1, h2, h3, h4]
  exact h
def wdF (t : Nat → Int32) (n : Nat) : Nat := bs (fun b => decide (t b < 0)) n
def ovS (I : MI) (k c : Nat) : Nat := tn (I (k + 1) c)
def opB (ov : Nat → Nat) (m w : Nat) : Nat := bs (fun c => ones9 (ov c &&& w) % 2 == 1) m
theorem pow9 {n : Nat} (h : n ≤ 9) : 2 ^ n ≤ 512 := by
  have : 2 ^ n ≤ 2 ^ 9 := Nat.pow_le_pow_right (by omega) h
  omega
theorem SV.ov {I : MI} {k n m c : Nat} (h : SV I k n m) (hc : c < m) : ovS I k c < 512 := Nat.lt_of_lt_of_le (h.2.2.1 c hc) (pow9 h.1.2.1)
theorem wdF_lt (t : Nat → Int32) {n : Nat} (h : n ≤ 9) : wdF t n < 512 := Nat.lt_of_lt_of_le (bs_lt _ _) (pow9 h)
def il_X5_hasBit : List (Nat × Instr × Nat) := [(0, .iload_n 1, 1), (1, .ifCond .lt 15, 3), (4, .iload_n 1, 1), (5, .aload_n 0, 1), (6, .getfield 24, 3), (9, .if_icmp .ge 7, 3), (12, .iconst 1, 1), (13, .goto 4, 3), (16, .iconst 0, 1), (17, .ireturn, 1)]
def mt_X5_hasBit : Mt := (cX5_hasBit, RX5, 2, (some .boolean), ({ frames := 0, cells := 0, slots := 0, locals := 0 } : Room), false, none, none)
set_option maxRecDepth 100000 in
theorem dl_X5_hasBit : ∀ q ∈ il_X5_hasBit, decode (mt_X5_hasBit).1 q.1 = .ok q.2 := by decide +kernel
def tb_X5_hasBit : Tb := [(0, x_il 1 1, false),
  (1, x_if 16 4 (fun x : Int32 => x < 0), false),
  (4, x_il 5 1, false),
  (5, x_al 6 0, false),
  (6, x_gI 5 4 9, false),
  (9, x_ic 16 12 (fun x y : Int32 => y ≤ x), false),
  (12, x_c 13 (.int 1), false),
  (13, x_go 17, false),
  (16, x_c 17 (.int 0), false),
  (17, x_rZ, false)]
set_option maxRecDepth 100000 in
theorem tk_X5_hasBit : TbOk (mt_X5_hasBit) (tb_X5_hasBit) :=
  tkc (s_iload_n (at_ dl_X5_hasBit 0 (ins := .iload_n 1) rfl)) (
  tkc (s_if_lt (at_ dl_X5_hasBit 1 (ins := .ifCond .lt 15) rfl) (by decide)) (
  tkc (s_iload_n (at_ dl_X5_hasBit 2 (ins := .iload_n 1) rfl)) (
  tkc (s_aload_n (at_ dl_X5_hasBit 3 (ins := .aload_n 0) rfl)) (
  tkc (s_gI (at_ dl_X5_hasBit 4 (ins := .getfield 24) rfl) (by decide) (by decide) (by decide) (tg 134 (by decide +kernel) (by decide +kernel))) (
  tkc (s_ic_ge (at_ dl_X5_hasBit 5 (ins := .if_icmp .ge 7) rfl) (by decide)) (
  tkc (s_iconst (at_ dl_X5_hasBit 6 (ins := .iconst 1) rfl) (by first | rfl | decide)) (
  tkc (s_goto (at_ dl_X5_hasBit 7 (ins := .goto 4) rfl) (by decide)) (
  tkc (s_iconst (at_ dl_X5_hasBit 8 (ins := .iconst 0) rfl) (by first | rfl | decide)) (
  tkc (s_rZ (at_ dl_X5_hasBit 9 (ins := .ireturn) rfl) rfl) ( tk0))))))))))
theorem lf_X5_hasBit : lk (tb_X5_hasBit) 0 = (x_il 1 1, false) ∧ lk (tb_X5_hasBit) 1 = (x_if 16 4 (fun x : Int32 => x < 0), false) ∧ lk (tb_X5_hasBit) 4 = (x_il 5 1, false) ∧ lk (tb_X5_hasBit) 5 = (x_al 6 0, false) ∧ lk (tb_X5_hasBit) 6 = (x_gI 5 4 9, false) ∧ lk (tb_X5_hasBit) 9 = (x_ic 16 12 (fun x y : Int32 => y ≤ x), false) ∧ lk (tb_X5_hasBit) 12 = (x_c 13 (.int 1), false) ∧ lk (tb_X5_hasBit) 13 = (x_go 17, false) ∧ lk (tb_X5_hasBit) 16 = (x_c 17 (.int 0), false) ∧ lk (tb_X5_hasBit) 17 = (x_rZ, false) := ⟨rfl, rfl, rfl, rfl, rfl, rfl, rfl, rfl, rfl, rfl⟩
def P_X5_hasBit : PTT := fun as M R => match as with
  | [.ref k, .int b] => tO M.1 k 5 ∧ R (some (.int (bI (¬ b < 0 ∧ ¬ M.2.1 k 4 ≤ b)))) M
  | _ => False
set_option maxRecDepth 20000 in
theorem ok_X5_hasBit : Ok yX5_hasBit mt_X5_hasBit P_X5_hasBit := by
  refine Ok.of (by decide) rfl rfl rfl rfl fun av ⟨S, I, L⟩ R hP => ?_
  unfold P_X5_hasBit at hP
  split at hP
  case h_2 => exact hP.elim
  rename_i k b
  obtain ⟨k, rfl⟩ : ∃ q : Nat, q = k := ⟨k, rfl⟩
  refine ⟨by simp [ent, wide, mt_X5_hasBit], ?_⟩
  show J mt_X5_hasBit R 0 [some (.ref k), some (.int b)] [] (S, I, L)
  try dsimp only at hP
  refine J.of tk_X5_hasBit 200 fun ρ hρ => ?_
  simp only [hρ, x_c, x_il, x_ll, x_al, x_is, x_as, x_ls, x_inc, x_ii, x_iq, x_i1, x_l2, x_lq, x_lh, x_i2l, x_l2i, x_lcmp, x_dup, x_dup2, x_pop, x_if, x_ifn, x_ic, x_icn, x_go, x_sw, swc, x_l01, x_mx, x_gI, x_gL, x_gR, x_pI, x_pZ, x_pL, x_pR, x_ia, x_za, x_aa, x_ias, x_zas, x_aas, x_fac, x_fa, x_slen, x_sa, x_ac, x_oi, x_new, x_na, x_cS, x_cV, x_cI, x_rI, x_rZ, x_rL, x_r0, pa, short, oc, lg, lset, lset2, wide, cond_true, cond_false, true_and, and_true, ↓reduceIte, Bool.false_eq_true, true_or, or_true, lf_X5_hasBit, hP.1]
  refine ⟨fun h => ?_, fun h => ⟨fun h2 => ?_, fun h2 => ?_⟩⟩
  · have := hP.2; rwa [bI_f (fun q => q.1 h)] at this
  · have := hP.2; rwa [bI_f (fun q => q.2 h2)] at this
  · have := hP.2; rwa [bI_t ⟨h, h2⟩] at this
def il_X5_hasCheck : List (Nat × Instr × Nat) := [(0, .iload_n 1, 1), (1, .ifCond .lt 15, 3), (4, .iload_n 1, 1), (5, .aload_n 0, 1), (6, .getfield 28, 3), (9, .if_icmp .ge 7, 3), (12, .iconst 1, 1), (13, .goto 4, 3), (16, .iconst 0, 1), (17, .ireturn, 1)]
def mt_X5_hasCheck : Mt := (cX5_hasCheck, RX5, 2, (some .boolean), ({ frames := 0, cells := 0, slots := 0, locals := 0 } : Room), false, none, none)
set_option maxRecDepth 100000 in
theorem dl_X5_hasCheck : ∀ q ∈ il_X5_hasCheck, decode (mt_X5_hasCheck).1 q.1 = .ok q.2 := by decide +kernel
def tb_X5_hasCheck : Tb := [(0, x_il 1 1, false),
  (1, x_if 16 4 (fun x : Int32 => x < 0), false),
  (4, x_il 5 1, false),
  (5, x_al 6 0, false),
  (6, x_gI 5 5 9, false),
  (9, x_ic 16 12 (fun x y : Int32 => y ≤ x), false),
  (12, x_c 13 (.int 1), false),
  (13, x_go 17, false),
  (16, x_c 17 (.int 0), false),
  (17, x_rZ, false)]
set_option maxRecDepth 100000 in
theorem tk_X5_hasCheck : TbOk (mt_X5_hasCheck) (tb_X5_hasCheck) :=
  tkc (s_iload_n (at_ dl_X5_hasCheck 0 (ins := .iload_n 1) rfl)) (
  tkc (s_if_lt (at_ dl_X5_hasCheck 1 (ins := .ifCond .lt 15) rfl) (by decide)) (
  tkc (s_iload_n (at_ dl_X5_hasCheck 2 (ins := .iload_n 1) rfl)) (
  tkc (s_aload_n (at_ dl_X5_hasCheck 3 (ins := .aload_n 0) rfl)) (
  tkc (s_gI (at_ dl_X5_hasCheck 4 (ins := .getfield 28) rfl) (by decide) (by decide) (by decide) (tg 139 (by decide +kernel) (by decide +kernel))) (
  tkc (s_ic_ge (at_ dl_X5_hasCheck 5 (ins := .if_icmp .ge 7) rfl) (by decide)) (
  tkc (s_iconst (at_ dl_X5_hasCheck 6 (ins := .iconst 1) rfl) (by first | rfl | decide)) (
  tkc (s_goto (at_ dl_X5_hasCheck 7 (ins := .goto 4) rfl) (by decide)) (
  tkc (s_iconst (at_ dl_X5_hasCheck 8 (ins := .iconst 0) rfl) (by first | rfl | decide)) (
  tkc (s_rZ (at_ dl_X5_hasCheck 9 (ins := .ireturn) rfl) rfl) ( tk0))))))))))
theorem lf_X5_hasCheck : lk (tb_X5_hasCheck) 0 = (x_il 1 1, false) ∧ lk (tb_X5_hasCheck) 1 = (x_if 16 4 (fun x : Int32 => x < 0), false) ∧ lk (tb_X5_hasCheck) 4 = (x_il 5 1, false) ∧ lk (tb_X5_hasCheck) 5 = (x_al 6 0, false) ∧ lk (tb_X5_hasCheck) 6 = (x_gI 5 5 9, false) ∧ lk (tb_X5_hasCheck) 9 = (x_ic 16 12 (fun x y : Int32 => y ≤ x), false) ∧ lk (tb_X5_hasCheck) 12 = (x_c 13 (.int 1), false) ∧ lk (tb_X5_hasCheck) 13 = (x_go 17, false) ∧ lk (tb_X5_hasCheck) 16 = (x_c 17 (.int 0), false) ∧ lk (tb_X5_hasCheck) 17 = (x_rZ, false) := ⟨rfl, rfl, rfl, rfl, rfl, rfl, rfl, rfl, rfl, rfl⟩
def P_X5_hasCheck : PTT := fun as M R => match as with
  | [.ref k, .int b] => tO M.1 k 5 ∧ R (some (.int (bI (¬ b < 0 ∧ ¬ M.2.1 k 5 ≤ b)))) M
  | _ => False
set_option maxRecDepth 20000 in
theorem ok_X5_hasCheck : Ok yX5_hasCheck mt_X5_hasCheck P_X5_hasCheck := by
  refine Ok.of (by decide) rfl rfl rfl rfl fun av ⟨S, I, L⟩ R hP => ?_
  unfold P_X5_hasCheck at hP
  split at hP
  case h_2 => exact hP.elim
  rename_i k b
  obtain ⟨k, rfl⟩ : ∃ q : Nat, q = k := ⟨k, rfl⟩
  refine ⟨by simp [ent, wide, mt_X5_hasCheck], ?_⟩
  show J mt_X5_hasCheck R 0 [some (.ref k), some (.int b)] [] (S, I, L)
  try dsimp only at hP
  refine J.of tk_X5_hasCheck 200 fun ρ hρ => ?_
  simp only [hρ, x_c, x_il, x_ll, x_al, x_is, x_as, x_ls, x_inc, x_ii, x_iq, x_i1, x_l2, x_lq, x_lh, x_i2l, x_l2i, x_lcmp, x_dup, x_dup2, x_pop, x_if, x_ifn, x_ic, x_icn, x_go, x_sw, swc, x_l01, x_mx, x_gI, x_gL, x_gR, x_pI, x_pZ, x_pL, x_pR, x_ia, x_za, x_aa, x_ias, x_zas, x_aas, x_fac, x_fa, x_slen, x_sa, x_ac, x_oi, x_new, x_na, x_cS, x_cV, x_cI, x_rI, x_rZ, x_rL, x_r0, pa, short, oc, lg, lset, lset2, wide, cond_true, cond_false, true_and, and_true, ↓reduceIte, Bool.false_eq_true, true_or, or_true, lf_X5_hasCheck, hP.1]
  refine ⟨fun h => ?_, fun h => ⟨fun h2 => ?_, fun h2 => ?_⟩⟩
  · have := hP.2; rwa [bI_f (fun q => q.1 h)] at this
  · have := hP.2; rwa [bI_f (fun q => q.2 h2)] at this
  · have := hP.2; rwa [bI_t ⟨h, h2⟩] at this
def il_X5_allChecks : List (Nat × Instr × Nat) := [(0, .iconst 1, 1), (1, .aload_n 0, 1), (2, .getfield 28, 3), (5, .ishl, 1), (6, .iconst 1, 1), (7, .isub, 1), (8, .ireturn, 1)]
def mt_X5_allChecks : Mt := (cX5_allChecks, RX5, 1, (some .int), ({ frames := 0, cells := 0, slots := 0, locals := 0 } : Room), false, none, none)
set_option maxRecDepth 100000 in
theorem dl_X5_allChecks : ∀ q ∈ il_X5_allChecks, decode (mt_X5_allChecks).1 q.1 = .ok q.2 := by decide +kernel
def tb_X5_allChecks : Tb := [(0, x_c 1 (.int 1), false),
  (1, x_al 2 0, false),
  (2, x_gI 5 5 5, false),
  (5, x_ii 6 (fun x y : Int32 => x <<< (y &&& 31)), false),
  (6, x_c 7 (.int 1), false),
  (7, x_ii 8 (fun x y : Int32 => x - y), false),
  (8, x_rI, false)]
set_option maxRecDepth 100000 in
theorem tk_X5_allChecks : TbOk (mt_X5_allChecks) (tb_X5_allChecks) :=
  tkc (s_iconst (at_ dl_X5_allChecks 0 (ins := .iconst 1) rfl) (by first | rfl | decide)) (
  tkc (s_aload_n (at_ dl_X5_allChecks 1 (ins := .aload_n 0) rfl)) (
  tkc (s_gI (at_ dl_X5_allChecks 2 (ins := .getfield 28) rfl) (by decide) (by decide) (by decide) (tg 139 (by decide +kernel) (by decide +kernel))) (
  tkc (s_ishl (at_ dl_X5_allChecks 3 (ins := .ishl) rfl)) (
  tkc (s_iconst (at_ dl_X5_allChecks 4 (ins := .iconst 1) rfl) (by first | rfl | decide)) (
  tkc (s_isub (at_ dl_X5_allChecks 5 (ins := .isub) rfl)) (
  tkc (s_rI (at_ dl_X5_allChecks 6 (ins := .ireturn) rfl) rfl) ( tk0)))))))
theorem lf_X5_allChecks : lk (tb_X5_allChecks) 0 = (x_c 1 (.int 1), false) ∧ lk (tb_X5_allChecks) 1 = (x_al 2 0, false) ∧ lk (tb_X5_allChecks) 2 = (x_gI 5 5 5, false) ∧ lk (tb_X5_allChecks) 5 = (x_ii 6 (fun x y : Int32 => x <<< (y &&& 31)), false) ∧ lk (tb_X5_allChecks) 6 = (x_c 7 (.int 1), false) ∧ lk (tb_X5_allChecks) 7 = (x_ii 8 (fun x y : Int32 => x - y), false) ∧ lk (tb_X5_allChecks) 8 = (x_rI, false) := ⟨rfl, rfl, rfl, rfl, rfl, rfl, rfl⟩
def P_X5_allChecks : PTT := fun as M R => match as with
  | [.ref k] => tO M.1 k 5 ∧ R (some (.int ((1 : Int32) <<< (M.2.1 k 5 &&& 31) - 1))) M
  | _ => False
set_option maxRecDepth 20000 in
theorem ok_X5_allChecks : Ok yX5_allChecks mt_X5_allChecks P_X5_allChecks := by
  refine Ok.of (by decide) rfl rfl rfl rfl fun av ⟨S, I, L⟩ R hP => ?_
  unfold P_X5_allChecks at hP
  split at hP
  case h_2 => exact hP.elim
  rename_i k
  obtain ⟨k, rfl⟩ : ∃ q : Nat, q = k := ⟨k, rfl⟩
  refine ⟨by simp [ent, wide, mt_X5_allChecks], ?_⟩
  show J mt_X5_allChecks R 0 [some (.ref k)] [] (S, I, L)
  try dsimp only at hP
  refine J.of tk_X5_allChecks 200 fun ρ hρ => ?_
  simp only [hρ, x_c, x_il, x_ll, x_al, x_is, x_as, x_ls, x_inc, x_ii, x_iq, x_i1, x_l2, x_lq, x_lh, x_i2l, x_l2i, x_lcmp, x_dup, x_dup2, x_pop, x_if, x_ifn, x_ic, x_icn, x_go, x_sw, swc, x_l01, x_mx, x_gI, x_gL, x_gR, x_pI, x_pZ, x_pL, x_pR, x_ia, x_za, x_aa, x_ias, x_zas, x_aas, x_fac, x_fa, x_slen, x_sa, x_ac, x_oi, x_new, x_na, x_cS, x_cV, x_cI, x_rI, x_rZ, x_rL, x_r0, pa, short, oc, lg, lset, lset2, wide, cond_true, cond_false, true_and, and_true, ↓reduceIte, Bool.false_eq_true, true_or, or_true, lf_X5_allChecks, hP.1]
  exact hP.2
def il_X5_word : List (Nat × Instr × Nat) := [(0, .iconst 0, 1), (1, .istore_n 1, 1), (2, .iconst 0, 1), (3, .istore_n 2, 1), (4, .iload_n 2, 1), (5, .aload_n 0, 1), (6, .getfield 24, 3), (9, .if_icmp .ge 24, 3), (12, .aload_n 0, 1), (13, .getfield 18, 3), (16, .iload_n 2, 1), (17, .iaload, 1), (18, .ifCond .ge 9, 3), (21, .iload_n 1, 1), (22, .iconst 1, 1), (23, .iload_n 2, 1), (24, .ishl, 1), (25, .ior, 1), (26, .istore_n 1, 1), (27, .iinc 2 1, 3), (30, .goto (-26), 3), (33, .iload_n 1, 1), (34, .ireturn, 1)]
def mt_X5_word : Mt := (cX5_word, RX5, 3, (some .int), ({ frames := 0, cells := 0, slots := 0, locals := 0 } : Room), false, none, none)
set_option maxRecDepth 100000 in
theorem dl_X5_word : ∀ q ∈ il_X5_word, decode (mt_X5_word).1 q.1 = .ok q.2 := by decide +kernel
def tb_X5_word : Tb := [(0, x_c 1 (.int 0), false),
  (1, x_is 2 1, false),
  (2, x_c 3 (.int 0), false),
  (3, x_is 4 2, false),
  (4, x_il 5 2, true),
  (5, x_al 6 0, false),
  (6, x_gI 5 4 9, false),
  (9, x_ic 33 12 (fun x y : Int32 => y ≤ x), false),
  (12, x_al 13 0, false),
  (13, x_gR 5 2 16, false),
  (16, x_il 17 2, false),
  (17, x_ia 18, false),
  (18, x_if 27 21 (fun x : Int32 => 0 ≤ x), false),
  (21, x_il 22 1, false),
  (22, x_c 23 (.int 1), false),
  (23, x_il 24 2, false),
  (24, x_ii 25 (fun x y : Int32 => x <<< (y &&& 31)), false),
  (25, x_ii 26 (fun x y : Int32 => x ||| y), false),
  (26, x_is 27 1, false),
  (27, x_inc 30 2 1, false),
  (30, x_go 4, false),
  (33, x_il 34 1, false),
  (34, x_rI, false)]
set_option maxRecDepth 100000 in
theorem tk_X5_word : TbOk (mt_X5_word) (tb_X5_word) :=
  tkc (s_iconst (at_ dl_X5_word 0 (ins := .iconst 0) rfl) (by first | rfl | decide)) (
  tkc (s_istore_n (at_ dl_X5_word 1 (ins := .istore_n 1) rfl) (by decide)) (
  tkc (s_iconst (at_ dl_X5_word 2 (ins := .iconst 0) rfl) (by first | rfl | decide)) (
  tkc (s_istore_n (at_ dl_X5_word 3 (ins := .istore_n 2) rfl) (by decide)) (
  tkc (s_iload_n (at_ dl_X5_word 4 (ins := .iload_n 2) rfl)) (
  tkc (s_aload_n (at_ dl_X5_word 5 (ins := .aload_n 0) rfl)) (
  tkc (s_gI (at_ dl_X5_word 6 (ins := .getfield 24) rfl) (by decide) (by decide) (by decide) (tg 134 (by decide +kernel) (by decide +kernel))) (
  tkc (s_ic_ge (at_ dl_X5_word 7 (ins := .if_icmp .ge 24) rfl) (by decide)) (
  tkc (s_aload_n (at_ dl_X5_word 8 (ins := .aload_n 0) rfl)) (
  tkc (s_gR (at_ dl_X5_word 9 (ins := .getfield 18) rfl) (by decide) (by decide) (by decide) (tg 128 (by decide +kernel) (by decide +kernel))) (
  tkc (s_iload_n (at_ dl_X5_word 10 (ins := .iload_n 2) rfl)) (
  tkc (s_ia (at_ dl_X5_word 11 (ins := .iaload) rfl)) (
  tkc (s_if_ge (at_ dl_X5_word 12 (ins := .ifCond .ge 9) rfl) (by decide)) (
  tkc (s_iload_n (at_ dl_X5_word 13 (ins := .iload_n 1) rfl)) (
  tkc (s_iconst (at_ dl_X5_word 14 (ins := .iconst 1) rfl) (by first | rfl | decide)) (
  tkc (s_iload_n (at_ dl_X5_word 15 (ins := .iload_n 2) rfl)) (
  tkc (s_ishl (at_ dl_X5_word 16 (ins := .ishl) rfl)) (
  tkc (s_ior (at_ dl_X5_word 17 (ins := .ior) rfl)) (
  tkc (s_istore_n (at_ dl_X5_word 18 (ins := .istore_n 1) rfl) (by decide)) (
  tkc (s_iinc (at_ dl_X5_word 19 (ins := .iinc 2 1) rfl) (by decide) (by first | rfl | decide)) (
  tkc (s_goto (at_ dl_X5_word 20 (ins := .goto (-26)) rfl) (by decide)) (
  tkc (s_iload_n (at_ dl_X5_word 21 (ins := .iload_n 1) rfl)) (
  tkc (s_rI (at_ dl_X5_word 22 (ins := .ireturn) rfl) rfl) ( tk0)))))))))))))))))))))))
theorem lf_X5_word : lk (tb_X5_word) 0 = (x_c 1 (.int 0), false) ∧ lk (tb_X5_word) 1 = (x_is 2 1, false) ∧ lk (tb_X5_word) 2 = (x_c 3 (.int 0), false) ∧ lk (tb_X5_word) 3 = (x_is 4 2, false) ∧ lk (tb_X5_word) 4 = (x_il 5 2, true) ∧ lk (tb_X5_word) 5 = (x_al 6 0, false) ∧ lk (tb_X5_word) 6 = (x_gI 5 4 9, false) ∧ lk (tb_X5_word) 9 = (x_ic 33 12 (fun x y : Int32 => y ≤ x), false) ∧ lk (tb_X5_word) 12 = (x_al 13 0, false) ∧ lk (tb_X5_word) 13 = (x_gR 5 2 16, false) ∧ lk (tb_X5_word) 16 = (x_il 17 2, false) ∧ lk (tb_X5_word) 17 = (x_ia 18, false) ∧ lk (tb_X5_word) 18 = (x_if 27 21 (fun x : Int32 => 0 ≤ x), false) ∧ lk (tb_X5_word) 21 = (x_il 22 1, false) ∧ lk (tb_X5_word) 22 = (x_c 23 (.int 1), false) ∧ lk (tb_X5_word) 23 = (x_il 24 2, false) ∧ lk (tb_X5_word) 24 = (x_ii 25 (fun x y : Int32 => x <<< (y &&& 31)), false) ∧ lk (tb_X5_word) 25 = (x_ii 26 (fun x y : Int32 => x ||| y), false) ∧ lk (tb_X5_word) 26 = (x_is 27 1, false) ∧ lk (tb_X5_word) 27 = (x_inc 30 2 1, false) ∧ lk (tb_X5_word) 30 = (x_go 4, false) ∧ lk (tb_X5_word) 33 = (x_il 34 1, false) ∧ lk (tb_X5_word) 34 = (x_rI, false) := ⟨rfl, rfl, rfl, rfl, rfl, rfl, rfl, rfl, rfl, rfl, rfl, rfl, rfl, rfl, rfl, rfl, rfl, rfl, rfl, rfl, rfl, rfl, rfl⟩
def P_X5_word : PTT := fun as M R => match as with
  | [.ref k] => IsSt M.1 k ∧ (∃ n, n ≤ 9 ∧ M.2.1 k 4 = nI n) ∧ R (some (.int (nI (wdF (M.2.1 (k + 3)) (tn (M.2.1 k 4)))))) M
  | _ => False
set_option maxRecDepth 20000 in
theorem ok_X5_word : Ok yX5_word mt_X5_word P_X5_word := by
  refine Ok.of (by decide) rfl rfl rfl rfl fun av ⟨S, I, L⟩ R hP => ?_
  unfold P_X5_word at hP
  split at hP
  case h_2 => exact hP.elim
  rename_i k
  obtain ⟨k, rfl⟩ : ∃ q : Nat, q = k := ⟨k, rfl⟩
  refine ⟨by simp [ent, wide, mt_X5_word], ?_⟩
  show J mt_X5_word R 0 [some (.ref k), none, none] [] (S, I, L)
  try dsimp only at hP
  obtain ⟨hk, ⟨n, h9, hn⟩, hR⟩ := hP

  rw [hn, tn_nI (by omega)] at hR
  refine J.of tk_X5_word 200 fun ρ hρ => ?_
  simp only [hρ, x_c, x_il, x_ll, x_al, x_is, x_as, x_ls, x_inc, x_ii, x_iq, x_i1, x_l2, x_lq, x_lh, x_i2l, x_l2i, x_lcmp, x_dup, x_dup2, x_pop, x_if, x_ifn, x_ic, x_icn, x_go, x_sw, swc, x_l01, x_mx, x_gI, x_gL, x_gR, x_pI, x_pZ, x_pL, x_pR, x_ia, x_za, x_aa, x_ias, x_zas, x_aas, x_fac, x_fa, x_slen, x_sa, x_ac, x_oi, x_new, x_na, x_cS, x_cV, x_cI, x_rI, x_rZ, x_rL, x_r0, pa, short, oc, lg, lset, lset2, wide, cond_true, cond_false, true_and, and_true, ↓reduceIte, Bool.false_eq_true, true_or, or_true, lf_X5_word]
  refine up (P := fun i => J mt_X5_word R 4 [some (.ref k), some (.int (nI (bs (fun b => decide (I (k + 3) b < 0)) i))), some (.int (nI i))] [] (S, I, L)) (n := n) (fun i hi ih => ?_) 0 (Nat.zero_le _)
  refine J.of tk_X5_word 200 fun ρ hρ => ?_
  simp only [hρ, x_c, x_il, x_ll, x_al, x_is, x_as, x_ls, x_inc, x_ii, x_iq, x_i1, x_l2, x_lq, x_lh, x_i2l, x_l2i, x_lcmp, x_dup, x_dup2, x_pop, x_if, x_ifn, x_ic, x_icn, x_go, x_sw, swc, x_l01, x_mx, x_gI, x_gL, x_gR, x_pI, x_pZ, x_pL, x_pR, x_ia, x_za, x_aa, x_ias, x_zas, x_aas, x_fac, x_fa, x_slen, x_sa, x_ac, x_oi, x_new, x_na, x_cS, x_cV, x_cI, x_rI, x_rZ, x_rL, x_r0, pa, short, oc, lg, lset, lset2, wide, cond_true, cond_false, true_and, and_true, ↓reduceIte, Bool.false_eq_true, true_or, or_true, lf_X5_word, hk.f, hn, ncl (show i < 2 ^ 31 by omega), nI_leI (show n < 2 ^ 31 by omega) (show i < 2 ^ 31 by omega), nI_1]
  refine ⟨fun h => ?_, fun h => ⟨vp_in_nI (by omega) (by omega), fun h2 => ?_, fun h2 => ?_⟩⟩
  · have : i = n := by omega
    subst this
    exact hR
  · have := ih (by omega)
    rwa [← bs_f (by simpa using Int32.not_lt.mpr h2)] at this
  · have := ih (by omega)
    rwa [← bs_t (by omega) (by simpa using Int32.not_le.mp h2)] at this
