/-! READING, at 3 and 4 -/
theorem fg {a : Nat} (h : a < 256) : (nI a - 48).toInt = (a : Int) - 48 := by
  have := pk_sub_toInt (a := a) (b := 48) (by omega) (by omega)
  exact this
theorem fg_lt {a c : Nat} (h : a < 256) (hc : c < 1000) : nI a - 48 < nI c ↔ a < 48 + c := by
  rw [Int32.lt_iff_toInt_lt, fg h, nI_toInt (by omega)]; omega
theorem fg_gt {a c : Nat} (h : a < 256) (hc : c < 1000) : nI c < nI a - 48 ↔ 48 + c < a := by
  rw [Int32.lt_iff_toInt_lt, fg h, nI_toInt (by omega)]; omega
theorem fg_ge {a c : Nat} (h : a < 256) (hc : c < 1000) : nI c ≤ nI a - 48 ↔ 48 + c ≤ a := by
  rw [Int32.le_iff_toInt_le, fg h, nI_toInt (by omega)]; omega
theorem fg_sub {a : Nat} (h : 48 ≤ a) : nI a - 48 = nI (a - 48) := by
  rw [show (48 : Int32) = nI 48 by decide]; exact pk_sub h
def il_X3_startAnew : List (Nat × Instr × Nat) := [(0, .aload_n 0, 1), (1, .iconst 0, 1), (2, .putfield 15, 3), (5, .aload_n 0, 1), (6, .iconst 0, 1), (7, .putfield 19, 3), (10, .aload_n 0, 1), (11, .iconst 0, 1), (12, .putfield 22, 3), (15, .aload_n 0, 1), (16, .iconst 0, 1), (17, .putfield 25, 3), (20, .aload_n 0, 1), (21, .iconst 0, 1), (22, .putfield 28, 3), (25, .aload_n 0, 1), (26, .iconst 0, 1), (27, .putfield 31, 3), (30, .return_, 1)]
def mt_X3_startAnew : Mt := (cX3_startAnew, RX3, 1, none, ({ frames := 0, cells := 0, slots := 0, locals := 0 } : Room), false, none, none)
set_option maxRecDepth 100000 in
theorem dl_X3_startAnew : ∀ q ∈ il_X3_startAnew, decode (mt_X3_startAnew).1 q.1 = .ok q.2 := by decide +kernel
def tb_X3_startAnew : Tb := [(0, x_al 1 0, false),
  (1, x_c 2 (.int 0), false),
  (2, x_pI 3 1 5, false),
  (5, x_al 6 0, false),
  (6, x_c 7 (.int 0), false),
  (7, x_pI 3 2 10, false),
  (10, x_al 11 0, false),
  (11, x_c 12 (.int 0), false),
  (12, x_pI 3 3 15, false),
  (15, x_al 16 0, false),
  (16, x_c 17 (.int 0), false),
  (17, x_pI 3 4 20, false),
  (20, x_al 21 0, false),
  (21, x_c 22 (.int 0), false),
  (22, x_pI 3 5 25, false),
  (25, x_al 26 0, false),
  (26, x_c 27 (.int 0), false),
  (27, x_pZ 3 6 30, false),
  (30, x_r0, false)]
set_option maxRecDepth 100000 in
theorem tk_X3_startAnew : TbOk (mt_X3_startAnew) (tb_X3_startAnew) :=
  tkc (s_aload_n (at_ dl_X3_startAnew 0 (ins := .aload_n 0) rfl)) (
  tkc (s_iconst (at_ dl_X3_startAnew 1 (ins := .iconst 0) rfl) (by first | rfl | decide)) (
  tkc (s_pI (at_ dl_X3_startAnew 2 (ins := .putfield 15) rfl) (by decide) (by decide) (by decide) (by decide) (tg 78 (by decide +kernel) (by decide +kernel))) (
  tkc (s_aload_n (at_ dl_X3_startAnew 3 (ins := .aload_n 0) rfl)) (
  tkc (s_iconst (at_ dl_X3_startAnew 4 (ins := .iconst 0) rfl) (by first | rfl | decide)) (
  tkc (s_pI (at_ dl_X3_startAnew 5 (ins := .putfield 19) rfl) (by decide) (by decide) (by decide) (by decide) (tg 80 (by decide +kernel) (by decide +kernel))) (
  tkc (s_aload_n (at_ dl_X3_startAnew 6 (ins := .aload_n 0) rfl)) (
  tkc (s_iconst (at_ dl_X3_startAnew 7 (ins := .iconst 0) rfl) (by first | rfl | decide)) (
  tkc (s_pI (at_ dl_X3_startAnew 8 (ins := .putfield 22) rfl) (by decide) (by decide) (by decide) (by decide) (tg 81 (by decide +kernel) (by decide +kernel))) (
  tkc (s_aload_n (at_ dl_X3_startAnew 9 (ins := .aload_n 0) rfl)) (
  tkc (s_iconst (at_ dl_X3_startAnew 10 (ins := .iconst 0) rfl) (by first | rfl | decide)) (
  tkc (s_pI (at_ dl_X3_startAnew 11 (ins := .putfield 25) rfl) (by decide) (by decide) (by decide) (by decide) (tg 84 (by decide +kernel) (by decide +kernel))) (
  tkc (s_aload_n (at_ dl_X3_startAnew 12 (ins := .aload_n 0) rfl)) (
  tkc (s_iconst (at_ dl_X3_startAnew 13 (ins := .iconst 0) rfl) (by first | rfl | decide)) (
  tkc (s_pI (at_ dl_X3_startAnew 14 (ins := .putfield 28) rfl) (by decide) (by decide) (by decide) (by decide) (tg 85 (by decide +kernel) (by decide +kernel))) (
  tkc (s_aload_n (at_ dl_X3_startAnew 15 (ins := .aload_n 0) rfl)) (
  tkc (s_iconst (at_ dl_X3_startAnew 16 (ins := .iconst 0) rfl) (by first | rfl | decide)) (
  tkc (s_pZ (at_ dl_X3_startAnew 17 (ins := .putfield 31) rfl) (by decide) (by decide) (by decide) (by decide) (tg 86 (by decide +kernel) (by decide +kernel))) (
  tkc (s_r0 (at_ dl_X3_startAnew 18 (ins := .return_) rfl) rfl) ( tk0)))))))))))))))))))
theorem lf_X3_startAnew : lk (tb_X3_startAnew) 0 = (x_al 1 0, false) ∧ lk (tb_X3_startAnew) 1 = (x_c 2 (.int 0), false) ∧ lk (tb_X3_startAnew) 2 = (x_pI 3 1 5, false) ∧ lk (tb_X3_startAnew) 5 = (x_al 6 0, false) ∧ lk (tb_X3_startAnew) 6 = (x_c 7 (.int 0), false) ∧ lk (tb_X3_startAnew) 7 = (x_pI 3 2 10, false) ∧ lk (tb_X3_startAnew) 10 = (x_al 11 0, false) ∧ lk (tb_X3_startAnew) 11 = (x_c 12 (.int 0), false) ∧ lk (tb_X3_startAnew) 12 = (x_pI 3 3 15, false) ∧ lk (tb_X3_startAnew) 15 = (x_al 16 0, false) ∧ lk (tb_X3_startAnew) 16 = (x_c 17 (.int 0), false) ∧ lk (tb_X3_startAnew) 17 = (x_pI 3 4 20, false) ∧ lk (tb_X3_startAnew) 20 = (x_al 21 0, false) ∧ lk (tb_X3_startAnew) 21 = (x_c 22 (.int 0), false) ∧ lk (tb_X3_startAnew) 22 = (x_pI 3 5 25, false) ∧ lk (tb_X3_startAnew) 25 = (x_al 26 0, false) ∧ lk (tb_X3_startAnew) 26 = (x_c 27 (.int 0), false) ∧ lk (tb_X3_startAnew) 27 = (x_pZ 3 6 30, false) ∧ lk (tb_X3_startAnew) 30 = (x_r0, false) := ⟨rfl, rfl, rfl, rfl, rfl, rfl, rfl, rfl, rfl, rfl, rfl, rfl, rfl, rfl, rfl, rfl, rfl, rfl, rfl⟩
def P_X3_startAnew : PTT := fun as M R => match as with
  | [.ref k] => k = 3 ∧ IsRd M.1 3 ∧ R none (M.1, mS M.2.1 3 (upd (upd (upd (upd (upd (upd (M.2.1 3) 1 0) 2 0) 3 0) 4 0) 5 0) 6 0), M.2.2)
  | _ => False
set_option maxRecDepth 20000 in
theorem ok_X3_startAnew : Ok yX3_startAnew mt_X3_startAnew P_X3_startAnew := by
  refine Ok.of (by decide) rfl rfl rfl rfl fun av ⟨S, I, L⟩ R hP => ?_
  unfold P_X3_startAnew at hP
  split at hP
  case h_2 => exact hP.elim
  rename_i k
  obtain ⟨k, rfl⟩ : ∃ q : Nat, q = k := ⟨k, rfl⟩
  refine ⟨by simp [ent, wide, mt_X3_startAnew], ?_⟩
  show J mt_X3_startAnew R 0 [some (.ref k)] [] (S, I, L)
  try dsimp only at hP
  obtain ⟨rfl, hk, hR⟩ := hP
  refine J.of tk_X3_startAnew 200 fun ρ hρ => ?_
  simp only [hρ, x_c, x_il, x_ll, x_al, x_is, x_as, x_ls, x_inc, x_ii, x_iq, x_i1, x_l2, x_lq, x_lh, x_i2l, x_l2i, x_lcmp, x_dup, x_dup2, x_pop, x_if, x_ifn, x_ic, x_icn, x_go, x_sw, swc, x_l01, x_mx, x_gI, x_gL, x_gR, x_pI, x_pZ, x_pL, x_pR, x_ia, x_za, x_aa, x_ias, x_zas, x_aas, x_fac, x_fa, x_slen, x_sa, x_ac, x_oi, x_new, x_na, x_cS, x_cV, x_cI, x_rI, x_rZ, x_rL, x_r0, pa, short, oc, lg, lset, lset2, wide, cond_true, cond_false, true_and, and_true, ↓reduceIte, Bool.false_eq_true, true_or, or_true, lf_X3_startAnew, hk.f, mS_s, mS_ss]
  exact hR
def il_X3_mayEnd : List (Nat × Instr × Nat) := [(0, .aload_n 0, 1), (1, .getfield 15, 3), (4, .iconst 2, 1), (5, .if_icmp .le 14, 3), (8, .aload_n 0, 1), (9, .getfield 31, 3), (12, .ifCond .ne 7, 3), (15, .iconst 1, 1), (16, .goto 4, 3), (19, .iconst 0, 1), (20, .ireturn, 1)]
def mt_X3_mayEnd : Mt := (cX3_mayEnd, RX3, 1, (some .boolean), ({ frames := 0, cells := 0, slots := 0, locals := 0 } : Room), false, none, none)
set_option maxRecDepth 100000 in
theorem dl_X3_mayEnd : ∀ q ∈ il_X3_mayEnd, decode (mt_X3_mayEnd).1 q.1 = .ok q.2 := by decide +kernel
def tb_X3_mayEnd : Tb := [(0, x_al 1 0, false),
  (1, x_gI 3 1 4, false),
  (4, x_c 5 (.int 2), false),
  (5, x_ic 19 8 (fun x y : Int32 => x ≤ y), false),
  (8, x_al 9 0, false),
  (9, x_gI 3 6 12, false),
  (12, x_ifn 19 15 (fun x : Int32 => x = 0), false),
  (15, x_c 16 (.int 1), false),
  (16, x_go 20, false),
  (19, x_c 20 (.int 0), false),
  (20, x_rZ, false)]
set_option maxRecDepth 100000 in
theorem tk_X3_mayEnd : TbOk (mt_X3_mayEnd) (tb_X3_mayEnd) :=
  tkc (s_aload_n (at_ dl_X3_mayEnd 0 (ins := .aload_n 0) rfl)) (
  tkc (s_gI (at_ dl_X3_mayEnd 1 (ins := .getfield 15) rfl) (by decide) (by decide) (by decide) (tg 78 (by decide +kernel) (by decide +kernel))) (
  tkc (s_iconst (at_ dl_X3_mayEnd 2 (ins := .iconst 2) rfl) (by first | rfl | decide)) (
  tkc (s_ic_le (at_ dl_X3_mayEnd 3 (ins := .if_icmp .le 14) rfl) (by decide)) (
  tkc (s_aload_n (at_ dl_X3_mayEnd 4 (ins := .aload_n 0) rfl)) (
  tkc (s_gI (at_ dl_X3_mayEnd 5 (ins := .getfield 31) rfl) (by decide) (by decide) (by decide) (tg 86 (by decide +kernel) (by decide +kernel))) (
  tkc (s_if_ne (at_ dl_X3_mayEnd 6 (ins := .ifCond .ne 7) rfl) (by decide)) (
  tkc (s_iconst (at_ dl_X3_mayEnd 7 (ins := .iconst 1) rfl) (by first | rfl | decide)) (
  tkc (s_goto (at_ dl_X3_mayEnd 8 (ins := .goto 4) rfl) (by decide)) (
  tkc (s_iconst (at_ dl_X3_mayEnd 9 (ins := .iconst 0) rfl) (by first | rfl | decide)) (
  tkc (s_rZ (at_ dl_X3_mayEnd 10 (ins := .ireturn) rfl) rfl) ( tk0)))))))))))
theorem lf_X3_mayEnd : lk (tb_X3_mayEnd) 0 = (x_al 1 0, false) ∧ lk (tb_X3_mayEnd) 1 = (x_gI 3 1 4, false) ∧ lk (tb_X3_mayEnd) 4 = (x_c 5 (.int 2), false) ∧ lk (tb_X3_mayEnd) 5 = (x_ic 19 8 (fun x y : Int32 => x ≤ y), false) ∧ lk (tb_X3_mayEnd) 8 = (x_al 9 0, false) ∧ lk (tb_X3_mayEnd) 9 = (x_gI 3 6 12, false) ∧ lk (tb_X3_mayEnd) 12 = (x_ifn 19 15 (fun x : Int32 => x = 0), false) ∧ lk (tb_X3_mayEnd) 15 = (x_c 16 (.int 1), false) ∧ lk (tb_X3_mayEnd) 16 = (x_go 20, false) ∧ lk (tb_X3_mayEnd) 19 = (x_c 20 (.int 0), false) ∧ lk (tb_X3_mayEnd) 20 = (x_rZ, false) := ⟨rfl, rfl, rfl, rfl, rfl, rfl, rfl, rfl, rfl, rfl, rfl⟩
def P_X3_mayEnd : PTT := fun as M R => match as with
  | [.ref k] => k = 3 ∧ IsRd M.1 3 ∧ R (some (.int (bI (¬ M.2.1 3 1 ≤ 2 ∧ M.2.1 3 6 = 0)))) M
  | _ => False
set_option maxRecDepth 20000 in
theorem ok_X3_mayEnd : Ok yX3_mayEnd mt_X3_mayEnd P_X3_mayEnd := by
  refine Ok.of (by decide) rfl rfl rfl rfl fun av ⟨S, I, L⟩ R hP => ?_
  unfold P_X3_mayEnd at hP
  split at hP
  case h_2 => exact hP.elim
  rename_i k
  obtain ⟨k, rfl⟩ : ∃ q : Nat, q = k := ⟨k, rfl⟩
  refine ⟨by simp [ent, wide, mt_X3_mayEnd], ?_⟩
  show J mt_X3_mayEnd R 0 [some (.ref k)] [] (S, I, L)
  try dsimp only at hP
  obtain ⟨rfl, hk, hR⟩ := hP
  refine J.of tk_X3_mayEnd 200 fun ρ hρ => ?_
  simp only [hρ, x_c, x_il, x_ll, x_al, x_is, x_as, x_ls, x_inc, x_ii, x_iq, x_i1, x_l2, x_lq, x_lh, x_i2l, x_l2i, x_lcmp, x_dup, x_dup2, x_pop, x_if, x_ifn, x_ic, x_icn, x_go, x_sw, swc, x_l01, x_mx, x_gI, x_gL, x_gR, x_pI, x_pZ, x_pL, x_pR, x_ia, x_za, x_aa, x_ias, x_zas, x_aas, x_fac, x_fa, x_slen, x_sa, x_ac, x_oi, x_new, x_na, x_cS, x_cV, x_cI, x_rI, x_rZ, x_rL, x_r0, pa, short, oc, lg, lset, lset2, wide, cond_true, cond_false, true_and, and_true, ↓reduceIte, Bool.false_eq_true, true_or, or_true, lf_X3_mayEnd, hk.f]
  refine ⟨fun h => ?_, fun h => ⟨fun h2 => ?_, fun h2 => ?_⟩⟩
  · rwa [bI_f (fun q => q.1 h)] at hR
  · rwa [bI_f (fun q => h2 q.2)] at hR
  · rwa [bI_t ⟨h, h2⟩] at hR
def il_X3_takesBits : List (Nat × Instr × Nat) := [(0, .aload_n 0, 1), (1, .iload_n 1, 1), (2, .bipush 48, 2), (4, .isub, 1), (5, .putfield 19, 3), (8, .aload_n 0, 1), (9, .getfield 19, 3), (12, .iconst 2, 1), (13, .if_icmp .lt 16, 3), (16, .aload_n 0, 1), (17, .getfield 19, 3), (20, .bipush 9, 2), (22, .if_icmp .gt 7, 3), (25, .iconst 1, 1), (26, .goto 4, 3), (29, .iconst 0, 1), (30, .ireturn, 1)]
def mt_X3_takesBits : Mt := (cX3_takesBits, RX3, 2, (some .boolean), ({ frames := 0, cells := 0, slots := 0, locals := 0 } : Room), false, none, none)
set_option maxRecDepth 100000 in
theorem dl_X3_takesBits : ∀ q ∈ il_X3_takesBits, decode (mt_X3_takesBits).1 q.1 = .ok q.2 := by decide +kernel
def tb_X3_takesBits : Tb := [(0, x_al 1 0, false),
  (1, x_il 2 1, false),
  (2, x_c 4 (.int 48), false),
  (4, x_ii 5 (fun x y : Int32 => x - y), false),
  (5, x_pI 3 2 8, false),
  (8, x_al 9 0, false),
  (9, x_gI 3 2 12, false),
  (12, x_c 13 (.int 2), false),
  (13, x_ic 29 16 (fun x y : Int32 => x < y), false),
  (16, x_al 17 0, false),
  (17, x_gI 3 2 20, false),
  (20, x_c 22 (.int 9), false),
  (22, x_ic 29 25 (fun x y : Int32 => y < x), false),
  (25, x_c 26 (.int 1), false),
  (26, x_go 30, false),
  (29, x_c 30 (.int 0), false),
  (30, x_rZ, false)]
set_option maxRecDepth 100000 in
theorem tk_X3_takesBits : TbOk (mt_X3_takesBits) (tb_X3_takesBits) :=
  tkc (s_aload_n (at_ dl_X3_takesBits 0 (ins := .aload_n 0) rfl)) (
  tkc (s_iload_n (at_ dl_X3_takesBits 1 (ins := .iload_n 1) rfl)) (
  tkc (s_bipush (at_ dl_X3_takesBits 2 (ins := .bipush 48) rfl) (by first | rfl | decide)) (
  tkc (s_isub (at_ dl_X3_takesBits 3 (ins := .isub) rfl)) (
  tkc (s_pI (at_ dl_X3_takesBits 4 (ins := .putfield 19) rfl) (by decide) (by decide) (by decide) (by decide) (tg 80 (by decide +kernel) (by decide +kernel))) (
  tkc (s_aload_n (at_ dl_X3_takesBits 5 (ins := .aload_n 0) rfl)) (
  tkc (s_gI (at_ dl_X3_takesBits 6 (ins := .getfield 19) rfl) (by decide) (by decide) (by decide) (tg 80 (by decide +kernel) (by decide +kernel))) (
  tkc (s_iconst (at_ dl_X3_takesBits 7 (ins := .iconst 2) rfl) (by first | rfl | decide)) (
  tkc (s_ic_lt (at_ dl_X3_takesBits 8 (ins := .if_icmp .lt 16) rfl) (by decide)) (
  tkc (s_aload_n (at_ dl_X3_takesBits 9 (ins := .aload_n 0) rfl)) (
  tkc (s_gI (at_ dl_X3_takesBits 10 (ins := .getfield 19) rfl) (by decide) (by decide) (by decide) (tg 80 (by decide +kernel) (by decide +kernel))) (
  tkc (s_bipush (at_ dl_X3_takesBits 11 (ins := .bipush 9) rfl) (by first | rfl | decide)) (
  tkc (s_ic_gt (at_ dl_X3_takesBits 12 (ins := .if_icmp .gt 7) rfl) (by decide)) (
  tkc (s_iconst (at_ dl_X3_takesBits 13 (ins := .iconst 1) rfl) (by first | rfl | decide)) (
  tkc (s_goto (at_ dl_X3_takesBits 14 (ins := .goto 4) rfl) (by decide)) (
  tkc (s_iconst (at_ dl_X3_takesBits 15 (ins := .iconst 0) rfl) (by first | rfl | decide)) (
  tkc (s_rZ (at_ dl_X3_takesBits 16 (ins := .ireturn) rfl) rfl) ( tk0)))))))))))))))))
theorem lf_X3_takesBits : lk (tb_X3_takesBits) 0 = (x_al 1 0, false) ∧ lk (tb_X3_takesBits) 1 = (x_il 2 1, false) ∧ lk (tb_X3_takesBits) 2 = (x_c 4 (.int 48), false) ∧ lk (tb_X3_takesBits) 4 = (x_ii 5 (fun x y : Int32 => x - y), false) ∧ lk (tb_X3_takesBits) 5 = (x_pI 3 2 8, false) ∧ lk (tb_X3_takesBits) 8 = (x_al 9 0, false) ∧ lk (tb_X3_takesBits) 9 = (x_gI 3 2 12, false) ∧ lk (tb_X3_takesBits) 12 = (x_c 13 (.int 2), false) ∧ lk (tb_X3_takesBits) 13 = (x_ic 29 16 (fun x y : Int32 => x < y), false) ∧ lk (tb_X3_takesBits) 16 = (x_al 17 0, false) ∧ lk (tb_X3_takesBits) 17 = (x_gI 3 2 20, false) ∧ lk (tb_X3_takesBits) 20 = (x_c 22 (.int 9), false) ∧ lk (tb_X3_takesBits) 22 = (x_ic 29 25 (fun x y : Int32 => y < x), false) ∧ lk (tb_X3_takesBits) 25 = (x_c 26 (.int 1), false) ∧ lk (tb_X3_takesBits) 26 = (x_go 30, false) ∧ lk (tb_X3_takesBits) 29 = (x_c 30 (.int 0), false) ∧ lk (tb_X3_takesBits) 30 = (x_rZ, false) := ⟨rfl, rfl, rfl, rfl, rfl, rfl, rfl, rfl, rfl, rfl, rfl, rfl, rfl, rfl, rfl, rfl, rfl⟩
def P_X3_takesBits : PTT := fun as M R => match as with
  | [.ref k, .int x] => k = 3 ∧ IsRd M.1 3 ∧ R (some (.int (bI (¬ x - 48 < 2 ∧ ¬ 9 < x - 48)))) (M.1, mS M.2.1 3 (upd (M.2.1 3) 2 (x - 48)), M.2.2)
  | _ => False
theorem upd_s {f : Nat → Int32} {k : Nat} {x : Int32} : upd f k x k = x := pk_us
set_option maxRecDepth 20000 in
theorem ok_X3_takesBits : Ok yX3_takesBits mt_X3_takesBits P_X3_takesBits := by
  refine Ok.of (by decide) rfl rfl rfl rfl fun av ⟨S, I, L⟩ R hP => ?_
  unfold P_X3_takesBits at hP
  split at hP
  case h_2 => exact hP.elim
  rename_i k x
  obtain ⟨k, rfl⟩ : ∃ q : Nat, q = k := ⟨k, rfl⟩
  refine ⟨by simp [ent, wide, mt_X3_takesBits], ?_⟩
  show J mt_X3_takesBits R 0 [some (.ref k), some (.int x)] [] (S, I, L)
  try dsimp only at hP
  obtain ⟨rfl, hk, hR⟩ := hP
  refine J.of tk_X3_takesBits 200 fun ρ hρ => ?_
  simp only [hρ, x_c, x_il, x_ll, x_al, x_is, x_as, x_ls, x_inc, x_ii, x_iq, x_i1, x_l2, x_lq, x_lh, x_i2l, x_l2i, x_lcmp, x_dup, x_dup2, x_pop, x_if, x_ifn, x_ic, x_icn, x_go, x_sw, swc, x_l01, x_mx, x_gI, x_gL, x_gR, x_pI, x_pZ, x_pL, x_pR, x_ia, x_za, x_aa, x_ias, x_zas, x_aas, x_fac, x_fa, x_slen, x_sa, x_ac, x_oi, x_new, x_na, x_cS, x_cV, x_cI, x_rI, x_rZ, x_rL, x_r0, pa, short, oc, lg, lset, lset2, wide, cond_true, cond_false, true_and, and_true, ↓reduceIte, Bool.false_eq_true, true_or, or_true, lf_X3_takesBits, hk.f, mS_s, upd_s]
  refine ⟨fun h => ?_, fun h => ⟨fun h2 => ?_, fun h2 => ?_⟩⟩
  · rwa [bI_f (fun q => q.1 h)] at hR
  · rwa [bI_f (fun q => q.2 h2)] at hR
  · rwa [bI_t ⟨h, h2⟩] at hR
def il_X3_takesOffset : List (Nat × Instr × Nat) := [(0, .aload_n 0, 1), (1, .iload_n 1, 1), (2, .bipush 48, 2), (4, .isub, 1), (5, .putfield 22, 3), (8, .aload_n 0, 1), (9, .getfield 22, 3), (12, .ifCond .lt 16, 3), (15, .aload_n 0, 1), (16, .getfield 22, 3), (19, .bipush 9, 2), (21, .if_icmp .gt 7, 3), (24, .iconst 1, 1), (25, .goto 4, 3), (28, .iconst 0, 1), (29, .ireturn, 1)]
def mt_X3_takesOffset : Mt := (cX3_takesOffset, RX3, 2, (some .boolean), ({ frames := 0, cells := 0, slots := 0, locals := 0 } : Room), false, none, none)
set_option maxRecDepth 100000 in
theorem dl_X3_takesOffset : ∀ q ∈ il_X3_takesOffset, decode (mt_X3_takesOffset).1 q.1 = .ok q.2 := by decide +kernel
def tb_X3_takesOffset : Tb := [(0, x_al 1 0, false),
  (1, x_il 2 1, false),
  (2, x_c 4 (.int 48), false),
  (4, x_ii 5 (fun x y : Int32 => x - y), false),
  (5, x_pI 3 3 8, false),
  (8, x_al 9 0, false),
  (9, x_gI 3 3 12, false),
  (12, x_if 28 15 (fun x : Int32 => x < 0), false),
  (15, x_al 16 0, false),
  (16, x_gI 3 3 19, false),
  (19, x_c 21 (.int 9), false),
  (21, x_ic 28 24 (fun x y : Int32 => y < x), false),
  (24, x_c 25 (.int 1), false),
  (25, x_go 29, false),
  (28, x_c 29 (.int 0), false),
  (29, x_rZ, false)]
set_option maxRecDepth 100000 in
theorem tk_X3_takesOffset : TbOk (mt_X3_takesOffset) (tb_X3_takesOffset) :=
  tkc (s_aload_n (at_ dl_X3_takesOffset 0 (ins := .aload_n 0) rfl)) (
  tkc (s_iload_n (at_ dl_X3_takesOffset 1 (ins := .iload_n 1) rfl)) (
  tkc (s_bipush (at_ dl_X3_takesOffset 2 (ins := .bipush 48) rfl) (by first | rfl | decide)) (
  tkc (s_isub (at_ dl_X3_takesOffset 3 (ins := .isub) rfl)) (
  tkc (s_pI (at_ dl_X3_takesOffset 4 (ins := .putfield 22) rfl) (by decide) (by decide) (by decide) (by decide) (tg 81 (by decide +kernel) (by decide +kernel))) (
  tkc (s_aload_n (at_ dl_X3_takesOffset 5 (ins := .aload_n 0) rfl)) (
  tkc (s_gI (at_ dl_X3_takesOffset 6 (ins := .getfield 22) rfl) (by decide) (by decide) (by decide) (tg 81 (by decide +kernel) (by decide +kernel))) (
  tkc (s_if_lt (at_ dl_X3_takesOffset 7 (ins := .ifCond .lt 16) rfl) (by decide)) (
  tkc (s_aload_n (at_ dl_X3_takesOffset 8 (ins := .aload_n 0) rfl)) (
  tkc (s_gI (at_ dl_X3_takesOffset 9 (ins := .getfield 22) rfl) (by decide) (by decide) (by decide) (tg 81 (by decide +kernel) (by decide +kernel))) (
  tkc (s_bipush (at_ dl_X3_takesOffset 10 (ins := .bipush 9) rfl) (by first | rfl | decide)) (
  tkc (s_ic_gt (at_ dl_X3_takesOffset 11 (ins := .if_icmp .gt 7) rfl) (by decide)) (
  tkc (s_iconst (at_ dl_X3_takesOffset 12 (ins := .iconst 1) rfl) (by first | rfl | decide)) (
  tkc (s_goto (at_ dl_X3_takesOffset 13 (ins := .goto 4) rfl) (by decide)) (
  tkc (s_iconst (at_ dl_X3_takesOffset 14 (ins := .iconst 0) rfl) (by first | rfl | decide)) (
  tkc (s_rZ (at_ dl_X3_takesOffset 15 (ins := .ireturn) rfl) rfl) ( tk0))))))))))))))))
theorem lf_X3_takesOffset : lk (tb_X3_takesOffset) 0 = (x_al 1 0, false) ∧ lk (tb_X3_takesOffset) 1 = (x_il 2 1, false) ∧ lk (tb_X3_takesOffset) 2 = (x_c 4 (.int 48), false) ∧ lk (tb_X3_takesOffset) 4 = (x_ii 5 (fun x y : Int32 => x - y), false) ∧ lk (tb_X3_takesOffset) 5 = (x_pI 3 3 8, false) ∧ lk (tb_X3_takesOffset) 8 = (x_al 9 0, false) ∧ lk (tb_X3_takesOffset) 9 = (x_gI 3 3 12, false) ∧ lk (tb_X3_takesOffset) 12 = (x_if 28 15 (fun x : Int32 => x < 0), false) ∧ lk (tb_X3_takesOffset) 15 = (x_al 16 0, false) ∧ lk (tb_X3_takesOffset) 16 = (x_gI 3 3 19, false) ∧ lk (tb_X3_takesOffset) 19 = (x_c 21 (.int 9), false) ∧ lk (tb_X3_takesOffset) 21 = (x_ic 28 24 (fun x y : Int32 => y < x), false) ∧ lk (tb_X3_takesOffset) 24 = (x_c 25 (.int 1), false) ∧ lk (tb_X3_takesOffset) 25 = (x_go 29, false) ∧ lk (tb_X3_takesOffset) 28 = (x_c 29 (.int 0), false) ∧ lk (tb_X3_takesOffset) 29 = (x_rZ, false) := ⟨rfl, rfl, rfl, rfl, rfl, rfl, rfl, rfl, rfl, rfl, rfl, rfl, rfl, rfl, rfl, rfl⟩
def P_X3_takesOffset : PTT := fun as M R => match as with
  | [.ref k, .int x] => k = 3 ∧ IsRd M.1 3 ∧ R (some (.int (bI (¬ x - 48 < 0 ∧ ¬ 9 < x - 48)))) (M.1, mS M.2.1 3 (upd (M.2.1 3) 3 (x - 48)), M.2.2)
  | _ => False
set_option maxRecDepth 20000 in
theorem ok_X3_takesOffset : Ok yX3_takesOffset mt_X3_takesOffset P_X3_takesOffset := by
  refine Ok.of (by decide) rfl rfl rfl rfl fun av ⟨S, I, L⟩ R hP => ?_
  unfold P_X3_takesOffset at hP
  split at hP
  case h_2 => exact hP.elim
  rename_i k x
  obtain ⟨k, rfl⟩ : ∃ q : Nat, q = k := ⟨k, rfl⟩
  refine ⟨by simp [ent, wide, mt_X3_takesOffset], ?_⟩
  show J mt_X3_takesOffset R 0 [some (.ref k), some (.int x)] [] (S, I, L)
  try dsimp only at hP
  obtain ⟨rfl, hk, hR⟩ := hP
  refine J.of tk_X3_takesOffset 200 fun ρ hρ => ?_
  simp only [hρ, x_c, x_il, x_ll, x_al, x_is, x_as, x_ls, x_inc, x_ii, x_iq, x_i1, x_l2, x_lq, x_lh, x_i2l, x_l2i, x_lcmp, x_dup, x_dup2, x_pop, x_if, x_ifn, x_ic, x_icn, x_go, x_sw, swc, x_l01, x_mx, x_gI, x_gL, x_gR, x_pI, x_pZ, x_pL, x_pR, x_ia, x_za, x_aa, x_ias, x_zas, x_aas, x_fac, x_fa, x_slen, x_sa, x_ac, x_oi, x_new, x_na, x_cS, x_cV, x_cI, x_rI, x_rZ, x_rL, x_r0, pa, short, oc, lg, lset, lset2, wide, cond_true, cond_false, true_and, and_true, ↓reduceIte, Bool.false_eq_true, true_or, or_true, lf_X3_takesOffset, hk.f, mS_s, upd_s]
  refine ⟨fun h => ?_, fun h => ⟨fun h2 => ?_, fun h2 => ?_⟩⟩
  · rwa [bI_f (fun q => q.1 h)] at hR
  · rwa [bI_f (fun q => q.2 h2)] at hR
  · rwa [bI_t ⟨h, h2⟩] at hR
def il_X3_takesCheck : List (Nat × Instr × Nat) := [(0, .iload_n 1, 1), (1, .bipush 99, 2), (3, .if_icmp .ne 12, 3), (6, .aload_n 0, 1), (7, .getfield 25, 3), (10, .bipush 6, 2), (12, .if_icmp .lt 5, 3), (15, .iconst 0, 1), (16, .ireturn, 1), (17, .aload_n 0, 1), (18, .getfield 9, 3), (21, .aload_n 0, 1), (22, .getfield 25, 3), (25, .iconst 0, 1), (26, .iastore, 1), (27, .aload_n 0, 1), (28, .dup, 1), (29, .getfield 25, 3), (32, .iconst 1, 1), (33, .iadd, 1), (34, .putfield 25, 3), (37, .aload_n 0, 1), (38, .iconst 0, 1), (39, .putfield 28, 3), (42, .aload_n 0, 1), (43, .iconst 1, 1), (44, .putfield 31, 3), (47, .iconst 1, 1), (48, .ireturn, 1)]
def mt_X3_takesCheck : Mt := (cX3_takesCheck, RX3, 2, (some .boolean), ({ frames := 0, cells := 0, slots := 0, locals := 0 } : Room), false, none, none)
set_option maxRecDepth 100000 in
theorem dl_X3_takesCheck : ∀ q ∈ il_X3_takesCheck, decode (mt_X3_takesCheck).1 q.1 = .ok q.2 := by decide +kernel
def tb_X3_takesCheck : Tb := [(0, x_il 1 1, false),
  (1, x_c 3 (.int 99), false),
  (3, x_icn 15 6 (fun x y : Int32 => x = y), false),
  (6, x_al 7 0, false),
  (7, x_gI 3 4 10, false),
  (10, x_c 12 (.int 6), false),
  (12, x_ic 17 15 (fun x y : Int32 => x < y), false),
  (15, x_c 16 (.int 0), false),
  (16, x_rZ, false),
  (17, x_al 18 0, false),
  (18, x_gR 3 0 21, false),
  (21, x_al 22 0, false),
  (22, x_gI 3 4 25, false),
  (25, x_c 26 (.int 0), false),
  (26, x_ias 27, false),
  (27, x_al 28 0, false),
  (28, x_dup 29, false),
  (29, x_gI 3 4 32, false),
  (32, x_c 33 (.int 1), false),
  (33, x_ii 34 (fun x y : Int32 => x + y), false),
  (34, x_pI 3 4 37, false),
  (37, x_al 38 0, false),
  (38, x_c 39 (.int 0), false),
  (39, x_pI 3 5 42, false),
  (42, x_al 43 0, false),
  (43, x_c 44 (.int 1), false),
  (44, x_pZ 3 6 47, false),
  (47, x_c 48 (.int 1), false),
  (48, x_rZ, false)]
set_option maxRecDepth 100000 in
theorem tk_X3_takesCheck : TbOk (mt_X3_takesCheck) (tb_X3_takesCheck) :=
  tkc (s_iload_n (at_ dl_X3_takesCheck 0 (ins := .iload_n 1) rfl)) (
  tkc (s_bipush (at_ dl_X3_takesCheck 1 (ins := .bipush 99) rfl) (by first | rfl | decide)) (
  tkc (s_ic_ne (at_ dl_X3_takesCheck 2 (ins := .if_icmp .ne 12) rfl) (by decide)) (
  tkc (s_aload_n (at_ dl_X3_takesCheck 3 (ins := .aload_n 0) rfl)) (
  tkc (s_gI (at_ dl_X3_takesCheck 4 (ins := .getfield 25) rfl) (by decide) (by decide) (by decide) (tg 84 (by decide +kernel) (by decide +kernel))) (
  tkc (s_bipush (at_ dl_X3_takesCheck 5 (ins := .bipush 6) rfl) (by first | rfl | decide)) (
  tkc (s_ic_lt (at_ dl_X3_takesCheck 6 (ins := .if_icmp .lt 5) rfl) (by decide)) (
  tkc (s_iconst (at_ dl_X3_takesCheck 7 (ins := .iconst 0) rfl) (by first | rfl | decide)) (
  tkc (s_rZ (at_ dl_X3_takesCheck 8 (ins := .ireturn) rfl) rfl) (
  tkc (s_aload_n (at_ dl_X3_takesCheck 9 (ins := .aload_n 0) rfl)) (
  tkc (s_gR (at_ dl_X3_takesCheck 10 (ins := .getfield 9) rfl) (by decide) (by decide) (by decide) (tg 76 (by decide +kernel) (by decide +kernel))) (
  tkc (s_aload_n (at_ dl_X3_takesCheck 11 (ins := .aload_n 0) rfl)) (
  tkc (s_gI (at_ dl_X3_takesCheck 12 (ins := .getfield 25) rfl) (by decide) (by decide) (by decide) (tg 84 (by decide +kernel) (by decide +kernel))) (
  tkc (s_iconst (at_ dl_X3_takesCheck 13 (ins := .iconst 0) rfl) (by first | rfl | decide)) (
  tkc (s_ias (at_ dl_X3_takesCheck 14 (ins := .iastore) rfl)) (
  tkc (s_aload_n (at_ dl_X3_takesCheck 15 (ins := .aload_n 0) rfl)) (
  tkc (s_dup (at_ dl_X3_takesCheck 16 (ins := .dup) rfl)) (
  tkc (s_gI (at_ dl_X3_takesCheck 17 (ins := .getfield 25) rfl) (by decide) (by decide) (by decide) (tg 84 (by decide +kernel) (by decide +kernel))) (
  tkc (s_iconst (at_ dl_X3_takesCheck 18 (ins := .iconst 1) rfl) (by first | rfl | decide)) (
  tkc (s_iadd (at_ dl_X3_takesCheck 19 (ins := .iadd) rfl)) (
  tkc (s_pI (at_ dl_X3_takesCheck 20 (ins := .putfield 25) rfl) (by decide) (by decide) (by decide) (by decide) (tg 84 (by decide +kernel) (by decide +kernel))) (
  tkc (s_aload_n (at_ dl_X3_takesCheck 21 (ins := .aload_n 0) rfl)) (
  tkc (s_iconst (at_ dl_X3_takesCheck 22 (ins := .iconst 0) rfl) (by first | rfl | decide)) (
  tkc (s_pI (at_ dl_X3_takesCheck 23 (ins := .putfield 28) rfl) (by decide) (by decide) (by decide) (by decide) (tg 85 (by decide +kernel) (by decide +kernel))) (
  tkc (s_aload_n (at_ dl_X3_takesCheck 24 (ins := .aload_n 0) rfl)) (
  tkc (s_iconst (at_ dl_X3_takesCheck 25 (ins := .iconst 1) rfl) (by first | rfl | decide)) (
  tkc (s_pZ (at_ dl_X3_takesCheck 26 (ins := .putfield 31) rfl) (by decide) (by decide) (by decide) (by decide) (tg 86 (by decide +kernel) (by decide +kernel))) (
  tkc (s_iconst (at_ dl_X3_takesCheck 27 (ins := .iconst 1) rfl) (by first | rfl | decide)) (
  tkc (s_rZ (at_ dl_X3_takesCheck 28 (ins := .ireturn) rfl) rfl) ( tk0)))))))))))))))))))))))))))))
theorem lf_X3_takesCheck : lk (tb_X3_takesCheck) 0 = (x_il 1 1, false) ∧ lk (tb_X3_takesCheck) 1 = (x_c 3 (.int 99), false) ∧ lk (tb_X3_takesCheck) 3 = (x_icn 15 6 (fun x y : Int32 => x = y), false) ∧ lk (tb_X3_takesCheck) 6 = (x_al 7 0, false) ∧ lk (tb_X3_takesCheck) 7 = (x_gI 3 4 10, false) ∧ lk (tb_X3_takesCheck) 10 = (x_c 12 (.int 6), false) ∧ lk (tb_X3_takesCheck) 12 = (x_ic 17 15 (fun x y : Int32 => x < y), false) ∧ lk (tb_X3_takesCheck) 15 = (x_c 16 (.int 0), false) ∧ lk (tb_X3_takesCheck) 16 = (x_rZ, false) ∧ lk (tb_X3_takesCheck) 17 = (x_al 18 0, false) ∧ lk (tb_X3_takesCheck) 18 = (x_gR 3 0 21, false) ∧ lk (tb_X3_takesCheck) 21 = (x_al 22 0, false) ∧ lk (tb_X3_takesCheck) 22 = (x_gI 3 4 25, false) ∧ lk (tb_X3_takesCheck) 25 = (x_c 26 (.int 0), false) ∧ lk (tb_X3_takesCheck) 26 = (x_ias 27, false) ∧ lk (tb_X3_takesCheck) 27 = (x_al 28 0, false) ∧ lk (tb_X3_takesCheck) 28 = (x_dup 29, false) ∧ lk (tb_X3_takesCheck) 29 = (x_gI 3 4 32, false) ∧ lk (tb_X3_takesCheck) 32 = (x_c 33 (.int 1), false) ∧ lk (tb_X3_takesCheck) 33 = (x_ii 34 (fun x y : Int32 => x + y), false) ∧ lk (tb_X3_takesCheck) 34 = (x_pI 3 4 37, false) ∧ lk (tb_X3_takesCheck) 37 = (x_al 38 0, false) ∧ lk (tb_X3_takesCheck) 38 = (x_c 39 (.int 0), false) ∧ lk (tb_X3_takesCheck) 39 = (x_pI 3 5 42, false) ∧ lk (tb_X3_takesCheck) 42 = (x_al 43 0, false) ∧ lk (tb_X3_takesCheck) 43 = (x_c 44 (.int 1), false) ∧ lk (tb_X3_takesCheck) 44 = (x_pZ 3 6 47, false) ∧ lk (tb_X3_takesCheck) 47 = (x_c 48 (.int 1), false) ∧ lk (tb_X3_takesCheck) 48 = (x_rZ, false) := ⟨rfl, rfl, rfl, rfl, rfl, rfl, rfl, rfl, rfl, rfl, rfl, rfl, rfl, rfl, rfl, rfl, rfl, rfl, rfl, rfl, rfl, rfl, rfl, rfl, rfl, rfl, rfl, rfl, rfl⟩
def P_X3_takesCheck : PTT := fun as M R => match as with
  | [.ref k, .int x] => k = 3 ∧ IsRd M.1 3 ∧ ((x = 99 ∧ M.2.1 3 4 < 6) → vp_in (M.2.1 3 4) 6 ∧ R (some (.int 1)) (M.1, mS (mS M.2.1 4 (upd (M.2.1 4) (M.2.1 3 4).toNatClampNeg 0)) 3 (upd (upd (upd (M.2.1 3) 4 (M.2.1 3 4 + 1)) 5 0) 6 1), M.2.2)) ∧ (¬ (x = 99 ∧ M.2.1 3 4 < 6) → R (some (.int 0)) M)
  | _ => False
theorem mS_34 {I : MI} {r : Nat → Int32} : mS I 4 r 3 = I 3 := rfl
set_option maxRecDepth 20000 in
theorem ok_X3_takesCheck : Ok yX3_takesCheck mt_X3_takesCheck P_X3_takesCheck := by
  refine Ok.of (by decide) rfl rfl rfl rfl fun av ⟨S, I, L⟩ R hP => ?_
  unfold P_X3_takesCheck at hP
  split at hP
  case h_2 => exact hP.elim
  rename_i k x
  obtain ⟨k, rfl⟩ : ∃ q : Nat, q = k := ⟨k, rfl⟩
  refine ⟨by simp [ent, wide, mt_X3_takesCheck], ?_⟩
  show J mt_X3_takesCheck R 0 [some (.ref k), some (.int x)] [] (S, I, L)
  try dsimp only at hP
  obtain ⟨rfl, hk, h1, h2⟩ := hP
  refine J.of tk_X3_takesCheck 200 fun ρ hρ => ?_
  simp only [hρ, x_c, x_il, x_ll, x_al, x_is, x_as, x_ls, x_inc, x_ii, x_iq, x_i1, x_l2, x_lq, x_lh, x_i2l, x_l2i, x_lcmp, x_dup, x_dup2, x_pop, x_if, x_ifn, x_ic, x_icn, x_go, x_sw, swc, x_l01, x_mx, x_gI, x_gL, x_gR, x_pI, x_pZ, x_pL, x_pR, x_ia, x_za, x_aa, x_ias, x_zas, x_aas, x_fac, x_fa, x_slen, x_sa, x_ac, x_oi, x_new, x_na, x_cS, x_cV, x_cI, x_rI, x_rZ, x_rL, x_r0, pa, short, oc, lg, lset, lset2, wide, cond_true, cond_false, true_and, and_true, ↓reduceIte, Bool.false_eq_true, true_or, or_true, lf_X3_takesCheck, hk.f, mS_s, mS_34, mS_ss]
  refine ⟨fun h => h2 (fun q => h q.1), fun h => ⟨fun h3 => ?_, fun h3 => h2 (fun q => h3 q.2)⟩⟩
  exact h1 ⟨h, h3⟩
def il_X3_takesInCheck : List (Nat × Instr × Nat) := [(0, .iload_n 1, 1), (1, .bipush 46, 2), (3, .if_icmp .ne 10, 3), (6, .aload_n 0, 1), (7, .iconst 0, 1), (8, .putfield 31, 3), (11, .iconst 1, 1), (12, .ireturn, 1), (13, .iload_n 1, 1), (14, .bipush 48, 2), (16, .isub, 1), (17, .istore_n 2, 1), (18, .iload_n 2, 1), (19, .aload_n 0, 1), (20, .getfield 28, 3), (23, .if_icmp .lt 19, 3), (26, .iload_n 2, 1), (27, .aload_n 0, 1), (28, .getfield 19, 3), (31, .if_icmp .ge 11, 3), (34, .aload_n 0, 1), (35, .getfield 25, 3), (38, .iconst 1, 1), (39, .if_icmp .ge 5, 3), (42, .iconst 0, 1), (43, .ireturn, 1), (44, .aload_n 0, 1), (45, .getfield 9, 3), (48, .aload_n 0, 1), (49, .getfield 25, 3), (52, .iconst 1, 1), (53, .isub, 1), (54, .dup2, 1), (55, .iaload, 1), (56, .iconst 1, 1), (57, .iload_n 2, 1), (58, .ishl, 1), (59, .ior, 1), (60, .iastore, 1), (61, .aload_n 0, 1), (62, .iload_n 2, 1), (63, .iconst 1, 1), (64, .iadd, 1), (65, .putfield 28, 3), (68, .iconst 1, 1), (69, .ireturn, 1)]
def mt_X3_takesInCheck : Mt := (cX3_takesInCheck, RX3, 3, (some .boolean), ({ frames := 0, cells := 0, slots := 0, locals := 0 } : Room), false, none, none)
set_option maxRecDepth 100000 in
theorem dl_X3_takesInCheck : ∀ q ∈ il_X3_takesInCheck, decode (mt_X3_takesInCheck).1 q.1 = .ok q.2 := by decide +kernel
def tb_X3_takesInCheck : Tb := [(0, x_il 1 1, false),
  (1, x_c 3 (.int 46), false),
  (3, x_icn 13 6 (fun x y : Int32 => x = y), false),
  (6, x_al 7 0, false),
  (7, x_c 8 (.int 0), false),
  (8, x_pZ 3 6 11, false),
  (11, x_c 12 (.int 1), false),
  (12, x_rZ, false),
  (13, x_il 14 1, false),
  (14, x_c 16 (.int 48), false),
  (16, x_ii 17 (fun x y : Int32 => x - y), false),
  (17, x_is 18 2, false),
  (18, x_il 19 2, false),
  (19, x_al 20 0, false),
  (20, x_gI 3 5 23, false),
  (23, x_ic 42 26 (fun x y : Int32 => x < y), false),
  (26, x_il 27 2, false),
  (27, x_al 28 0, false),
  (28, x_gI 3 2 31, false),
  (31, x_ic 42 34 (fun x y : Int32 => y ≤ x), false),
  (34, x_al 35 0, false),
  (35, x_gI 3 4 38, false),
  (38, x_c 39 (.int 1), false),
  (39, x_ic 44 42 (fun x y : Int32 => y ≤ x), false),
  (42, x_c 43 (.int 0), false),
  (43, x_rZ, false),
  (44, x_al 45 0, false),
  (45, x_gR 3 0 48, false),
  (48, x_al 49 0, false),
  (49, x_gI 3 4 52, false),
  (52, x_c 53 (.int 1), false),
  (53, x_ii 54 (fun x y : Int32 => x - y), false),
  (54, x_dup2 55, false),
  (55, x_ia 56, false),
  (56, x_c 57 (.int 1), false),
  (57, x_il 58 2, false),
  (58, x_ii 59 (fun x y : Int32 => x <<< (y &&& 31)), false),
  (59, x_ii 60 (fun x y : Int32 => x ||| y), false),
  (60, x_ias 61, false),
  (61, x_al 62 0, false),
  (62, x_il 63 2, false),
  (63, x_c 64 (.int 1), false),
  (64, x_ii 65 (fun x y : Int32 => x + y), false),
  (65, x_pI 3 5 68, false),
  (68, x_c 69 (.int 1), false),
  (69, x_rZ, false)]
set_option maxRecDepth 100000 in
theorem tk_X3_takesInCheck : TbOk (mt_X3_takesInCheck) (tb_X3_takesInCheck) :=
  tkc (s_iload_n (at_ dl_X3_takesInCheck 0 (ins := .iload_n 1) rfl)) (
  tkc (s_bipush (at_ dl_X3_takesInCheck 1 (ins := .bipush 46) rfl) (by first | rfl | decide)) (
  tkc (s_ic_ne (at_ dl_X3_takesInCheck 2 (ins := .if_icmp .ne 10) rfl) (by decide)) (
  tkc (s_aload_n (at_ dl_X3_takesInCheck 3 (ins := .aload_n 0) rfl)) (
  tkc (s_iconst (at_ dl_X3_takesInCheck 4 (ins := .iconst 0) rfl) (by first | rfl | decide)) (
  tkc (s_pZ (at_ dl_X3_takesInCheck 5 (ins := .putfield 31) rfl) (by decide) (by decide) (by decide) (by decide) (tg 86 (by decide +kernel) (by decide +kernel))) (
  tkc (s_iconst (at_ dl_X3_takesInCheck 6 (ins := .iconst 1) rfl) (by first | rfl | decide)) (
  tkc (s_rZ (at_ dl_X3_takesInCheck 7 (ins := .ireturn) rfl) rfl) (
  tkc (s_iload_n (at_ dl_X3_takesInCheck 8 (ins := .iload_n 1) rfl)) (
  tkc (s_bipush (at_ dl_X3_takesInCheck 9 (ins := .bipush 48) rfl) (by first | rfl | decide)) (
  tkc (s_isub (at_ dl_X3_takesInCheck 10 (ins := .isub) rfl)) (
  tkc (s_istore_n (at_ dl_X3_takesInCheck 11 (ins := .istore_n 2) rfl) (by decide)) (
  tkc (s_iload_n (at_ dl_X3_takesInCheck 12 (ins := .iload_n 2) rfl)) (
  tkc (s_aload_n (at_ dl_X3_takesInCheck 13 (ins := .aload_n 0) rfl)) (
  tkc (s_gI (at_ dl_X3_takesInCheck 14 (ins := .getfield 28) rfl) (by decide) (by decide) (by decide) (tg 85 (by decide +kernel) (by decide +kernel))) (
  tkc (s_ic_lt (at_ dl_X3_takesInCheck 15 (ins := .if_icmp .lt 19) rfl) (by decide)) (
  tkc (s_iload_n (at_ dl_X3_takesInCheck 16 (ins := .iload_n 2) rfl)) (
  tkc (s_aload_n (at_ dl_X3_takesInCheck 17 (ins := .aload_n 0) rfl)) (
  tkc (s_gI (at_ dl_X3_takesInCheck 18 (ins := .getfield 19) rfl) (by decide) (by decide) (by decide) (tg 80 (by decide +kernel) (by decide +kernel))) (
  tkc (s_ic_ge (at_ dl_X3_takesInCheck 19 (ins := .if_icmp .ge 11) rfl) (by decide)) (
  tkc (s_aload_n (at_ dl_X3_takesInCheck 20 (ins := .aload_n 0) rfl)) (
  tkc (s_gI (at_ dl_X3_takesInCheck 21 (ins := .getfield 25) rfl) (by decide) (by decide) (by decide) (tg 84 (by decide +kernel) (by decide +kernel))) (
  tkc (s_iconst (at_ dl_X3_takesInCheck 22 (ins := .iconst 1) rfl) (by first | rfl | decide)) (
  tkc (s_ic_ge (at_ dl_X3_takesInCheck 23 (ins := .if_icmp .ge 5) rfl) (by decide)) (
  tkc (s_iconst (at_ dl_X3_takesInCheck 24 (ins := .iconst 0) rfl) (by first | rfl | decide)) (
  tkc (s_rZ (at_ dl_X3_takesInCheck 25 (ins := .ireturn) rfl) rfl) (
  tkc (s_aload_n (at_ dl_X3_takesInCheck 26 (ins := .aload_n 0) rfl)) (
  tkc (s_gR (at_ dl_X3_takesInCheck 27 (ins := .getfield 9) rfl) (by decide) (by decide) (by decide) (tg 76 (by decide +kernel) (by decide +kernel))) (
  tkc (s_aload_n (at_ dl_X3_takesInCheck 28 (ins := .aload_n 0) rfl)) (
  tkc (s_gI (at_ dl_X3_takesInCheck 29 (ins := .getfield 25) rfl) (by decide) (by decide) (by decide) (tg 84 (by decide +kernel) (by decide +kernel))) (
  tkc (s_iconst (at_ dl_X3_takesInCheck 30 (ins := .iconst 1) rfl) (by first | rfl | decide)) (
  tkc (s_isub (at_ dl_X3_takesInCheck 31 (ins := .isub) rfl)) (
  tkc (s_dup2 (at_ dl_X3_takesInCheck 32 (ins := .dup2) rfl)) (
  tkc (s_ia (at_ dl_X3_takesInCheck 33 (ins := .iaload) rfl)) (
  tkc (s_iconst (at_ dl_X3_takesInCheck 34 (ins := .iconst 1) rfl) (by first | rfl | decide)) (
  tkc (s_iload_n (at_ dl_X3_takesInCheck 35 (ins := .iload_n 2) rfl)) (
  tkc (s_ishl (at_ dl_X3_takesInCheck 36 (ins := .ishl) rfl)) (
  tkc (s_ior (at_ dl_X3_takesInCheck 37 (ins := .ior) rfl)) (
  tkc (s_ias (at_ dl_X3_takesInCheck 38 (ins := .iastore) rfl)) (
  tkc (s_aload_n (at_ dl_X3_takesInCheck 39 (ins := .aload_n 0) rfl)) (
  tkc (s_iload_n (at_ dl_X3_takesInCheck 40 (ins := .iload_n 2) rfl)) (
  tkc (s_iconst (at_ dl_X3_takesInCheck 41 (ins := .iconst 1) rfl) (by first | rfl | decide)) (
  tkc (s_iadd (at_ dl_X3_takesInCheck 42 (ins := .iadd) rfl)) (
  tkc (s_pI (at_ dl_X3_takesInCheck 43 (ins := .putfield 28) rfl) (by decide) (by decide) (by decide) (by decide) (tg 85 (by decide +kernel) (by decide +kernel))) (
  tkc (s_iconst (at_ dl_X3_takesInCheck 44 (ins := .iconst 1) rfl) (by first | rfl | decide)) (
  tkc (s_rZ (at_ dl_X3_takesInCheck 45 (ins := .ireturn) rfl) rfl) ( tk0))))))))))))))))))))))))))))))))))))))))))))))
theorem lf_X3_takesInCheck : lk (tb_X3_takesInCheck) 0 = (x_il 1 1, false) ∧ lk (tb_X3_takesInCheck) 1 = (x_c 3 (.int 46), false) ∧ lk (tb_X3_takesInCheck) 3 = (x_icn 13 6 (fun x y : Int32 => x = y), false) ∧ lk (tb_X3_takesInCheck) 6 = (x_al 7 0, false) ∧ lk (tb_X3_takesInCheck) 7 = (x_c 8 (.int 0), false) ∧ lk (tb_X3_takesInCheck) 8 = (x_pZ 3 6 11, false) ∧ lk (tb_X3_takesInCheck) 11 = (x_c 12 (.int 1), false) ∧ lk (tb_X3_takesInCheck) 12 = (x_rZ, false) ∧ lk (tb_X3_takesInCheck) 13 = (x_il 14 1, false) ∧ lk (tb_X3_takesInCheck) 14 = (x_c 16 (.int 48), false) ∧ lk (tb_X3_takesInCheck) 16 = (x_ii 17 (fun x y : Int32 => x - y), false) ∧ lk (tb_X3_takesInCheck) 17 = (x_is 18 2, false) ∧ lk (tb_X3_takesInCheck) 18 = (x_il 19 2, false) ∧ lk (tb_X3_takesInCheck) 19 = (x_al 20 0, false) ∧ lk (tb_X3_takesInCheck) 20 = (x_gI 3 5 23, false) ∧ lk (tb_X3_takesInCheck) 23 = (x_ic 42 26 (fun x y : Int32 => x < y), false) ∧ lk (tb_X3_takesInCheck) 26 = (x_il 27 2, false) ∧ lk (tb_X3_takesInCheck) 27 = (x_al 28 0, false) ∧ lk (tb_X3_takesInCheck) 28 = (x_gI 3 2 31, false) ∧ lk (tb_X3_takesInCheck) 31 = (x_ic 42 34 (fun x y : Int32 => y ≤ x), false) ∧ lk (tb_X3_takesInCheck) 34 = (x_al 35 0, false) ∧ lk (tb_X3_takesInCheck) 35 = (x_gI 3 4 38, false) ∧ lk (tb_X3_takesInCheck) 38 = (x_c 39 (.int 1), false) ∧ lk (tb_X3_takesInCheck) 39 = (x_ic 44 42 (fun x y : Int32 => y ≤ x), false) ∧ lk (tb_X3_takesInCheck) 42 = (x_c 43 (.int 0), false) ∧ lk (tb_X3_takesInCheck) 43 = (x_rZ, false) ∧ lk (tb_X3_takesInCheck) 44 = (x_al 45 0, false) ∧ lk (tb_X3_takesInCheck) 45 = (x_gR 3 0 48, false) ∧ lk (tb_X3_takesInCheck) 48 = (x_al 49 0, false) ∧ lk (tb_X3_takesInCheck) 49 = (x_gI 3 4 52, false) ∧ lk (tb_X3_takesInCheck) 52 = (x_c 53 (.int 1), false) ∧ lk (tb_X3_takesInCheck) 53 = (x_ii 54 (fun x y : Int32 => x - y), false) ∧ lk (tb_X3_takesInCheck) 54 = (x_dup2 55, false) ∧ lk (tb_X3_takesInCheck) 55 = (x_ia 56, false) ∧ lk (tb_X3_takesInCheck) 56 = (x_c 57 (.int 1), false) ∧ lk (tb_X3_takesInCheck) 57 = (x_il 58 2, false) ∧ lk (tb_X3_takesInCheck) 58 = (x_ii 59 (fun x y : Int32 => x <<< (y &&& 31)), false) ∧ lk (tb_X3_takesInCheck) 59 = (x_ii 60 (fun x y : Int32 => x ||| y), false) ∧ lk (tb_X3_takesInCheck) 60 = (x_ias 61, false) ∧ lk (tb_X3_takesInCheck) 61 = (x_al 62 0, false) ∧ lk (tb_X3_takesInCheck) 62 = (x_il 63 2, false) ∧ lk (tb_X3_takesInCheck) 63 = (x_c 64 (.int 1), false) ∧ lk (tb_X3_takesInCheck) 64 = (x_ii 65 (fun x y : Int32 => x + y), false) ∧ lk (tb_X3_takesInCheck) 65 = (x_pI 3 5 68, false) ∧ lk (tb_X3_takesInCheck) 68 = (x_c 69 (.int 1), false) ∧ lk (tb_X3_takesInCheck) 69 = (x_rZ, false) := ⟨rfl, rfl, rfl, rfl, rfl, rfl, rfl, rfl, rfl, rfl, rfl, rfl, rfl, rfl, rfl, rfl, rfl, rfl, rfl, rfl, rfl, rfl, rfl, rfl, rfl, rfl, rfl, rfl, rfl, rfl, rfl, rfl, rfl, rfl, rfl, rfl, rfl, rfl, rfl, rfl, rfl, rfl, rfl, rfl, rfl, rfl⟩
def P_X3_takesInCheck : PTT := fun as M R => match as with
  | [.ref k, .int x] => k = 3 ∧ IsRd M.1 3 ∧ (x = 46 → R (some (.int 1)) (M.1, mS M.2.1 3 (upd (M.2.1 3) 6 0), M.2.2)) ∧ (¬ x = 46 → ¬ (¬ x - 48 < M.2.1 3 5 ∧ ¬ M.2.1 3 2 ≤ x - 48 ∧ 1 ≤ M.2.1 3 4) → R (some (.int 0)) M) ∧
    (¬ x = 46 → (¬ x - 48 < M.2.1 3 5 ∧ ¬ M.2.1 3 2 ≤ x - 48 ∧ 1 ≤ M.2.1 3 4) → vp_in (M.2.1 3 4 - 1) 6 ∧ R (some (.int 1)) (M.1, mS (mS M.2.1 4 (upd (M.2.1 4) (M.2.1 3 4 - 1).toNatClampNeg (M.2.1 4 (M.2.1 3 4 - 1).toNatClampNeg ||| (1 : Int32) <<< ((x - 48) &&& 31)))) 3 (upd (M.2.1 3) 5 (x - 48 + 1)), M.2.2))
  | _ => False
set_option maxRecDepth 20000 in
theorem ok_X3_takesInCheck : Ok yX3_takesInCheck mt_X3_takesInCheck P_X3_takesInCheck := by
  refine Ok.of (by decide) rfl rfl rfl rfl fun av ⟨S, I, L⟩ R hP => ?_
  unfold P_X3_takesInCheck at hP
  split at hP
  case h_2 => exact hP.elim
  rename_i k x
  obtain ⟨k, rfl⟩ : ∃ q : Nat, q = k := ⟨k, rfl⟩
  refine ⟨by simp [ent, wide, mt_X3_takesInCheck], ?_⟩
  show J mt_X3_takesInCheck R 0 [some (.ref k), some (.int x), none] [] (S, I, L)
  try dsimp only at hP
  obtain ⟨rfl, hk, h1, h2, h3⟩ := hP
  refine J.of tk_X3_takesInCheck 200 fun ρ hρ => ?_
  simp only [hρ, x_c, x_il, x_ll, x_al, x_is, x_as, x_ls, x_inc, x_ii, x_iq, x_i1, x_l2, x_lq, x_lh, x_i2l, x_l2i, x_lcmp, x_dup, x_dup2, x_pop, x_if, x_ifn, x_ic, x_icn, x_go, x_sw, swc, x_l01, x_mx, x_gI, x_gL, x_gR, x_pI, x_pZ, x_pL, x_pR, x_ia, x_za, x_aa, x_ias, x_zas, x_aas, x_fac, x_fa, x_slen, x_sa, x_ac, x_oi, x_new, x_na, x_cS, x_cV, x_cI, x_rI, x_rZ, x_rL, x_r0, pa, short, oc, lg, lset, lset2, wide, cond_true, cond_false, true_and, and_true, ↓reduceIte, Bool.false_eq_true, true_or, or_true, lf_X3_takesInCheck, hk.f, mS_s, mS_34, mS_ss]
  refine ⟨fun h => ⟨fun q => h2 h (fun z => z.1 q), fun q => ⟨fun q2 => h2 h (fun z => z.2.1 q2), fun q2 => ⟨fun q3 => ?_, fun q3 => h2 h (fun z => q3 z.2.2)⟩⟩⟩, fun h => h1 h⟩
  have := h3 h ⟨q, q2, q3⟩
  exact ⟨this.1, this.1, this.2⟩
/-! the text's letters, one by one: where, bits, offset, checks that are whole, the least next bit, the sets -/
abbrev TS : Type := Nat × Nat × Nat × Nat × Nat × (Nat → Nat)
def stpT (s : TS) (a : Nat) : Option TS :=
  if s.1 = 0 then (if a = 67 then some (1, s.2) else none)
  else if s.1 = 1 then (if 50 ≤ a ∧ a ≤ 57 then some (2, a - 48, s.2.2) else none)
  else if s.1 = 2 then (if 48 ≤ a ∧ a ≤ 57 then some (3, s.2.1, a - 48, s.2.2.2) else none)
  else if s.1 = 3 then (if a = 99 ∧ s.2.2.2.1 < 6 then some (4, s.2.1, s.2.2.1, s.2.2.2.1, 0, va_up s.2.2.2.2.2 s.2.2.2.1 0) else none)
  else if a = 46 then some (3, s.2.1, s.2.2.1, s.2.2.2.1 + 1, s.2.2.2.2)
  else if 48 + s.2.2.2.2.1 ≤ a ∧ a < 48 + s.2.1 then some (4, s.2.1, s.2.2.1, s.2.2.2.1, a - 48 + 1, va_up s.2.2.2.2.2 s.2.2.2.1 (s.2.2.2.2.2 s.2.2.2.1 ||| 2 ^ (a - 48))) else none
def TS0 : TS := (0, 0, 0, 0, 0, fun _ => 0)
/-- what is true of every text that goes on -/
def TSok (s : TS) : Prop := s.1 ≤ 4 ∧ (2 ≤ s.1 → 2 ≤ s.2.1 ∧ s.2.1 ≤ 9) ∧ (3 ≤ s.1 → s.2.2.1 ≤ 9) ∧ s.2.2.2.1 ≤ 6 ∧ (s.1 < 3 → s.2.2.2.1 = 0) ∧ (s.1 = 4 → s.2.2.2.1 < 6 ∧ s.2.2.2.2.1 ≤ 9) ∧ (∀ c, c < s.2.2.2.1 + (if s.1 = 4 then 1 else 0) → s.2.2.2.2.2 c < 2 ^ s.2.1)
theorem TSok_0 : TSok TS0 := by simp [TSok, TS0]
theorem TSok_s {s s' : TS} {a : Nat} (h : TSok s) (e : stpT s a = some s') : TSok s' := by
  obtain ⟨ph, n, o, m, lb, ov⟩ := s
  obtain ⟨h0, h1, h2, h3, h4, h5, h6⟩ := h
  simp only at h0 h1 h2 h3 h4 h5 h6
  unfold stpT at e
  simp only at e
  split at e
  · split at e
    · cases e
      refine ⟨by simp only; omega, fun q => absurd q (by simp only; omega), fun q => absurd q (by simp only; omega), h3, fun _ => h4 (by omega), by simp only; omega, fun c hc => ?_⟩
      have := h4 (by omega)
      simp at hc
      omega
    · cases e
  split at e
  · split at e
    · next hh =>
      cases e
      refine ⟨by simp only; omega, fun _ => by simp only; omega, fun q => absurd q (by simp only; omega), h3, fun _ => h4 (by omega), by simp only; omega, fun c hc => ?_⟩
      have := h4 (by omega)
      simp at hc
      omega
    · cases e
  split at e
  · split at e
    · next hh =>
      cases e
      refine ⟨by simp only; omega, fun _ => h1 (by omega), fun _ => by simp only; omega, h3, by simp only; omega, by simp only; omega, fun c hc => ?_⟩
      have := h4 (by omega)
      simp at hc
      omega
    · cases e
  split at e
  · split at e
    · next hh =>
      cases e
      refine ⟨by simp only; omega, fun _ => h1 (by omega), fun _ => h2 (by omega), by simp only; omega, by simp only; omega, by simp only; omega, fun c hc => ?_⟩
      simp only [if_true] at hc
      simp only [va_up]
      split
      · exact Nat.two_pow_pos n
      · exact h6 c (by omega)
    · cases e
  split at e
  · cases e
    have h7 : ph = 4 := by omega
    refine ⟨by simp only; omega, fun _ => h1 (by omega), fun _ => h2 (by omega), by simp only; omega, by simp only; omega, by simp only; omega, fun c hc => ?_⟩
    simp only at hc
    exact h6 c (by rw [if_pos h7]; simpa using hc)
  split at e
  · next hh =>
    cases e
    have h7 : ph = 4 := by omega
    have hn := h1 (by omega)
    refine ⟨by simp only; omega, fun _ => hn, fun _ => h2 (by omega), by simp only; omega, by simp only; omega, by simp only; omega, fun c hc => ?_⟩
    simp only [if_true] at hc
    rw [if_pos h7] at h6
    simp only [va_up]
    split
    · exact Nat.or_lt_two_pow (h6 m (by omega)) (Nat.pow_lt_pow_right (by omega) (by omega))
    · exact h6 c hc
  · cases e
theorem stp_0 {n o m lb a : Nat} {ov : Nat → Nat} (h : a = 67) : stpT (0, n, o, m, lb, ov) a = some (1, n, o, m, lb, ov) := by simp [stpT, h]
theorem stp_1 {n o m lb a : Nat} {ov : Nat → Nat} (h : 50 ≤ a ∧ a ≤ 57) : stpT (1, n, o, m, lb, ov) a = some (2, a - 48, o, m, lb, ov) := by simp [stpT, h]
theorem stp_2 {n o m lb a : Nat} {ov : Nat → Nat} (h : 48 ≤ a ∧ a ≤ 57) : stpT (2, n, o, m, lb, ov) a = some (3, n, a - 48, m, lb, ov) := by simp [stpT, h]
theorem stp_3 {n o m lb a : Nat} {ov : Nat → Nat} (h : a = 99 ∧ m < 6) : stpT (3, n, o, m, lb, ov) a = some (4, n, o, m, 0, va_up ov m 0) := by simp [stpT, h]
theorem stp_4 {n o m lb a : Nat} {ov : Nat → Nat} (h : a = 46) : stpT (4, n, o, m, lb, ov) a = some (3, n, o, m + 1, lb, ov) := by simp [stpT, h]
theorem stp_5 {n o m lb a : Nat} {ov : Nat → Nat} (h0 : ¬ a = 46) (h : 48 + lb ≤ a ∧ a < 48 + n) : stpT (4, n, o, m, lb, ov) a = some (4, n, o, m, a - 48 + 1, va_up ov m (ov m ||| 2 ^ (a - 48))) := by simp [stpT, h, h0]
theorem stn_0 {n o m lb a : Nat} {ov : Nat → Nat} (h : ¬ a = 67) : stpT (0, n, o, m, lb, ov) a = none := by simp [stpT, h]
theorem stn_1 {n o m lb a : Nat} {ov : Nat → Nat} (h : ¬ (50 ≤ a ∧ a ≤ 57)) : stpT (1, n, o, m, lb, ov) a = none := by simp only [stpT]; rw [if_neg (by omega), if_pos trivial, if_neg h]
theorem stn_2 {n o m lb a : Nat} {ov : Nat → Nat} (h : ¬ (48 ≤ a ∧ a ≤ 57)) : stpT (2, n, o, m, lb, ov) a = none := by simp only [stpT]; rw [if_neg (by omega), if_neg (by omega), if_pos trivial, if_neg h]
theorem stn_3 {n o m lb a : Nat} {ov : Nat → Nat} (h : ¬ (a = 99 ∧ m < 6)) : stpT (3, n, o, m, lb, ov) a = none := by simp only [stpT]; rw [if_neg (by omega), if_neg (by omega), if_neg (by omega), if_pos trivial, if_neg h]
theorem stn_5 {n o m lb a : Nat} {ov : Nat → Nat} (h0 : ¬ a = 46) (h : ¬ (48 + lb ≤ a ∧ a < 48 + n)) : stpT (4, n, o, m, lb, ov) a = none := by simp only [stpT]; rw [if_neg (by omega), if_neg (by omega), if_neg (by omega), if_neg (by omega), if_neg h0, if_neg h]
/-- the reading at 3 holds what was read of i letters -/
def RdR (I : MI) (i : Nat) (s : TS) : Prop := I 3 1 = nI i ∧ (s.1 < 3 → i = s.1) ∧ (3 ≤ s.1 → 3 ≤ i) ∧ (2 ≤ s.1 → I 3 2 = nI s.2.1) ∧ (3 ≤ s.1 → I 3 3 = nI s.2.2.1) ∧ (s.1 = 4 → I 3 5 = nI s.2.2.2.2.1) ∧ I 3 4 = nI (s.2.2.2.1 + (if s.1 = 4 then 1 else 0)) ∧ I 3 6 = (if s.1 = 4 then 1 else 0) ∧ (∀ c, c < s.2.2.2.1 + (if s.1 = 4 then 1 else 0) → I 4 c = nI (s.2.2.2.2.2 c))
def il_X3_takes : List (Nat × Instr × Nat) := [(0, .aload_n 0, 1), (1, .getfield 15, 3), (4, .istore_n 2, 1), (5, .aload_n 0, 1), (6, .dup, 1), (7, .getfield 15, 3), (10, .iconst 1, 1), (11, .iadd, 1), (12, .putfield 15, 3), (15, .iload_n 2, 1), (16, .tableswitch 52 0 2 #[28, 40, 46], 28), (44, .iload_n 1, 1), (45, .bipush 67, 2), (47, .if_icmp .ne 7, 3), (50, .iconst 1, 1), (51, .goto 4, 3), (54, .iconst 0, 1), (55, .ireturn, 1), (56, .aload_n 0, 1), (57, .iload_n 1, 1), (58, .invokevirtual 35, 3), (61, .ireturn, 1), (62, .aload_n 0, 1), (63, .iload_n 1, 1), (64, .invokevirtual 39, 3), (67, .ireturn, 1), (68, .aload_n 0, 1), (69, .getfield 31, 3), (72, .ifCond .eq 11, 3), (75, .aload_n 0, 1), (76, .iload_n 1, 1), (77, .invokevirtual 42, 3), (80, .goto 8, 3), (83, .aload_n 0, 1), (84, .iload_n 1, 1), (85, .invokevirtual 45, 3), (88, .ireturn, 1)]
def mt_X3_takes : Mt := (cX3_takes, RX3, 3, (some .boolean), ({ frames := 1, cells := 0, slots := 0, locals := 22 } : Room), false, none, none)
set_option maxRecDepth 100000 in
theorem dl_X3_takes : ∀ q ∈ il_X3_takes, decode (mt_X3_takes).1 q.1 = .ok q.2 := by decide +kernel
def tb_X3_takes : Tb := [(0, x_al 1 0, false),
  (1, x_gI 3 1 4, false),
  (4, x_is 5 2, false),
  (5, x_al 6 0, false),
  (6, x_dup 7, false),
  (7, x_gI 3 1 10, false),
  (10, x_c 11 (.int 1), false),
  (11, x_ii 12 (fun x y : Int32 => x + y), false),
  (12, x_pI 3 1 15, false),
  (15, x_il 16 2, false),
  (16, x_sw 0 2 [44, 56, 62] 68, false),
  (44, x_il 45 1, false),
  (45, x_c 47 (.int 67), false),
  (47, x_icn 54 50 (fun x y : Int32 => x = y), false),
  (50, x_c 51 (.int 1), false),
  (51, x_go 55, false),
  (54, x_c 55 (.int 0), false),
  (55, x_rZ, false),
  (56, x_al 57 0, false),
  (57, x_il 58 1, false),
  (58, x_cV 3 1 P_X3_takesBits 61, false),
  (61, x_rZ, false),
  (62, x_al 63 0, false),
  (63, x_il 64 1, false),
  (64, x_cV 3 1 P_X3_takesOffset 67, false),
  (67, x_rZ, false),
  (68, x_al 69 0, false),
  (69, x_gI 3 6 72, false),
  (72, x_if 83 75 (fun x : Int32 => x = 0), false),
  (75, x_al 76 0, false),
  (76, x_il 77 1, false),
  (77, x_cV 3 1 P_X3_takesInCheck 80, false),
  (80, x_go 88, false),
  (83, x_al 84 0, false),
  (84, x_il 85 1, false),
  (85, x_cV 3 1 P_X3_takesCheck 88, false),
  (88, x_rZ, false)]
set_option maxRecDepth 100000 in
theorem tk_X3_takes : TbOk (mt_X3_takes) (tb_X3_takes) :=
  tkc (s_aload_n (at_ dl_X3_takes 0 (ins := .aload_n 0) rfl)) (
  tkc (s_gI (at_ dl_X3_takes 1 (ins := .getfield 15) rfl) (by decide) (by decide) (by decide) (tg 78 (by decide +kernel) (by decide +kernel))) (
  tkc (s_istore_n (at_ dl_X3_takes 2 (ins := .istore_n 2) rfl) (by decide)) (
  tkc (s_aload_n (at_ dl_X3_takes 3 (ins := .aload_n 0) rfl)) (
  tkc (s_dup (at_ dl_X3_takes 4 (ins := .dup) rfl)) (
  tkc (s_gI (at_ dl_X3_takes 5 (ins := .getfield 15) rfl) (by decide) (by decide) (by decide) (tg 78 (by decide +kernel) (by decide +kernel))) (
  tkc (s_iconst (at_ dl_X3_takes 6 (ins := .iconst 1) rfl) (by first | rfl | decide)) (
  tkc (s_iadd (at_ dl_X3_takes 7 (ins := .iadd) rfl)) (
  tkc (s_pI (at_ dl_X3_takes 8 (ins := .putfield 15) rfl) (by decide) (by decide) (by decide) (by decide) (tg 78 (by decide +kernel) (by decide +kernel))) (
  tkc (s_iload_n (at_ dl_X3_takes 9 (ins := .iload_n 2) rfl)) (
  tkc (s_sw (at_ dl_X3_takes 10 (ins := .tableswitch 52 0 2 #[28, 40, 46]) rfl) rfl (tsw [44, 56, 62] (by decide +kernel)) (by decide)) (
  tkc (s_iload_n (at_ dl_X3_takes 11 (ins := .iload_n 1) rfl)) (
  tkc (s_bipush (at_ dl_X3_takes 12 (ins := .bipush 67) rfl) (by first | rfl | decide)) (
  tkc (s_ic_ne (at_ dl_X3_takes 13 (ins := .if_icmp .ne 7) rfl) (by decide)) (
  tkc (s_iconst (at_ dl_X3_takes 14 (ins := .iconst 1) rfl) (by first | rfl | decide)) (
  tkc (s_goto (at_ dl_X3_takes 15 (ins := .goto 4) rfl) (by decide)) (
  tkc (s_iconst (at_ dl_X3_takes 16 (ins := .iconst 0) rfl) (by first | rfl | decide)) (
  tkc (s_rZ (at_ dl_X3_takes 17 (ins := .ireturn) rfl) rfl) (
  tkc (s_aload_n (at_ dl_X3_takes 18 (ins := .aload_n 0) rfl)) (
  tkc (s_iload_n (at_ dl_X3_takes 19 (ins := .iload_n 1) rfl)) (
  tkc (s_cV ok_X3_takesBits (at_ dl_X3_takes 20 (ins := .invokevirtual 35) rfl) (by decide) rfl (tg 317 (by decide +kernel) (by decide +kernel)) (tg 319 (by decide +kernel) (by decide +kernel)) (tg 0 (by decide +kernel) (by decide +kernel)) (tg 44 (by decide +kernel) (by decide +kernel)) (tg 320 (by decide +kernel) (by decide +kernel)) (⟨by decide, by decide, by decide +kernel⟩) (⟨by decide, by decide⟩) rfl rfl) (
  tkc (s_rZ (at_ dl_X3_takes 21 (ins := .ireturn) rfl) rfl) (
  tkc (s_aload_n (at_ dl_X3_takes 22 (ins := .aload_n 0) rfl)) (
  tkc (s_iload_n (at_ dl_X3_takes 23 (ins := .iload_n 1) rfl)) (
  tkc (s_cV ok_X3_takesOffset (at_ dl_X3_takes 24 (ins := .invokevirtual 39) rfl) (by decide) rfl (tg 321 (by decide +kernel) (by decide +kernel)) (tg 323 (by decide +kernel) (by decide +kernel)) (tg 1 (by decide +kernel) (by decide +kernel)) (tg 44 (by decide +kernel) (by decide +kernel)) (tg 324 (by decide +kernel) (by decide +kernel)) (⟨by decide, by decide, by decide +kernel⟩) (⟨by decide, by decide⟩) rfl rfl) (
  tkc (s_rZ (at_ dl_X3_takes 25 (ins := .ireturn) rfl) rfl) (
  tkc (s_aload_n (at_ dl_X3_takes 26 (ins := .aload_n 0) rfl)) (
  tkc (s_gI (at_ dl_X3_takes 27 (ins := .getfield 31) rfl) (by decide) (by decide) (by decide) (tg 86 (by decide +kernel) (by decide +kernel))) (
  tkc (s_if_eq (at_ dl_X3_takes 28 (ins := .ifCond .eq 11) rfl) (by decide)) (
  tkc (s_aload_n (at_ dl_X3_takes 29 (ins := .aload_n 0) rfl)) (
  tkc (s_iload_n (at_ dl_X3_takes 30 (ins := .iload_n 1) rfl)) (
  tkc (s_cV ok_X3_takesInCheck (at_ dl_X3_takes 31 (ins := .invokevirtual 42) rfl) (by decide) rfl (tg 325 (by decide +kernel) (by decide +kernel)) (tg 327 (by decide +kernel) (by decide +kernel)) (tg 2 (by decide +kernel) (by decide +kernel)) (tg 44 (by decide +kernel) (by decide +kernel)) (tg 328 (by decide +kernel) (by decide +kernel)) (⟨by decide, by decide, by decide +kernel⟩) (⟨by decide, by decide⟩) rfl rfl) (
  tkc (s_goto (at_ dl_X3_takes 32 (ins := .goto 8) rfl) (by decide)) (
  tkc (s_aload_n (at_ dl_X3_takes 33 (ins := .aload_n 0) rfl)) (
  tkc (s_iload_n (at_ dl_X3_takes 34 (ins := .iload_n 1) rfl)) (
  tkc (s_cV ok_X3_takesCheck (at_ dl_X3_takes 35 (ins := .invokevirtual 45) rfl) (by decide) rfl (tg 329 (by decide +kernel) (by decide +kernel)) (tg 331 (by decide +kernel) (by decide +kernel)) (tg 3 (by decide +kernel) (by decide +kernel)) (tg 44 (by decide +kernel) (by decide +kernel)) (tg 332 (by decide +kernel) (by decide +kernel)) (⟨by decide, by decide, by decide +kernel⟩) (⟨by decide, by decide⟩) rfl rfl) (
  tkc (s_rZ (at_ dl_X3_takes 36 (ins := .ireturn) rfl) rfl) ( tk0)))))))))))))))))))))))))))))))))))))
theorem lf_X3_takes : lk (tb_X3_takes) 0 = (x_al 1 0, false) ∧ lk (tb_X3_takes) 1 = (x_gI 3 1 4, false) ∧ lk (tb_X3_takes) 4 = (x_is 5 2, false) ∧ lk (tb_X3_takes) 5 = (x_al 6 0, false) ∧ lk (tb_X3_takes) 6 = (x_dup 7, false) ∧ lk (tb_X3_takes) 7 = (x_gI 3 1 10, false) ∧ lk (tb_X3_takes) 10 = (x_c 11 (.int 1), false) ∧ lk (tb_X3_takes) 11 = (x_ii 12 (fun x y : Int32 => x + y), false) ∧ lk (tb_X3_takes) 12 = (x_pI 3 1 15, false) ∧ lk (tb_X3_takes) 15 = (x_il 16 2, false) ∧ lk (tb_X3_takes) 16 = (x_sw 0 2 [44, 56, 62] 68, false) ∧ lk (tb_X3_takes) 44 = (x_il 45 1, false) ∧ lk (tb_X3_takes) 45 = (x_c 47 (.int 67), false) ∧ lk (tb_X3_takes) 47 = (x_icn 54 50 (fun x y : Int32 => x = y), false) ∧ lk (tb_X3_takes) 50 = (x_c 51 (.int 1), false) ∧ lk (tb_X3_takes) 51 = (x_go 55, false) ∧ lk (tb_X3_takes) 54 = (x_c 55 (.int 0), false) ∧ lk (tb_X3_takes) 55 = (x_rZ, false) ∧ lk (tb_X3_takes) 56 = (x_al 57 0, false) ∧ lk (tb_X3_takes) 57 = (x_il 58 1, false) ∧ lk (tb_X3_takes) 58 = (x_cV 3 1 P_X3_takesBits 61, false) ∧ lk (tb_X3_takes) 61 = (x_rZ, false) ∧ lk (tb_X3_takes) 62 = (x_al 63 0, false) ∧ lk (tb_X3_takes) 63 = (x_il 64 1, false) ∧ lk (tb_X3_takes) 64 = (x_cV 3 1 P_X3_takesOffset 67, false) ∧ lk (tb_X3_takes) 67 = (x_rZ, false) ∧ lk (tb_X3_takes) 68 = (x_al 69 0, false) ∧ lk (tb_X3_takes) 69 = (x_gI 3 6 72, false) ∧ lk (tb_X3_takes) 72 = (x_if 83 75 (fun x : Int32 => x = 0), false) ∧ lk (tb_X3_takes) 75 = (x_al 76 0, false) ∧ lk (tb_X3_takes) 76 = (x_il 77 1, false) ∧ lk (tb_X3_takes) 77 = (x_cV 3 1 P_X3_takesInCheck 80, false) ∧ lk (tb_X3_takes) 80 = (x_go 88, false) ∧ lk (tb_X3_takes) 83 = (x_al 84 0, false) ∧ lk (tb_X3_takes) 84 = (x_il 85 1, false) ∧ lk (tb_X3_takes) 85 = (x_cV 3 1 P_X3_takesCheck 88, false) ∧ lk (tb_X3_takes) 88 = (x_rZ, false) := ⟨rfl, rfl, rfl, rfl, rfl, rfl, rfl, rfl, rfl, rfl, rfl, rfl, rfl, rfl, rfl, rfl, rfl, rfl, rfl, rfl, rfl, rfl, rfl, rfl, rfl, rfl, rfl, rfl, rfl, rfl, rfl, rfl, rfl, rfl, rfl, rfl, rfl⟩
def P_X3_takes : PTT := fun as M R => match as with
  | [.ref k, .int x] => k = 3 ∧ IsRd M.1 3 ∧ ∃ i s a, RdR M.2.1 i s ∧ TSok s ∧ i < 1000 ∧ x = nI a ∧ a < 256 ∧
      (stpT s a = none → ∀ I', (∀ q, q ≠ 3 → q ≠ 4 → I' q = M.2.1 q) → R (some (.int 0)) (M.1, I', M.2.2)) ∧ (∀ s', stpT s a = some s' → ∀ I', (∀ q, q ≠ 3 → q ≠ 4 → I' q = M.2.1 q) → RdR I' (i + 1) s' → R (some (.int 1)) (M.1, I', M.2.2))
  | _ => False
theorem upd_app (f : Nat → Int32) (k : Nat) (x : Int32) (j : Nat) : upd f k x j = if j = k then x else f j := rfl
theorem mS_43 {I : MI} {r : Nat → Int32} : mS I 3 r 4 = I 4 := rfl
theorem fr3 {I : MI} {r : Nat → Int32} : ∀ q, q ≠ 3 → q ≠ 4 → mS I 3 r q = I q := fun q h _ => mS_n h
theorem fr34 {I : MI} {r r' : Nat → Int32} : ∀ q, q ≠ 3 → q ≠ 4 → mS (mS I 4 r') 3 r q = I q := fun q h h4 => by rw [mS_n h, mS_n h4]
theorem upd_n {f : Nat → Int32} {k j : Nat} {x : Int32} (h : j ≠ k) : upd f k x j = f j := pk_un h
set_option maxRecDepth 20000 in
theorem ok_X3_takes : Ok yX3_takes mt_X3_takes P_X3_takes := by
  refine Ok.of (by decide) rfl rfl rfl rfl fun av ⟨S, I, L⟩ R hP => ?_
  unfold P_X3_takes at hP
  split at hP
  case h_2 => exact hP.elim
  rename_i k x
  obtain ⟨k, rfl⟩ : ∃ q : Nat, q = k := ⟨k, rfl⟩
  refine ⟨by simp [ent, wide, mt_X3_takes], ?_⟩
  show J mt_X3_takes R 0 [some (.ref k), some (.int x), none] [] (S, I, L)
  try dsimp only at hP
  obtain ⟨rfl, hk, i, ⟨ph, n, o, m, lb, ov⟩, a, hr, hok, hi, rfl, ha, hN, hS⟩ := hP
  obtain ⟨h0, h1, h2, h3, h4, h5, h6⟩ := hok
  obtain ⟨r0, r1, r2, r3, r4, r5, r6, r7, r8⟩ := hr
  simp only at h0 h1 h2 h3 h4 h5 h6 r0 r1 r2 r3 r4 r5 r6 r7 r8
  have hT : (nI i).toInt = (i : Int) := nI_toInt (by omega)
  have e67 : nI a = 67 ↔ a = 67 := nI_eq (b := 67) (by omega) (by omega)
  have e99 : nI a = 99 ↔ a = 99 := nI_eq (b := 99) (by omega) (by omega)
  have e46 : nI a = 46 ↔ a = 46 := nI_eq (b := 46) (by omega) (by omega)
  have g2 : nI a - 48 < 2 ↔ a < 48 + 2 := fg_lt (c := 2) ha (by omega)
  have g0 : nI a - 48 < 0 ↔ a < 48 + 0 := fg_lt (c := 0) ha (by omega)
  have g9 : 9 < nI a - 48 ↔ 48 + 9 < a := fg_gt (c := 9) ha (by omega)
  have l6 : nI m < 6 ↔ m < 6 := nI_ltI (b := 6) (by omega) (by omega)
  have hph : ph = 0 ∨ ph = 1 ∨ ph = 2 ∨ ph = 3 ∨ ph = 4 := by omega
  refine J.of tk_X3_takes 200 fun ρ hρ => ?_
  simp only [hρ, x_c, x_il, x_ll, x_al, x_is, x_as, x_ls, x_inc, x_ii, x_iq, x_i1, x_l2, x_lq, x_lh, x_i2l, x_l2i, x_lcmp, x_dup, x_dup2, x_pop, x_if, x_ifn, x_ic, x_icn, x_go, x_sw, swc, x_l01, x_mx, x_gI, x_gL, x_gR, x_pI, x_pZ, x_pL, x_pR, x_ia, x_za, x_aa, x_ias, x_zas, x_aas, x_fac, x_fa, x_slen, x_sa, x_ac, x_oi, x_new, x_na, x_cS, x_cV, x_cI, x_rI, x_rZ, x_rL, x_r0, pa, short, oc, lg, lset, lset2, wide, cond_true, cond_false, true_and, and_true, ↓reduceIte, Bool.false_eq_true, true_or, or_true, lf_X3_takes, hk, hk.f, r0, hT, mS_s, P_X3_takesBits, P_X3_takesOffset, P_X3_takesCheck, P_X3_takesInCheck, mS_ss, mS_43, upd_app, Nat.reduceEqDiff, nI_1, e67, e99, e46, g2, g0, g9]
  rcases hph with rfl | rfl | rfl | rfl | rfl
  · have hi0 : i = 0 := r1 (by omega)
    subst hi0
    refine ⟨⟨fun _ => ⟨fun h => hN (stn_0 h) _ fr3, fun h => hS _ (stp_0 h) _ fr3 ?_⟩, fun h => absurd h (by omega), fun h => absurd h (by omega)⟩, fun h => absurd h (by omega)⟩
    refine ⟨by simp [mS_s, upd_app], by simp, by simp, by simp, by simp, by simp, by simpa [mS_s, upd_app] using r6, by simpa [mS_s, upd_app] using r7, ?_⟩
    have := h4 (by omega)
    simp [this]
  · have hi0 : i = 1 := r1 (by omega)
    subst hi0
    refine ⟨⟨fun h => absurd h (by omega), fun _ => ⟨bI_or, ?_⟩, fun h => absurd h (by omega)⟩, fun h => absurd h (by omega)⟩
    by_cases h : 50 ≤ a ∧ a ≤ 57
    · rw [bI_t (by omega)]
      refine hS _ (stp_1 h) _ fr3 ?_
      refine ⟨by simp [mS_s, upd_app], by simp, by simp, fun _ => by simp [mS_s, upd_app]; exact fg_sub (by omega), by simp, by simp, by simpa [mS_s, upd_app] using r6, by simpa [mS_s, upd_app] using r7, ?_⟩
      have := h4 (by omega)
      simp [this]
    · rw [bI_f (by omega)]
      exact hN (stn_1 h) _ fr3
  · have hi0 : i = 2 := r1 (by omega)
    subst hi0
    refine ⟨⟨fun h => absurd h (by omega), fun h => absurd h (by omega), fun _ => ⟨bI_or, ?_⟩⟩, fun h => absurd h (by omega)⟩
    by_cases h : 48 ≤ a ∧ a ≤ 57
    · rw [bI_t (by omega)]
      refine hS _ (stp_2 h) _ fr3 ?_
      refine ⟨by simp [mS_s, upd_app], by simp, by simp, fun _ => by simpa [mS_s, upd_app] using r3 (by omega), fun _ => by simp [mS_s, upd_app]; exact fg_sub (by omega), by simp, by simpa [mS_s, upd_app] using r6, by simpa [mS_s, upd_app] using r7, ?_⟩
      have := h4 (by omega)
      simp [this]
    · rw [bI_f (by omega)]
      exact hN (stn_2 h) _ fr3
  · have hi0 : 3 ≤ i := r2 (by omega)
    have q4 : I 3 4 = nI m := by simpa using r6
    have q6 : I 3 6 = 0 := by simpa using r7
    rw [q4, q6, l6]
    refine ⟨⟨fun h => absurd h (by omega), fun h => absurd h (by omega), fun h => absurd h (by omega)⟩, fun _ => ⟨fun _ => ⟨fun h => ?_, fun h => ?_⟩, fun h => absurd rfl h⟩⟩
    · rw [ncl (by omega)]
      refine ⟨vp_in_nI (by omega) (by omega), hS _ (stp_3 h) _ ?_ ?_⟩
      · intro q h3 h4'; rw [mS_n h3, mS_n h4', mS_n h3]
      · refine ⟨by simp [mS_s, upd_app], by simp, fun _ => by first | omega | (simp only; omega), fun _ => by simpa [mS_s, upd_app] using r3 (by omega), fun _ => by simpa [mS_s, upd_app] using r4 (by omega), fun _ => by simp [mS_s, upd_app, zero_nI], by simp [mS_s, upd_app, nI_1], by simp [mS_s, upd_app], fun c hc => ?_⟩
        simp only [if_true] at hc
        simp only [mS_app, Nat.reduceEqDiff, if_false, if_true, upd_app, va_up]
        by_cases hcm : c = m
        · simp [hcm, zero_nI]
        · simp only [hcm, if_false]
          exact r8 c (by simp; omega)
    · exact hN (stn_3 h) _ fr3
  · have hi0 : 3 ≤ i := r2 (by omega)
    have q4 : I 3 4 = nI (m + 1) := by simpa using r6
    have q6 : I 3 6 = 1 := by simpa using r7
    have q5 : I 3 5 = nI lb := r5 rfl
    have q2 : I 3 2 = nI n := r3 (by omega)
    have h5' := h5 rfl
    have h1' := h1 (by omega)
    rw [q4, q6, q5, q2]
    refine ⟨⟨fun h => absurd h (by omega), fun h => absurd h (by omega), fun h => absurd h (by omega)⟩, fun _ => ⟨fun h => absurd h (by decide), fun _ => ⟨fun h => ?_, fun h h7 => ?_, fun h h7 => ?_⟩⟩⟩
    · refine hS _ (stp_4 h) _ fr3 ?_
      refine ⟨by simp [mS_s, upd_app], by simp, fun _ => by first | omega | (simp only; omega), fun _ => by simpa [mS_s, upd_app] using q2, fun _ => by simpa [mS_s, upd_app] using r4 (by omega), by simp, by simp [mS_s, upd_app, q4], by simp [mS_s, upd_app], fun c hc => ?_⟩
      simp at hc
      simp only [mS_app, Nat.reduceEqDiff, if_false]
      exact r8 c (by simpa using hc)
    · refine hN (stn_5 h ?_) _ fr3
      intro q
      refine h7 ⟨?_, ?_, ?_⟩
      · rw [fg_lt ha (by omega)]; omega
      · rw [fg_ge ha (by omega)]; omega
      · rw [one_nI, nI_leI (by omega) (by omega)]; omega
    · rw [fg_lt ha (by omega), fg_ge ha (by omega)] at h7
      rw [nI_pred, ncl (by omega)]
      refine ⟨vp_in_nI (by omega) (by omega), hS _ (stp_5 h (by omega)) _ ?_ ?_⟩
      · intro q h3 h4'; rw [mS_n h3, mS_n h4', mS_n h3]
      · refine ⟨by simp [mS_s, upd_app], by simp, fun _ => by first | omega | (simp only; omega), fun _ => by simpa [mS_s, upd_app] using q2, fun _ => by simpa [mS_s, upd_app] using r4 (by omega), fun _ => by simp [mS_s, upd_app, nI_1]; rw [fg_sub (by omega), nI_1], by simp [mS_s, upd_app, q4], by simp [mS_s, upd_app, q6], fun c hc => ?_⟩
        simp only [if_true] at hc
        simp only [mS_app, Nat.reduceEqDiff, if_false, if_true, upd_app, va_up]
        by_cases hcm : c = m
        · simp only [hcm, if_true]
          rw [r8 m (by simp), fg_sub (by omega), shl1 (by omega), nI_or]
        · simp only [hcm, if_false]
          exact r8 c (by simpa using hc)
