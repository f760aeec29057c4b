/-! STATE: what is written anew -/
theorem mS_app {α : Type} (I : Nat → α) (k : Nat) (r : α) (q : Nat) : mS I k r q = if q = k then r else I q := rfl
theorem mS_ss {α : Type} (I : Nat → α) (k : Nat) (a b : α) : mS (mS I k a) k b = mS I k b := by
  funext q; simp only [mS]; split <;> rfl
theorem mS_id {α : Type} (I : Nat → α) (k : Nat) : mS I k (I k) = I := by
  funext q; simp only [mS]; split
  · next h => rw [h]
  · rfl
theorem mS_id' {α : Type} {I : Nat → α} {k : Nat} {r : α} (h : r = I k) : mS I k r = I := by rw [h, mS_id]
/-- of five places from k on, which are which -/
theorem kj (k : Nat) : ((k = k + 1) = False) ∧ ((k = k + 2) = False) ∧ ((k = k + 3) = False) ∧ ((k = k + 4) = False) ∧ ((k + 1 = k) = False) ∧ ((k + 2 = k) = False) ∧ ((k + 3 = k) = False) ∧ ((k + 4 = k) = False) ∧ ((k + 1 = k + 2) = False) ∧ ((k + 1 = k + 3) = False) ∧ ((k + 1 = k + 4) = False) ∧ ((k + 2 = k + 1) = False) ∧ ((k + 2 = k + 3) = False) ∧ ((k + 2 = k + 4) = False) ∧ ((k + 3 = k + 1) = False) ∧ ((k + 3 = k + 2) = False) ∧ ((k + 3 = k + 4) = False) ∧ ((k + 4 = k + 1) = False) ∧ ((k + 4 = k + 2) = False) ∧ ((k + 4 = k + 3) = False) := by
  refine ⟨?_, ?_, ?_, ?_, ?_, ?_, ?_, ?_, ?_, ?_, ?_, ?_, ?_, ?_, ?_, ?_, ?_, ?_, ?_, ?_⟩ <;> exact eq_false (by omega)
def apart5 (k o : Nat) : Prop := k + 5 ≤ o ∨ o + 5 ≤ k
/-- two sets of five places apart -/
theorem oj {k o : Nat} (h : k + 5 ≤ o ∨ o + 5 ≤ k) : (((o = k) = False) ∧ ((o = k + 1) = False) ∧ ((o = k + 2) = False) ∧ ((o = k + 3) = False) ∧ ((o = k + 4) = False)) ∧ (((o + 1 = k) = False) ∧ ((o + 1 = k + 1) = False) ∧ ((o + 1 = k + 2) = False) ∧ ((o + 1 = k + 3) = False) ∧ ((o + 1 = k + 4) = False)) ∧ (((o + 2 = k) = False) ∧ ((o + 2 = k + 1) = False) ∧ ((o + 2 = k + 2) = False) ∧ ((o + 2 = k + 3) = False) ∧ ((o + 2 = k + 4) = False)) ∧ (((o + 3 = k) = False) ∧ ((o + 3 = k + 1) = False) ∧ ((o + 3 = k + 2) = False) ∧ ((o + 3 = k + 3) = False) ∧ ((o + 3 = k + 4) = False)) ∧ (((o + 4 = k) = False) ∧ ((o + 4 = k + 1) = False) ∧ ((o + 4 = k + 2) = False) ∧ ((o + 4 = k + 3) = False) ∧ ((o + 4 = k + 4) = False)) := by
  refine ⟨⟨?_, ?_, ?_, ?_, ?_⟩, ⟨?_, ?_, ?_, ?_, ?_⟩, ⟨?_, ?_, ?_, ?_, ?_⟩, ⟨?_, ?_, ?_, ?_, ?_⟩, ⟨?_, ?_, ?_, ?_, ?_⟩⟩ <;> exact eq_false (by omega)
/-- the first n places are 0 -/
def zr (f : Nat → Int32) (n : Nat) : Nat → Int32 := fun j => if j < n then 0 else f j
theorem zr_0 (f : Nat → Int32) : zr f 0 = f := by funext j; simp [zr]
theorem zr_s (f : Nat → Int32) (i : Nat) : upd (zr f i) i 0 = zr f (i + 1) := by
  funext j
  simp only [upd, zr]
  by_cases h : j = i
  · subst h; simp
  · by_cases h2 : j < i
    · simp [h, h2, show j < i + 1 by omega]
    · simp [h, h2, show ¬ j < i + 1 by omega]
def cpy (f g : Nat → Int32) (n : Nat) : Nat → Int32 := va_cpy f g 0 0 n
theorem cpy_in {f g : Nat → Int32} {n j : Nat} (h : j < n) : cpy f g n j = f j := by simp [cpy, va_cpy, h]
theorem cpy_out {f g : Nat → Int32} {n j : Nat} (h : n ≤ j) : cpy f g n j = g j := by simp [cpy, va_cpy, show ¬ j < n by omega]
def il_X5_beginAnew : List (Nat × Instr × Nat) := [(0, .aload_n 0, 1), (1, .getfield 15, 3), (4, .iconst 0, 1), (5, .aload_n 0, 1), (6, .getfield 18, 3), (9, .iconst 0, 1), (10, .bipush 9, 2), (12, .invokestatic 43, 3), (15, .iconst 0, 1), (16, .istore_n 1, 1), (17, .iload_n 1, 1), (18, .bipush 54, 2), (20, .if_icmp .ge 16, 3), (23, .aload_n 0, 1), (24, .getfield 21, 3), (27, .iload_n 1, 1), (28, .iconst 0, 1), (29, .iastore, 1), (30, .iinc 1 1, 3), (33, .goto (-16), 3), (36, .aload_n 0, 1), (37, .iconst 0, 1), (38, .putfield 34, 3), (41, .return_, 1)]
def mt_X5_beginAnew : Mt := (cX5_beginAnew, RX5, 2, none, ({ frames := 1, cells := 0, slots := 0, locals := 18 } : Room), false, none, none)
set_option maxRecDepth 100000 in
theorem dl_X5_beginAnew : ∀ q ∈ il_X5_beginAnew, decode (mt_X5_beginAnew).1 q.1 = .ok q.2 := by decide +kernel
def tb_X5_beginAnew : Tb := [(0, x_al 1 0, false),
  (1, x_gR 5 1 4, false),
  (4, x_c 5 (.int 0), false),
  (5, x_al 6 0, false),
  (6, x_gR 5 2 9, false),
  (9, x_c 10 (.int 0), false),
  (10, x_c 12 (.int 9), false),
  (12, x_ac 15 9, false),
  (15, x_c 16 (.int 0), false),
  (16, x_is 17 1, false),
  (17, x_il 18 1, true),
  (18, x_c 20 (.int 54), false),
  (20, x_ic 36 23 (fun x y : Int32 => y ≤ x), false),
  (23, x_al 24 0, false),
  (24, x_gR 5 3 27, false),
  (27, x_il 28 1, false),
  (28, x_c 29 (.int 0), false),
  (29, x_ias 30, false),
  (30, x_inc 33 1 1, false),
  (33, x_go 17, false),
  (36, x_al 37 0, false),
  (37, x_c 38 (.int 0), false),
  (38, x_pI 5 7 41, false),
  (41, x_r0, false)]
set_option maxRecDepth 100000 in
theorem tk_X5_beginAnew : TbOk (mt_X5_beginAnew) (tb_X5_beginAnew) :=
  tkc (s_aload_n (at_ dl_X5_beginAnew 0 (ins := .aload_n 0) rfl)) (
  tkc (s_gR (at_ dl_X5_beginAnew 1 (ins := .getfield 15) rfl) (by decide) (by decide) (by decide) (tg 126 (by decide +kernel) (by decide +kernel))) (
  tkc (s_iconst (at_ dl_X5_beginAnew 2 (ins := .iconst 0) rfl) (by first | rfl | decide)) (
  tkc (s_aload_n (at_ dl_X5_beginAnew 3 (ins := .aload_n 0) rfl)) (
  tkc (s_gR (at_ dl_X5_beginAnew 4 (ins := .getfield 18) rfl) (by decide) (by decide) (by decide) (tg 128 (by decide +kernel) (by decide +kernel))) (
  tkc (s_iconst (at_ dl_X5_beginAnew 5 (ins := .iconst 0) rfl) (by first | rfl | decide)) (
  tkc (s_bipush (at_ dl_X5_beginAnew 6 (ins := .bipush 9) rfl) (by first | rfl | decide)) (
  tkc (s_ac (at_ dl_X5_beginAnew 7 (ins := .invokestatic 43) rfl) (by decide) (tg 345 (by decide +kernel) (by decide +kernel)) (by decide) (by decide)) (
  tkc (s_iconst (at_ dl_X5_beginAnew 8 (ins := .iconst 0) rfl) (by first | rfl | decide)) (
  tkc (s_istore_n (at_ dl_X5_beginAnew 9 (ins := .istore_n 1) rfl) (by decide)) (
  tkc (s_iload_n (at_ dl_X5_beginAnew 10 (ins := .iload_n 1) rfl)) (
  tkc (s_bipush (at_ dl_X5_beginAnew 11 (ins := .bipush 54) rfl) (by first | rfl | decide)) (
  tkc (s_ic_ge (at_ dl_X5_beginAnew 12 (ins := .if_icmp .ge 16) rfl) (by decide)) (
  tkc (s_aload_n (at_ dl_X5_beginAnew 13 (ins := .aload_n 0) rfl)) (
  tkc (s_gR (at_ dl_X5_beginAnew 14 (ins := .getfield 21) rfl) (by decide) (by decide) (by decide) (tg 131 (by decide +kernel) (by decide +kernel))) (
  tkc (s_iload_n (at_ dl_X5_beginAnew 15 (ins := .iload_n 1) rfl)) (
  tkc (s_iconst (at_ dl_X5_beginAnew 16 (ins := .iconst 0) rfl) (by first | rfl | decide)) (
  tkc (s_ias (at_ dl_X5_beginAnew 17 (ins := .iastore) rfl)) (
  tkc (s_iinc (at_ dl_X5_beginAnew 18 (ins := .iinc 1 1) rfl) (by decide) (by first | rfl | decide)) (
  tkc (s_goto (at_ dl_X5_beginAnew 19 (ins := .goto (-16)) rfl) (by decide)) (
  tkc (s_aload_n (at_ dl_X5_beginAnew 20 (ins := .aload_n 0) rfl)) (
  tkc (s_iconst (at_ dl_X5_beginAnew 21 (ins := .iconst 0) rfl) (by first | rfl | decide)) (
  tkc (s_pI (at_ dl_X5_beginAnew 22 (ins := .putfield 34) rfl) (by decide) (by decide) (by decide) (by decide) (tg 148 (by decide +kernel) (by decide +kernel))) (
  tkc (s_r0 (at_ dl_X5_beginAnew 23 (ins := .return_) rfl) rfl) ( tk0))))))))))))))))))))))))
theorem lf_X5_beginAnew : lk (tb_X5_beginAnew) 0 = (x_al 1 0, false) ∧ lk (tb_X5_beginAnew) 1 = (x_gR 5 1 4, false) ∧ lk (tb_X5_beginAnew) 4 = (x_c 5 (.int 0), false) ∧ lk (tb_X5_beginAnew) 5 = (x_al 6 0, false) ∧ lk (tb_X5_beginAnew) 6 = (x_gR 5 2 9, false) ∧ lk (tb_X5_beginAnew) 9 = (x_c 10 (.int 0), false) ∧ lk (tb_X5_beginAnew) 10 = (x_c 12 (.int 9), false) ∧ lk (tb_X5_beginAnew) 12 = (x_ac 15 9, false) ∧ lk (tb_X5_beginAnew) 15 = (x_c 16 (.int 0), false) ∧ lk (tb_X5_beginAnew) 16 = (x_is 17 1, false) ∧ lk (tb_X5_beginAnew) 17 = (x_il 18 1, true) ∧ lk (tb_X5_beginAnew) 18 = (x_c 20 (.int 54), false) ∧ lk (tb_X5_beginAnew) 20 = (x_ic 36 23 (fun x y : Int32 => y ≤ x), false) ∧ lk (tb_X5_beginAnew) 23 = (x_al 24 0, false) ∧ lk (tb_X5_beginAnew) 24 = (x_gR 5 3 27, false) ∧ lk (tb_X5_beginAnew) 27 = (x_il 28 1, false) ∧ lk (tb_X5_beginAnew) 28 = (x_c 29 (.int 0), false) ∧ lk (tb_X5_beginAnew) 29 = (x_ias 30, false) ∧ lk (tb_X5_beginAnew) 30 = (x_inc 33 1 1, false) ∧ lk (tb_X5_beginAnew) 33 = (x_go 17, false) ∧ lk (tb_X5_beginAnew) 36 = (x_al 37 0, false) ∧ lk (tb_X5_beginAnew) 37 = (x_c 38 (.int 0), false) ∧ lk (tb_X5_beginAnew) 38 = (x_pI 5 7 41, false) ∧ lk (tb_X5_beginAnew) 41 = (x_r0, false) := ⟨rfl, rfl, rfl, rfl, rfl, rfl, rfl, rfl, rfl, rfl, rfl, rfl, rfl, rfl, rfl, rfl, rfl, rfl, rfl, rfl, rfl, rfl, rfl, rfl⟩
def begI (I : MI) (k : Nat) : MI := mS (mS (mS I (k + 3) (cpy (I (k + 2)) (I (k + 3)) 9)) (k + 4) (zr (I (k + 4)) 54)) k (upd (I k) 7 0)
def P_X5_beginAnew : PTT := fun as M R => match as with
  | [.ref k] => IsSt M.1 k ∧ R none (M.1, begI M.2.1 k, M.2.2)
  | _ => False
theorem nI9 : (9 : Int32) = nI 9 := by decide
theorem nI54 : (54 : Int32) = nI 54 := by decide
theorem nI6 : (6 : Int32) = nI 6 := by decide
set_option maxRecDepth 20000 in
theorem ok_X5_beginAnew : Ok yX5_beginAnew mt_X5_beginAnew P_X5_beginAnew := by
  refine Ok.of (by decide) rfl rfl rfl rfl fun av ⟨S, I, L⟩ R hP => ?_
  unfold P_X5_beginAnew at hP
  split at hP
  case h_2 => exact hP.elim
  rename_i k
  obtain ⟨k, rfl⟩ : ∃ q : Nat, q = k := ⟨k, rfl⟩
  refine ⟨by simp [ent, wide, mt_X5_beginAnew], ?_⟩
  show J mt_X5_beginAnew R 0 [some (.ref k), none] [] (S, I, L)
  try dsimp only at hP
  obtain ⟨hk, hR⟩ := hP
  refine J.of tk_X5_beginAnew 200 fun ρ hρ => ?_
  simp only [hρ, x_c, x_il, x_ll, x_al, x_is, x_as, x_ls, x_inc, x_ii, x_iq, x_i1, x_l2, x_lq, x_lh, x_i2l, x_l2i, x_lcmp, x_dup, x_dup2, x_pop, x_if, x_ifn, x_ic, x_icn, x_go, x_sw, swc, x_l01, x_mx, x_gI, x_gL, x_gR, x_pI, x_pZ, x_pL, x_pR, x_ia, x_za, x_aa, x_ias, x_zas, x_aas, x_fac, x_fa, x_slen, x_sa, x_ac, x_oi, x_new, x_na, x_cS, x_cV, x_cI, x_rI, x_rZ, x_rL, x_r0, pa, short, oc, lg, lset, lset2, wide, cond_true, cond_false, true_and, and_true, ↓reduceIte, Bool.false_eq_true, true_or, or_true, lf_X5_beginAnew, hk.f, nI9, Nat.le_refl]
  have key := up (P := fun i => J mt_X5_beginAnew R 17 [some (.ref k), some (.int (nI i))] [] (S, mS (mS I (k + 3) (cpy (I (k + 2)) (I (k + 3)) 9)) (k + 4) (zr (I (k + 4)) i), L)) (n := 54) (fun i hi ih => ?_) 0 (Nat.zero_le _)
  · rw [zr_0, mS_id' (I := mS I (k + 3) (cpy (I (k + 2)) (I (k + 3)) 9)) (k := k + 4) (by simp only [mS_app, kj, if_false])] at key
    exact key
  refine J.of tk_X5_beginAnew 200 fun ρ hρ => ?_
  simp only [hρ, x_c, x_il, x_ll, x_al, x_is, x_as, x_ls, x_inc, x_ii, x_iq, x_i1, x_l2, x_lq, x_lh, x_i2l, x_l2i, x_lcmp, x_dup, x_dup2, x_pop, x_if, x_ifn, x_ic, x_icn, x_go, x_sw, swc, x_l01, x_mx, x_gI, x_gL, x_gR, x_pI, x_pZ, x_pL, x_pR, x_ia, x_za, x_aa, x_ias, x_zas, x_aas, x_fac, x_fa, x_slen, x_sa, x_ac, x_oi, x_new, x_na, x_cS, x_cV, x_cI, x_rI, x_rZ, x_rL, x_r0, pa, short, oc, lg, lset, lset2, wide, cond_true, cond_false, true_and, and_true, ↓reduceIte, Bool.false_eq_true, true_or, or_true, lf_X5_beginAnew, hk.f, nI54, nI_leI (show 54 < 2 ^ 31 by omega) (show i < 2 ^ 31 by omega), ncl (show i < 2 ^ 31 by omega), nI_1, mS_app, kj, mS_ss, zr_s]
  refine ⟨fun h => ?_, fun h => ⟨vp_in_nI (by omega) (by omega), ih (by omega)⟩⟩
  have : i = 54 := by omega
  subst this
  exact hR
def il_X5_becomeLike : List (Nat × Instr × Nat) := [(0, .aload_n 0, 1), (1, .aload_n 1, 1), (2, .getfield 24, 3), (5, .putfield 24, 3), (8, .aload_n 0, 1), (9, .aload_n 1, 1), (10, .getfield 28, 3), (13, .putfield 28, 3), (16, .aload_n 0, 1), (17, .aload_n 1, 1), (18, .getfield 31, 3), (21, .putfield 31, 3), (24, .aload_n 0, 1), (25, .aload_n 1, 1), (26, .getfield 34, 3), (29, .putfield 34, 3), (32, .aload_n 1, 1), (33, .getfield 9, 3), (36, .iconst 0, 1), (37, .aload_n 0, 1), (38, .getfield 9, 3), (41, .iconst 0, 1), (42, .bipush 6, 2), (44, .invokestatic 43, 3), (47, .aload_n 1, 1), (48, .getfield 15, 3), (51, .iconst 0, 1), (52, .aload_n 0, 1), (53, .getfield 15, 3), (56, .iconst 0, 1), (57, .bipush 9, 2), (59, .invokestatic 43, 3), (62, .aload_n 1, 1), (63, .getfield 18, 3), (66, .iconst 0, 1), (67, .aload_n 0, 1), (68, .getfield 18, 3), (71, .iconst 0, 1), (72, .bipush 9, 2), (74, .invokestatic 43, 3), (77, .aload_n 1, 1), (78, .getfield 21, 3), (81, .iconst 0, 1), (82, .aload_n 0, 1), (83, .getfield 21, 3), (86, .iconst 0, 1), (87, .bipush 54, 2), (89, .invokestatic 43, 3), (92, .return_, 1)]
def mt_X5_becomeLike : Mt := (cX5_becomeLike, RX5, 2, none, ({ frames := 1, cells := 0, slots := 0, locals := 18 } : Room), false, none, none)
set_option maxRecDepth 100000 in
theorem dl_X5_becomeLike : ∀ q ∈ il_X5_becomeLike, decode (mt_X5_becomeLike).1 q.1 = .ok q.2 := by decide +kernel
def tb_X5_becomeLike : Tb := [(0, x_al 1 0, false),
  (1, x_al 2 1, false),
  (2, x_gI 5 4 5, false),
  (5, x_pI 5 4 8, false),
  (8, x_al 9 0, false),
  (9, x_al 10 1, false),
  (10, x_gI 5 5 13, false),
  (13, x_pI 5 5 16, false),
  (16, x_al 17 0, false),
  (17, x_al 18 1, false),
  (18, x_gI 5 6 21, false),
  (21, x_pI 5 6 24, false),
  (24, x_al 25 0, false),
  (25, x_al 26 1, false),
  (26, x_gI 5 7 29, false),
  (29, x_pI 5 7 32, false),
  (32, x_al 33 1, false),
  (33, x_gR 5 0 36, false),
  (36, x_c 37 (.int 0), false),
  (37, x_al 38 0, false),
  (38, x_gR 5 0 41, false),
  (41, x_c 42 (.int 0), false),
  (42, x_c 44 (.int 6), false),
  (44, x_ac 47 6, false),
  (47, x_al 48 1, false),
  (48, x_gR 5 1 51, false),
  (51, x_c 52 (.int 0), false),
  (52, x_al 53 0, false),
  (53, x_gR 5 1 56, false),
  (56, x_c 57 (.int 0), false),
  (57, x_c 59 (.int 9), false),
  (59, x_ac 62 9, false),
  (62, x_al 63 1, false),
  (63, x_gR 5 2 66, false),
  (66, x_c 67 (.int 0), false),
  (67, x_al 68 0, false),
  (68, x_gR 5 2 71, false),
  (71, x_c 72 (.int 0), false),
  (72, x_c 74 (.int 9), false),
  (74, x_ac 77 9, false),
  (77, x_al 78 1, false),
  (78, x_gR 5 3 81, false),
  (81, x_c 82 (.int 0), false),
  (82, x_al 83 0, false),
  (83, x_gR 5 3 86, false),
  (86, x_c 87 (.int 0), false),
  (87, x_c 89 (.int 54), false),
  (89, x_ac 92 54, false),
  (92, x_r0, false)]
set_option maxRecDepth 100000 in
theorem tk_X5_becomeLike : TbOk (mt_X5_becomeLike) (tb_X5_becomeLike) :=
  tkc (s_aload_n (at_ dl_X5_becomeLike 0 (ins := .aload_n 0) rfl)) (
  tkc (s_aload_n (at_ dl_X5_becomeLike 1 (ins := .aload_n 1) rfl)) (
  tkc (s_gI (at_ dl_X5_becomeLike 2 (ins := .getfield 24) rfl) (by decide) (by decide) (by decide) (tg 134 (by decide +kernel) (by decide +kernel))) (
  tkc (s_pI (at_ dl_X5_becomeLike 3 (ins := .putfield 24) rfl) (by decide) (by decide) (by decide) (by decide) (tg 134 (by decide +kernel) (by decide +kernel))) (
  tkc (s_aload_n (at_ dl_X5_becomeLike 4 (ins := .aload_n 0) rfl)) (
  tkc (s_aload_n (at_ dl_X5_becomeLike 5 (ins := .aload_n 1) rfl)) (
  tkc (s_gI (at_ dl_X5_becomeLike 6 (ins := .getfield 28) rfl) (by decide) (by decide) (by decide) (tg 139 (by decide +kernel) (by decide +kernel))) (
  tkc (s_pI (at_ dl_X5_becomeLike 7 (ins := .putfield 28) rfl) (by decide) (by decide) (by decide) (by decide) (tg 139 (by decide +kernel) (by decide +kernel))) (
  tkc (s_aload_n (at_ dl_X5_becomeLike 8 (ins := .aload_n 0) rfl)) (
  tkc (s_aload_n (at_ dl_X5_becomeLike 9 (ins := .aload_n 1) rfl)) (
  tkc (s_gI (at_ dl_X5_becomeLike 10 (ins := .getfield 31) rfl) (by decide) (by decide) (by decide) (tg 144 (by decide +kernel) (by decide +kernel))) (
  tkc (s_pI (at_ dl_X5_becomeLike 11 (ins := .putfield 31) rfl) (by decide) (by decide) (by decide) (by decide) (tg 144 (by decide +kernel) (by decide +kernel))) (
  tkc (s_aload_n (at_ dl_X5_becomeLike 12 (ins := .aload_n 0) rfl)) (
  tkc (s_aload_n (at_ dl_X5_becomeLike 13 (ins := .aload_n 1) rfl)) (
  tkc (s_gI (at_ dl_X5_becomeLike 14 (ins := .getfield 34) rfl) (by decide) (by decide) (by decide) (tg 148 (by decide +kernel) (by decide +kernel))) (
  tkc (s_pI (at_ dl_X5_becomeLike 15 (ins := .putfield 34) rfl) (by decide) (by decide) (by decide) (by decide) (tg 148 (by decide +kernel) (by decide +kernel))) (
  tkc (s_aload_n (at_ dl_X5_becomeLike 16 (ins := .aload_n 1) rfl)) (
  tkc (s_gR (at_ dl_X5_becomeLike 17 (ins := .getfield 9) rfl) (by decide) (by decide) (by decide) (tg 121 (by decide +kernel) (by decide +kernel))) (
  tkc (s_iconst (at_ dl_X5_becomeLike 18 (ins := .iconst 0) rfl) (by first | rfl | decide)) (
  tkc (s_aload_n (at_ dl_X5_becomeLike 19 (ins := .aload_n 0) rfl)) (
  tkc (s_gR (at_ dl_X5_becomeLike 20 (ins := .getfield 9) rfl) (by decide) (by decide) (by decide) (tg 121 (by decide +kernel) (by decide +kernel))) (
  tkc (s_iconst (at_ dl_X5_becomeLike 21 (ins := .iconst 0) rfl) (by first | rfl | decide)) (
  tkc (s_bipush (at_ dl_X5_becomeLike 22 (ins := .bipush 6) rfl) (by first | rfl | decide)) (
  tkc (s_ac (at_ dl_X5_becomeLike 23 (ins := .invokestatic 43) rfl) (by decide) (tg 345 (by decide +kernel) (by decide +kernel)) (by decide) (by decide)) (
  tkc (s_aload_n (at_ dl_X5_becomeLike 24 (ins := .aload_n 1) rfl)) (
  tkc (s_gR (at_ dl_X5_becomeLike 25 (ins := .getfield 15) rfl) (by decide) (by decide) (by decide) (tg 126 (by decide +kernel) (by decide +kernel))) (
  tkc (s_iconst (at_ dl_X5_becomeLike 26 (ins := .iconst 0) rfl) (by first | rfl | decide)) (
  tkc (s_aload_n (at_ dl_X5_becomeLike 27 (ins := .aload_n 0) rfl)) (
  tkc (s_gR (at_ dl_X5_becomeLike 28 (ins := .getfield 15) rfl) (by decide) (by decide) (by decide) (tg 126 (by decide +kernel) (by decide +kernel))) (
  tkc (s_iconst (at_ dl_X5_becomeLike 29 (ins := .iconst 0) rfl) (by first | rfl | decide)) (
  tkc (s_bipush (at_ dl_X5_becomeLike 30 (ins := .bipush 9) rfl) (by first | rfl | decide)) (
  tkc (s_ac (at_ dl_X5_becomeLike 31 (ins := .invokestatic 43) rfl) (by decide) (tg 345 (by decide +kernel) (by decide +kernel)) (by decide) (by decide)) (
  tkc (s_aload_n (at_ dl_X5_becomeLike 32 (ins := .aload_n 1) rfl)) (
  tkc (s_gR (at_ dl_X5_becomeLike 33 (ins := .getfield 18) rfl) (by decide) (by decide) (by decide) (tg 128 (by decide +kernel) (by decide +kernel))) (
  tkc (s_iconst (at_ dl_X5_becomeLike 34 (ins := .iconst 0) rfl) (by first | rfl | decide)) (
  tkc (s_aload_n (at_ dl_X5_becomeLike 35 (ins := .aload_n 0) rfl)) (
  tkc (s_gR (at_ dl_X5_becomeLike 36 (ins := .getfield 18) rfl) (by decide) (by decide) (by decide) (tg 128 (by decide +kernel) (by decide +kernel))) (
  tkc (s_iconst (at_ dl_X5_becomeLike 37 (ins := .iconst 0) rfl) (by first | rfl | decide)) (
  tkc (s_bipush (at_ dl_X5_becomeLike 38 (ins := .bipush 9) rfl) (by first | rfl | decide)) (
  tkc (s_ac (at_ dl_X5_becomeLike 39 (ins := .invokestatic 43) rfl) (by decide) (tg 345 (by decide +kernel) (by decide +kernel)) (by decide) (by decide)) (
  tkc (s_aload_n (at_ dl_X5_becomeLike 40 (ins := .aload_n 1) rfl)) (
  tkc (s_gR (at_ dl_X5_becomeLike 41 (ins := .getfield 21) rfl) (by decide) (by decide) (by decide) (tg 131 (by decide +kernel) (by decide +kernel))) (
  tkc (s_iconst (at_ dl_X5_becomeLike 42 (ins := .iconst 0) rfl) (by first | rfl | decide)) (
  tkc (s_aload_n (at_ dl_X5_becomeLike 43 (ins := .aload_n 0) rfl)) (
  tkc (s_gR (at_ dl_X5_becomeLike 44 (ins := .getfield 21) rfl) (by decide) (by decide) (by decide) (tg 131 (by decide +kernel) (by decide +kernel))) (
  tkc (s_iconst (at_ dl_X5_becomeLike 45 (ins := .iconst 0) rfl) (by first | rfl | decide)) (
  tkc (s_bipush (at_ dl_X5_becomeLike 46 (ins := .bipush 54) rfl) (by first | rfl | decide)) (
  tkc (s_ac (at_ dl_X5_becomeLike 47 (ins := .invokestatic 43) rfl) (by decide) (tg 345 (by decide +kernel) (by decide +kernel)) (by decide) (by decide)) (
  tkc (s_r0 (at_ dl_X5_becomeLike 48 (ins := .return_) rfl) rfl) ( tk0)))))))))))))))))))))))))))))))))))))))))))))))))
theorem lf_X5_becomeLike : lk (tb_X5_becomeLike) 0 = (x_al 1 0, false) ∧ lk (tb_X5_becomeLike) 1 = (x_al 2 1, false) ∧ lk (tb_X5_becomeLike) 2 = (x_gI 5 4 5, false) ∧ lk (tb_X5_becomeLike) 5 = (x_pI 5 4 8, false) ∧ lk (tb_X5_becomeLike) 8 = (x_al 9 0, false) ∧ lk (tb_X5_becomeLike) 9 = (x_al 10 1, false) ∧ lk (tb_X5_becomeLike) 10 = (x_gI 5 5 13, false) ∧ lk (tb_X5_becomeLike) 13 = (x_pI 5 5 16, false) ∧ lk (tb_X5_becomeLike) 16 = (x_al 17 0, false) ∧ lk (tb_X5_becomeLike) 17 = (x_al 18 1, false) ∧ lk (tb_X5_becomeLike) 18 = (x_gI 5 6 21, false) ∧ lk (tb_X5_becomeLike) 21 = (x_pI 5 6 24, false) ∧ lk (tb_X5_becomeLike) 24 = (x_al 25 0, false) ∧ lk (tb_X5_becomeLike) 25 = (x_al 26 1, false) ∧ lk (tb_X5_becomeLike) 26 = (x_gI 5 7 29, false) ∧ lk (tb_X5_becomeLike) 29 = (x_pI 5 7 32, false) ∧ lk (tb_X5_becomeLike) 32 = (x_al 33 1, false) ∧ lk (tb_X5_becomeLike) 33 = (x_gR 5 0 36, false) ∧ lk (tb_X5_becomeLike) 36 = (x_c 37 (.int 0), false) ∧ lk (tb_X5_becomeLike) 37 = (x_al 38 0, false) ∧ lk (tb_X5_becomeLike) 38 = (x_gR 5 0 41, false) ∧ lk (tb_X5_becomeLike) 41 = (x_c 42 (.int 0), false) ∧ lk (tb_X5_becomeLike) 42 = (x_c 44 (.int 6), false) ∧ lk (tb_X5_becomeLike) 44 = (x_ac 47 6, false) ∧ lk (tb_X5_becomeLike) 47 = (x_al 48 1, false) ∧ lk (tb_X5_becomeLike) 48 = (x_gR 5 1 51, false) ∧ lk (tb_X5_becomeLike) 51 = (x_c 52 (.int 0), false) ∧ lk (tb_X5_becomeLike) 52 = (x_al 53 0, false) ∧ lk (tb_X5_becomeLike) 53 = (x_gR 5 1 56, false) ∧ lk (tb_X5_becomeLike) 56 = (x_c 57 (.int 0), false) ∧ lk (tb_X5_becomeLike) 57 = (x_c 59 (.int 9), false) ∧ lk (tb_X5_becomeLike) 59 = (x_ac 62 9, false) ∧ lk (tb_X5_becomeLike) 62 = (x_al 63 1, false) ∧ lk (tb_X5_becomeLike) 63 = (x_gR 5 2 66, false) ∧ lk (tb_X5_becomeLike) 66 = (x_c 67 (.int 0), false) ∧ lk (tb_X5_becomeLike) 67 = (x_al 68 0, false) ∧ lk (tb_X5_becomeLike) 68 = (x_gR 5 2 71, false) ∧ lk (tb_X5_becomeLike) 71 = (x_c 72 (.int 0), false) ∧ lk (tb_X5_becomeLike) 72 = (x_c 74 (.int 9), false) ∧ lk (tb_X5_becomeLike) 74 = (x_ac 77 9, false) ∧ lk (tb_X5_becomeLike) 77 = (x_al 78 1, false) ∧ lk (tb_X5_becomeLike) 78 = (x_gR 5 3 81, false) ∧ lk (tb_X5_becomeLike) 81 = (x_c 82 (.int 0), false) ∧ lk (tb_X5_becomeLike) 82 = (x_al 83 0, false) ∧ lk (tb_X5_becomeLike) 83 = (x_gR 5 3 86, false) ∧ lk (tb_X5_becomeLike) 86 = (x_c 87 (.int 0), false) ∧ lk (tb_X5_becomeLike) 87 = (x_c 89 (.int 54), false) ∧ lk (tb_X5_becomeLike) 89 = (x_ac 92 54, false) ∧ lk (tb_X5_becomeLike) 92 = (x_r0, false) := ⟨rfl, rfl, rfl, rfl, rfl, rfl, rfl, rfl, rfl, rfl, rfl, rfl, rfl, rfl, rfl, rfl, rfl, rfl, rfl, rfl, rfl, rfl, rfl, rfl, rfl, rfl, rfl, rfl, rfl, rfl, rfl, rfl, rfl, rfl, rfl, rfl, rfl, rfl, rfl, rfl, rfl, rfl, rfl, rfl, rfl, rfl, rfl, rfl, rfl⟩
def cpI (I : MI) (k o : Nat) : MI := mS (mS (mS (mS (mS I k (upd (upd (upd (upd (I k) 4 (I o 4)) 5 (I o 5)) 6 (I o 6)) 7 (I o 7))) (k + 1) (cpy (I (o + 1)) (I (k + 1)) 6)) (k + 2) (cpy (I (o + 2)) (I (k + 2)) 9)) (k + 3) (cpy (I (o + 3)) (I (k + 3)) 9)) (k + 4) (cpy (I (o + 4)) (I (k + 4)) 54)
def P_X5_becomeLike : PTT := fun as M R => match as with
  | [.ref k, .ref o] => IsSt M.1 k ∧ IsSt M.1 o ∧ apart5 k o ∧ R none (M.1, cpI M.2.1 k o, M.2.2)
  | _ => False
set_option maxRecDepth 20000 in
theorem ok_X5_becomeLike : Ok yX5_becomeLike mt_X5_becomeLike P_X5_becomeLike := by
  refine Ok.of (by decide) rfl rfl rfl rfl fun av ⟨S, I, L⟩ R hP => ?_
  unfold P_X5_becomeLike at hP
  split at hP
  case h_2 => exact hP.elim
  rename_i k o
  obtain ⟨k, rfl⟩ : ∃ q : Nat, q = k := ⟨k, rfl⟩
  obtain ⟨o, rfl⟩ : ∃ q : Nat, q = o := ⟨o, rfl⟩
  refine ⟨by simp [ent, wide, mt_X5_becomeLike], ?_⟩
  show J mt_X5_becomeLike R 0 [some (.ref k), some (.ref o)] [] (S, I, L)
  try dsimp only at hP
  obtain ⟨hk, ho, hd, hR⟩ := hP
  refine J.of tk_X5_becomeLike 200 fun ρ hρ => ?_
  simp only [hρ, x_c, x_il, x_ll, x_al, x_is, x_as, x_ls, x_inc, x_ii, x_iq, x_i1, x_l2, x_lq, x_lh, x_i2l, x_l2i, x_lcmp, x_dup, x_dup2, x_pop, x_if, x_ifn, x_ic, x_icn, x_go, x_sw, swc, x_l01, x_mx, x_gI, x_gL, x_gR, x_pI, x_pZ, x_pL, x_pR, x_ia, x_za, x_aa, x_ias, x_zas, x_aas, x_fac, x_fa, x_slen, x_sa, x_ac, x_oi, x_new, x_na, x_cS, x_cV, x_cI, x_rI, x_rZ, x_rL, x_r0, pa, short, oc, lg, lset, lset2, wide, cond_true, cond_false, true_and, and_true, ↓reduceIte, Bool.false_eq_true, true_or, or_true, lf_X5_becomeLike, hk.f, ho.f, nI9, nI6, nI54, Nat.le_refl, mS_app, kj, oj hd, mS_ss]
  exact hR
def ahead2 (r k : Nat) : Prop := r + 2 ≤ k
/-- READING: two places from r on -/
def IsRd (S : Sh) (r : Nat) : Prop := tO S r 3 ∧ sR S r 0 = r + 1 ∧ tA S (r + 1) 1 ∧ ln S (r + 1) = 6
theorem IsRd.f {S : Sh} {r : Nat} (h : IsRd S r) : tO S r 3 ∧ sR S r 0 = r + 1 ∧ tA S (r + 1) 1 ∧ ln S (r + 1) = 6 := h
theorem rj {k r : Nat} (h : r + 2 ≤ k) : ((r = k) = False) ∧ ((r = k + 1) = False) ∧ ((r = k + 2) = False) ∧ ((r = k + 3) = False) ∧ ((r = k + 4) = False) ∧ ((r + 1 = k) = False) ∧ ((r + 1 = k + 1) = False) ∧ ((r + 1 = k + 2) = False) ∧ ((r + 1 = k + 3) = False) ∧ ((r + 1 = k + 4) = False) := by
  refine ⟨?_, ?_, ?_, ?_, ?_, ?_, ?_, ?_, ?_, ?_⟩ <;> exact eq_false (by omega)
def il_X5_becomeCode : List (Nat × Instr × Nat) := [(0, .aload_n 0, 1), (1, .aload_n 1, 1), (2, .getfield 37, 3), (5, .putfield 24, 3), (8, .aload_n 0, 1), (9, .aload_n 1, 1), (10, .getfield 40, 3), (13, .putfield 28, 3), (16, .aload_n 0, 1), (17, .aload_n 1, 1), (18, .getfield 41, 3), (21, .putfield 31, 3), (24, .aload_n 1, 1), (25, .getfield 42, 3), (28, .iconst 0, 1), (29, .aload_n 0, 1), (30, .getfield 9, 3), (33, .iconst 0, 1), (34, .bipush 6, 2), (36, .invokestatic 43, 3), (39, .iconst 0, 1), (40, .istore_n 2, 1), (41, .iload_n 2, 1), (42, .bipush 9, 2), (44, .if_icmp .ge 16, 3), (47, .aload_n 0, 1), (48, .getfield 15, 3), (51, .iload_n 2, 1), (52, .iconst 0, 1), (53, .iastore, 1), (54, .iinc 2 1, 3), (57, .goto (-16), 3), (60, .aload_n 0, 1), (61, .invokevirtual 49, 3), (64, .return_, 1)]
def mt_X5_becomeCode : Mt := (cX5_becomeCode, RX5, 3, none, ({ frames := 2, cells := 0, slots := 0, locals := 39 } : Room), false, none, none)
set_option maxRecDepth 100000 in
theorem dl_X5_becomeCode : ∀ q ∈ il_X5_becomeCode, decode (mt_X5_becomeCode).1 q.1 = .ok q.2 := by decide +kernel
def tb_X5_becomeCode : Tb := [(0, x_al 1 0, false),
  (1, x_al 2 1, false),
  (2, x_gI 3 2 5, false),
  (5, x_pI 5 4 8, false),
  (8, x_al 9 0, false),
  (9, x_al 10 1, false),
  (10, x_gI 3 4 13, false),
  (13, x_pI 5 5 16, false),
  (16, x_al 17 0, false),
  (17, x_al 18 1, false),
  (18, x_gI 3 3 21, false),
  (21, x_pI 5 6 24, false),
  (24, x_al 25 1, false),
  (25, x_gR 3 0 28, false),
  (28, x_c 29 (.int 0), false),
  (29, x_al 30 0, false),
  (30, x_gR 5 0 33, false),
  (33, x_c 34 (.int 0), false),
  (34, x_c 36 (.int 6), false),
  (36, x_ac 39 6, false),
  (39, x_c 40 (.int 0), false),
  (40, x_is 41 2, false),
  (41, x_il 42 2, true),
  (42, x_c 44 (.int 9), false),
  (44, x_ic 60 47 (fun x y : Int32 => y ≤ x), false),
  (47, x_al 48 0, false),
  (48, x_gR 5 1 51, false),
  (51, x_il 52 2, false),
  (52, x_c 53 (.int 0), false),
  (53, x_ias 54, false),
  (54, x_inc 57 2 1, false),
  (57, x_go 41, false),
  (60, x_al 61 0, false),
  (61, x_cV 5 0 P_X5_beginAnew 64, false),
  (64, x_r0, false)]
set_option maxRecDepth 100000 in
theorem tk_X5_becomeCode : TbOk (mt_X5_becomeCode) (tb_X5_becomeCode) :=
  tkc (s_aload_n (at_ dl_X5_becomeCode 0 (ins := .aload_n 0) rfl)) (
  tkc (s_aload_n (at_ dl_X5_becomeCode 1 (ins := .aload_n 1) rfl)) (
  tkc (s_gI (at_ dl_X5_becomeCode 2 (ins := .getfield 37) rfl) (by decide) (by decide) (by decide) (tg 79 (by decide +kernel) (by decide +kernel))) (
  tkc (s_pI (at_ dl_X5_becomeCode 3 (ins := .putfield 24) rfl) (by decide) (by decide) (by decide) (by decide) (tg 134 (by decide +kernel) (by decide +kernel))) (
  tkc (s_aload_n (at_ dl_X5_becomeCode 4 (ins := .aload_n 0) rfl)) (
  tkc (s_aload_n (at_ dl_X5_becomeCode 5 (ins := .aload_n 1) rfl)) (
  tkc (s_gI (at_ dl_X5_becomeCode 6 (ins := .getfield 40) rfl) (by decide) (by decide) (by decide) (tg 83 (by decide +kernel) (by decide +kernel))) (
  tkc (s_pI (at_ dl_X5_becomeCode 7 (ins := .putfield 28) rfl) (by decide) (by decide) (by decide) (by decide) (tg 139 (by decide +kernel) (by decide +kernel))) (
  tkc (s_aload_n (at_ dl_X5_becomeCode 8 (ins := .aload_n 0) rfl)) (
  tkc (s_aload_n (at_ dl_X5_becomeCode 9 (ins := .aload_n 1) rfl)) (
  tkc (s_gI (at_ dl_X5_becomeCode 10 (ins := .getfield 41) rfl) (by decide) (by decide) (by decide) (tg 82 (by decide +kernel) (by decide +kernel))) (
  tkc (s_pI (at_ dl_X5_becomeCode 11 (ins := .putfield 31) rfl) (by decide) (by decide) (by decide) (by decide) (tg 144 (by decide +kernel) (by decide +kernel))) (
  tkc (s_aload_n (at_ dl_X5_becomeCode 12 (ins := .aload_n 1) rfl)) (
  tkc (s_gR (at_ dl_X5_becomeCode 13 (ins := .getfield 42) rfl) (by decide) (by decide) (by decide) (tg 77 (by decide +kernel) (by decide +kernel))) (
  tkc (s_iconst (at_ dl_X5_becomeCode 14 (ins := .iconst 0) rfl) (by first | rfl | decide)) (
  tkc (s_aload_n (at_ dl_X5_becomeCode 15 (ins := .aload_n 0) rfl)) (
  tkc (s_gR (at_ dl_X5_becomeCode 16 (ins := .getfield 9) rfl) (by decide) (by decide) (by decide) (tg 121 (by decide +kernel) (by decide +kernel))) (
  tkc (s_iconst (at_ dl_X5_becomeCode 17 (ins := .iconst 0) rfl) (by first | rfl | decide)) (
  tkc (s_bipush (at_ dl_X5_becomeCode 18 (ins := .bipush 6) rfl) (by first | rfl | decide)) (
  tkc (s_ac (at_ dl_X5_becomeCode 19 (ins := .invokestatic 43) rfl) (by decide) (tg 345 (by decide +kernel) (by decide +kernel)) (by decide) (by decide)) (
  tkc (s_iconst (at_ dl_X5_becomeCode 20 (ins := .iconst 0) rfl) (by first | rfl | decide)) (
  tkc (s_istore_n (at_ dl_X5_becomeCode 21 (ins := .istore_n 2) rfl) (by decide)) (
  tkc (s_iload_n (at_ dl_X5_becomeCode 22 (ins := .iload_n 2) rfl)) (
  tkc (s_bipush (at_ dl_X5_becomeCode 23 (ins := .bipush 9) rfl) (by first | rfl | decide)) (
  tkc (s_ic_ge (at_ dl_X5_becomeCode 24 (ins := .if_icmp .ge 16) rfl) (by decide)) (
  tkc (s_aload_n (at_ dl_X5_becomeCode 25 (ins := .aload_n 0) rfl)) (
  tkc (s_gR (at_ dl_X5_becomeCode 26 (ins := .getfield 15) rfl) (by decide) (by decide) (by decide) (tg 126 (by decide +kernel) (by decide +kernel))) (
  tkc (s_iload_n (at_ dl_X5_becomeCode 27 (ins := .iload_n 2) rfl)) (
  tkc (s_iconst (at_ dl_X5_becomeCode 28 (ins := .iconst 0) rfl) (by first | rfl | decide)) (
  tkc (s_ias (at_ dl_X5_becomeCode 29 (ins := .iastore) rfl)) (
  tkc (s_iinc (at_ dl_X5_becomeCode 30 (ins := .iinc 2 1) rfl) (by decide) (by first | rfl | decide)) (
  tkc (s_goto (at_ dl_X5_becomeCode 31 (ins := .goto (-16)) rfl) (by decide)) (
  tkc (s_aload_n (at_ dl_X5_becomeCode 32 (ins := .aload_n 0) rfl)) (
  tkc (s_cV ok_X5_beginAnew (at_ dl_X5_becomeCode 33 (ins := .invokevirtual 49) rfl) (by decide) rfl (tg 348 (by decide +kernel) (by decide +kernel)) (tg 349 (by decide +kernel) (by decide +kernel)) (tg 350 (by decide +kernel) (by decide +kernel)) (tg 45 (by decide +kernel) (by decide +kernel)) (tg 351 (by decide +kernel) (by decide +kernel)) (⟨by decide, by decide, by decide +kernel⟩) (⟨by decide, by decide⟩) rfl rfl) (
  tkc (s_r0 (at_ dl_X5_becomeCode 34 (ins := .return_) rfl) rfl) ( tk0)))))))))))))))))))))))))))))))))))
theorem lf_X5_becomeCode : lk (tb_X5_becomeCode) 0 = (x_al 1 0, false) ∧ lk (tb_X5_becomeCode) 1 = (x_al 2 1, false) ∧ lk (tb_X5_becomeCode) 2 = (x_gI 3 2 5, false) ∧ lk (tb_X5_becomeCode) 5 = (x_pI 5 4 8, false) ∧ lk (tb_X5_becomeCode) 8 = (x_al 9 0, false) ∧ lk (tb_X5_becomeCode) 9 = (x_al 10 1, false) ∧ lk (tb_X5_becomeCode) 10 = (x_gI 3 4 13, false) ∧ lk (tb_X5_becomeCode) 13 = (x_pI 5 5 16, false) ∧ lk (tb_X5_becomeCode) 16 = (x_al 17 0, false) ∧ lk (tb_X5_becomeCode) 17 = (x_al 18 1, false) ∧ lk (tb_X5_becomeCode) 18 = (x_gI 3 3 21, false) ∧ lk (tb_X5_becomeCode) 21 = (x_pI 5 6 24, false) ∧ lk (tb_X5_becomeCode) 24 = (x_al 25 1, false) ∧ lk (tb_X5_becomeCode) 25 = (x_gR 3 0 28, false) ∧ lk (tb_X5_becomeCode) 28 = (x_c 29 (.int 0), false) ∧ lk (tb_X5_becomeCode) 29 = (x_al 30 0, false) ∧ lk (tb_X5_becomeCode) 30 = (x_gR 5 0 33, false) ∧ lk (tb_X5_becomeCode) 33 = (x_c 34 (.int 0), false) ∧ lk (tb_X5_becomeCode) 34 = (x_c 36 (.int 6), false) ∧ lk (tb_X5_becomeCode) 36 = (x_ac 39 6, false) ∧ lk (tb_X5_becomeCode) 39 = (x_c 40 (.int 0), false) ∧ lk (tb_X5_becomeCode) 40 = (x_is 41 2, false) ∧ lk (tb_X5_becomeCode) 41 = (x_il 42 2, true) ∧ lk (tb_X5_becomeCode) 42 = (x_c 44 (.int 9), false) ∧ lk (tb_X5_becomeCode) 44 = (x_ic 60 47 (fun x y : Int32 => y ≤ x), false) ∧ lk (tb_X5_becomeCode) 47 = (x_al 48 0, false) ∧ lk (tb_X5_becomeCode) 48 = (x_gR 5 1 51, false) ∧ lk (tb_X5_becomeCode) 51 = (x_il 52 2, false) ∧ lk (tb_X5_becomeCode) 52 = (x_c 53 (.int 0), false) ∧ lk (tb_X5_becomeCode) 53 = (x_ias 54, false) ∧ lk (tb_X5_becomeCode) 54 = (x_inc 57 2 1, false) ∧ lk (tb_X5_becomeCode) 57 = (x_go 41, false) ∧ lk (tb_X5_becomeCode) 60 = (x_al 61 0, false) ∧ lk (tb_X5_becomeCode) 61 = (x_cV 5 0 P_X5_beginAnew 64, false) ∧ lk (tb_X5_becomeCode) 64 = (x_r0, false) := ⟨rfl, rfl, rfl, rfl, rfl, rfl, rfl, rfl, rfl, rfl, rfl, rfl, rfl, rfl, rfl, rfl, rfl, rfl, rfl, rfl, rfl, rfl, rfl, rfl, rfl, rfl, rfl, rfl, rfl, rfl, rfl, rfl, rfl, rfl, rfl⟩
def cd1 (I : MI) (k r : Nat) : MI := mS (mS I k (upd (upd (upd (I k) 4 (I r 2)) 5 (I r 4)) 6 (I r 3))) (k + 1) (cpy (I (r + 1)) (I (k + 1)) 6)
def cdI (I : MI) (k r : Nat) : MI := begI (mS (cd1 I k r) (k + 2) (zr (I (k + 2)) 9)) k
def P_X5_becomeCode : PTT := fun as M R => match as with
  | [.ref k, .ref r] => IsSt M.1 k ∧ IsRd M.1 r ∧ ahead2 r k ∧ R none (M.1, cdI M.2.1 k r, M.2.2)
  | _ => False
set_option maxRecDepth 20000 in
theorem ok_X5_becomeCode : Ok yX5_becomeCode mt_X5_becomeCode P_X5_becomeCode := by
  refine Ok.of (by decide) rfl rfl rfl rfl fun av ⟨S, I, L⟩ R hP => ?_
  unfold P_X5_becomeCode at hP
  split at hP
  case h_2 => exact hP.elim
  rename_i k r
  obtain ⟨k, rfl⟩ : ∃ q : Nat, q = k := ⟨k, rfl⟩
  obtain ⟨r, rfl⟩ : ∃ q : Nat, q = r := ⟨r, rfl⟩
  refine ⟨by simp [ent, wide, mt_X5_becomeCode], ?_⟩
  show J mt_X5_becomeCode R 0 [some (.ref k), some (.ref r), none] [] (S, I, L)
  try dsimp only at hP
  obtain ⟨hk, hr, hd, hR⟩ := hP
  refine J.of tk_X5_becomeCode 200 fun ρ hρ => ?_
  simp only [hρ, x_c, x_il, x_ll, x_al, x_is, x_as, x_ls, x_inc, x_ii, x_iq, x_i1, x_l2, x_lq, x_lh, x_i2l, x_l2i, x_lcmp, x_dup, x_dup2, x_pop, x_if, x_ifn, x_ic, x_icn, x_go, x_sw, swc, x_l01, x_mx, x_gI, x_gL, x_gR, x_pI, x_pZ, x_pL, x_pR, x_ia, x_za, x_aa, x_ias, x_zas, x_aas, x_fac, x_fa, x_slen, x_sa, x_ac, x_oi, x_new, x_na, x_cS, x_cV, x_cI, x_rI, x_rZ, x_rL, x_r0, pa, short, oc, lg, lset, lset2, wide, cond_true, cond_false, true_and, and_true, ↓reduceIte, Bool.false_eq_true, true_or, or_true, lf_X5_becomeCode, hk.f, hr.f, nI9, nI6, Nat.le_refl, mS_app, kj, rj hd, mS_ss]
  have key := up (P := fun i => J mt_X5_becomeCode R 41 [some (.ref k), some (.ref r), some (.int (nI i))] [] (S, mS (cd1 I k r) (k + 2) (zr (I (k + 2)) i), L)) (n := 9) (fun i hi ih => ?_) 0 (Nat.zero_le _)
  · rw [zr_0, mS_id' (I := cd1 I k r) (k := k + 2) (by simp only [cd1, mS_app, kj, if_false])] at key
    exact key
  refine J.of tk_X5_becomeCode 200 fun ρ hρ => ?_
  simp only [hρ, x_c, x_il, x_ll, x_al, x_is, x_as, x_ls, x_inc, x_ii, x_iq, x_i1, x_l2, x_lq, x_lh, x_i2l, x_l2i, x_lcmp, x_dup, x_dup2, x_pop, x_if, x_ifn, x_ic, x_icn, x_go, x_sw, swc, x_l01, x_mx, x_gI, x_gL, x_gR, x_pI, x_pZ, x_pL, x_pR, x_ia, x_za, x_aa, x_ias, x_zas, x_aas, x_fac, x_fa, x_slen, x_sa, x_ac, x_oi, x_new, x_na, x_cS, x_cV, x_cI, x_rI, x_rZ, x_rL, x_r0, pa, short, oc, lg, lset, lset2, wide, cond_true, cond_false, true_and, and_true, ↓reduceIte, Bool.false_eq_true, true_or, or_true, lf_X5_becomeCode, hk, hk.f, nI9, nI_leI (show 9 < 2 ^ 31 by omega) (show i < 2 ^ 31 by omega), ncl (show i < 2 ^ 31 by omega), nI_1, mS_s, mS_ss, zr_s, P_X5_beginAnew]
  refine ⟨fun h => ?_, fun h => ⟨vp_in_nI (by omega) (by omega), ih (by omega)⟩⟩
  have : i = 9 := by omega
  subst this
  exact hR
