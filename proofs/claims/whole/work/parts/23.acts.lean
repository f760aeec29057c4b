/-! ACTS, at 21 (array 22, states from 23 on) -/
def IsAc (S : Sh) : Prop := tO S 21 0 ∧ sR S 21 0 = 22 ∧ tA S 22 3 ∧ ln S 22 = 14 ∧ ∀ i, i < 14 → sR S 22 i = 23 + 5 * i ∧ IsSt S (23 + 5 * i)
theorem IsAc.f {S : Sh} (h : IsAc S) : tO S 21 0 ∧ sR S 21 0 = 22 ∧ tA S 22 3 ∧ ln S 22 = 14 := ⟨h.1, h.2.1, h.2.2.1, h.2.2.2.1⟩
/-- state k of I' holds what state o of I holds -/
def StCp (I' : MI) (k : Nat) (I : MI) (o : Nat) : Prop := (I' k 4 = I o 4 ∧ I' k 5 = I o 5 ∧ I' k 6 = I o 6 ∧ I' k 7 = I o 7) ∧ (∀ j, j < 6 → I' (k + 1) j = I (o + 1) j) ∧ (∀ j, j < 9 → I' (k + 2) j = I (o + 2) j) ∧ (∀ j, j < 9 → I' (k + 3) j = I (o + 3) j) ∧ (∀ j, j < 54 → I' (k + 4) j = I (o + 4) j)
theorem cpI_cp (I : MI) (k o : Nat) : StCp (cpI I k o) k I o := by
  have e0 : cpI I k o k = upd (upd (upd (upd (I k) 4 (I o 4)) 5 (I o 5)) 6 (I o 6)) 7 (I o 7) := by simp only [cpI, mS_app, kj, if_false, if_true]
  have e1 : cpI I k o (k + 1) = cpy (I (o + 1)) (I (k + 1)) 6 := by simp only [cpI, mS_app, kj, if_false, if_true]
  have e2 : cpI I k o (k + 2) = cpy (I (o + 2)) (I (k + 2)) 9 := by simp only [cpI, mS_app, kj, if_false, if_true]
  have e3 : cpI I k o (k + 3) = cpy (I (o + 3)) (I (k + 3)) 9 := by simp only [cpI, mS_app, kj, if_false, if_true]
  have e4 : cpI I k o (k + 4) = cpy (I (o + 4)) (I (k + 4)) 54 := by simp only [cpI, mS_app, if_true]
  refine ⟨⟨by rw [e0]; rfl, by rw [e0]; rfl, by rw [e0]; rfl, by rw [e0]; rfl⟩, fun j hj => by rw [e1, cpy_in hj], fun j hj => by rw [e2, cpy_in hj], fun j hj => by rw [e3, cpy_in hj], fun j hj => by rw [e4, cpy_in hj]⟩
theorem cpI_fr {I : MI} {k o q : Nat} (h : q < k ∨ k + 5 ≤ q) : cpI I k o q = I q := by
  unfold cpI
  rw [mS_n (by omega), mS_n (by omega), mS_n (by omega), mS_n (by omega), mS_n (by omega)]
theorem StCp.trans {A B C : MI} {k l o : Nat} (h1 : StCp A k B l) (h2 : StCp B l C o) : StCp A k C o := by
  obtain ⟨⟨a1, a2, a3, a4⟩, a5, a6, a7, a8⟩ := h1
  obtain ⟨⟨b1, b2, b3, b4⟩, b5, b6, b7, b8⟩ := h2
  exact ⟨⟨a1.trans b1, a2.trans b2, a3.trans b3, a4.trans b4⟩, fun j hj => (a5 j hj).trans (b5 j hj), fun j hj => (a6 j hj).trans (b6 j hj), fun j hj => (a7 j hj).trans (b7 j hj), fun j hj => (a8 j hj).trans (b8 j hj)⟩
theorem StCp.fr {A B C : MI} {k o : Nat} (h : StCp B k C o) (hf : ∀ q, k ≤ q → q < k + 5 → A q = B q) : StCp A k C o := by
  unfold StCp at h ⊢
  rw [hf k (by omega) (by omega), hf (k + 1) (by omega) (by omega), hf (k + 2) (by omega) (by omega), hf (k + 3) (by omega) (by omega), hf (k + 4) (by omega) (by omega)]
  exact h
theorem StCp.fr' {A B C : MI} {k o : Nat} (h : StCp A k B o) (hf : ∀ q, o ≤ q → q < o + 5 → C q = B q) : StCp A k C o := by
  unfold StCp at h ⊢
  rw [hf o (by omega) (by omega), hf (o + 1) (by omega) (by omega), hf (o + 2) (by omega) (by omega), hf (o + 3) (by omega) (by omega), hf (o + 4) (by omega) (by omega)]
  exact h
theorem SV_cp {I' I : MI} {k o n m : Nat} (h : StCp I' k I o) (hv : SV I o n m) : SV I' k n m := by
  obtain ⟨⟨a1, a2, a3, a4⟩, a5, a6, a7, a8⟩ := h
  obtain ⟨b1, b2, b3, ⟨of, b4, b4'⟩, b5, b6, b7⟩ := hv
  exact ⟨b1, ⟨a1.trans b2.1, a2.trans b2.2⟩, fun c hc => by rw [a5 c (by omega)]; exact b3 c hc, ⟨of, b4, a3.trans b4'⟩, fun b hb => by rw [a6 b hb]; exact b5 b hb, fun b hb => by rw [a7 b hb]; exact b6 b hb, fun j hj => by rw [a8 j hj]; exact b7 j hj⟩
def AcV (I : MI) (f c : Nat) : Prop := f < 14 ∧ c ≤ 14 ∧ I 21 1 = nI f ∧ I 21 2 = nI c
theorem nI14 : (14 : Int32) = nI 14 := by decide
theorem f14 : ¬ nI 14 = 0 := by decide
theorem rem14 {a : Nat} (h : a < 1000) : nI a - nI a / nI 14 * nI 14 = nI (a % 14) := pk_rem (by omega) (by omega) (by omega)
def il_X0_forgetAll : List (Nat × Instr × Nat) := [(0, .aload_n 0, 1), (1, .iconst 0, 1), (2, .putfield 22, 3), (5, .return_, 1)]
def mt_X0_forgetAll : Mt := (cX0_forgetAll, RX0, 1, none, ({ frames := 0, cells := 0, slots := 0, locals := 0 } : Room), false, none, none)
set_option maxRecDepth 100000 in
theorem dl_X0_forgetAll : ∀ q ∈ il_X0_forgetAll, decode (mt_X0_forgetAll).1 q.1 = .ok q.2 := by decide +kernel
def tb_X0_forgetAll : Tb := [(0, x_al 1 0, false),
  (1, x_c 2 (.int 0), false),
  (2, x_pI 0 2 5, false),
  (5, x_r0, false)]
set_option maxRecDepth 100000 in
theorem tk_X0_forgetAll : TbOk (mt_X0_forgetAll) (tb_X0_forgetAll) :=
  tkc (s_aload_n (at_ dl_X0_forgetAll 0 (ins := .aload_n 0) rfl)) (
  tkc (s_iconst (at_ dl_X0_forgetAll 1 (ins := .iconst 0) rfl) (by first | rfl | decide)) (
  tkc (s_pI (at_ dl_X0_forgetAll 2 (ins := .putfield 22) rfl) (by decide) (by decide) (by decide) (by decide) (tg 228 (by decide +kernel) (by decide +kernel))) (
  tkc (s_r0 (at_ dl_X0_forgetAll 3 (ins := .return_) rfl) rfl) ( tk0))))
theorem lf_X0_forgetAll : lk (tb_X0_forgetAll) 0 = (x_al 1 0, false) ∧ lk (tb_X0_forgetAll) 1 = (x_c 2 (.int 0), false) ∧ lk (tb_X0_forgetAll) 2 = (x_pI 0 2 5, false) ∧ lk (tb_X0_forgetAll) 5 = (x_r0, false) := ⟨rfl, rfl, rfl, rfl⟩
def P_X0_forgetAll : PTT := fun as M R => match as with
  | [.ref a] => a = 21 ∧ IsAc M.1 ∧ R none (M.1, mS M.2.1 21 (upd (M.2.1 21) 2 0), M.2.2)
  | _ => False
set_option maxRecDepth 20000 in
theorem ok_X0_forgetAll : Ok yX0_forgetAll mt_X0_forgetAll P_X0_forgetAll := by
  refine Ok.of (by decide) rfl rfl rfl rfl fun av ⟨S, I, L⟩ R hP => ?_
  unfold P_X0_forgetAll at hP
  split at hP
  case h_2 => exact hP.elim
  rename_i a
  obtain ⟨a, rfl⟩ : ∃ q : Nat, q = a := ⟨a, rfl⟩
  refine ⟨by simp [ent, wide, mt_X0_forgetAll], ?_⟩
  show J mt_X0_forgetAll R 0 [some (.ref a)] [] (S, I, L)
  try dsimp only at hP
  obtain ⟨rfl, ha, hR⟩ := hP
  refine J.of tk_X0_forgetAll 200 fun ρ hρ => ?_
  simp only [hρ, x_c, x_il, x_ll, x_al, x_is, x_as, x_ls, x_inc, x_ii, x_iq, x_i1, x_l2, x_lq, x_lh, x_i2l, x_l2i, x_lcmp, x_dup, x_dup2, x_pop, x_if, x_ifn, x_ic, x_icn, x_go, x_sw, swc, x_l01, x_mx, x_gI, x_gL, x_gR, x_pI, x_pZ, x_pL, x_pR, x_ia, x_za, x_aa, x_ias, x_zas, x_aas, x_fac, x_fa, x_slen, x_sa, x_ac, x_oi, x_new, x_na, x_cS, x_cV, x_cI, x_rI, x_rZ, x_rL, x_r0, pa, short, oc, lg, lset, lset2, wide, cond_true, cond_false, true_and, and_true, ↓reduceIte, Bool.false_eq_true, true_or, or_true, lf_X0_forgetAll, ha.f]
  exact hR
def il_X0_remember : List (Nat × Instr × Nat) := [(0, .aload_n 0, 1), (1, .getfield 22, 3), (4, .bipush 14, 2), (6, .if_icmp .ne 26, 3), (9, .aload_n 0, 1), (10, .aload_n 0, 1), (11, .getfield 18, 3), (14, .iconst 1, 1), (15, .iadd, 1), (16, .bipush 14, 2), (18, .irem, 1), (19, .putfield 18, 3), (22, .aload_n 0, 1), (23, .dup, 1), (24, .getfield 22, 3), (27, .iconst 1, 1), (28, .isub, 1), (29, .putfield 22, 3), (32, .aload_n 0, 1), (33, .getfield 11, 3), (36, .aload_n 0, 1), (37, .getfield 18, 3), (40, .aload_n 0, 1), (41, .getfield 22, 3), (44, .iadd, 1), (45, .bipush 14, 2), (47, .irem, 1), (48, .aaload, 1), (49, .aload_n 1, 1), (50, .invokevirtual 25, 3), (53, .aload_n 0, 1), (54, .dup, 1), (55, .getfield 22, 3), (58, .iconst 1, 1), (59, .iadd, 1), (60, .putfield 22, 3), (63, .return_, 1)]
def mt_X0_remember : Mt := (cX0_remember, RX0, 2, none, ({ frames := 2, cells := 0, slots := 0, locals := 39 } : Room), false, none, none)
set_option maxRecDepth 100000 in
theorem dl_X0_remember : ∀ q ∈ il_X0_remember, decode (mt_X0_remember).1 q.1 = .ok q.2 := by decide +kernel
def tb_X0_remember : Tb := [(0, x_al 1 0, false),
  (1, x_gI 0 2 4, false),
  (4, x_c 6 (.int 14), false),
  (6, x_icn 32 9 (fun x y : Int32 => x = y), false),
  (9, x_al 10 0, false),
  (10, x_al 11 0, false),
  (11, x_gI 0 1 14, false),
  (14, x_c 15 (.int 1), false),
  (15, x_ii 16 (fun x y : Int32 => x + y), false),
  (16, x_c 18 (.int 14), false),
  (18, x_iq 19 (fun x y : Int32 => x - x / y * y), false),
  (19, x_pI 0 1 22, false),
  (22, x_al 23 0, false),
  (23, x_dup 24, false),
  (24, x_gI 0 2 27, false),
  (27, x_c 28 (.int 1), false),
  (28, x_ii 29 (fun x y : Int32 => x - y), false),
  (29, x_pI 0 2 32, false),
  (32, x_al 33 0, true),
  (33, x_gR 0 0 36, false),
  (36, x_al 37 0, false),
  (37, x_gI 0 1 40, false),
  (40, x_al 41 0, false),
  (41, x_gI 0 2 44, false),
  (44, x_ii 45 (fun x y : Int32 => x + y), false),
  (45, x_c 47 (.int 14), false),
  (47, x_iq 48 (fun x y : Int32 => x - x / y * y), false),
  (48, x_aa 49, false),
  (49, x_al 50 1, false),
  (50, x_cV 5 1 P_X5_becomeLike 53, false),
  (53, x_al 54 0, false),
  (54, x_dup 55, false),
  (55, x_gI 0 2 58, false),
  (58, x_c 59 (.int 1), false),
  (59, x_ii 60 (fun x y : Int32 => x + y), false),
  (60, x_pI 0 2 63, false),
  (63, x_r0, false)]
set_option maxRecDepth 100000 in
theorem tk_X0_remember : TbOk (mt_X0_remember) (tb_X0_remember) :=
  tkc (s_aload_n (at_ dl_X0_remember 0 (ins := .aload_n 0) rfl)) (
  tkc (s_gI (at_ dl_X0_remember 1 (ins := .getfield 22) rfl) (by decide) (by decide) (by decide) (tg 228 (by decide +kernel) (by decide +kernel))) (
  tkc (s_bipush (at_ dl_X0_remember 2 (ins := .bipush 14) rfl) (by first | rfl | decide)) (
  tkc (s_ic_ne (at_ dl_X0_remember 3 (ins := .if_icmp .ne 26) rfl) (by decide)) (
  tkc (s_aload_n (at_ dl_X0_remember 4 (ins := .aload_n 0) rfl)) (
  tkc (s_aload_n (at_ dl_X0_remember 5 (ins := .aload_n 0) rfl)) (
  tkc (s_gI (at_ dl_X0_remember 6 (ins := .getfield 18) rfl) (by decide) (by decide) (by decide) (tg 227 (by decide +kernel) (by decide +kernel))) (
  tkc (s_iconst (at_ dl_X0_remember 7 (ins := .iconst 1) rfl) (by first | rfl | decide)) (
  tkc (s_iadd (at_ dl_X0_remember 8 (ins := .iadd) rfl)) (
  tkc (s_bipush (at_ dl_X0_remember 9 (ins := .bipush 14) rfl) (by first | rfl | decide)) (
  tkc (s_irem (at_ dl_X0_remember 10 (ins := .irem) rfl)) (
  tkc (s_pI (at_ dl_X0_remember 11 (ins := .putfield 18) rfl) (by decide) (by decide) (by decide) (by decide) (tg 227 (by decide +kernel) (by decide +kernel))) (
  tkc (s_aload_n (at_ dl_X0_remember 12 (ins := .aload_n 0) rfl)) (
  tkc (s_dup (at_ dl_X0_remember 13 (ins := .dup) rfl)) (
  tkc (s_gI (at_ dl_X0_remember 14 (ins := .getfield 22) rfl) (by decide) (by decide) (by decide) (tg 228 (by decide +kernel) (by decide +kernel))) (
  tkc (s_iconst (at_ dl_X0_remember 15 (ins := .iconst 1) rfl) (by first | rfl | decide)) (
  tkc (s_isub (at_ dl_X0_remember 16 (ins := .isub) rfl)) (
  tkc (s_pI (at_ dl_X0_remember 17 (ins := .putfield 22) rfl) (by decide) (by decide) (by decide) (by decide) (tg 228 (by decide +kernel) (by decide +kernel))) (
  tkc (s_aload_n (at_ dl_X0_remember 18 (ins := .aload_n 0) rfl)) (
  tkc (s_gR (at_ dl_X0_remember 19 (ins := .getfield 11) rfl) (by decide) (by decide) (by decide) (tg 226 (by decide +kernel) (by decide +kernel))) (
  tkc (s_aload_n (at_ dl_X0_remember 20 (ins := .aload_n 0) rfl)) (
  tkc (s_gI (at_ dl_X0_remember 21 (ins := .getfield 18) rfl) (by decide) (by decide) (by decide) (tg 227 (by decide +kernel) (by decide +kernel))) (
  tkc (s_aload_n (at_ dl_X0_remember 22 (ins := .aload_n 0) rfl)) (
  tkc (s_gI (at_ dl_X0_remember 23 (ins := .getfield 22) rfl) (by decide) (by decide) (by decide) (tg 228 (by decide +kernel) (by decide +kernel))) (
  tkc (s_iadd (at_ dl_X0_remember 24 (ins := .iadd) rfl)) (
  tkc (s_bipush (at_ dl_X0_remember 25 (ins := .bipush 14) rfl) (by first | rfl | decide)) (
  tkc (s_irem (at_ dl_X0_remember 26 (ins := .irem) rfl)) (
  tkc (s_aa (at_ dl_X0_remember 27 (ins := .aaload) rfl)) (
  tkc (s_aload_n (at_ dl_X0_remember 28 (ins := .aload_n 1) rfl)) (
  tkc (s_cV ok_X5_becomeLike (at_ dl_X0_remember 29 (ins := .invokevirtual 25) rfl) (by decide) rfl (tg 500 (by decide +kernel) (by decide +kernel)) (tg 444 (by decide +kernel) (by decide +kernel)) (tg 445 (by decide +kernel) (by decide +kernel)) (tg 45 (by decide +kernel) (by decide +kernel)) (tg 446 (by decide +kernel) (by decide +kernel)) (⟨by decide, by decide, by decide +kernel⟩) (⟨by decide, by decide⟩) rfl rfl) (
  tkc (s_aload_n (at_ dl_X0_remember 30 (ins := .aload_n 0) rfl)) (
  tkc (s_dup (at_ dl_X0_remember 31 (ins := .dup) rfl)) (
  tkc (s_gI (at_ dl_X0_remember 32 (ins := .getfield 22) rfl) (by decide) (by decide) (by decide) (tg 228 (by decide +kernel) (by decide +kernel))) (
  tkc (s_iconst (at_ dl_X0_remember 33 (ins := .iconst 1) rfl) (by first | rfl | decide)) (
  tkc (s_iadd (at_ dl_X0_remember 34 (ins := .iadd) rfl)) (
  tkc (s_pI (at_ dl_X0_remember 35 (ins := .putfield 22) rfl) (by decide) (by decide) (by decide) (by decide) (tg 228 (by decide +kernel) (by decide +kernel))) (
  tkc (s_r0 (at_ dl_X0_remember 36 (ins := .return_) rfl) rfl) ( tk0)))))))))))))))))))))))))))))))))))))
theorem lf_X0_remember : lk (tb_X0_remember) 0 = (x_al 1 0, false) ∧ lk (tb_X0_remember) 1 = (x_gI 0 2 4, false) ∧ lk (tb_X0_remember) 4 = (x_c 6 (.int 14), false) ∧ lk (tb_X0_remember) 6 = (x_icn 32 9 (fun x y : Int32 => x = y), false) ∧ lk (tb_X0_remember) 9 = (x_al 10 0, false) ∧ lk (tb_X0_remember) 10 = (x_al 11 0, false) ∧ lk (tb_X0_remember) 11 = (x_gI 0 1 14, false) ∧ lk (tb_X0_remember) 14 = (x_c 15 (.int 1), false) ∧ lk (tb_X0_remember) 15 = (x_ii 16 (fun x y : Int32 => x + y), false) ∧ lk (tb_X0_remember) 16 = (x_c 18 (.int 14), false) ∧ lk (tb_X0_remember) 18 = (x_iq 19 (fun x y : Int32 => x - x / y * y), false) ∧ lk (tb_X0_remember) 19 = (x_pI 0 1 22, false) ∧ lk (tb_X0_remember) 22 = (x_al 23 0, false) ∧ lk (tb_X0_remember) 23 = (x_dup 24, false) ∧ lk (tb_X0_remember) 24 = (x_gI 0 2 27, false) ∧ lk (tb_X0_remember) 27 = (x_c 28 (.int 1), false) ∧ lk (tb_X0_remember) 28 = (x_ii 29 (fun x y : Int32 => x - y), false) ∧ lk (tb_X0_remember) 29 = (x_pI 0 2 32, false) ∧ lk (tb_X0_remember) 32 = (x_al 33 0, true) ∧ lk (tb_X0_remember) 33 = (x_gR 0 0 36, false) ∧ lk (tb_X0_remember) 36 = (x_al 37 0, false) ∧ lk (tb_X0_remember) 37 = (x_gI 0 1 40, false) ∧ lk (tb_X0_remember) 40 = (x_al 41 0, false) ∧ lk (tb_X0_remember) 41 = (x_gI 0 2 44, false) ∧ lk (tb_X0_remember) 44 = (x_ii 45 (fun x y : Int32 => x + y), false) ∧ lk (tb_X0_remember) 45 = (x_c 47 (.int 14), false) ∧ lk (tb_X0_remember) 47 = (x_iq 48 (fun x y : Int32 => x - x / y * y), false) ∧ lk (tb_X0_remember) 48 = (x_aa 49, false) ∧ lk (tb_X0_remember) 49 = (x_al 50 1, false) ∧ lk (tb_X0_remember) 50 = (x_cV 5 1 P_X5_becomeLike 53, false) ∧ lk (tb_X0_remember) 53 = (x_al 54 0, false) ∧ lk (tb_X0_remember) 54 = (x_dup 55, false) ∧ lk (tb_X0_remember) 55 = (x_gI 0 2 58, false) ∧ lk (tb_X0_remember) 58 = (x_c 59 (.int 1), false) ∧ lk (tb_X0_remember) 59 = (x_ii 60 (fun x y : Int32 => x + y), false) ∧ lk (tb_X0_remember) 60 = (x_pI 0 2 63, false) ∧ lk (tb_X0_remember) 63 = (x_r0, false) := ⟨rfl, rfl, rfl, rfl, rfl, rfl, rfl, rfl, rfl, rfl, rfl, rfl, rfl, rfl, rfl, rfl, rfl, rfl, rfl, rfl, rfl, rfl, rfl, rfl, rfl, rfl, rfl, rfl, rfl, rfl, rfl, rfl, rfl, rfl, rfl, rfl, rfl⟩
def P_X0_remember : PTT := fun as M R => match as with
  | [.ref a, .ref k] => a = 21 ∧ k = 5 ∧ IsAc M.1 ∧ IsSt M.1 5 ∧ ∃ f c, AcV M.2.1 f c ∧ ∀ I' f' c', (c < 14 → f' = f ∧ c' = c + 1) → (c = 14 → f' = (f + 1) % 14 ∧ c' = 14) → AcV I' f' c' → StCp I' (23 + 5 * ((f' + c' - 1) % 14)) M.2.1 5 → (∀ q, q ≠ 21 → (q < 23 + 5 * ((f' + c' - 1) % 14) ∨ 23 + 5 * ((f' + c' - 1) % 14) + 5 ≤ q) → I' q = M.2.1 q) → R none (M.1, I', M.2.2)
  | _ => False
set_option maxRecDepth 20000 in
theorem ok_X0_remember : Ok yX0_remember mt_X0_remember P_X0_remember := by
  refine Ok.of (by decide) rfl rfl rfl rfl fun av ⟨S, I, L⟩ R hP => ?_
  unfold P_X0_remember at hP
  split at hP
  case h_2 => exact hP.elim
  rename_i a k
  obtain ⟨a, rfl⟩ : ∃ q : Nat, q = a := ⟨a, rfl⟩
  obtain ⟨k, rfl⟩ : ∃ q : Nat, q = k := ⟨k, rfl⟩
  refine ⟨by simp [ent, wide, mt_X0_remember], ?_⟩
  show J mt_X0_remember R 0 [some (.ref a), some (.ref k)] [] (S, I, L)
  try dsimp only at hP
  obtain ⟨rfl, rfl, ha, h5, f, c, ⟨hf14, hc14, hf, hc⟩, hR⟩ := hP
  have key : ∀ (I1 : MI) (f' c0 : Nat), f' < 14 → c0 < 14 → (c < 14 → f' = f ∧ c0 = c) → (c = 14 → f' = (f + 1) % 14 ∧ c0 = 13) → I1 21 1 = nI f' → I1 21 2 = nI c0 → (∀ q, q ≠ 21 → I1 q = I q) → J mt_X0_remember R 32 [some (.ref 21), some (.ref 5)] [] (S, I1, L) := by
    intro I1 f' c0 hf' hc0 h1 h2 e1 e2 hfr
    obtain ⟨hsr, hst⟩ := ha.2.2.2.2 ((f' + c0) % 14) (Nat.mod_lt _ (by omega))
    have hap : apart5 (23 + 5 * ((f' + c0) % 14)) 5 := Or.inr (by omega)
    have h21 : cpI I1 (23 + 5 * ((f' + c0) % 14)) 5 21 = I1 21 := cpI_fr (Or.inl (by omega))
    have hml : (f' + c0) % 14 < 14 := Nat.mod_lt _ (by omega)
    refine J.of tk_X0_remember 200 fun ρ hρ => ?_
    simp only [hρ, x_c, x_il, x_ll, x_al, x_is, x_as, x_ls, x_inc, x_ii, x_iq, x_i1, x_l2, x_lq, x_lh, x_i2l, x_l2i, x_lcmp, x_dup, x_dup2, x_pop, x_if, x_ifn, x_ic, x_icn, x_go, x_sw, swc, x_l01, x_mx, x_gI, x_gL, x_gR, x_pI, x_pZ, x_pL, x_pR, x_ia, x_za, x_aa, x_ias, x_zas, x_aas, x_fac, x_fa, x_slen, x_sa, x_ac, x_oi, x_new, x_na, x_cS, x_cV, x_cI, x_rI, x_rZ, x_rL, x_r0, pa, short, oc, lg, lset, lset2, wide, cond_true, cond_false, true_and, and_true, ↓reduceIte, Bool.false_eq_true, true_or, or_true, lf_X0_remember, ha.f, h5, hst, hap, e1, e2, nI_add, nI14, f14, rem14 (show f' + c0 < 1000 by omega), ncl (show (f' + c0) % 14 < 2 ^ 31 by omega), hsr, hst.f, P_X5_becomeLike, h21, nI_1, not_false_eq_true]
    refine ⟨vp_in_nI (by omega) (by omega), hR _ f' (c0 + 1) (fun h => ⟨(h1 h).1, by rw [(h1 h).2]⟩) (fun h => ⟨(h2 h).1, by rw [(h2 h).2]⟩) ⟨hf', by omega, by simpa [mS_s, upd_app] using e1, by simp [mS_s, upd_app]⟩ ?_ ?_⟩
    · rw [show f' + (c0 + 1) - 1 = f' + c0 by omega]
      refine StCp.fr (B := cpI I1 (23 + 5 * ((f' + c0) % 14)) 5) (StCp.fr' (cpI_cp I1 _ 5) (fun q h1 h2 => (hfr q (by omega)).symm)) (fun q h1 h2 => mS_n (by omega))
    · intro q hq h3
      rw [show f' + (c0 + 1) - 1 = f' + c0 by omega] at h3
      rw [mS_n hq, cpI_fr (by omega)]
      exact hfr q hq
  refine J.of tk_X0_remember 200 fun ρ hρ => ?_
  simp only [hρ, x_c, x_il, x_ll, x_al, x_is, x_as, x_ls, x_inc, x_ii, x_iq, x_i1, x_l2, x_lq, x_lh, x_i2l, x_l2i, x_lcmp, x_dup, x_dup2, x_pop, x_if, x_ifn, x_ic, x_icn, x_go, x_sw, swc, x_l01, x_mx, x_gI, x_gL, x_gR, x_pI, x_pZ, x_pL, x_pR, x_ia, x_za, x_aa, x_ias, x_zas, x_aas, x_fac, x_fa, x_slen, x_sa, x_ac, x_oi, x_new, x_na, x_cS, x_cV, x_cI, x_rI, x_rZ, x_rL, x_r0, pa, short, oc, lg, lset, lset2, wide, cond_true, cond_false, true_and, and_true, ↓reduceIte, Bool.false_eq_true, true_or, or_true, lf_X0_remember, ha.f, hf, hc, nI14, f14, nI_eq (show c < 2 ^ 31 by omega) (show 14 < 2 ^ 31 by omega), rem14 (show f + 1 < 1000 by omega), nI_1, mS_app, upd_app, Nat.reduceEqDiff, mS_ss, not_false_eq_true]
  refine ⟨fun h => key I f c hf14 (by omega) (fun _ => ⟨rfl, rfl⟩) (fun q => absurd q h) hf hc (fun _ _ => rfl), fun h => ?_⟩
  subst h
  refine key _ ((f + 1) % 14) 13 (Nat.mod_lt _ (by omega)) (by omega) (fun q => absurd q (by omega)) (fun _ => ⟨rfl, rfl⟩) (by simp [mS_s, upd_app]) (by simp [mS_s, upd_app]; exact nI_pred 13) (fun q hq => mS_n hq)
def il_X0_giveBackLast : List (Nat × Instr × Nat) := [(0, .aload_n 0, 1), (1, .getfield 22, 3), (4, .ifCond .le 34, 3), (7, .aload_n 0, 1), (8, .dup, 1), (9, .getfield 22, 3), (12, .iconst 1, 1), (13, .isub, 1), (14, .putfield 22, 3), (17, .aload_n 1, 1), (18, .aload_n 0, 1), (19, .getfield 11, 3), (22, .aload_n 0, 1), (23, .getfield 18, 3), (26, .aload_n 0, 1), (27, .getfield 22, 3), (30, .iadd, 1), (31, .bipush 14, 2), (33, .irem, 1), (34, .aaload, 1), (35, .invokevirtual 25, 3), (38, .return_, 1)]
def mt_X0_giveBackLast : Mt := (cX0_giveBackLast, RX0, 2, none, ({ frames := 2, cells := 0, slots := 0, locals := 39 } : Room), false, none, none)
set_option maxRecDepth 100000 in
theorem dl_X0_giveBackLast : ∀ q ∈ il_X0_giveBackLast, decode (mt_X0_giveBackLast).1 q.1 = .ok q.2 := by decide +kernel
def tb_X0_giveBackLast : Tb := [(0, x_al 1 0, false),
  (1, x_gI 0 2 4, false),
  (4, x_if 38 7 (fun x : Int32 => x ≤ 0), false),
  (7, x_al 8 0, false),
  (8, x_dup 9, false),
  (9, x_gI 0 2 12, false),
  (12, x_c 13 (.int 1), false),
  (13, x_ii 14 (fun x y : Int32 => x - y), false),
  (14, x_pI 0 2 17, false),
  (17, x_al 18 1, false),
  (18, x_al 19 0, false),
  (19, x_gR 0 0 22, false),
  (22, x_al 23 0, false),
  (23, x_gI 0 1 26, false),
  (26, x_al 27 0, false),
  (27, x_gI 0 2 30, false),
  (30, x_ii 31 (fun x y : Int32 => x + y), false),
  (31, x_c 33 (.int 14), false),
  (33, x_iq 34 (fun x y : Int32 => x - x / y * y), false),
  (34, x_aa 35, false),
  (35, x_cV 5 1 P_X5_becomeLike 38, false),
  (38, x_r0, false)]
set_option maxRecDepth 100000 in
theorem tk_X0_giveBackLast : TbOk (mt_X0_giveBackLast) (tb_X0_giveBackLast) :=
  tkc (s_aload_n (at_ dl_X0_giveBackLast 0 (ins := .aload_n 0) rfl)) (
  tkc (s_gI (at_ dl_X0_giveBackLast 1 (ins := .getfield 22) rfl) (by decide) (by decide) (by decide) (tg 228 (by decide +kernel) (by decide +kernel))) (
  tkc (s_if_le (at_ dl_X0_giveBackLast 2 (ins := .ifCond .le 34) rfl) (by decide)) (
  tkc (s_aload_n (at_ dl_X0_giveBackLast 3 (ins := .aload_n 0) rfl)) (
  tkc (s_dup (at_ dl_X0_giveBackLast 4 (ins := .dup) rfl)) (
  tkc (s_gI (at_ dl_X0_giveBackLast 5 (ins := .getfield 22) rfl) (by decide) (by decide) (by decide) (tg 228 (by decide +kernel) (by decide +kernel))) (
  tkc (s_iconst (at_ dl_X0_giveBackLast 6 (ins := .iconst 1) rfl) (by first | rfl | decide)) (
  tkc (s_isub (at_ dl_X0_giveBackLast 7 (ins := .isub) rfl)) (
  tkc (s_pI (at_ dl_X0_giveBackLast 8 (ins := .putfield 22) rfl) (by decide) (by decide) (by decide) (by decide) (tg 228 (by decide +kernel) (by decide +kernel))) (
  tkc (s_aload_n (at_ dl_X0_giveBackLast 9 (ins := .aload_n 1) rfl)) (
  tkc (s_aload_n (at_ dl_X0_giveBackLast 10 (ins := .aload_n 0) rfl)) (
  tkc (s_gR (at_ dl_X0_giveBackLast 11 (ins := .getfield 11) rfl) (by decide) (by decide) (by decide) (tg 226 (by decide +kernel) (by decide +kernel))) (
  tkc (s_aload_n (at_ dl_X0_giveBackLast 12 (ins := .aload_n 0) rfl)) (
  tkc (s_gI (at_ dl_X0_giveBackLast 13 (ins := .getfield 18) rfl) (by decide) (by decide) (by decide) (tg 227 (by decide +kernel) (by decide +kernel))) (
  tkc (s_aload_n (at_ dl_X0_giveBackLast 14 (ins := .aload_n 0) rfl)) (
  tkc (s_gI (at_ dl_X0_giveBackLast 15 (ins := .getfield 22) rfl) (by decide) (by decide) (by decide) (tg 228 (by decide +kernel) (by decide +kernel))) (
  tkc (s_iadd (at_ dl_X0_giveBackLast 16 (ins := .iadd) rfl)) (
  tkc (s_bipush (at_ dl_X0_giveBackLast 17 (ins := .bipush 14) rfl) (by first | rfl | decide)) (
  tkc (s_irem (at_ dl_X0_giveBackLast 18 (ins := .irem) rfl)) (
  tkc (s_aa (at_ dl_X0_giveBackLast 19 (ins := .aaload) rfl)) (
  tkc (s_cV ok_X5_becomeLike (at_ dl_X0_giveBackLast 20 (ins := .invokevirtual 25) rfl) (by decide) rfl (tg 500 (by decide +kernel) (by decide +kernel)) (tg 444 (by decide +kernel) (by decide +kernel)) (tg 445 (by decide +kernel) (by decide +kernel)) (tg 45 (by decide +kernel) (by decide +kernel)) (tg 446 (by decide +kernel) (by decide +kernel)) (⟨by decide, by decide, by decide +kernel⟩) (⟨by decide, by decide⟩) rfl rfl) (
  tkc (s_r0 (at_ dl_X0_giveBackLast 21 (ins := .return_) rfl) rfl) ( tk0))))))))))))))))))))))
theorem lf_X0_giveBackLast : lk (tb_X0_giveBackLast) 0 = (x_al 1 0, false) ∧ lk (tb_X0_giveBackLast) 1 = (x_gI 0 2 4, false) ∧ lk (tb_X0_giveBackLast) 4 = (x_if 38 7 (fun x : Int32 => x ≤ 0), false) ∧ lk (tb_X0_giveBackLast) 7 = (x_al 8 0, false) ∧ lk (tb_X0_giveBackLast) 8 = (x_dup 9, false) ∧ lk (tb_X0_giveBackLast) 9 = (x_gI 0 2 12, false) ∧ lk (tb_X0_giveBackLast) 12 = (x_c 13 (.int 1), false) ∧ lk (tb_X0_giveBackLast) 13 = (x_ii 14 (fun x y : Int32 => x - y), false) ∧ lk (tb_X0_giveBackLast) 14 = (x_pI 0 2 17, false) ∧ lk (tb_X0_giveBackLast) 17 = (x_al 18 1, false) ∧ lk (tb_X0_giveBackLast) 18 = (x_al 19 0, false) ∧ lk (tb_X0_giveBackLast) 19 = (x_gR 0 0 22, false) ∧ lk (tb_X0_giveBackLast) 22 = (x_al 23 0, false) ∧ lk (tb_X0_giveBackLast) 23 = (x_gI 0 1 26, false) ∧ lk (tb_X0_giveBackLast) 26 = (x_al 27 0, false) ∧ lk (tb_X0_giveBackLast) 27 = (x_gI 0 2 30, false) ∧ lk (tb_X0_giveBackLast) 30 = (x_ii 31 (fun x y : Int32 => x + y), false) ∧ lk (tb_X0_giveBackLast) 31 = (x_c 33 (.int 14), false) ∧ lk (tb_X0_giveBackLast) 33 = (x_iq 34 (fun x y : Int32 => x - x / y * y), false) ∧ lk (tb_X0_giveBackLast) 34 = (x_aa 35, false) ∧ lk (tb_X0_giveBackLast) 35 = (x_cV 5 1 P_X5_becomeLike 38, false) ∧ lk (tb_X0_giveBackLast) 38 = (x_r0, false) := ⟨rfl, rfl, rfl, rfl, rfl, rfl, rfl, rfl, rfl, rfl, rfl, rfl, rfl, rfl, rfl, rfl, rfl, rfl, rfl, rfl, rfl, rfl⟩
def P_X0_giveBackLast : PTT := fun as M R => match as with
  | [.ref a, .ref k] => a = 21 ∧ k = 5 ∧ IsAc M.1 ∧ IsSt M.1 5 ∧ ∃ f c, AcV M.2.1 f (c + 1) ∧ ∀ I', AcV I' f c → StCp I' 5 M.2.1 (23 + 5 * ((f + c) % 14)) → (∀ q, q ≠ 21 → (q < 5 ∨ 10 ≤ q) → I' q = M.2.1 q) → R none (M.1, I', M.2.2)
  | _ => False
set_option maxRecDepth 20000 in
theorem ok_X0_giveBackLast : Ok yX0_giveBackLast mt_X0_giveBackLast P_X0_giveBackLast := by
  refine Ok.of (by decide) rfl rfl rfl rfl fun av ⟨S, I, L⟩ R hP => ?_
  unfold P_X0_giveBackLast at hP
  split at hP
  case h_2 => exact hP.elim
  rename_i a k
  obtain ⟨a, rfl⟩ : ∃ q : Nat, q = a := ⟨a, rfl⟩
  obtain ⟨k, rfl⟩ : ∃ q : Nat, q = k := ⟨k, rfl⟩
  refine ⟨by simp [ent, wide, mt_X0_giveBackLast], ?_⟩
  show J mt_X0_giveBackLast R 0 [some (.ref a), some (.ref k)] [] (S, I, L)
  try dsimp only at hP
  obtain ⟨rfl, rfl, ha, h5, f, c, ⟨hf14, hc14, hf, hc⟩, hR⟩ := hP
  obtain ⟨hsr, hst⟩ := ha.2.2.2.2 ((f + c) % 14) (Nat.mod_lt _ (by omega))
  have hap : apart5 5 (23 + 5 * ((f + c) % 14)) := Or.inl (by omega)
  have hml : (f + c) % 14 < 14 := Nat.mod_lt _ (by omega)
  have hpos : nI (c + 1) ≤ 0 ↔ False := ⟨fun h => nI_nle (by omega) (by omega) h, False.elim⟩
  refine J.of tk_X0_giveBackLast 200 fun ρ hρ => ?_
  simp only [hρ, x_c, x_il, x_ll, x_al, x_is, x_as, x_ls, x_inc, x_ii, x_iq, x_i1, x_l2, x_lq, x_lh, x_i2l, x_l2i, x_lcmp, x_dup, x_dup2, x_pop, x_if, x_ifn, x_ic, x_icn, x_go, x_sw, swc, x_l01, x_mx, x_gI, x_gL, x_gR, x_pI, x_pZ, x_pL, x_pR, x_ia, x_za, x_aa, x_ias, x_zas, x_aas, x_fac, x_fa, x_slen, x_sa, x_ac, x_oi, x_new, x_na, x_cS, x_cV, x_cI, x_rI, x_rZ, x_rL, x_r0, pa, short, oc, lg, lset, lset2, wide, cond_true, cond_false, true_and, and_true, ↓reduceIte, Bool.false_eq_true, true_or, or_true, lf_X0_giveBackLast, ha.f, h5, h5.f, hst, hap, hf, hc, hpos, nI_pred, nI_add, nI14, f14, rem14 (show f + c < 1000 by omega), ncl (show (f + c) % 14 < 2 ^ 31 by omega), hsr, hst.f, P_X5_becomeLike, mS_app, upd_app, Nat.reduceEqDiff, not_false_eq_true, false_implies, true_implies]
  refine ⟨vp_in_nI (by omega) (by omega), hR _ ⟨hf14, by omega, ?_, ?_⟩ ?_ ?_⟩
  · rw [cpI_fr (by omega), mS_s]; simpa [upd_app] using hf
  · rw [cpI_fr (by omega), mS_s]; simp [upd_app]
  · exact StCp.fr' (cpI_cp _ 5 _) (fun q h1 h2 => (mS_n (by omega)).symm)
  · intro q hq h3
    rw [cpI_fr (by omega), mS_n hq]
