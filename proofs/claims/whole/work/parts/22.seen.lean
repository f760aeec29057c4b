/-! SEEN, at 93 (rounds 94, open 95) -/
def IsSe (S : Sh) : Prop := tO S 93 4 ∧ sR S 93 0 = 94 ∧ sR S 93 1 = 95 ∧ tA S 94 1 ∧ ln S 94 = 6 ∧ tA S 95 1 ∧ ln S 95 = 6
theorem IsSe.f {S : Sh} (h : IsSe S) : tO S 93 4 ∧ sR S 93 0 = 94 ∧ sR S 93 1 = 95 ∧ tA S 94 1 ∧ ln S 94 = 6 ∧ tA S 95 1 ∧ ln S 95 = 6 := h
/-- what is seen: c times, rounds at most 20 -/
def SeV (I : MI) (c : Nat) : Prop := c ≤ 6 ∧ I 93 2 = nI c ∧ ∀ i, i < c → tn (I 94 i) ≤ 20
def il_X4_add : List (Nat × Instr × Nat) := [(0, .aload_n 0, 1), (1, .getfield 18, 3), (4, .bipush 6, 2), (6, .if_icmp .ge 33, 3), (9, .aload_n 0, 1), (10, .getfield 9, 3), (13, .aload_n 0, 1), (14, .getfield 18, 3), (17, .iload_n 1, 1), (18, .iastore, 1), (19, .aload_n 0, 1), (20, .getfield 15, 3), (23, .aload_n 0, 1), (24, .getfield 18, 3), (27, .iload_n 2, 1), (28, .iastore, 1), (29, .aload_n 0, 1), (30, .dup, 1), (31, .getfield 18, 3), (34, .iconst 1, 1), (35, .iadd, 1), (36, .putfield 18, 3), (39, .aload_n 0, 1), (40, .getfield 18, 3), (43, .ireturn, 1)]
def mt_X4_add : Mt := (cX4_add, RX4, 3, (some .int), ({ frames := 0, cells := 0, slots := 0, locals := 0 } : Room), false, none, none)
set_option maxRecDepth 100000 in
theorem dl_X4_add : ∀ q ∈ il_X4_add, decode (mt_X4_add).1 q.1 = .ok q.2 := by decide +kernel
def tb_X4_add : Tb := [(0, x_al 1 0, false),
  (1, x_gI 4 2 4, false),
  (4, x_c 6 (.int 6), false),
  (6, x_ic 39 9 (fun x y : Int32 => y ≤ x), false),
  (9, x_al 10 0, false),
  (10, x_gR 4 0 13, false),
  (13, x_al 14 0, false),
  (14, x_gI 4 2 17, false),
  (17, x_il 18 1, false),
  (18, x_ias 19, false),
  (19, x_al 20 0, false),
  (20, x_gR 4 1 23, false),
  (23, x_al 24 0, false),
  (24, x_gI 4 2 27, false),
  (27, x_il 28 2, false),
  (28, x_ias 29, false),
  (29, x_al 30 0, false),
  (30, x_dup 31, false),
  (31, x_gI 4 2 34, false),
  (34, x_c 35 (.int 1), false),
  (35, x_ii 36 (fun x y : Int32 => x + y), false),
  (36, x_pI 4 2 39, false),
  (39, x_al 40 0, false),
  (40, x_gI 4 2 43, false),
  (43, x_rI, false)]
set_option maxRecDepth 100000 in
theorem tk_X4_add : TbOk (mt_X4_add) (tb_X4_add) :=
  tkc (s_aload_n (at_ dl_X4_add 0 (ins := .aload_n 0) rfl)) (
  tkc (s_gI (at_ dl_X4_add 1 (ins := .getfield 18) rfl) (by decide) (by decide) (by decide) (tg 245 (by decide +kernel) (by decide +kernel))) (
  tkc (s_bipush (at_ dl_X4_add 2 (ins := .bipush 6) rfl) (by first | rfl | decide)) (
  tkc (s_ic_ge (at_ dl_X4_add 3 (ins := .if_icmp .ge 33) rfl) (by decide)) (
  tkc (s_aload_n (at_ dl_X4_add 4 (ins := .aload_n 0) rfl)) (
  tkc (s_gR (at_ dl_X4_add 5 (ins := .getfield 9) rfl) (by decide) (by decide) (by decide) (tg 243 (by decide +kernel) (by decide +kernel))) (
  tkc (s_aload_n (at_ dl_X4_add 6 (ins := .aload_n 0) rfl)) (
  tkc (s_gI (at_ dl_X4_add 7 (ins := .getfield 18) rfl) (by decide) (by decide) (by decide) (tg 245 (by decide +kernel) (by decide +kernel))) (
  tkc (s_iload_n (at_ dl_X4_add 8 (ins := .iload_n 1) rfl)) (
  tkc (s_ias (at_ dl_X4_add 9 (ins := .iastore) rfl)) (
  tkc (s_aload_n (at_ dl_X4_add 10 (ins := .aload_n 0) rfl)) (
  tkc (s_gR (at_ dl_X4_add 11 (ins := .getfield 15) rfl) (by decide) (by decide) (by decide) (tg 244 (by decide +kernel) (by decide +kernel))) (
  tkc (s_aload_n (at_ dl_X4_add 12 (ins := .aload_n 0) rfl)) (
  tkc (s_gI (at_ dl_X4_add 13 (ins := .getfield 18) rfl) (by decide) (by decide) (by decide) (tg 245 (by decide +kernel) (by decide +kernel))) (
  tkc (s_iload_n (at_ dl_X4_add 14 (ins := .iload_n 2) rfl)) (
  tkc (s_ias (at_ dl_X4_add 15 (ins := .iastore) rfl)) (
  tkc (s_aload_n (at_ dl_X4_add 16 (ins := .aload_n 0) rfl)) (
  tkc (s_dup (at_ dl_X4_add 17 (ins := .dup) rfl)) (
  tkc (s_gI (at_ dl_X4_add 18 (ins := .getfield 18) rfl) (by decide) (by decide) (by decide) (tg 245 (by decide +kernel) (by decide +kernel))) (
  tkc (s_iconst (at_ dl_X4_add 19 (ins := .iconst 1) rfl) (by first | rfl | decide)) (
  tkc (s_iadd (at_ dl_X4_add 20 (ins := .iadd) rfl)) (
  tkc (s_pI (at_ dl_X4_add 21 (ins := .putfield 18) rfl) (by decide) (by decide) (by decide) (by decide) (tg 245 (by decide +kernel) (by decide +kernel))) (
  tkc (s_aload_n (at_ dl_X4_add 22 (ins := .aload_n 0) rfl)) (
  tkc (s_gI (at_ dl_X4_add 23 (ins := .getfield 18) rfl) (by decide) (by decide) (by decide) (tg 245 (by decide +kernel) (by decide +kernel))) (
  tkc (s_rI (at_ dl_X4_add 24 (ins := .ireturn) rfl) rfl) ( tk0)))))))))))))))))))))))))
theorem lf_X4_add : lk (tb_X4_add) 0 = (x_al 1 0, false) ∧ lk (tb_X4_add) 1 = (x_gI 4 2 4, false) ∧ lk (tb_X4_add) 4 = (x_c 6 (.int 6), false) ∧ lk (tb_X4_add) 6 = (x_ic 39 9 (fun x y : Int32 => y ≤ x), false) ∧ lk (tb_X4_add) 9 = (x_al 10 0, false) ∧ lk (tb_X4_add) 10 = (x_gR 4 0 13, false) ∧ lk (tb_X4_add) 13 = (x_al 14 0, false) ∧ lk (tb_X4_add) 14 = (x_gI 4 2 17, false) ∧ lk (tb_X4_add) 17 = (x_il 18 1, false) ∧ lk (tb_X4_add) 18 = (x_ias 19, false) ∧ lk (tb_X4_add) 19 = (x_al 20 0, false) ∧ lk (tb_X4_add) 20 = (x_gR 4 1 23, false) ∧ lk (tb_X4_add) 23 = (x_al 24 0, false) ∧ lk (tb_X4_add) 24 = (x_gI 4 2 27, false) ∧ lk (tb_X4_add) 27 = (x_il 28 2, false) ∧ lk (tb_X4_add) 28 = (x_ias 29, false) ∧ lk (tb_X4_add) 29 = (x_al 30 0, false) ∧ lk (tb_X4_add) 30 = (x_dup 31, false) ∧ lk (tb_X4_add) 31 = (x_gI 4 2 34, false) ∧ lk (tb_X4_add) 34 = (x_c 35 (.int 1), false) ∧ lk (tb_X4_add) 35 = (x_ii 36 (fun x y : Int32 => x + y), false) ∧ lk (tb_X4_add) 36 = (x_pI 4 2 39, false) ∧ lk (tb_X4_add) 39 = (x_al 40 0, false) ∧ lk (tb_X4_add) 40 = (x_gI 4 2 43, false) ∧ lk (tb_X4_add) 43 = (x_rI, false) := ⟨rfl, rfl, rfl, rfl, rfl, rfl, rfl, rfl, rfl, rfl, rfl, rfl, rfl, rfl, rfl, rfl, rfl, rfl, rfl, rfl, rfl, rfl, rfl, rfl, rfl⟩
def P_X4_add : PTT := fun as M R => match as with
  | [.ref k, .int n, .int v] => k = 93 ∧ IsSe M.1 ∧ ∃ c, c < 6 ∧ M.2.1 93 2 = nI c ∧ R (some (.int (nI (c + 1)))) (M.1, mS (mS (mS M.2.1 94 (upd (M.2.1 94) c n)) 95 (upd (M.2.1 95) c v)) 93 (upd (M.2.1 93) 2 (nI (c + 1))), M.2.2)
  | _ => False
set_option maxRecDepth 20000 in
theorem ok_X4_add : Ok yX4_add mt_X4_add P_X4_add := by
  refine Ok.of (by decide) rfl rfl rfl rfl fun av ⟨S, I, L⟩ R hP => ?_
  unfold P_X4_add at hP
  split at hP
  case h_2 => exact hP.elim
  rename_i k n v
  obtain ⟨k, rfl⟩ : ∃ q : Nat, q = k := ⟨k, rfl⟩
  refine ⟨by simp [ent, wide, mt_X4_add], ?_⟩
  show J mt_X4_add R 0 [some (.ref k), some (.int n), some (.int v)] [] (S, I, L)
  try dsimp only at hP
  obtain ⟨rfl, hk, c, h6, hc, hR⟩ := hP
  refine J.of tk_X4_add 200 fun ρ hρ => ?_
  simp only [hρ, x_c, x_il, x_ll, x_al, x_is, x_as, x_ls, x_inc, x_ii, x_iq, x_i1, x_l2, x_lq, x_lh, x_i2l, x_l2i, x_lcmp, x_dup, x_dup2, x_pop, x_if, x_ifn, x_ic, x_icn, x_go, x_sw, swc, x_l01, x_mx, x_gI, x_gL, x_gR, x_pI, x_pZ, x_pL, x_pR, x_ia, x_za, x_aa, x_ias, x_zas, x_aas, x_fac, x_fa, x_slen, x_sa, x_ac, x_oi, x_new, x_na, x_cS, x_cV, x_cI, x_rI, x_rZ, x_rL, x_r0, pa, short, oc, lg, lset, lset2, wide, cond_true, cond_false, true_and, and_true, ↓reduceIte, Bool.false_eq_true, true_or, or_true, lf_X4_add, hk.f, hc, nI6, nI_leI (show 6 < 2 ^ 31 by omega) (show c < 2 ^ 31 by omega), ncl (show c < 2 ^ 31 by omega), nI_1, mS_app, Nat.reduceEqDiff, upd_s]
  have hv : vp_in (nI c) 6 := vp_in_nI (by omega) (by omega)
  exact ⟨fun h => absurd h (by omega), fun _ => ⟨hv, hv, hR⟩⟩
def mxR (f : Nat → Int32) : Nat → Nat
  | 0 => 0
  | i + 1 => if mxR f i < tn (f i) then tn (f i) else mxR f i
theorem mxR_ge {f : Nat → Int32} : ∀ {i j : Nat}, j < i → tn (f j) ≤ mxR f i
  | 0, j, h => by omega
  | i + 1, j, h => by
    simp only [mxR]
    by_cases e : j = i
    · subst e; split <;> omega
    · have := mxR_ge (f := f) (i := i) (j := j) (by omega)
      split <;> omega
theorem mxR_le {f : Nat → Int32} : ∀ {i : Nat}, (∀ j, j < i → tn (f j) ≤ 20) → mxR f i ≤ 20
  | 0, _ => by simp [mxR]
  | i + 1, h => by
    have h1 := mxR_le (f := f) (i := i) (fun j hj => h j (by omega))
    have h2 := h i (by omega)
    simp only [mxR]
    split <;> omega
def il_X4_mostRounds : List (Nat × Instr × Nat) := [(0, .iconst 0, 1), (1, .istore_n 1, 1), (2, .iconst 0, 1), (3, .istore_n 2, 1), (4, .iload_n 2, 1), (5, .aload_n 0, 1), (6, .getfield 18, 3), (9, .if_icmp .ge 20, 3), (12, .iload_n 1, 1), (13, .aload_n 0, 1), (14, .getfield 9, 3), (17, .iload_n 2, 1), (18, .iaload, 1), (19, .invokestatic 43, 3), (22, .istore_n 1, 1), (23, .iinc 2 1, 3), (26, .goto (-22), 3), (29, .iload_n 1, 1), (30, .ireturn, 1)]
def mt_X4_mostRounds : Mt := (cX4_mostRounds, RX4, 3, (some .int), ({ frames := 1, cells := 0, slots := 0, locals := 13 } : Room), false, none, none)
set_option maxRecDepth 100000 in
theorem dl_X4_mostRounds : ∀ q ∈ il_X4_mostRounds, decode (mt_X4_mostRounds).1 q.1 = .ok q.2 := by decide +kernel
def tb_X4_mostRounds : Tb := [(0, x_c 1 (.int 0), false),
  (1, x_is 2 1, false),
  (2, x_c 3 (.int 0), false),
  (3, x_is 4 2, false),
  (4, x_il 5 2, true),
  (5, x_al 6 0, false),
  (6, x_gI 4 2 9, false),
  (9, x_ic 29 12 (fun x y : Int32 => y ≤ x), false),
  (12, x_il 13 1, false),
  (13, x_al 14 0, false),
  (14, x_gR 4 0 17, false),
  (17, x_il 18 2, false),
  (18, x_ia 19, false),
  (19, x_mx 22, false),
  (22, x_is 23 1, false),
  (23, x_inc 26 2 1, false),
  (26, x_go 4, false),
  (29, x_il 30 1, false),
  (30, x_rI, false)]
set_option maxRecDepth 100000 in
theorem tk_X4_mostRounds : TbOk (mt_X4_mostRounds) (tb_X4_mostRounds) :=
  tkc (s_iconst (at_ dl_X4_mostRounds 0 (ins := .iconst 0) rfl) (by first | rfl | decide)) (
  tkc (s_istore_n (at_ dl_X4_mostRounds 1 (ins := .istore_n 1) rfl) (by decide)) (
  tkc (s_iconst (at_ dl_X4_mostRounds 2 (ins := .iconst 0) rfl) (by first | rfl | decide)) (
  tkc (s_istore_n (at_ dl_X4_mostRounds 3 (ins := .istore_n 2) rfl) (by decide)) (
  tkc (s_iload_n (at_ dl_X4_mostRounds 4 (ins := .iload_n 2) rfl)) (
  tkc (s_aload_n (at_ dl_X4_mostRounds 5 (ins := .aload_n 0) rfl)) (
  tkc (s_gI (at_ dl_X4_mostRounds 6 (ins := .getfield 18) rfl) (by decide) (by decide) (by decide) (tg 245 (by decide +kernel) (by decide +kernel))) (
  tkc (s_ic_ge (at_ dl_X4_mostRounds 7 (ins := .if_icmp .ge 20) rfl) (by decide)) (
  tkc (s_iload_n (at_ dl_X4_mostRounds 8 (ins := .iload_n 1) rfl)) (
  tkc (s_aload_n (at_ dl_X4_mostRounds 9 (ins := .aload_n 0) rfl)) (
  tkc (s_gR (at_ dl_X4_mostRounds 10 (ins := .getfield 9) rfl) (by decide) (by decide) (by decide) (tg 243 (by decide +kernel) (by decide +kernel))) (
  tkc (s_iload_n (at_ dl_X4_mostRounds 11 (ins := .iload_n 2) rfl)) (
  tkc (s_ia (at_ dl_X4_mostRounds 12 (ins := .iaload) rfl)) (
  tkc (s_mx (at_ dl_X4_mostRounds 13 (ins := .invokestatic 43) rfl) (tg 630 (by decide +kernel) (by decide +kernel)) (by decide) (by decide)) (
  tkc (s_istore_n (at_ dl_X4_mostRounds 14 (ins := .istore_n 1) rfl) (by decide)) (
  tkc (s_iinc (at_ dl_X4_mostRounds 15 (ins := .iinc 2 1) rfl) (by decide) (by first | rfl | decide)) (
  tkc (s_goto (at_ dl_X4_mostRounds 16 (ins := .goto (-22)) rfl) (by decide)) (
  tkc (s_iload_n (at_ dl_X4_mostRounds 17 (ins := .iload_n 1) rfl)) (
  tkc (s_rI (at_ dl_X4_mostRounds 18 (ins := .ireturn) rfl) rfl) ( tk0)))))))))))))))))))
theorem lf_X4_mostRounds : lk (tb_X4_mostRounds) 0 = (x_c 1 (.int 0), false) ∧ lk (tb_X4_mostRounds) 1 = (x_is 2 1, false) ∧ lk (tb_X4_mostRounds) 2 = (x_c 3 (.int 0), false) ∧ lk (tb_X4_mostRounds) 3 = (x_is 4 2, false) ∧ lk (tb_X4_mostRounds) 4 = (x_il 5 2, true) ∧ lk (tb_X4_mostRounds) 5 = (x_al 6 0, false) ∧ lk (tb_X4_mostRounds) 6 = (x_gI 4 2 9, false) ∧ lk (tb_X4_mostRounds) 9 = (x_ic 29 12 (fun x y : Int32 => y ≤ x), false) ∧ lk (tb_X4_mostRounds) 12 = (x_il 13 1, false) ∧ lk (tb_X4_mostRounds) 13 = (x_al 14 0, false) ∧ lk (tb_X4_mostRounds) 14 = (x_gR 4 0 17, false) ∧ lk (tb_X4_mostRounds) 17 = (x_il 18 2, false) ∧ lk (tb_X4_mostRounds) 18 = (x_ia 19, false) ∧ lk (tb_X4_mostRounds) 19 = (x_mx 22, false) ∧ lk (tb_X4_mostRounds) 22 = (x_is 23 1, false) ∧ lk (tb_X4_mostRounds) 23 = (x_inc 26 2 1, false) ∧ lk (tb_X4_mostRounds) 26 = (x_go 4, false) ∧ lk (tb_X4_mostRounds) 29 = (x_il 30 1, false) ∧ lk (tb_X4_mostRounds) 30 = (x_rI, false) := ⟨rfl, rfl, rfl, rfl, rfl, rfl, rfl, rfl, rfl, rfl, rfl, rfl, rfl, rfl, rfl, rfl, rfl, rfl, rfl⟩
def P_X4_mostRounds : PTT := fun as M R => match as with
  | [.ref k] => k = 93 ∧ IsSe M.1 ∧ (∃ c, SeV M.2.1 c) ∧ R (some (.int (nI (mxR (M.2.1 94) (tn (M.2.1 93 2)))))) M
  | _ => False
set_option maxRecDepth 20000 in
theorem ok_X4_mostRounds : Ok yX4_mostRounds mt_X4_mostRounds P_X4_mostRounds := by
  refine Ok.of (by decide) rfl rfl rfl rfl fun av ⟨S, I, L⟩ R hP => ?_
  unfold P_X4_mostRounds at hP
  split at hP
  case h_2 => exact hP.elim
  rename_i k
  obtain ⟨k, rfl⟩ : ∃ q : Nat, q = k := ⟨k, rfl⟩
  refine ⟨by simp [ent, wide, mt_X4_mostRounds], ?_⟩
  show J mt_X4_mostRounds R 0 [some (.ref k), none, none] [] (S, I, L)
  try dsimp only at hP
  obtain ⟨rfl, hk, ⟨c, h6, hc, h20⟩, hR⟩ := hP
  rw [hc, tn_nI (by omega)] at hR
  refine J.of tk_X4_mostRounds 200 fun ρ hρ => ?_
  simp only [hρ, x_c, x_il, x_ll, x_al, x_is, x_as, x_ls, x_inc, x_ii, x_iq, x_i1, x_l2, x_lq, x_lh, x_i2l, x_l2i, x_lcmp, x_dup, x_dup2, x_pop, x_if, x_ifn, x_ic, x_icn, x_go, x_sw, swc, x_l01, x_mx, x_gI, x_gL, x_gR, x_pI, x_pZ, x_pL, x_pR, x_ia, x_za, x_aa, x_ias, x_zas, x_aas, x_fac, x_fa, x_slen, x_sa, x_ac, x_oi, x_new, x_na, x_cS, x_cV, x_cI, x_rI, x_rZ, x_rL, x_r0, pa, short, oc, lg, lset, lset2, wide, cond_true, cond_false, true_and, and_true, ↓reduceIte, Bool.false_eq_true, true_or, or_true, lf_X4_mostRounds]
  refine up (P := fun i => J mt_X4_mostRounds R 4 [some (.ref 93), some (.int (nI (mxR (I 94) i))), some (.int (nI i))] [] (S, I, L)) (n := c) (fun i hi ih => ?_) 0 (Nat.zero_le _)
  refine J.of tk_X4_mostRounds 200 fun ρ hρ => ?_
  simp only [hρ, x_c, x_il, x_ll, x_al, x_is, x_as, x_ls, x_inc, x_ii, x_iq, x_i1, x_l2, x_lq, x_lh, x_i2l, x_l2i, x_lcmp, x_dup, x_dup2, x_pop, x_if, x_ifn, x_ic, x_icn, x_go, x_sw, swc, x_l01, x_mx, x_gI, x_gL, x_gR, x_pI, x_pZ, x_pL, x_pR, x_ia, x_za, x_aa, x_ias, x_zas, x_aas, x_fac, x_fa, x_slen, x_sa, x_ac, x_oi, x_new, x_na, x_cS, x_cV, x_cI, x_rI, x_rZ, x_rL, x_r0, pa, short, oc, lg, lset, lset2, wide, cond_true, cond_false, true_and, and_true, ↓reduceIte, Bool.false_eq_true, true_or, or_true, lf_X4_mostRounds, hk.f, hc, nI_leI (show c < 2 ^ 31 by omega) (show i < 2 ^ 31 by omega), ncl (show i < 2 ^ 31 by omega), nI_1]
  refine ⟨fun h => ?_, fun h => ⟨vp_in_nI (by omega) (by omega), ?_⟩⟩
  · have : i = c := by omega
    subst this
    exact hR
  · have hw := ih (by omega)
    have h1 := mxR_le (f := I 94) (i := i) (fun j hj => h20 j (by omega))
    have h2 := h20 i (by omega)
    have e : (if nI (mxR (I 94) i) < I 94 i then I 94 i else nI (mxR (I 94) i)) = nI (mxR (I 94) (i + 1)) := by
      have e1 : I 94 i = nI (tn (I 94 i)) := (nI_tn _).symm
      simp only [mxR]
      rw [e1, tn_nI (n := tn (I 94 i)) (by omega)]
      by_cases hl : mxR (I 94) i < tn (I 94 i)
      · rw [if_pos hl, if_pos ((nI_ltI (by omega) (by omega)).mpr hl)]
      · rw [if_neg hl, if_neg (fun q => hl ((nI_ltI (by omega) (by omega)).mp q))]
    rw [e]
    exact hw
def bB (b : Bool) : Int32 := if b = true then 1 else 0
theorem bB_0 {b : Bool} : bB b = 0 ↔ ¬ b = true := by cases b <;> decide
theorem bB_t {b : Bool} (h : b = true) : bB b = 1 := by rw [h]; rfl
theorem bB_f {b : Bool} (h : ¬ b = true) : bB b = 0 := by cases b; rfl; exact absurd rfl h
theorem bB_or {b : Bool} : bB b = 0 ∨ bB b = 1 := by cases b <;> decide
theorem bB_congr {a b : Bool} (h : a = true ↔ b = true) : bB a = bB b := by cases a <;> cases b <;> simp_all
def sbB (rw op : Nat → Int32) (n v : Int32) : Nat → Bool
  | 0 => true
  | i + 1 => sbB rw op n v i && (!(rw i == n) || (op i == v))
theorem sbB_iff (rw op : Nat → Int32) (n v : Int32) : ∀ c, sbB rw op n v c = true ↔ ∀ i, i < c → rw i = n → op i = v
  | 0 => by simp [sbB]
  | c + 1 => by
    simp only [sbB, Bool.and_eq_true, sbB_iff rw op n v c, Bool.or_eq_true, Bool.not_eq_true', beq_eq_false_iff_ne, beq_iff_eq]
    constructor
    · rintro ⟨h1, h2⟩ i hi e
      by_cases ei : i = c
      · subst ei; exact h2.resolve_left (fun z => z e)
      · exact h1 i (by omega) e
    · intro h
      refine ⟨fun i hi => h i (by omega), ?_⟩
      by_cases e : rw c = n
      · exact Or.inr (h c (by omega) e)
      · exact Or.inl e
def il_X4_isSoBehind : List (Nat × Instr × Nat) := [(0, .iconst 0, 1), (1, .istore_n 3, 1), (2, .iload_n 3, 1), (3, .aload_n 0, 1), (4, .getfield 18, 3), (7, .if_icmp .ge 31, 3), (10, .aload_n 0, 1), (11, .getfield 9, 3), (14, .iload_n 3, 1), (15, .iaload, 1), (16, .iload_n 1, 1), (17, .if_icmp .ne 15, 3), (20, .aload_n 0, 1), (21, .getfield 15, 3), (24, .iload_n 3, 1), (25, .iaload, 1), (26, .iload_n 2, 1), (27, .if_icmp .eq 5, 3), (30, .iconst 0, 1), (31, .ireturn, 1), (32, .iinc 3 1, 3), (35, .goto (-33), 3), (38, .iconst 1, 1), (39, .ireturn, 1)]
def mt_X4_isSoBehind : Mt := (cX4_isSoBehind, RX4, 4, (some .boolean), ({ frames := 0, cells := 0, slots := 0, locals := 0 } : Room), false, none, none)
set_option maxRecDepth 100000 in
theorem dl_X4_isSoBehind : ∀ q ∈ il_X4_isSoBehind, decode (mt_X4_isSoBehind).1 q.1 = .ok q.2 := by decide +kernel
def tb_X4_isSoBehind : Tb := [(0, x_c 1 (.int 0), false),
  (1, x_is 2 3, false),
  (2, x_il 3 3, true),
  (3, x_al 4 0, false),
  (4, x_gI 4 2 7, false),
  (7, x_ic 38 10 (fun x y : Int32 => y ≤ x), false),
  (10, x_al 11 0, false),
  (11, x_gR 4 0 14, false),
  (14, x_il 15 3, false),
  (15, x_ia 16, false),
  (16, x_il 17 1, false),
  (17, x_icn 32 20 (fun x y : Int32 => x = y), false),
  (20, x_al 21 0, false),
  (21, x_gR 4 1 24, false),
  (24, x_il 25 3, false),
  (25, x_ia 26, false),
  (26, x_il 27 2, false),
  (27, x_ic 32 30 (fun x y : Int32 => x = y), false),
  (30, x_c 31 (.int 0), false),
  (31, x_rZ, false),
  (32, x_inc 35 3 1, false),
  (35, x_go 2, false),
  (38, x_c 39 (.int 1), false),
  (39, x_rZ, false)]
set_option maxRecDepth 100000 in
theorem tk_X4_isSoBehind : TbOk (mt_X4_isSoBehind) (tb_X4_isSoBehind) :=
  tkc (s_iconst (at_ dl_X4_isSoBehind 0 (ins := .iconst 0) rfl) (by first | rfl | decide)) (
  tkc (s_istore_n (at_ dl_X4_isSoBehind 1 (ins := .istore_n 3) rfl) (by decide)) (
  tkc (s_iload_n (at_ dl_X4_isSoBehind 2 (ins := .iload_n 3) rfl)) (
  tkc (s_aload_n (at_ dl_X4_isSoBehind 3 (ins := .aload_n 0) rfl)) (
  tkc (s_gI (at_ dl_X4_isSoBehind 4 (ins := .getfield 18) rfl) (by decide) (by decide) (by decide) (tg 245 (by decide +kernel) (by decide +kernel))) (
  tkc (s_ic_ge (at_ dl_X4_isSoBehind 5 (ins := .if_icmp .ge 31) rfl) (by decide)) (
  tkc (s_aload_n (at_ dl_X4_isSoBehind 6 (ins := .aload_n 0) rfl)) (
  tkc (s_gR (at_ dl_X4_isSoBehind 7 (ins := .getfield 9) rfl) (by decide) (by decide) (by decide) (tg 243 (by decide +kernel) (by decide +kernel))) (
  tkc (s_iload_n (at_ dl_X4_isSoBehind 8 (ins := .iload_n 3) rfl)) (
  tkc (s_ia (at_ dl_X4_isSoBehind 9 (ins := .iaload) rfl)) (
  tkc (s_iload_n (at_ dl_X4_isSoBehind 10 (ins := .iload_n 1) rfl)) (
  tkc (s_ic_ne (at_ dl_X4_isSoBehind 11 (ins := .if_icmp .ne 15) rfl) (by decide)) (
  tkc (s_aload_n (at_ dl_X4_isSoBehind 12 (ins := .aload_n 0) rfl)) (
  tkc (s_gR (at_ dl_X4_isSoBehind 13 (ins := .getfield 15) rfl) (by decide) (by decide) (by decide) (tg 244 (by decide +kernel) (by decide +kernel))) (
  tkc (s_iload_n (at_ dl_X4_isSoBehind 14 (ins := .iload_n 3) rfl)) (
  tkc (s_ia (at_ dl_X4_isSoBehind 15 (ins := .iaload) rfl)) (
  tkc (s_iload_n (at_ dl_X4_isSoBehind 16 (ins := .iload_n 2) rfl)) (
  tkc (s_ic_eq (at_ dl_X4_isSoBehind 17 (ins := .if_icmp .eq 5) rfl) (by decide)) (
  tkc (s_iconst (at_ dl_X4_isSoBehind 18 (ins := .iconst 0) rfl) (by first | rfl | decide)) (
  tkc (s_rZ (at_ dl_X4_isSoBehind 19 (ins := .ireturn) rfl) rfl) (
  tkc (s_iinc (at_ dl_X4_isSoBehind 20 (ins := .iinc 3 1) rfl) (by decide) (by first | rfl | decide)) (
  tkc (s_goto (at_ dl_X4_isSoBehind 21 (ins := .goto (-33)) rfl) (by decide)) (
  tkc (s_iconst (at_ dl_X4_isSoBehind 22 (ins := .iconst 1) rfl) (by first | rfl | decide)) (
  tkc (s_rZ (at_ dl_X4_isSoBehind 23 (ins := .ireturn) rfl) rfl) ( tk0))))))))))))))))))))))))
theorem lf_X4_isSoBehind : lk (tb_X4_isSoBehind) 0 = (x_c 1 (.int 0), false) ∧ lk (tb_X4_isSoBehind) 1 = (x_is 2 3, false) ∧ lk (tb_X4_isSoBehind) 2 = (x_il 3 3, true) ∧ lk (tb_X4_isSoBehind) 3 = (x_al 4 0, false) ∧ lk (tb_X4_isSoBehind) 4 = (x_gI 4 2 7, false) ∧ lk (tb_X4_isSoBehind) 7 = (x_ic 38 10 (fun x y : Int32 => y ≤ x), false) ∧ lk (tb_X4_isSoBehind) 10 = (x_al 11 0, false) ∧ lk (tb_X4_isSoBehind) 11 = (x_gR 4 0 14, false) ∧ lk (tb_X4_isSoBehind) 14 = (x_il 15 3, false) ∧ lk (tb_X4_isSoBehind) 15 = (x_ia 16, false) ∧ lk (tb_X4_isSoBehind) 16 = (x_il 17 1, false) ∧ lk (tb_X4_isSoBehind) 17 = (x_icn 32 20 (fun x y : Int32 => x = y), false) ∧ lk (tb_X4_isSoBehind) 20 = (x_al 21 0, false) ∧ lk (tb_X4_isSoBehind) 21 = (x_gR 4 1 24, false) ∧ lk (tb_X4_isSoBehind) 24 = (x_il 25 3, false) ∧ lk (tb_X4_isSoBehind) 25 = (x_ia 26, false) ∧ lk (tb_X4_isSoBehind) 26 = (x_il 27 2, false) ∧ lk (tb_X4_isSoBehind) 27 = (x_ic 32 30 (fun x y : Int32 => x = y), false) ∧ lk (tb_X4_isSoBehind) 30 = (x_c 31 (.int 0), false) ∧ lk (tb_X4_isSoBehind) 31 = (x_rZ, false) ∧ lk (tb_X4_isSoBehind) 32 = (x_inc 35 3 1, false) ∧ lk (tb_X4_isSoBehind) 35 = (x_go 2, false) ∧ lk (tb_X4_isSoBehind) 38 = (x_c 39 (.int 1), false) ∧ lk (tb_X4_isSoBehind) 39 = (x_rZ, false) := ⟨rfl, rfl, rfl, rfl, rfl, rfl, rfl, rfl, rfl, rfl, rfl, rfl, rfl, rfl, rfl, rfl, rfl, rfl, rfl, rfl, rfl, rfl, rfl, rfl⟩
def P_X4_isSoBehind : PTT := fun as M R => match as with
  | [.ref k, .int n, .int v] => k = 93 ∧ IsSe M.1 ∧ (∃ c, SeV M.2.1 c) ∧ R (some (.int (bB (sbB (M.2.1 94) (M.2.1 95) n v (tn (M.2.1 93 2)))))) M
  | _ => False
set_option maxRecDepth 20000 in
theorem ok_X4_isSoBehind : Ok yX4_isSoBehind mt_X4_isSoBehind P_X4_isSoBehind := by
  refine Ok.of (by decide) rfl rfl rfl rfl fun av ⟨S, I, L⟩ R hP => ?_
  unfold P_X4_isSoBehind at hP
  split at hP
  case h_2 => exact hP.elim
  rename_i k n v
  obtain ⟨k, rfl⟩ : ∃ q : Nat, q = k := ⟨k, rfl⟩
  refine ⟨by simp [ent, wide, mt_X4_isSoBehind], ?_⟩
  show J mt_X4_isSoBehind R 0 [some (.ref k), some (.int n), some (.int v), none] [] (S, I, L)
  try dsimp only at hP
  obtain ⟨rfl, hk, ⟨c, h6, hc, h20⟩, hR⟩ := hP
  rw [hc, tn_nI (by omega)] at hR
  refine J.of tk_X4_isSoBehind 200 fun ρ hρ => ?_
  simp only [hρ, x_c, x_il, x_ll, x_al, x_is, x_as, x_ls, x_inc, x_ii, x_iq, x_i1, x_l2, x_lq, x_lh, x_i2l, x_l2i, x_lcmp, x_dup, x_dup2, x_pop, x_if, x_ifn, x_ic, x_icn, x_go, x_sw, swc, x_l01, x_mx, x_gI, x_gL, x_gR, x_pI, x_pZ, x_pL, x_pR, x_ia, x_za, x_aa, x_ias, x_zas, x_aas, x_fac, x_fa, x_slen, x_sa, x_ac, x_oi, x_new, x_na, x_cS, x_cV, x_cI, x_rI, x_rZ, x_rL, x_r0, pa, short, oc, lg, lset, lset2, wide, cond_true, cond_false, true_and, and_true, ↓reduceIte, Bool.false_eq_true, true_or, or_true, lf_X4_isSoBehind]
  have key := up (P := fun i => (∀ j, j < i → I 94 j = n → I 95 j = v) → J mt_X4_isSoBehind R 2 [some (.ref 93), some (.int n), some (.int v), some (.int (nI i))] [] (S, I, L)) (n := c) (fun i hi ih => ?_) 0 (Nat.zero_le _)
  · exact key (fun j hj => by omega)
  intro hall
  have hv : i < c → vp_in (nI i) 6 := fun h => vp_in_nI (by omega) (by omega)
  refine J.of tk_X4_isSoBehind 200 fun ρ hρ => ?_
  simp only [hρ, x_c, x_il, x_ll, x_al, x_is, x_as, x_ls, x_inc, x_ii, x_iq, x_i1, x_l2, x_lq, x_lh, x_i2l, x_l2i, x_lcmp, x_dup, x_dup2, x_pop, x_if, x_ifn, x_ic, x_icn, x_go, x_sw, swc, x_l01, x_mx, x_gI, x_gL, x_gR, x_pI, x_pZ, x_pL, x_pR, x_ia, x_za, x_aa, x_ias, x_zas, x_aas, x_fac, x_fa, x_slen, x_sa, x_ac, x_oi, x_new, x_na, x_cS, x_cV, x_cI, x_rI, x_rZ, x_rL, x_r0, pa, short, oc, lg, lset, lset2, wide, cond_true, cond_false, true_and, and_true, ↓reduceIte, Bool.false_eq_true, true_or, or_true, lf_X4_isSoBehind, hk.f, hc, nI_leI (show c < 2 ^ 31 by omega) (show i < 2 ^ 31 by omega), ncl (show i < 2 ^ 31 by omega), nI_1]
  refine ⟨fun h => ?_, fun h => ⟨hv (by omega), fun h2 => ih (by omega) (fun j hj e => ?_), fun h2 => ⟨hv (by omega), fun h3 => ih (by omega) (fun j hj e => ?_), fun h3 => ?_⟩⟩⟩
  · have : i = c := by omega
    subst this
    rwa [bB_t ((sbB_iff _ _ _ _ _).mpr hall)] at hR
  · by_cases ej : j = i
    · subst ej; exact absurd e h2
    · exact hall j (by omega) e
  · by_cases ej : j = i
    · subst ej; exact h3
    · exact hall j (by omega) e
  · rwa [bB_f (fun q => h3 ((sbB_iff _ _ _ _ _).mp q i (by omega) h2))] at hR
def soB (opR : Nat → Nat) (rw op : Nat → Int32) : Nat → Bool
  | 0 => true
  | i + 1 => soB opR rw op i && (nI (opR (tn (rw i))) == op i)
theorem soB_iff (opR : Nat → Nat) (rw op : Nat → Int32) : ∀ c, soB opR rw op c = true ↔ ∀ i, i < c → nI (opR (tn (rw i))) = op i
  | 0 => by simp [soB]
  | c + 1 => by
    simp only [soB, Bool.and_eq_true, soB_iff opR rw op c, beq_iff_eq]
    constructor
    · rintro ⟨h1, h2⟩ i hi
      by_cases ei : i = c
      · subst ei; exact h2
      · exact h1 i (by omega)
    · intro h
      exact ⟨fun i hi => h i (by omega), h c (by omega)⟩
def opR (n m : Nat) (off : Int32) (ov ord : Nat → Nat) (d : DS) : Nat → Nat := fun r => opD n m ov (itD n m off ov ord r d)
def ap93 (k : Nat) : Prop := k + 5 ≤ 93 ∨ 96 ≤ k
def il_X4_isSoBy : List (Nat × Instr × Nat) := [(0, .aload_n 0, 1), (1, .invokevirtual 22, 3), (4, .istore_n 3, 1), (5, .aload_n 1, 1), (6, .invokevirtual 26, 3), (9, .iconst 0, 1), (10, .istore 4, 2), (12, .iload 4, 2), (14, .iload_n 3, 1), (15, .if_icmp .ge 30, 3), (18, .aload_n 0, 1), (19, .iload 4, 2), (21, .aload_n 1, 1), (22, .invokevirtual 31, 3), (25, .invokevirtual 33, 3), (28, .ifCond .ne 5, 3), (31, .iconst 0, 1), (32, .ireturn, 1), (33, .aload_n 2, 1), (34, .aload_n 1, 1), (35, .invokevirtual 37, 3), (38, .pop, 1), (39, .iinc 4 1, 3), (42, .goto (-30), 3), (45, .aload_n 0, 1), (46, .iload_n 3, 1), (47, .aload_n 1, 1), (48, .invokevirtual 31, 3), (51, .invokevirtual 33, 3), (54, .ireturn, 1)]
def mt_X4_isSoBy : Mt := (cX4_isSoBy, RX4, 5, (some .boolean), ({ frames := 3, cells := 0, slots := 0, locals := 77 } : Room), false, none, none)
set_option maxRecDepth 100000 in
theorem dl_X4_isSoBy : ∀ q ∈ il_X4_isSoBy, decode (mt_X4_isSoBy).1 q.1 = .ok q.2 := by decide +kernel
def tb_X4_isSoBy : Tb := [(0, x_al 1 0, false),
  (1, x_cV 4 0 P_X4_mostRounds 4, false),
  (4, x_is 5 3, false),
  (5, x_al 6 1, false),
  (6, x_cV 5 0 P_X5_beginAnew 9, false),
  (9, x_c 10 (.int 0), false),
  (10, x_is 12 4, false),
  (12, x_il 14 4, true),
  (14, x_il 15 3, false),
  (15, x_ic 45 18 (fun x y : Int32 => y ≤ x), false),
  (18, x_al 19 0, false),
  (19, x_il 21 4, false),
  (21, x_al 22 1, false),
  (22, x_cV 5 0 P_X5_open 25, false),
  (25, x_cV 4 2 P_X4_isSoBehind 28, false),
  (28, x_ifn 33 31 (fun x : Int32 => x = 0), false),
  (31, x_c 32 (.int 0), false),
  (32, x_rZ, false),
  (33, x_al 34 2, false),
  (34, x_al 35 1, false),
  (35, x_cV 1 1 P_X1_runRound 38, false),
  (38, x_pop 39, false),
  (39, x_inc 42 4 1, false),
  (42, x_go 12, false),
  (45, x_al 46 0, false),
  (46, x_il 47 3, false),
  (47, x_al 48 1, false),
  (48, x_cV 5 0 P_X5_open 51, false),
  (51, x_cV 4 2 P_X4_isSoBehind 54, false),
  (54, x_rZ, false)]
set_option maxRecDepth 100000 in
theorem tk_X4_isSoBy : TbOk (mt_X4_isSoBy) (tb_X4_isSoBy) :=
  tkc (s_aload_n (at_ dl_X4_isSoBy 0 (ins := .aload_n 0) rfl)) (
  tkc (s_cV ok_X4_mostRounds (at_ dl_X4_isSoBy 1 (ins := .invokevirtual 22) rfl) (by decide) rfl (tg 626 (by decide +kernel) (by decide +kernel)) (tg 628 (by decide +kernel) (by decide +kernel)) (tg 15 (by decide +kernel) (by decide +kernel)) (tg 50 (by decide +kernel) (by decide +kernel)) (tg 629 (by decide +kernel) (by decide +kernel)) (⟨by decide, by decide, by decide +kernel⟩) (⟨by decide, by decide⟩) rfl rfl) (
  tkc (s_istore_n (at_ dl_X4_isSoBy 2 (ins := .istore_n 3) rfl) (by decide)) (
  tkc (s_aload_n (at_ dl_X4_isSoBy 3 (ins := .aload_n 1) rfl)) (
  tkc (s_cV ok_X5_beginAnew (at_ dl_X4_isSoBy 4 (ins := .invokevirtual 26) rfl) (by decide) rfl (tg 633 (by decide +kernel) (by decide +kernel)) (tg 349 (by decide +kernel) (by decide +kernel)) (tg 350 (by decide +kernel) (by decide +kernel)) (tg 45 (by decide +kernel) (by decide +kernel)) (tg 351 (by decide +kernel) (by decide +kernel)) (⟨by decide, by decide, by decide +kernel⟩) (⟨by decide, by decide⟩) rfl rfl) (
  tkc (s_iconst (at_ dl_X4_isSoBy 5 (ins := .iconst 0) rfl) (by first | rfl | decide)) (
  tkc (s_istore (at_ dl_X4_isSoBy 6 (ins := .istore 4) rfl) (by decide)) (
  tkc (s_iload (at_ dl_X4_isSoBy 7 (ins := .iload 4) rfl)) (
  tkc (s_iload_n (at_ dl_X4_isSoBy 8 (ins := .iload_n 3) rfl)) (
  tkc (s_ic_ge (at_ dl_X4_isSoBy 9 (ins := .if_icmp .ge 30) rfl) (by decide)) (
  tkc (s_aload_n (at_ dl_X4_isSoBy 10 (ins := .aload_n 0) rfl)) (
  tkc (s_iload (at_ dl_X4_isSoBy 11 (ins := .iload 4) rfl)) (
  tkc (s_aload_n (at_ dl_X4_isSoBy 12 (ins := .aload_n 1) rfl)) (
  tkc (s_cV ok_X5_open (at_ dl_X4_isSoBy 13 (ins := .invokevirtual 31) rfl) (by decide) rfl (tg 634 (by decide +kernel) (by decide +kernel)) (tg 365 (by decide +kernel) (by decide +kernel)) (tg 366 (by decide +kernel) (by decide +kernel)) (tg 45 (by decide +kernel) (by decide +kernel)) (tg 367 (by decide +kernel) (by decide +kernel)) (⟨by decide, by decide, by decide +kernel⟩) (⟨by decide, by decide⟩) rfl rfl) (
  tkc (s_cV ok_X4_isSoBehind (at_ dl_X4_isSoBy 14 (ins := .invokevirtual 33) rfl) (by decide) rfl (tg 635 (by decide +kernel) (by decide +kernel)) (tg 637 (by decide +kernel) (by decide +kernel)) (tg 16 (by decide +kernel) (by decide +kernel)) (tg 50 (by decide +kernel) (by decide +kernel)) (tg 638 (by decide +kernel) (by decide +kernel)) (⟨by decide, by decide, by decide +kernel⟩) (⟨by decide, by decide⟩) rfl rfl) (
  tkc (s_if_ne (at_ dl_X4_isSoBy 15 (ins := .ifCond .ne 5) rfl) (by decide)) (
  tkc (s_iconst (at_ dl_X4_isSoBy 16 (ins := .iconst 0) rfl) (by first | rfl | decide)) (
  tkc (s_rZ (at_ dl_X4_isSoBy 17 (ins := .ireturn) rfl) rfl) (
  tkc (s_aload_n (at_ dl_X4_isSoBy 18 (ins := .aload_n 2) rfl)) (
  tkc (s_aload_n (at_ dl_X4_isSoBy 19 (ins := .aload_n 1) rfl)) (
  tkc (s_cV ok_X1_runRound (at_ dl_X4_isSoBy 20 (ins := .invokevirtual 37) rfl) (by decide) rfl (tg 639 (by decide +kernel) (by decide +kernel)) (tg 454 (by decide +kernel) (by decide +kernel)) (tg 455 (by decide +kernel) (by decide +kernel)) (tg 46 (by decide +kernel) (by decide +kernel)) (tg 456 (by decide +kernel) (by decide +kernel)) (⟨by decide, by decide, by decide +kernel⟩) (⟨by decide, by decide⟩) rfl rfl) (
  tkc (s_pop (at_ dl_X4_isSoBy 21 (ins := .pop) rfl)) (
  tkc (s_iinc (at_ dl_X4_isSoBy 22 (ins := .iinc 4 1) rfl) (by decide) (by first | rfl | decide)) (
  tkc (s_goto (at_ dl_X4_isSoBy 23 (ins := .goto (-30)) rfl) (by decide)) (
  tkc (s_aload_n (at_ dl_X4_isSoBy 24 (ins := .aload_n 0) rfl)) (
  tkc (s_iload_n (at_ dl_X4_isSoBy 25 (ins := .iload_n 3) rfl)) (
  tkc (s_aload_n (at_ dl_X4_isSoBy 26 (ins := .aload_n 1) rfl)) (
  tkc (s_cV ok_X5_open (at_ dl_X4_isSoBy 27 (ins := .invokevirtual 31) rfl) (by decide) rfl (tg 634 (by decide +kernel) (by decide +kernel)) (tg 365 (by decide +kernel) (by decide +kernel)) (tg 366 (by decide +kernel) (by decide +kernel)) (tg 45 (by decide +kernel) (by decide +kernel)) (tg 367 (by decide +kernel) (by decide +kernel)) (⟨by decide, by decide, by decide +kernel⟩) (⟨by decide, by decide⟩) rfl rfl) (
  tkc (s_cV ok_X4_isSoBehind (at_ dl_X4_isSoBy 28 (ins := .invokevirtual 33) rfl) (by decide) rfl (tg 635 (by decide +kernel) (by decide +kernel)) (tg 637 (by decide +kernel) (by decide +kernel)) (tg 16 (by decide +kernel) (by decide +kernel)) (tg 50 (by decide +kernel) (by decide +kernel)) (tg 638 (by decide +kernel) (by decide +kernel)) (⟨by decide, by decide, by decide +kernel⟩) (⟨by decide, by decide⟩) rfl rfl) (
  tkc (s_rZ (at_ dl_X4_isSoBy 29 (ins := .ireturn) rfl) rfl) ( tk0))))))))))))))))))))))))))))))
theorem lf_X4_isSoBy : lk (tb_X4_isSoBy) 0 = (x_al 1 0, false) ∧ lk (tb_X4_isSoBy) 1 = (x_cV 4 0 P_X4_mostRounds 4, false) ∧ lk (tb_X4_isSoBy) 4 = (x_is 5 3, false) ∧ lk (tb_X4_isSoBy) 5 = (x_al 6 1, false) ∧ lk (tb_X4_isSoBy) 6 = (x_cV 5 0 P_X5_beginAnew 9, false) ∧ lk (tb_X4_isSoBy) 9 = (x_c 10 (.int 0), false) ∧ lk (tb_X4_isSoBy) 10 = (x_is 12 4, false) ∧ lk (tb_X4_isSoBy) 12 = (x_il 14 4, true) ∧ lk (tb_X4_isSoBy) 14 = (x_il 15 3, false) ∧ lk (tb_X4_isSoBy) 15 = (x_ic 45 18 (fun x y : Int32 => y ≤ x), false) ∧ lk (tb_X4_isSoBy) 18 = (x_al 19 0, false) ∧ lk (tb_X4_isSoBy) 19 = (x_il 21 4, false) ∧ lk (tb_X4_isSoBy) 21 = (x_al 22 1, false) ∧ lk (tb_X4_isSoBy) 22 = (x_cV 5 0 P_X5_open 25, false) ∧ lk (tb_X4_isSoBy) 25 = (x_cV 4 2 P_X4_isSoBehind 28, false) ∧ lk (tb_X4_isSoBy) 28 = (x_ifn 33 31 (fun x : Int32 => x = 0), false) ∧ lk (tb_X4_isSoBy) 31 = (x_c 32 (.int 0), false) ∧ lk (tb_X4_isSoBy) 32 = (x_rZ, false) ∧ lk (tb_X4_isSoBy) 33 = (x_al 34 2, false) ∧ lk (tb_X4_isSoBy) 34 = (x_al 35 1, false) ∧ lk (tb_X4_isSoBy) 35 = (x_cV 1 1 P_X1_runRound 38, false) ∧ lk (tb_X4_isSoBy) 38 = (x_pop 39, false) ∧ lk (tb_X4_isSoBy) 39 = (x_inc 42 4 1, false) ∧ lk (tb_X4_isSoBy) 42 = (x_go 12, false) ∧ lk (tb_X4_isSoBy) 45 = (x_al 46 0, false) ∧ lk (tb_X4_isSoBy) 46 = (x_il 47 3, false) ∧ lk (tb_X4_isSoBy) 47 = (x_al 48 1, false) ∧ lk (tb_X4_isSoBy) 48 = (x_cV 5 0 P_X5_open 51, false) ∧ lk (tb_X4_isSoBy) 51 = (x_cV 4 2 P_X4_isSoBehind 54, false) ∧ lk (tb_X4_isSoBy) 54 = (x_rZ, false) := ⟨rfl, rfl, rfl, rfl, rfl, rfl, rfl, rfl, rfl, rfl, rfl, rfl, rfl, rfl, rfl, rfl, rfl, rfl, rfl, rfl, rfl, rfl, rfl, rfl, rfl, rfl, rfl, rfl, rfl, rfl⟩
def P_X4_isSoBy : PTT := fun as M R => match as with
  | [.ref z, .ref k, .ref d] => z = 93 ∧ d = 15 ∧ IsSe M.1 ∧ IsDc M.1 ∧ IsSt M.1 k ∧ ap15 k ∧ ap93 k ∧ ∃ n m c, SV M.2.1 k n m ∧ OrdV M.2.1 m ∧ SeV M.2.1 c ∧ ∀ I', frR k M.2.1 I' → I' k = upd (M.2.1 k) 7 0 → DSok (I' (k + 3), I' (k + 4)) → R (some (.int (bB (soB (opR n m (M.2.1 k 6) (ovS M.2.1 k) (ordI M.2.1) (d0S M.2.1 k)) (M.2.1 94) (M.2.1 95) c)))) (M.1, I', M.2.2)
  | _ => False
set_option maxRecDepth 20000 in
theorem ok_X4_isSoBy : Ok yX4_isSoBy mt_X4_isSoBy P_X4_isSoBy := by
  refine Ok.of (by decide) rfl rfl rfl rfl fun av ⟨S, I, L⟩ R hP => ?_
  unfold P_X4_isSoBy at hP
  split at hP
  case h_2 => exact hP.elim
  rename_i z k d
  obtain ⟨z, rfl⟩ : ∃ q : Nat, q = z := ⟨z, rfl⟩
  obtain ⟨k, rfl⟩ : ∃ q : Nat, q = k := ⟨k, rfl⟩
  obtain ⟨d, rfl⟩ : ∃ q : Nat, q = d := ⟨d, rfl⟩
  refine ⟨by simp [ent, wide, mt_X4_isSoBy], ?_⟩
  show J mt_X4_isSoBy R 0 [some (.ref z), some (.ref k), some (.ref d), none, none] [] (S, I, L)
  try dsimp only at hP
  obtain ⟨rfl, rfl, hz, hd, hk, hj0, hj1, n, m, c, hv, ho, hse, hR⟩ := hP
  have hj : (k : Nat) + 5 ≤ 15 ∨ 18 ≤ (k : Nat) := hj0
  have hj9 : (k : Nat) + 5 ≤ 93 ∨ 96 ≤ (k : Nat) := hj1
  obtain ⟨⟨n2, n9, m6⟩, -⟩ := id hv
  have hsex : ∃ c, SeV I c := ⟨c, hse⟩
  have hc9 : tn (I 93 2) = c := by rw [hse.2.1]; exact tn_nI (by have := hse.1; omega)
  refine J.of tk_X4_isSoBy 200 fun ρ hρ => ?_
  simp only [hρ, x_c, x_il, x_ll, x_al, x_is, x_as, x_ls, x_inc, x_ii, x_iq, x_i1, x_l2, x_lq, x_lh, x_i2l, x_l2i, x_lcmp, x_dup, x_dup2, x_pop, x_if, x_ifn, x_ic, x_icn, x_go, x_sw, swc, x_l01, x_mx, x_gI, x_gL, x_gR, x_pI, x_pZ, x_pL, x_pR, x_ia, x_za, x_aa, x_ias, x_zas, x_aas, x_fac, x_fa, x_slen, x_sa, x_ac, x_oi, x_new, x_na, x_cS, x_cV, x_cI, x_rI, x_rZ, x_rL, x_r0, pa, short, oc, lg, lset, lset2, wide, cond_true, cond_false, true_and, and_true, ↓reduceIte, Bool.false_eq_true, true_or, or_true, lf_X4_isSoBy, hz, hz.f, hk, hk.f, P_X5_beginAnew, P_X4_mostRounds, hsex, hc9]
  have hmx := mxR_le hse.2.2
  generalize hM : mxR (I 94) c = mx at hmx
  have hmge : ∀ i, i < c → tn (I 94 i) ≤ mx := fun i hi => by rw [← hM]; exact mxR_ge hi
  have hvb := SV_beg hv
  generalize hB : begI I k = B at hvb
  have hBk : B k = upd (I k) 7 0 := by rw [← hB, beg_k]
  have hB1 : B (k + 1) = I (k + 1) := by rw [← hB]; exact beg_r (by omega) (by omega) (by omega)
  have hB16 : B 16 = I 16 := by rw [← hB]; exact beg_r (by omega) (by omega) (by omega)
  have hB93 : B 93 = I 93 := by rw [← hB]; exact beg_r (by omega) (by omega) (by omega)
  have hB94 : B 94 = I 94 := by rw [← hB]; exact beg_r (by omega) (by omega) (by omega)
  have hB95 : B 95 = I 95 := by rw [← hB]; exact beg_r (by omega) (by omega) (by omega)
  have hBd : (B (k + 3), B (k + 4)) = d0S I k := by rw [← hB, beg_3, beg_4]; rfl
  have hBo : OrdV B m := by intro j hj; rw [hB16]; exact ho j hj
  have hoff : B k 6 = I k 6 := by rw [hBk]; rfl
  have hBor : ordI B = ordI I := by funext j; simp only [ordI, hB16]
  have key := up (P := fun i => ∀ I', frD k B I' → (I' (k + 3), I' (k + 4)) = itD n m (I k 6) (ovS I k) (ordI I) i (d0S I k) → (∀ j, j < c → tn (I 94 j) < i → nI (opR n m (I k 6) (ovS I k) (ordI I) (d0S I k) (tn (I 94 j))) = I 95 j) → J mt_X4_isSoBy R 12 [some (.ref 93), some (.ref k), some (.ref 15), some (.int (nI mx)), some (.int (nI i))] [] (S, I', L)) (n := mx) (fun i hi ih => ?_) 0 (Nat.zero_le _)
  · exact key B (fun _ _ _ _ _ => rfl) hBd (fun j _ h => by omega)
  intro I' hf hD hall
  have e0 : I' k = B k := hf k (by omega) (by omega) (by omega) (by omega)
  have e1 : I' (k + 1) = B (k + 1) := hf (k + 1) (by omega) (by omega) (by omega) (by omega)
  have e2 : I' (k + 2) = B (k + 2) := hf (k + 2) (by omega) (by omega) (by omega) (by omega)
  have e16 : I' 16 = B 16 := hf 16 (by omega) (by omega) (by omega) (by omega)
  have e93 : I' 93 = I 93 := (hf 93 (by omega) (by omega) (by omega) (by omega)).trans hB93
  have e94 : I' 94 = I 94 := (hf 94 (by omega) (by omega) (by omega) (by omega)).trans hB94
  have e95 : I' 95 = I 95 := (hf 95 (by omega) (by omega) (by omega) (by omega)).trans hB95
  have hok := itD_ok (n := n) (m := m) (off := I k 6) (ov := ovS I k) (ord := ordI I) (d0_ok hv) i
  have hv' : SV I' k n m := SV_D hvb e0 e1 e2 (by rw [hD]; exact hok)
  have ho' : OrdV I' m := by intro j hj; rw [e16]; exact hBo j hj
  have hse' : ∃ c, SeV I' c := ⟨c, hse.1, by rw [e93]; exact hse.2.1, by rw [e94]; exact hse.2.2⟩
  have hs : opS I' k = opR n m (I k 6) (ovS I k) (ordI I) (d0S I k) i := by
    simp only [opR, opD]
    rw [← hD]
    unfold opS
    rw [hv'.2.1.1, hv'.2.1.2, tn_nI (n := n) (by omega), tn_nI (n := m) (by omega), ov_eq (I := I) (e1.trans hB1)]
  have hfr : frR k I I' := fun q a b c d e => by rw [hf q b c d e, ← hB]; exact beg_r a b c
  have hRI : ∀ v, bB (soB (opR n m (I k 6) (ovS I k) (ordI I) (d0S I k)) (I 94) (I 95) c) = v → R (some (.int v)) (S, I', L) := fun v hv => by
    have := hR I' hfr (by rw [e0, hBk]) (by rw [hD]; exact hok)
    rwa [hv] at this
  refine J.of tk_X4_isSoBy 200 fun ρ hρ => ?_
  simp only [hρ, x_c, x_il, x_ll, x_al, x_is, x_as, x_ls, x_inc, x_ii, x_iq, x_i1, x_l2, x_lq, x_lh, x_i2l, x_l2i, x_lcmp, x_dup, x_dup2, x_pop, x_if, x_ifn, x_ic, x_icn, x_go, x_sw, swc, x_l01, x_mx, x_gI, x_gL, x_gR, x_pI, x_pZ, x_pL, x_pR, x_ia, x_za, x_aa, x_ias, x_zas, x_aas, x_fac, x_fa, x_slen, x_sa, x_ac, x_oi, x_new, x_na, x_cS, x_cV, x_cI, x_rI, x_rZ, x_rL, x_r0, pa, short, oc, lg, lset, lset2, wide, cond_true, cond_false, true_and, and_true, ↓reduceIte, Bool.false_eq_true, true_or, or_true, lf_X4_isSoBy, hz, hd, hk, hj0, hz.f, hd.f, hk.f, P_X5_open, P_X4_isSoBehind, P_X1_runRound, hv'.q, hse', hs, e93, e94, e95, hc9, nI_leI (show mx < 2 ^ 31 by omega) (show i < 2 ^ 31 by omega), bB_0, bB_or, Classical.not_not, nI_1]
  refine ⟨fun h => ?_, fun h => ⟨fun h2 => ?_, fun h2 => hRI _ (bB_f (fun q => ?_))⟩⟩
  · have : i = mx := by omega
    subst this
    refine ⟨bB_or.imp_left bB_0.mp, hRI _ (bB_congr ?_)⟩
    rw [soB_iff, sbB_iff]
    constructor
    · intro q j hj e
      have := q j hj
      rw [e, tn_nI (by omega)] at this
      exact this.symm
    · intro q j hj
      by_cases e : tn (I 94 j) < i
      · exact hall j hj e
      · have : tn (I 94 j) = i := by have := hmge j hj; omega
        rw [this]
        exact (q j hj (by rw [← this, nI_tn])).symm
  · rw [sbB_iff] at h2
    refine ⟨n, m, hv', ho', fun I2 ch2 hf2 hD2 hch2 hz2 => ?_⟩
    rw [e0, hoff, ov_eq (I := I) (e1.trans hB1), show ordI I' = ordI I by rw [← hBor]; funext j; simp only [ordI, e16], hD] at hD2
    refine ih (by omega) I2 (fun q a b c d => (hf2 q a b c d).trans (hf q a b c d)) hD2 (fun j hj h3 => ?_)
    by_cases e : tn (I 94 j) < i
    · exact hall j hj e
    · have : tn (I 94 j) = i := by omega
      rw [this]
      exact (h2 j hj (by rw [← this, nI_tn])).symm
  · apply h2
    rw [sbB_iff]
    intro j hj e
    have := (soB_iff _ _ _ _).mp q j hj
    rw [e, tn_nI (by omega)] at this
    exact this.symm
