/-! UNDO, KEEP, AGAIN of the model -/
def cpo (D f : Nat → Int32) (o i : Nat) : Nat → Int32 := fun j => if j < i then D (o + j) else f j
theorem cpo_0 (D f : Nat → Int32) (o : Nat) : cpo D f o 0 = f := by funext j; rw [cpo, if_neg (by omega)]
theorem cpo_s (D f : Nat → Int32) (o i : Nat) : upd (cpo D f o i) i (D (o + i)) = cpo D f o (i + 1) := by
  funext j
  rw [upd_app]
  simp only [cpo]
  by_cases h : j = i
  · subst h
    rw [if_pos rfl, if_pos (by omega)]
  · rw [if_neg h]
    by_cases h2 : j < i
    · rw [if_pos h2, if_pos (by omega)]
    · rw [if_neg h2, if_neg (by omega)]
theorem RW.co {D f : Nat → Int32} {o : Nat} {a : AS} (h : RW D o a) (hm : aM a ≤ 6) : RW (cpo D f o 80) 0 a := by
  have e : ∀ j, j < 80 → cpo D f o 80 j = D (o + j) := fun j hj => by rw [cpo, if_pos hj]
  refine ⟨fun b hb => ?_, fun b hb => ?_, fun c hc => ?_, fun j hj => ?_, ?_, ?_⟩
  · rw [e _ (by omega), Nat.zero_add]; exact h.1 b hb
  · rw [e _ (by omega), show o + (0 + 9 + b) = o + 9 + b by omega]; exact h.2.1 b hb
  · rw [e _ (by omega), show o + (0 + 18 + c) = o + 18 + c by omega]; exact h.2.2.1 c hc
  · rw [e _ (by omega), show o + (0 + 24 + j) = o + 24 + j by omega]; exact h.2.2.2.1 j hj
  · rw [e _ (by omega)]; exact h.2.2.2.2.1
  · rw [e _ (by omega)]; exact h.2.2.2.2.2
def il_X10_undo : List (Nat × Instr × Nat) := [(0, .aload_n 0, 1), (1, .getfield 99, 3), (4, .ifCond .ne 6, 3), (7, .bipush (-3), 2), (9, .ireturn, 1), (10, .aload_n 0, 1), (11, .dup, 1), (12, .getfield 99, 3), (15, .iconst 1, 1), (16, .isub, 1), (17, .putfield 99, 3), (20, .aload_n 0, 1), (21, .aload_n 0, 1), (22, .getfield 177, 3), (25, .bipush 14, 2), (27, .iadd, 1), (28, .iconst 1, 1), (29, .isub, 1), (30, .bipush 14, 2), (32, .irem, 1), (33, .putfield 177, 3), (36, .iconst 0, 1), (37, .istore_n 1, 1), (38, .iload_n 1, 1), (39, .bipush 80, 2), (41, .if_icmp .ge 29, 3), (44, .aload_n 0, 1), (45, .getfield 13, 3), (48, .iload_n 1, 1), (49, .aload_n 0, 1), (50, .getfield 19, 3), (53, .bipush 80, 2), (55, .aload_n 0, 1), (56, .getfield 177, 3), (59, .imul, 1), (60, .iload_n 1, 1), (61, .iadd, 1), (62, .iaload, 1), (63, .iastore, 1), (64, .iinc 1 1, 3), (67, .goto (-29), 3), (70, .aload_n 0, 1), (71, .getfield 99, 3), (74, .ireturn, 1)]
def mt_X10_undo : Mt := (cX10_undo, RX10, 2, (some .int), ({ frames := 0, cells := 0, slots := 0, locals := 0 } : Room), false, none, none)
set_option maxRecDepth 100000 in
theorem dl_X10_undo : ∀ q ∈ il_X10_undo, decode (mt_X10_undo).1 q.1 = .ok q.2 := by decide +kernel
def tb_X10_undo : Tb := [(0, x_al 1 0, false),
  (1, x_gI 10 7 4, false),
  (4, x_ifn 10 7 (fun x : Int32 => x = 0), false),
  (7, x_c 9 (.int (-3)), false),
  (9, x_rI, false),
  (10, x_al 11 0, false),
  (11, x_dup 12, false),
  (12, x_gI 10 7 15, false),
  (15, x_c 16 (.int 1), false),
  (16, x_ii 17 (fun x y : Int32 => x - y), false),
  (17, x_pI 10 7 20, false),
  (20, x_al 21 0, false),
  (21, x_al 22 0, false),
  (22, x_gI 10 8 25, false),
  (25, x_c 27 (.int 14), false),
  (27, x_ii 28 (fun x y : Int32 => x + y), false),
  (28, x_c 29 (.int 1), false),
  (29, x_ii 30 (fun x y : Int32 => x - y), false),
  (30, x_c 32 (.int 14), false),
  (32, x_iq 33 (fun x y : Int32 => x - x / y * y), false),
  (33, x_pI 10 8 36, false),
  (36, x_c 37 (.int 0), false),
  (37, x_is 38 1, false),
  (38, x_il 39 1, true),
  (39, x_c 41 (.int 80), false),
  (41, x_ic 70 44 (fun x y : Int32 => y ≤ x), false),
  (44, x_al 45 0, false),
  (45, x_gR 10 4 48, false),
  (48, x_il 49 1, false),
  (49, x_al 50 0, false),
  (50, x_gR 10 6 53, false),
  (53, x_c 55 (.int 80), false),
  (55, x_al 56 0, false),
  (56, x_gI 10 8 59, false),
  (59, x_ii 60 (fun x y : Int32 => x * y), false),
  (60, x_il 61 1, false),
  (61, x_ii 62 (fun x y : Int32 => x + y), false),
  (62, x_ia 63, false),
  (63, x_ias 64, false),
  (64, x_inc 67 1 1, false),
  (67, x_go 38, false),
  (70, x_al 71 0, false),
  (71, x_gI 10 7 74, false),
  (74, x_rI, false)]
set_option maxRecDepth 100000 in
theorem tk_X10_undo : TbOk (mt_X10_undo) (tb_X10_undo) :=
  tkc (s_aload_n (at_ dl_X10_undo 0 (ins := .aload_n 0) rfl)) (
  tkc (s_gI (at_ dl_X10_undo 1 (ins := .getfield 99) rfl) (by decide) (by decide) (by decide) (tg 703 (by decide +kernel) (by decide +kernel))) (
  tkc (s_if_ne (at_ dl_X10_undo 2 (ins := .ifCond .ne 6) rfl) (by decide)) (
  tkc (s_bipush (at_ dl_X10_undo 3 (ins := .bipush (-3)) rfl) (by first | rfl | decide)) (
  tkc (s_rI (at_ dl_X10_undo 4 (ins := .ireturn) rfl) rfl) (
  tkc (s_aload_n (at_ dl_X10_undo 5 (ins := .aload_n 0) rfl)) (
  tkc (s_dup (at_ dl_X10_undo 6 (ins := .dup) rfl)) (
  tkc (s_gI (at_ dl_X10_undo 7 (ins := .getfield 99) rfl) (by decide) (by decide) (by decide) (tg 703 (by decide +kernel) (by decide +kernel))) (
  tkc (s_iconst (at_ dl_X10_undo 8 (ins := .iconst 1) rfl) (by first | rfl | decide)) (
  tkc (s_isub (at_ dl_X10_undo 9 (ins := .isub) rfl)) (
  tkc (s_pI (at_ dl_X10_undo 10 (ins := .putfield 99) rfl) (by decide) (by decide) (by decide) (by decide) (tg 703 (by decide +kernel) (by decide +kernel))) (
  tkc (s_aload_n (at_ dl_X10_undo 11 (ins := .aload_n 0) rfl)) (
  tkc (s_aload_n (at_ dl_X10_undo 12 (ins := .aload_n 0) rfl)) (
  tkc (s_gI (at_ dl_X10_undo 13 (ins := .getfield 177) rfl) (by decide) (by decide) (by decide) (tg 704 (by decide +kernel) (by decide +kernel))) (
  tkc (s_bipush (at_ dl_X10_undo 14 (ins := .bipush 14) rfl) (by first | rfl | decide)) (
  tkc (s_iadd (at_ dl_X10_undo 15 (ins := .iadd) rfl)) (
  tkc (s_iconst (at_ dl_X10_undo 16 (ins := .iconst 1) rfl) (by first | rfl | decide)) (
  tkc (s_isub (at_ dl_X10_undo 17 (ins := .isub) rfl)) (
  tkc (s_bipush (at_ dl_X10_undo 18 (ins := .bipush 14) rfl) (by first | rfl | decide)) (
  tkc (s_irem (at_ dl_X10_undo 19 (ins := .irem) rfl)) (
  tkc (s_pI (at_ dl_X10_undo 20 (ins := .putfield 177) rfl) (by decide) (by decide) (by decide) (by decide) (tg 704 (by decide +kernel) (by decide +kernel))) (
  tkc (s_iconst (at_ dl_X10_undo 21 (ins := .iconst 0) rfl) (by first | rfl | decide)) (
  tkc (s_istore_n (at_ dl_X10_undo 22 (ins := .istore_n 1) rfl) (by decide)) (
  tkc (s_iload_n (at_ dl_X10_undo 23 (ins := .iload_n 1) rfl)) (
  tkc (s_bipush (at_ dl_X10_undo 24 (ins := .bipush 80) rfl) (by first | rfl | decide)) (
  tkc (s_ic_ge (at_ dl_X10_undo 25 (ins := .if_icmp .ge 29) rfl) (by decide)) (
  tkc (s_aload_n (at_ dl_X10_undo 26 (ins := .aload_n 0) rfl)) (
  tkc (s_gR (at_ dl_X10_undo 27 (ins := .getfield 13) rfl) (by decide) (by decide) (by decide) (tg 700 (by decide +kernel) (by decide +kernel))) (
  tkc (s_iload_n (at_ dl_X10_undo 28 (ins := .iload_n 1) rfl)) (
  tkc (s_aload_n (at_ dl_X10_undo 29 (ins := .aload_n 0) rfl)) (
  tkc (s_gR (at_ dl_X10_undo 30 (ins := .getfield 19) rfl) (by decide) (by decide) (by decide) (tg 702 (by decide +kernel) (by decide +kernel))) (
  tkc (s_bipush (at_ dl_X10_undo 31 (ins := .bipush 80) rfl) (by first | rfl | decide)) (
  tkc (s_aload_n (at_ dl_X10_undo 32 (ins := .aload_n 0) rfl)) (
  tkc (s_gI (at_ dl_X10_undo 33 (ins := .getfield 177) rfl) (by decide) (by decide) (by decide) (tg 704 (by decide +kernel) (by decide +kernel))) (
  tkc (s_imul (at_ dl_X10_undo 34 (ins := .imul) rfl)) (
  tkc (s_iload_n (at_ dl_X10_undo 35 (ins := .iload_n 1) rfl)) (
  tkc (s_iadd (at_ dl_X10_undo 36 (ins := .iadd) rfl)) (
  tkc (s_ia (at_ dl_X10_undo 37 (ins := .iaload) rfl)) (
  tkc (s_ias (at_ dl_X10_undo 38 (ins := .iastore) rfl)) (
  tkc (s_iinc (at_ dl_X10_undo 39 (ins := .iinc 1 1) rfl) (by decide) (by first | rfl | decide)) (
  tkc (s_goto (at_ dl_X10_undo 40 (ins := .goto (-29)) rfl) (by decide)) (
  tkc (s_aload_n (at_ dl_X10_undo 41 (ins := .aload_n 0) rfl)) (
  tkc (s_gI (at_ dl_X10_undo 42 (ins := .getfield 99) rfl) (by decide) (by decide) (by decide) (tg 703 (by decide +kernel) (by decide +kernel))) (
  tkc (s_rI (at_ dl_X10_undo 43 (ins := .ireturn) rfl) rfl) ( tk0))))))))))))))))))))))))))))))))))))))))))))
theorem lf_X10_undo : lk (tb_X10_undo) 0 = (x_al 1 0, false) ∧ lk (tb_X10_undo) 1 = (x_gI 10 7 4, false) ∧ lk (tb_X10_undo) 4 = (x_ifn 10 7 (fun x : Int32 => x = 0), false) ∧ lk (tb_X10_undo) 7 = (x_c 9 (.int (-3)), false) ∧ lk (tb_X10_undo) 9 = (x_rI, false) ∧ lk (tb_X10_undo) 10 = (x_al 11 0, false) ∧ lk (tb_X10_undo) 11 = (x_dup 12, false) ∧ lk (tb_X10_undo) 12 = (x_gI 10 7 15, false) ∧ lk (tb_X10_undo) 15 = (x_c 16 (.int 1), false) ∧ lk (tb_X10_undo) 16 = (x_ii 17 (fun x y : Int32 => x - y), false) ∧ lk (tb_X10_undo) 17 = (x_pI 10 7 20, false) ∧ lk (tb_X10_undo) 20 = (x_al 21 0, false) ∧ lk (tb_X10_undo) 21 = (x_al 22 0, false) ∧ lk (tb_X10_undo) 22 = (x_gI 10 8 25, false) ∧ lk (tb_X10_undo) 25 = (x_c 27 (.int 14), false) ∧ lk (tb_X10_undo) 27 = (x_ii 28 (fun x y : Int32 => x + y), false) ∧ lk (tb_X10_undo) 28 = (x_c 29 (.int 1), false) ∧ lk (tb_X10_undo) 29 = (x_ii 30 (fun x y : Int32 => x - y), false) ∧ lk (tb_X10_undo) 30 = (x_c 32 (.int 14), false) ∧ lk (tb_X10_undo) 32 = (x_iq 33 (fun x y : Int32 => x - x / y * y), false) ∧ lk (tb_X10_undo) 33 = (x_pI 10 8 36, false) ∧ lk (tb_X10_undo) 36 = (x_c 37 (.int 0), false) ∧ lk (tb_X10_undo) 37 = (x_is 38 1, false) ∧ lk (tb_X10_undo) 38 = (x_il 39 1, true) ∧ lk (tb_X10_undo) 39 = (x_c 41 (.int 80), false) ∧ lk (tb_X10_undo) 41 = (x_ic 70 44 (fun x y : Int32 => y ≤ x), false) ∧ lk (tb_X10_undo) 44 = (x_al 45 0, false) ∧ lk (tb_X10_undo) 45 = (x_gR 10 4 48, false) ∧ lk (tb_X10_undo) 48 = (x_il 49 1, false) ∧ lk (tb_X10_undo) 49 = (x_al 50 0, false) ∧ lk (tb_X10_undo) 50 = (x_gR 10 6 53, false) ∧ lk (tb_X10_undo) 53 = (x_c 55 (.int 80), false) ∧ lk (tb_X10_undo) 55 = (x_al 56 0, false) ∧ lk (tb_X10_undo) 56 = (x_gI 10 8 59, false) ∧ lk (tb_X10_undo) 59 = (x_ii 60 (fun x y : Int32 => x * y), false) ∧ lk (tb_X10_undo) 60 = (x_il 61 1, false) ∧ lk (tb_X10_undo) 61 = (x_ii 62 (fun x y : Int32 => x + y), false) ∧ lk (tb_X10_undo) 62 = (x_ia 63, false) ∧ lk (tb_X10_undo) 63 = (x_ias 64, false) ∧ lk (tb_X10_undo) 64 = (x_inc 67 1 1, false) ∧ lk (tb_X10_undo) 67 = (x_go 38, false) ∧ lk (tb_X10_undo) 70 = (x_al 71 0, false) ∧ lk (tb_X10_undo) 71 = (x_gI 10 7 74, false) ∧ lk (tb_X10_undo) 74 = (x_rI, false) := ⟨rfl, rfl, rfl, rfl, rfl, rfl, rfl, rfl, rfl, rfl, rfl, rfl, rfl, rfl, rfl, rfl, rfl, rfl, rfl, rfl, rfl, rfl, rfl, rfl, rfl, rfl, rfl, rfl, rfl, rfl, rfl, rfl, rfl, rfl, rfl, rfl, rfl, rfl, rfl, rfl, rfl, rfl, rfl, rfl⟩
def P_X10_undo : PTT := fun as M R => match as with
  | [.ref k] => k = 108 ∧ ∃ g, MR M.1 M.2.1 M.2.2 g ∧ GOk g ∧ Anm M R (gUndo g).1 (gUndo g).2
  | _ => False
set_option maxRecDepth 20000 in
theorem ok_X10_undo : Ok yX10_undo mt_X10_undo P_X10_undo := by
  refine Ok.of (by decide) rfl rfl rfl rfl fun av ⟨S, I, L⟩ R hP => ?_
  unfold P_X10_undo at hP
  split at hP
  case h_2 => exact hP.elim
  rename_i k
  obtain ⟨k, rfl⟩ : ∃ q : Nat, q = k := ⟨k, rfl⟩
  refine ⟨by simp [ent, wide, mt_X10_undo], ?_⟩
  show J mt_X10_undo R 0 [some (.ref k), none] [] (S, I, L)
  try dsimp only at hP
  obtain ⟨rfl, g, hc, ho, hA⟩ := hP
  obtain ⟨h1, h2, h3, h4, ⟨h5, x, hx, ex, hs⟩, h6, h7, h8, h9⟩ := id hc
  have hC := ho.2.2.1.1
  by_cases h0 : gC g = 0
  · have e7 : I 108 7 = 0 := by rw [h5, h0]; rfl
    refine J.of tk_X10_undo 200 fun ρ hρ => ?_
    simp only [hρ, x_c, x_il, x_ll, x_al, x_is, x_as, x_ls, x_inc, x_ii, x_iq, x_i1, x_l2, x_lq, x_lh, x_i2l, x_l2i, x_lcmp, x_dup, x_dup2, x_pop, x_if, x_ifn, x_ic, x_icn, x_go, x_sw, swc, x_l01, x_mx, x_gI, x_gL, x_gR, x_pI, x_pZ, x_pL, x_pR, x_ia, x_za, x_aa, x_ias, x_zas, x_aas, x_fac, x_fa, x_slen, x_sa, x_ac, x_oi, x_new, x_na, x_cS, x_cV, x_cI, x_rI, x_rZ, x_rL, x_r0, pa, short, oc, lg, lset, lset2, wide, cond_true, cond_false, true_and, and_true, ↓reduceIte, Bool.false_eq_true, true_or, or_true, lf_X10_undo, h1.f, e7, true_implies, not_true_eq_false, false_implies]
    exact (hA.e (by rw [gUndo, if_pos h0])).s hc
  · have hA' := hA.e (show gUndo g = (nI (gC g - 1), GH (GA g (gH g 0)) (gC g - 1) (fun j => gH g (j + 1))) by rw [gUndo, if_neg h0])
    have z7 : ¬ nI (gC g) = 0 := fun q => h0 ((nI_z (by omega)).mp q)
    have em : nI (gC g) - 1 = nI (gC g - 1) := nI_m1 (by omega)
    have em2 : nI (x + 14) - 1 = nI (x + 13) := nI_m1 (n := x + 14) (by omega)
    have key : ∀ I1 : MI, (∀ q, q ≠ 108 → I1 q = I q) → (∀ j, j ≠ 7 → j ≠ 8 → I1 108 j = I 108 j) → I1 108 7 = nI (gC g - 1) → I1 108 8 = nI ((x + 13) % 14) → ∀ i, i ≤ 80 → J mt_X10_undo R 38 [some (.ref 108), some (.int (nI i))] [] (S, mS I1 110 (cpo (I 112) (I1 110) (80 * ((x + 13) % 14)) i), L) := by
      intro I1 f1 f2 f7 f8
      refine up (P := fun i => J mt_X10_undo R 38 [some (.ref 108), some (.int (nI i))] [] (S, mS I1 110 (cpo (I 112) (I1 110) (80 * ((x + 13) % 14)) i), L)) (n := 80) (fun i hi ih => ?_)
      have e108 : mS I1 110 (cpo (I 112) (I1 110) (80 * ((x + 13) % 14)) i) 108 = I1 108 := mS_n (by omega)
      have e112 : mS I1 110 (cpo (I 112) (I1 110) (80 * ((x + 13) % 14)) i) 112 = I 112 := by rw [mS_n (by omega), f1 112 (by omega)]
      by_cases hlt : i < 80
      · refine J.of tk_X10_undo 200 fun ρ hρ => ?_
        simp only [hρ, x_c, x_il, x_ll, x_al, x_is, x_as, x_ls, x_inc, x_ii, x_iq, x_i1, x_l2, x_lq, x_lh, x_i2l, x_l2i, x_lcmp, x_dup, x_dup2, x_pop, x_if, x_ifn, x_ic, x_icn, x_go, x_sw, swc, x_l01, x_mx, x_gI, x_gL, x_gR, x_pI, x_pZ, x_pL, x_pR, x_ia, x_za, x_aa, x_ias, x_zas, x_aas, x_fac, x_fa, x_slen, x_sa, x_ac, x_oi, x_new, x_na, x_cS, x_cV, x_cI, x_rI, x_rZ, x_rL, x_r0, pa, short, oc, lg, lset, lset2, wide, cond_true, cond_false, true_and, and_true, ↓reduceIte, Bool.false_eq_true, true_or, or_true, lf_X10_undo, h1.f, e108, e112, f8, nI80, pk_mul, nI_add, nI_leI (show 80 < 2 ^ 31 by omega) (show i < 2 ^ 31 by omega), ncl (show i < 2 ^ 31 by omega), ncl (show 80 * ((x + 13) % 14) + i < 2 ^ 31 by omega), nI_1, mS_s, mS_ss, cpo_s]
        exact ⟨fun h => absurd h (by omega), fun _ => ⟨vp_in_nI (by omega) (by omega), vp_in_nI (by omega) (by omega), ih hlt⟩⟩
      · have : i = 80 := by omega
        subst this
        refine J.of tk_X10_undo 200 fun ρ hρ => ?_
        simp only [hρ, x_c, x_il, x_ll, x_al, x_is, x_as, x_ls, x_inc, x_ii, x_iq, x_i1, x_l2, x_lq, x_lh, x_i2l, x_l2i, x_lcmp, x_dup, x_dup2, x_pop, x_if, x_ifn, x_ic, x_icn, x_go, x_sw, swc, x_l01, x_mx, x_gI, x_gL, x_gR, x_pI, x_pZ, x_pL, x_pR, x_ia, x_za, x_aa, x_ias, x_zas, x_aas, x_fac, x_fa, x_slen, x_sa, x_ac, x_oi, x_new, x_na, x_cS, x_cV, x_cI, x_rI, x_rZ, x_rL, x_r0, pa, short, oc, lg, lset, lset2, wide, cond_true, cond_false, true_and, and_true, ↓reduceIte, Bool.false_eq_true, true_or, or_true, lf_X10_undo, h1.f, e108, f7, nI80, nI_leI (show 80 < 2 ^ 31 by omega) (show 80 < 2 ^ 31 by omega), Nat.le_refl, true_implies, not_true_eq_false, false_implies]
        have hz := ho.2.2.1.2 0 (by omega)
        have hr : RW (cpo (I 112) (I1 110) (80 * ((x + 13) % 14)) 80) 0 (gH g 0) := (show RW (I 112) (80 * ((x + 13) % 14)) (gH g 0) from hs 0 (by omega)).co hz.1.1.2.2
        refine hA' _ L (fun q hq => by rw [mS_n (by omega)]; exact f1 q (by omega)) (fun _ _ => rfl) ⟨h1, ?_, ?_, by rw [mS_s]; exact hr, ⟨?_, (x + 13) % 14, Nat.mod_lt _ (by omega), by rw [e108]; exact f8, fun j hj => ?_⟩, ?_, ?_, h8, ?_⟩
        · unfold NT; rw [e108, f2 1 (by omega) (by omega), mS_n (by omega), f1 109 (by omega)]; exact h2
        · show mS I1 110 _ 108 2 = nI (aN (gH g 0)) ∧ mS I1 110 _ 108 3 = nI (aM (gH g 0))
          rw [e108, f2 2 (by omega) (by omega), f2 3 (by omega) (by omega), hz.2.1, hz.2.2]; exact h3
        · rw [e108]; exact f7
        · replace hj : j < gC g - 1 := hj
          show RW (mS I1 110 _ 112) (80 * (((x + 13) % 14 + 13 - j) % 14)) (gH g (j + 1))
          rw [e112, show ((x + 13) % 14 + 13 - j) % 14 = (x + 13 - (j + 1)) % 14 by omega]
          exact hs (j + 1) (by omega)
        · show NK _ g; unfold NK; rw [mS_n (by omega), mS_n (by omega), f1 113 (by omega), f1 114 (by omega)]; exact h6
        · show NE _ g; unfold NE; rw [e108, f2 13 (by omega) (by omega), mS_n (by omega), mS_n (by omega), f1 115 (by omega), f1 116 (by omega)]; exact h7
        · unfold OrdN; rw [mS_n (by omega), f1 117 (by omega)]; exact h9
    refine J.of tk_X10_undo 200 fun ρ hρ => ?_
    simp only [hρ, x_c, x_il, x_ll, x_al, x_is, x_as, x_ls, x_inc, x_ii, x_iq, x_i1, x_l2, x_lq, x_lh, x_i2l, x_l2i, x_lcmp, x_dup, x_dup2, x_pop, x_if, x_ifn, x_ic, x_icn, x_go, x_sw, swc, x_l01, x_mx, x_gI, x_gL, x_gR, x_pI, x_pZ, x_pL, x_pR, x_ia, x_za, x_aa, x_ias, x_zas, x_aas, x_fac, x_fa, x_slen, x_sa, x_ac, x_oi, x_new, x_na, x_cS, x_cV, x_cI, x_rI, x_rZ, x_rL, x_r0, pa, short, oc, lg, lset, lset2, wide, cond_true, cond_false, true_and, and_true, ↓reduceIte, Bool.false_eq_true, true_or, or_true, lf_X10_undo, h1.f, h5, ex, z7, em, em2, nI14, f14, nI_add, rem14 (show x + 13 < 1000 by omega), mS_app, upd_app, Nat.reduceEqDiff, mS_ss, true_implies, not_true_eq_false, false_implies, not_false_eq_true]
    have := key (mS I 108 (upd (upd (I 108) 7 (nI (gC g - 1))) 8 (nI ((x + 13) % 14)))) (fun q a => mS_n a) (fun j a b => by rw [mS_s, upd_app, if_neg b, upd_app, if_neg a]) (by rw [mS_s, upd_app, if_neg (by omega), upd_s]) (by rw [mS_s, upd_s]) 0 (by omega)
    rw [cpo_0, mS_id] at this
    exact this
def il_X10_keep : List (Nat × Instr × Nat) := [(0, .iload_n 1, 1), (1, .i2l, 1), (2, .lconst 0, 1), (3, .lconst 1, 1), (4, .invokestatic 60, 3), (7, .ifCond .ne 5, 3), (10, .iconst (-1), 1), (11, .ireturn, 1), (12, .aload_n 0, 1), (13, .getfield 25, 3), (16, .iload_n 1, 1), (17, .iconst 1, 1), (18, .bastore, 1), (19, .iconst 0, 1), (20, .istore_n 2, 1), (21, .iload_n 2, 1), (22, .bipush 80, 2), (24, .if_icmp .ge 26, 3), (27, .aload_n 0, 1), (28, .getfield 22, 3), (31, .bipush 80, 2), (33, .iload_n 1, 1), (34, .imul, 1), (35, .iload_n 2, 1), (36, .iadd, 1), (37, .aload_n 0, 1), (38, .getfield 13, 3), (41, .iload_n 2, 1), (42, .iaload, 1), (43, .iastore, 1), (44, .iinc 2 1, 3), (47, .goto (-26), 3), (50, .aload_n 0, 1), (51, .getfield 13, 3), (54, .bipush 79, 2), (56, .iaload, 1), (57, .ireturn, 1)]
def mt_X10_keep : Mt := (cX10_keep, RX10, 3, (some .int), ({ frames := 1, cells := 0, slots := 0, locals := 25 } : Room), false, none, none)
set_option maxRecDepth 100000 in
theorem dl_X10_keep : ∀ q ∈ il_X10_keep, decode (mt_X10_keep).1 q.1 = .ok q.2 := by decide +kernel
def tb_X10_keep : Tb := [(0, x_il 1 1, false),
  (1, x_i2l 2, false),
  (2, x_c 3 (.long 0), false),
  (3, x_c 4 (.long 1), false),
  (4, x_cS 3 P_X10_in 7, false),
  (7, x_ifn 12 10 (fun x : Int32 => x = 0), false),
  (10, x_c 11 (.int (-1)), false),
  (11, x_rI, false),
  (12, x_al 13 0, false),
  (13, x_gR 10 10 16, false),
  (16, x_il 17 1, false),
  (17, x_c 18 (.int 1), false),
  (18, x_zas 19, false),
  (19, x_c 20 (.int 0), false),
  (20, x_is 21 2, false),
  (21, x_il 22 2, true),
  (22, x_c 24 (.int 80), false),
  (24, x_ic 50 27 (fun x y : Int32 => y ≤ x), false),
  (27, x_al 28 0, false),
  (28, x_gR 10 9 31, false),
  (31, x_c 33 (.int 80), false),
  (33, x_il 34 1, false),
  (34, x_ii 35 (fun x y : Int32 => x * y), false),
  (35, x_il 36 2, false),
  (36, x_ii 37 (fun x y : Int32 => x + y), false),
  (37, x_al 38 0, false),
  (38, x_gR 10 4 41, false),
  (41, x_il 42 2, false),
  (42, x_ia 43, false),
  (43, x_ias 44, false),
  (44, x_inc 47 2 1, false),
  (47, x_go 21, false),
  (50, x_al 51 0, false),
  (51, x_gR 10 4 54, false),
  (54, x_c 56 (.int 79), false),
  (56, x_ia 57, false),
  (57, x_rI, false)]
set_option maxRecDepth 100000 in
theorem tk_X10_keep : TbOk (mt_X10_keep) (tb_X10_keep) :=
  tkc (s_iload_n (at_ dl_X10_keep 0 (ins := .iload_n 1) rfl)) (
  tkc (s_i2l (at_ dl_X10_keep 1 (ins := .i2l) rfl)) (
  tkc (s_lconst (at_ dl_X10_keep 2 (ins := .lconst 0) rfl) (by first | rfl | decide)) (
  tkc (s_lconst (at_ dl_X10_keep 3 (ins := .lconst 1) rfl) (by first | rfl | decide)) (
  tkc (s_cS ok_X10_in (at_ dl_X10_keep 4 (ins := .invokestatic 60) rfl) (tg 780 (by decide +kernel) (by decide +kernel)) (tg 781 (by decide +kernel) (by decide +kernel)) (tg 51 (by decide +kernel) (by decide +kernel)) (tg 782 (by decide +kernel) (by decide +kernel)) (⟨by decide, by decide, by decide +kernel⟩) (⟨by decide, by decide⟩) rfl rfl) (
  tkc (s_if_ne (at_ dl_X10_keep 5 (ins := .ifCond .ne 5) rfl) (by decide)) (
  tkc (s_iconst (at_ dl_X10_keep 6 (ins := .iconst (-1)) rfl) (by first | rfl | decide)) (
  tkc (s_rI (at_ dl_X10_keep 7 (ins := .ireturn) rfl) rfl) (
  tkc (s_aload_n (at_ dl_X10_keep 8 (ins := .aload_n 0) rfl)) (
  tkc (s_gR (at_ dl_X10_keep 9 (ins := .getfield 25) rfl) (by decide) (by decide) (by decide) (tg 706 (by decide +kernel) (by decide +kernel))) (
  tkc (s_iload_n (at_ dl_X10_keep 10 (ins := .iload_n 1) rfl)) (
  tkc (s_iconst (at_ dl_X10_keep 11 (ins := .iconst 1) rfl) (by first | rfl | decide)) (
  tkc (s_zas (at_ dl_X10_keep 12 (ins := .bastore) rfl)) (
  tkc (s_iconst (at_ dl_X10_keep 13 (ins := .iconst 0) rfl) (by first | rfl | decide)) (
  tkc (s_istore_n (at_ dl_X10_keep 14 (ins := .istore_n 2) rfl) (by decide)) (
  tkc (s_iload_n (at_ dl_X10_keep 15 (ins := .iload_n 2) rfl)) (
  tkc (s_bipush (at_ dl_X10_keep 16 (ins := .bipush 80) rfl) (by first | rfl | decide)) (
  tkc (s_ic_ge (at_ dl_X10_keep 17 (ins := .if_icmp .ge 26) rfl) (by decide)) (
  tkc (s_aload_n (at_ dl_X10_keep 18 (ins := .aload_n 0) rfl)) (
  tkc (s_gR (at_ dl_X10_keep 19 (ins := .getfield 22) rfl) (by decide) (by decide) (by decide) (tg 705 (by decide +kernel) (by decide +kernel))) (
  tkc (s_bipush (at_ dl_X10_keep 20 (ins := .bipush 80) rfl) (by first | rfl | decide)) (
  tkc (s_iload_n (at_ dl_X10_keep 21 (ins := .iload_n 1) rfl)) (
  tkc (s_imul (at_ dl_X10_keep 22 (ins := .imul) rfl)) (
  tkc (s_iload_n (at_ dl_X10_keep 23 (ins := .iload_n 2) rfl)) (
  tkc (s_iadd (at_ dl_X10_keep 24 (ins := .iadd) rfl)) (
  tkc (s_aload_n (at_ dl_X10_keep 25 (ins := .aload_n 0) rfl)) (
  tkc (s_gR (at_ dl_X10_keep 26 (ins := .getfield 13) rfl) (by decide) (by decide) (by decide) (tg 700 (by decide +kernel) (by decide +kernel))) (
  tkc (s_iload_n (at_ dl_X10_keep 27 (ins := .iload_n 2) rfl)) (
  tkc (s_ia (at_ dl_X10_keep 28 (ins := .iaload) rfl)) (
  tkc (s_ias (at_ dl_X10_keep 29 (ins := .iastore) rfl)) (
  tkc (s_iinc (at_ dl_X10_keep 30 (ins := .iinc 2 1) rfl) (by decide) (by first | rfl | decide)) (
  tkc (s_goto (at_ dl_X10_keep 31 (ins := .goto (-26)) rfl) (by decide)) (
  tkc (s_aload_n (at_ dl_X10_keep 32 (ins := .aload_n 0) rfl)) (
  tkc (s_gR (at_ dl_X10_keep 33 (ins := .getfield 13) rfl) (by decide) (by decide) (by decide) (tg 700 (by decide +kernel) (by decide +kernel))) (
  tkc (s_bipush (at_ dl_X10_keep 34 (ins := .bipush 79) rfl) (by first | rfl | decide)) (
  tkc (s_ia (at_ dl_X10_keep 35 (ins := .iaload) rfl)) (
  tkc (s_rI (at_ dl_X10_keep 36 (ins := .ireturn) rfl) rfl) ( tk0)))))))))))))))))))))))))))))))))))))
theorem lf_X10_keep : lk (tb_X10_keep) 0 = (x_il 1 1, false) ∧ lk (tb_X10_keep) 1 = (x_i2l 2, false) ∧ lk (tb_X10_keep) 2 = (x_c 3 (.long 0), false) ∧ lk (tb_X10_keep) 3 = (x_c 4 (.long 1), false) ∧ lk (tb_X10_keep) 4 = (x_cS 3 P_X10_in 7, false) ∧ lk (tb_X10_keep) 7 = (x_ifn 12 10 (fun x : Int32 => x = 0), false) ∧ lk (tb_X10_keep) 10 = (x_c 11 (.int (-1)), false) ∧ lk (tb_X10_keep) 11 = (x_rI, false) ∧ lk (tb_X10_keep) 12 = (x_al 13 0, false) ∧ lk (tb_X10_keep) 13 = (x_gR 10 10 16, false) ∧ lk (tb_X10_keep) 16 = (x_il 17 1, false) ∧ lk (tb_X10_keep) 17 = (x_c 18 (.int 1), false) ∧ lk (tb_X10_keep) 18 = (x_zas 19, false) ∧ lk (tb_X10_keep) 19 = (x_c 20 (.int 0), false) ∧ lk (tb_X10_keep) 20 = (x_is 21 2, false) ∧ lk (tb_X10_keep) 21 = (x_il 22 2, true) ∧ lk (tb_X10_keep) 22 = (x_c 24 (.int 80), false) ∧ lk (tb_X10_keep) 24 = (x_ic 50 27 (fun x y : Int32 => y ≤ x), false) ∧ lk (tb_X10_keep) 27 = (x_al 28 0, false) ∧ lk (tb_X10_keep) 28 = (x_gR 10 9 31, false) ∧ lk (tb_X10_keep) 31 = (x_c 33 (.int 80), false) ∧ lk (tb_X10_keep) 33 = (x_il 34 1, false) ∧ lk (tb_X10_keep) 34 = (x_ii 35 (fun x y : Int32 => x * y), false) ∧ lk (tb_X10_keep) 35 = (x_il 36 2, false) ∧ lk (tb_X10_keep) 36 = (x_ii 37 (fun x y : Int32 => x + y), false) ∧ lk (tb_X10_keep) 37 = (x_al 38 0, false) ∧ lk (tb_X10_keep) 38 = (x_gR 10 4 41, false) ∧ lk (tb_X10_keep) 41 = (x_il 42 2, false) ∧ lk (tb_X10_keep) 42 = (x_ia 43, false) ∧ lk (tb_X10_keep) 43 = (x_ias 44, false) ∧ lk (tb_X10_keep) 44 = (x_inc 47 2 1, false) ∧ lk (tb_X10_keep) 47 = (x_go 21, false) ∧ lk (tb_X10_keep) 50 = (x_al 51 0, false) ∧ lk (tb_X10_keep) 51 = (x_gR 10 4 54, false) ∧ lk (tb_X10_keep) 54 = (x_c 56 (.int 79), false) ∧ lk (tb_X10_keep) 56 = (x_ia 57, false) ∧ lk (tb_X10_keep) 57 = (x_rI, false) := ⟨rfl, rfl, rfl, rfl, rfl, rfl, rfl, rfl, rfl, rfl, rfl, rfl, rfl, rfl, rfl, rfl, rfl, rfl, rfl, rfl, rfl, rfl, rfl, rfl, rfl, rfl, rfl, rfl, rfl, rfl, rfl, rfl, rfl, rfl, rfl, rfl, rfl⟩
def P_X10_keep : PTT := fun as M R => match as with
  | [.ref k, .int x] => k = 108 ∧ ∃ g, MR M.1 M.2.1 M.2.2 g ∧ GOk g ∧ Anm M R (gKeep g x).1 (gKeep g x).2
  | _ => False
theorem le1 {x : Int32} : x ≤ 1 ↔ x < 2 := by
  rw [Int32.le_iff_toInt_le, Int32.lt_iff_toInt_lt, show (1 : Int32).toInt = 1 by decide, show (2 : Int32).toInt = 2 by decide]; omega
set_option maxRecDepth 20000 in
theorem ok_X10_keep : Ok yX10_keep mt_X10_keep P_X10_keep := by
  refine Ok.of (by decide) rfl rfl rfl rfl fun av ⟨S, I, L⟩ R hP => ?_
  unfold P_X10_keep at hP
  split at hP
  case h_2 => exact hP.elim
  rename_i k x
  obtain ⟨k, rfl⟩ : ∃ q : Nat, q = k := ⟨k, rfl⟩
  refine ⟨by simp [ent, wide, mt_X10_keep], ?_⟩
  show J mt_X10_keep R 0 [some (.ref k), some (.int x), none] [] (S, I, L)
  try dsimp only at hP
  obtain ⟨rfl, g, hc, ho, hA⟩ := hP
  obtain ⟨h1, h2, h3, h4, h5, h6, h7, h8, h9⟩ := id hc
  have i1 : (¬ x.toInt64 < (0 : Int64) ∧ ¬ (1 : Int64) < x.toInt64) ↔ (¬ x < 0 ∧ x < 2) := and_congr i2l_0 ((inL (b := 1) (by decide)).trans le1)
  by_cases hx : ¬ x < 0 ∧ x < 2
  · have hx' : ¬ (x < 0 ∨ ¬ x < 2) := fun q => q.elim hx.1 (fun r => r hx.2)
    have hA' := hA.e (show gKeep g x = (aR (gA g), GK g (fun i => if i = tn x then true else gK g i) (fun i => if i = tn x then gA g else gS g i)) by rw [gKeep, if_neg hx'])
    obtain ⟨s, hi, rfl⟩ := ix2 hx.1 hx.2
    rw [tn_nI (n := s) (by omega)] at hA'
    have vs : vp_in (nI s) 2 := vp_in_nI (by omega) (by omega)
    have e79 : (79 : Int32).toNatClampNeg = 79 := by decide
    have v79 : vp_in 79 80 := vp_in_nI (n := 79) (by omega) (by omega)
    have key := up (P := fun i => J mt_X10_keep R 21 [some (.ref 108), some (.int (nI s)), some (.int (nI i))] [] (S, mS (mS I 114 (upd (I 114) s 1)) 113 (sgC (I 110) (I 113) (80 * s) i), L)) (n := 80) (fun i hi' ih => ?_) 0 (Nat.zero_le _)
    · rw [sgC_0, mS_id' (I := mS I 114 (upd (I 114) s 1)) (k := 113) (mS_n (by omega)).symm] at key
      refine J.of tk_X10_keep 200 fun ρ hρ => ?_
      simp only [hρ, x_c, x_il, x_ll, x_al, x_is, x_as, x_ls, x_inc, x_ii, x_iq, x_i1, x_l2, x_lq, x_lh, x_i2l, x_l2i, x_lcmp, x_dup, x_dup2, x_pop, x_if, x_ifn, x_ic, x_icn, x_go, x_sw, swc, x_l01, x_mx, x_gI, x_gL, x_gR, x_pI, x_pZ, x_pL, x_pR, x_ia, x_za, x_aa, x_ias, x_zas, x_aas, x_fac, x_fa, x_slen, x_sa, x_ac, x_oi, x_new, x_na, x_cS, x_cV, x_cI, x_rI, x_rZ, x_rL, x_r0, pa, short, oc, lg, lset, lset2, wide, cond_true, cond_false, true_and, and_true, ↓reduceIte, Bool.false_eq_true, true_or, or_true, lf_X10_keep, h1.f, P_X10_in, i1, bI_t hx, hx, eq_true vs, ncl (show s < 2 ^ 31 by omega), true_implies, not_true_eq_false, false_implies, not_false_eq_true]
      exact ⟨fun _ => key, fun h => absurd h (by decide)⟩
    have e108 : mS (mS I 114 (upd (I 114) s 1)) 113 (sgC (I 110) (I 113) (80 * s) i) 108 = I 108 := by rw [mS_n (by omega), mS_n (by omega)]
    have e110 : mS (mS I 114 (upd (I 114) s 1)) 113 (sgC (I 110) (I 113) (80 * s) i) 110 = I 110 := by rw [mS_n (by omega), mS_n (by omega)]
    by_cases hlt : i < 80
    · refine J.of tk_X10_keep 200 fun ρ hρ => ?_
      simp only [hρ, x_c, x_il, x_ll, x_al, x_is, x_as, x_ls, x_inc, x_ii, x_iq, x_i1, x_l2, x_lq, x_lh, x_i2l, x_l2i, x_lcmp, x_dup, x_dup2, x_pop, x_if, x_ifn, x_ic, x_icn, x_go, x_sw, swc, x_l01, x_mx, x_gI, x_gL, x_gR, x_pI, x_pZ, x_pL, x_pR, x_ia, x_za, x_aa, x_ias, x_zas, x_aas, x_fac, x_fa, x_slen, x_sa, x_ac, x_oi, x_new, x_na, x_cS, x_cV, x_cI, x_rI, x_rZ, x_rL, x_r0, pa, short, oc, lg, lset, lset2, wide, cond_true, cond_false, true_and, and_true, ↓reduceIte, Bool.false_eq_true, true_or, or_true, lf_X10_keep, h1.f, e108, e110, nI80, pk_mul, nI_add, nI_leI (show 80 < 2 ^ 31 by omega) (show i < 2 ^ 31 by omega), ncl (show i < 2 ^ 31 by omega), ncl (show 80 * s + i < 2 ^ 31 by omega), nI_1, mS_s, mS_ss, sgC_s]
      exact ⟨fun h => absurd h (by omega), fun _ => ⟨vp_in_nI (by omega) (by omega), vp_in_nI (by omega) (by omega), ih hlt⟩⟩
    · have : i = 80 := by omega
      subst this
      have e9 : I 110 79 = aR (gA g) := h4.2.2.2.2.2
      refine J.of tk_X10_keep 200 fun ρ hρ => ?_
      simp only [hρ, x_c, x_il, x_ll, x_al, x_is, x_as, x_ls, x_inc, x_ii, x_iq, x_i1, x_l2, x_lq, x_lh, x_i2l, x_l2i, x_lcmp, x_dup, x_dup2, x_pop, x_if, x_ifn, x_ic, x_icn, x_go, x_sw, swc, x_l01, x_mx, x_gI, x_gL, x_gR, x_pI, x_pZ, x_pL, x_pR, x_ia, x_za, x_aa, x_ias, x_zas, x_aas, x_fac, x_fa, x_slen, x_sa, x_ac, x_oi, x_new, x_na, x_cS, x_cV, x_cI, x_rI, x_rZ, x_rL, x_r0, pa, short, oc, lg, lset, lset2, wide, cond_true, cond_false, true_and, and_true, ↓reduceIte, Bool.false_eq_true, true_or, or_true, lf_X10_keep, h1.f, e110, e79, eq_true v79, e9, nI80, nI_leI (show 80 < 2 ^ 31 by omega) (show 80 < 2 ^ 31 by omega), Nat.le_refl, true_implies, not_true_eq_false, false_implies]
      refine hA' _ L (fun q hq => by rw [mS_n (by omega), mS_n (by omega)]) (fun _ _ => rfl) ⟨h1, ?_, ?_, by rw [e110]; exact h4, ?_, fun j hj => ?_, ?_, h8, h9⟩
      · exact h2
      · exact h3
      · exact h5
      · show mS (mS I 114 (upd (I 114) s 1)) 113 _ 114 j = bB (if j = s then true else gK g j) ∧ ((if j = s then true else gK g j) = true → RW (mS (mS I 114 (upd (I 114) s 1)) 113 _ 113) (80 * j) (if j = s then gA g else gS g j))
        rw [mS_s, mS_n (show (114 : Nat) ≠ 113 by omega), mS_s, upd_app]
        by_cases hji : j = s
        · subst hji
          simp only [if_true]
          exact ⟨rfl, fun _ => h4.sg ho.2.1.1.2.2⟩
        · simp only [hji, if_false]
          exact ⟨(h6 j hj).1, fun hk => ((h6 j hj).2 hk).sn (ho.2.2.2.1 j hj hk).1.1.2.2 (by omega)⟩
      · exact h7
  · have hx' : x < 0 ∨ ¬ x < 2 := Classical.byContradiction fun q => hx ⟨fun r => q (.inl r), Classical.byContradiction fun r => q (.inr r)⟩
    refine J.of tk_X10_keep 200 fun ρ hρ => ?_
    simp only [hρ, x_c, x_il, x_ll, x_al, x_is, x_as, x_ls, x_inc, x_ii, x_iq, x_i1, x_l2, x_lq, x_lh, x_i2l, x_l2i, x_lcmp, x_dup, x_dup2, x_pop, x_if, x_ifn, x_ic, x_icn, x_go, x_sw, swc, x_l01, x_mx, x_gI, x_gL, x_gR, x_pI, x_pZ, x_pL, x_pR, x_ia, x_za, x_aa, x_ias, x_zas, x_aas, x_fac, x_fa, x_slen, x_sa, x_ac, x_oi, x_new, x_na, x_cS, x_cV, x_cI, x_rI, x_rZ, x_rL, x_r0, pa, short, oc, lg, lset, lset2, wide, cond_true, cond_false, true_and, and_true, ↓reduceIte, Bool.false_eq_true, true_or, or_true, lf_X10_keep, h1.f, P_X10_in, i1, bI_0, hx, true_implies, not_true_eq_false, false_implies, not_false_eq_true]
    exact (hA.e (by rw [gKeep, if_pos hx'])).s hc
def il_X10_again : List (Nat × Instr × Nat) := [(0, .iload_n 1, 1), (1, .i2l, 1), (2, .lconst 0, 1), (3, .lconst 1, 1), (4, .invokestatic 60, 3), (7, .ifCond .ne 5, 3), (10, .iconst (-1), 1), (11, .ireturn, 1), (12, .aload_n 0, 1), (13, .getfield 25, 3), (16, .iload_n 1, 1), (17, .baload, 1), (18, .ifCond .ne 6, 3), (21, .bipush (-3), 2), (23, .ireturn, 1), (24, .iconst 0, 1), (25, .istore_n 2, 1), (26, .iload_n 2, 1), (27, .bipush 80, 2), (29, .if_icmp .ge 26, 3), (32, .aload_n 0, 1), (33, .getfield 13, 3), (36, .iload_n 2, 1), (37, .aload_n 0, 1), (38, .getfield 22, 3), (41, .bipush 80, 2), (43, .iload_n 1, 1), (44, .imul, 1), (45, .iload_n 2, 1), (46, .iadd, 1), (47, .iaload, 1), (48, .iastore, 1), (49, .iinc 2 1, 3), (52, .goto (-26), 3), (55, .aload_n 0, 1), (56, .iconst 0, 1), (57, .putfield 99, 3), (60, .aload_n 0, 1), (61, .getfield 13, 3), (64, .bipush 79, 2), (66, .iaload, 1), (67, .ireturn, 1)]
def mt_X10_again : Mt := (cX10_again, RX10, 3, (some .int), ({ frames := 1, cells := 0, slots := 0, locals := 25 } : Room), false, none, none)
set_option maxRecDepth 100000 in
theorem dl_X10_again : ∀ q ∈ il_X10_again, decode (mt_X10_again).1 q.1 = .ok q.2 := by decide +kernel
def tb_X10_again : Tb := [(0, x_il 1 1, false),
  (1, x_i2l 2, false),
  (2, x_c 3 (.long 0), false),
  (3, x_c 4 (.long 1), false),
  (4, x_cS 3 P_X10_in 7, false),
  (7, x_ifn 12 10 (fun x : Int32 => x = 0), false),
  (10, x_c 11 (.int (-1)), false),
  (11, x_rI, false),
  (12, x_al 13 0, false),
  (13, x_gR 10 10 16, false),
  (16, x_il 17 1, false),
  (17, x_za 18, false),
  (18, x_ifn 24 21 (fun x : Int32 => x = 0), false),
  (21, x_c 23 (.int (-3)), false),
  (23, x_rI, false),
  (24, x_c 25 (.int 0), false),
  (25, x_is 26 2, false),
  (26, x_il 27 2, true),
  (27, x_c 29 (.int 80), false),
  (29, x_ic 55 32 (fun x y : Int32 => y ≤ x), false),
  (32, x_al 33 0, false),
  (33, x_gR 10 4 36, false),
  (36, x_il 37 2, false),
  (37, x_al 38 0, false),
  (38, x_gR 10 9 41, false),
  (41, x_c 43 (.int 80), false),
  (43, x_il 44 1, false),
  (44, x_ii 45 (fun x y : Int32 => x * y), false),
  (45, x_il 46 2, false),
  (46, x_ii 47 (fun x y : Int32 => x + y), false),
  (47, x_ia 48, false),
  (48, x_ias 49, false),
  (49, x_inc 52 2 1, false),
  (52, x_go 26, false),
  (55, x_al 56 0, false),
  (56, x_c 57 (.int 0), false),
  (57, x_pI 10 7 60, false),
  (60, x_al 61 0, false),
  (61, x_gR 10 4 64, false),
  (64, x_c 66 (.int 79), false),
  (66, x_ia 67, false),
  (67, x_rI, false)]
set_option maxRecDepth 100000 in
theorem tk_X10_again : TbOk (mt_X10_again) (tb_X10_again) :=
  tkc (s_iload_n (at_ dl_X10_again 0 (ins := .iload_n 1) rfl)) (
  tkc (s_i2l (at_ dl_X10_again 1 (ins := .i2l) rfl)) (
  tkc (s_lconst (at_ dl_X10_again 2 (ins := .lconst 0) rfl) (by first | rfl | decide)) (
  tkc (s_lconst (at_ dl_X10_again 3 (ins := .lconst 1) rfl) (by first | rfl | decide)) (
  tkc (s_cS ok_X10_in (at_ dl_X10_again 4 (ins := .invokestatic 60) rfl) (tg 780 (by decide +kernel) (by decide +kernel)) (tg 781 (by decide +kernel) (by decide +kernel)) (tg 51 (by decide +kernel) (by decide +kernel)) (tg 782 (by decide +kernel) (by decide +kernel)) (⟨by decide, by decide, by decide +kernel⟩) (⟨by decide, by decide⟩) rfl rfl) (
  tkc (s_if_ne (at_ dl_X10_again 5 (ins := .ifCond .ne 5) rfl) (by decide)) (
  tkc (s_iconst (at_ dl_X10_again 6 (ins := .iconst (-1)) rfl) (by first | rfl | decide)) (
  tkc (s_rI (at_ dl_X10_again 7 (ins := .ireturn) rfl) rfl) (
  tkc (s_aload_n (at_ dl_X10_again 8 (ins := .aload_n 0) rfl)) (
  tkc (s_gR (at_ dl_X10_again 9 (ins := .getfield 25) rfl) (by decide) (by decide) (by decide) (tg 706 (by decide +kernel) (by decide +kernel))) (
  tkc (s_iload_n (at_ dl_X10_again 10 (ins := .iload_n 1) rfl)) (
  tkc (s_za (at_ dl_X10_again 11 (ins := .baload) rfl)) (
  tkc (s_if_ne (at_ dl_X10_again 12 (ins := .ifCond .ne 6) rfl) (by decide)) (
  tkc (s_bipush (at_ dl_X10_again 13 (ins := .bipush (-3)) rfl) (by first | rfl | decide)) (
  tkc (s_rI (at_ dl_X10_again 14 (ins := .ireturn) rfl) rfl) (
  tkc (s_iconst (at_ dl_X10_again 15 (ins := .iconst 0) rfl) (by first | rfl | decide)) (
  tkc (s_istore_n (at_ dl_X10_again 16 (ins := .istore_n 2) rfl) (by decide)) (
  tkc (s_iload_n (at_ dl_X10_again 17 (ins := .iload_n 2) rfl)) (
  tkc (s_bipush (at_ dl_X10_again 18 (ins := .bipush 80) rfl) (by first | rfl | decide)) (
  tkc (s_ic_ge (at_ dl_X10_again 19 (ins := .if_icmp .ge 26) rfl) (by decide)) (
  tkc (s_aload_n (at_ dl_X10_again 20 (ins := .aload_n 0) rfl)) (
  tkc (s_gR (at_ dl_X10_again 21 (ins := .getfield 13) rfl) (by decide) (by decide) (by decide) (tg 700 (by decide +kernel) (by decide +kernel))) (
  tkc (s_iload_n (at_ dl_X10_again 22 (ins := .iload_n 2) rfl)) (
  tkc (s_aload_n (at_ dl_X10_again 23 (ins := .aload_n 0) rfl)) (
  tkc (s_gR (at_ dl_X10_again 24 (ins := .getfield 22) rfl) (by decide) (by decide) (by decide) (tg 705 (by decide +kernel) (by decide +kernel))) (
  tkc (s_bipush (at_ dl_X10_again 25 (ins := .bipush 80) rfl) (by first | rfl | decide)) (
  tkc (s_iload_n (at_ dl_X10_again 26 (ins := .iload_n 1) rfl)) (
  tkc (s_imul (at_ dl_X10_again 27 (ins := .imul) rfl)) (
  tkc (s_iload_n (at_ dl_X10_again 28 (ins := .iload_n 2) rfl)) (
  tkc (s_iadd (at_ dl_X10_again 29 (ins := .iadd) rfl)) (
  tkc (s_ia (at_ dl_X10_again 30 (ins := .iaload) rfl)) (
  tkc (s_ias (at_ dl_X10_again 31 (ins := .iastore) rfl)) (
  tkc (s_iinc (at_ dl_X10_again 32 (ins := .iinc 2 1) rfl) (by decide) (by first | rfl | decide)) (
  tkc (s_goto (at_ dl_X10_again 33 (ins := .goto (-26)) rfl) (by decide)) (
  tkc (s_aload_n (at_ dl_X10_again 34 (ins := .aload_n 0) rfl)) (
  tkc (s_iconst (at_ dl_X10_again 35 (ins := .iconst 0) rfl) (by first | rfl | decide)) (
  tkc (s_pI (at_ dl_X10_again 36 (ins := .putfield 99) rfl) (by decide) (by decide) (by decide) (by decide) (tg 703 (by decide +kernel) (by decide +kernel))) (
  tkc (s_aload_n (at_ dl_X10_again 37 (ins := .aload_n 0) rfl)) (
  tkc (s_gR (at_ dl_X10_again 38 (ins := .getfield 13) rfl) (by decide) (by decide) (by decide) (tg 700 (by decide +kernel) (by decide +kernel))) (
  tkc (s_bipush (at_ dl_X10_again 39 (ins := .bipush 79) rfl) (by first | rfl | decide)) (
  tkc (s_ia (at_ dl_X10_again 40 (ins := .iaload) rfl)) (
  tkc (s_rI (at_ dl_X10_again 41 (ins := .ireturn) rfl) rfl) ( tk0))))))))))))))))))))))))))))))))))))))))))
theorem lf_X10_again : lk (tb_X10_again) 0 = (x_il 1 1, false) ∧ lk (tb_X10_again) 1 = (x_i2l 2, false) ∧ lk (tb_X10_again) 2 = (x_c 3 (.long 0), false) ∧ lk (tb_X10_again) 3 = (x_c 4 (.long 1), false) ∧ lk (tb_X10_again) 4 = (x_cS 3 P_X10_in 7, false) ∧ lk (tb_X10_again) 7 = (x_ifn 12 10 (fun x : Int32 => x = 0), false) ∧ lk (tb_X10_again) 10 = (x_c 11 (.int (-1)), false) ∧ lk (tb_X10_again) 11 = (x_rI, false) ∧ lk (tb_X10_again) 12 = (x_al 13 0, false) ∧ lk (tb_X10_again) 13 = (x_gR 10 10 16, false) ∧ lk (tb_X10_again) 16 = (x_il 17 1, false) ∧ lk (tb_X10_again) 17 = (x_za 18, false) ∧ lk (tb_X10_again) 18 = (x_ifn 24 21 (fun x : Int32 => x = 0), false) ∧ lk (tb_X10_again) 21 = (x_c 23 (.int (-3)), false) ∧ lk (tb_X10_again) 23 = (x_rI, false) ∧ lk (tb_X10_again) 24 = (x_c 25 (.int 0), false) ∧ lk (tb_X10_again) 25 = (x_is 26 2, false) ∧ lk (tb_X10_again) 26 = (x_il 27 2, true) ∧ lk (tb_X10_again) 27 = (x_c 29 (.int 80), false) ∧ lk (tb_X10_again) 29 = (x_ic 55 32 (fun x y : Int32 => y ≤ x), false) ∧ lk (tb_X10_again) 32 = (x_al 33 0, false) ∧ lk (tb_X10_again) 33 = (x_gR 10 4 36, false) ∧ lk (tb_X10_again) 36 = (x_il 37 2, false) ∧ lk (tb_X10_again) 37 = (x_al 38 0, false) ∧ lk (tb_X10_again) 38 = (x_gR 10 9 41, false) ∧ lk (tb_X10_again) 41 = (x_c 43 (.int 80), false) ∧ lk (tb_X10_again) 43 = (x_il 44 1, false) ∧ lk (tb_X10_again) 44 = (x_ii 45 (fun x y : Int32 => x * y), false) ∧ lk (tb_X10_again) 45 = (x_il 46 2, false) ∧ lk (tb_X10_again) 46 = (x_ii 47 (fun x y : Int32 => x + y), false) ∧ lk (tb_X10_again) 47 = (x_ia 48, false) ∧ lk (tb_X10_again) 48 = (x_ias 49, false) ∧ lk (tb_X10_again) 49 = (x_inc 52 2 1, false) ∧ lk (tb_X10_again) 52 = (x_go 26, false) ∧ lk (tb_X10_again) 55 = (x_al 56 0, false) ∧ lk (tb_X10_again) 56 = (x_c 57 (.int 0), false) ∧ lk (tb_X10_again) 57 = (x_pI 10 7 60, false) ∧ lk (tb_X10_again) 60 = (x_al 61 0, false) ∧ lk (tb_X10_again) 61 = (x_gR 10 4 64, false) ∧ lk (tb_X10_again) 64 = (x_c 66 (.int 79), false) ∧ lk (tb_X10_again) 66 = (x_ia 67, false) ∧ lk (tb_X10_again) 67 = (x_rI, false) := ⟨rfl, rfl, rfl, rfl, rfl, rfl, rfl, rfl, rfl, rfl, rfl, rfl, rfl, rfl, rfl, rfl, rfl, rfl, rfl, rfl, rfl, rfl, rfl, rfl, rfl, rfl, rfl, rfl, rfl, rfl, rfl, rfl, rfl, rfl, rfl, rfl, rfl, rfl, rfl, rfl, rfl, rfl⟩
def P_X10_again : PTT := fun as M R => match as with
  | [.ref k, .int x] => k = 108 ∧ ∃ g, MR M.1 M.2.1 M.2.2 g ∧ GOk g ∧ Anm M R (gAgain g x).1 (gAgain g x).2
  | _ => False
set_option maxRecDepth 20000 in
theorem ok_X10_again : Ok yX10_again mt_X10_again P_X10_again := by
  refine Ok.of (by decide) rfl rfl rfl rfl fun av ⟨S, I, L⟩ R hP => ?_
  unfold P_X10_again at hP
  split at hP
  case h_2 => exact hP.elim
  rename_i k x
  obtain ⟨k, rfl⟩ : ∃ q : Nat, q = k := ⟨k, rfl⟩
  refine ⟨by simp [ent, wide, mt_X10_again], ?_⟩
  show J mt_X10_again R 0 [some (.ref k), some (.int x), none] [] (S, I, L)
  try dsimp only at hP
  obtain ⟨rfl, g, hc, ho, hA⟩ := hP
  obtain ⟨h1, h2, h3, h4, h5, h6, h7, h8, h9⟩ := id hc
  have i1 : (¬ x.toInt64 < (0 : Int64) ∧ ¬ (1 : Int64) < x.toInt64) ↔ (¬ x < 0 ∧ x < 2) := and_congr i2l_0 ((inL (b := 1) (by decide)).trans le1)
  by_cases hx : ¬ x < 0 ∧ x < 2
  · have hx' : ¬ (x < 0 ∨ ¬ x < 2) := fun q => q.elim hx.1 (fun r => r hx.2)
    obtain ⟨s, hi, rfl⟩ := ix2 hx.1 hx.2
    have ht : tn (nI s) = s := tn_nI (by omega)
    obtain ⟨k1, k2⟩ := h6 s hi
    have vs : vp_in (nI s) 2 := vp_in_nI (by omega) (by omega)
    have e79 : (79 : Int32).toNatClampNeg = 79 := by decide
    have v79 : vp_in 79 80 := vp_in_nI (n := 79) (by omega) (by omega)
    refine J.of tk_X10_again 200 fun ρ hρ => ?_
    simp only [hρ, x_c, x_il, x_ll, x_al, x_is, x_as, x_ls, x_inc, x_ii, x_iq, x_i1, x_l2, x_lq, x_lh, x_i2l, x_l2i, x_lcmp, x_dup, x_dup2, x_pop, x_if, x_ifn, x_ic, x_icn, x_go, x_sw, swc, x_l01, x_mx, x_gI, x_gL, x_gR, x_pI, x_pZ, x_pL, x_pR, x_ia, x_za, x_aa, x_ias, x_zas, x_aas, x_fac, x_fa, x_slen, x_sa, x_ac, x_oi, x_new, x_na, x_cS, x_cV, x_cI, x_rI, x_rZ, x_rL, x_r0, pa, short, oc, lg, lset, lset2, wide, cond_true, cond_false, true_and, and_true, ↓reduceIte, Bool.false_eq_true, true_or, or_true, lf_X10_again, h1.f, P_X10_in, i1, bI_0, hx, k1, bB_0, eq_true vs, ncl (show s < 2 ^ 31 by omega), true_implies, not_true_eq_false, false_implies, not_false_eq_true, Classical.not_not]
    refine ⟨fun hk => ?_, fun hk => (hA.e (show gAgain g (nI s) = (-3, g) by rw [gAgain, if_neg hx', ht, if_pos hk])).s hc⟩
    have hA' := hA.e (show gAgain g (nI s) = (aR (gS g s), GH (GA g (gS g s)) 0 (gH g)) by rw [gAgain, if_neg hx', ht, if_neg (fun q => q hk)])
    have key := up (P := fun i => J mt_X10_again R 26 [some (.ref 108), some (.int (nI s)), some (.int (nI i))] [] (S, mS I 110 (cpo (I 113) (I 110) (80 * s) i), L)) (n := 80) (fun i hi' ih => ?_) 0 (Nat.zero_le _)
    · rw [cpo_0, mS_id] at key
      exact key
    have e108 : mS I 110 (cpo (I 113) (I 110) (80 * s) i) 108 = I 108 := mS_n (by omega)
    have e113 : mS I 110 (cpo (I 113) (I 110) (80 * s) i) 113 = I 113 := mS_n (by omega)
    by_cases hlt : i < 80
    · refine J.of tk_X10_again 200 fun ρ hρ => ?_
      simp only [hρ, x_c, x_il, x_ll, x_al, x_is, x_as, x_ls, x_inc, x_ii, x_iq, x_i1, x_l2, x_lq, x_lh, x_i2l, x_l2i, x_lcmp, x_dup, x_dup2, x_pop, x_if, x_ifn, x_ic, x_icn, x_go, x_sw, swc, x_l01, x_mx, x_gI, x_gL, x_gR, x_pI, x_pZ, x_pL, x_pR, x_ia, x_za, x_aa, x_ias, x_zas, x_aas, x_fac, x_fa, x_slen, x_sa, x_ac, x_oi, x_new, x_na, x_cS, x_cV, x_cI, x_rI, x_rZ, x_rL, x_r0, pa, short, oc, lg, lset, lset2, wide, cond_true, cond_false, true_and, and_true, ↓reduceIte, Bool.false_eq_true, true_or, or_true, lf_X10_again, h1.f, e108, e113, nI80, pk_mul, nI_add, nI_leI (show 80 < 2 ^ 31 by omega) (show i < 2 ^ 31 by omega), ncl (show i < 2 ^ 31 by omega), ncl (show 80 * s + i < 2 ^ 31 by omega), nI_1, mS_s, mS_ss, cpo_s]
      exact ⟨fun h => absurd h (by omega), fun _ => ⟨vp_in_nI (by omega) (by omega), vp_in_nI (by omega) (by omega), ih hlt⟩⟩
    · have : i = 80 := by omega
      subst this
      have hz := ho.2.2.2.1 s hi hk
      have hr : RW (cpo (I 113) (I 110) (80 * s) 80) 0 (gS g s) := (k2 hk).co hz.1.1.2.2
      have e9 : cpo (I 113) (I 110) (80 * s) 80 79 = aR (gS g s) := hr.2.2.2.2.2
      have e110 : ∀ f, mS (mS I 110 (cpo (I 113) (I 110) (80 * s) 80)) 108 f 110 = cpo (I 113) (I 110) (80 * s) 80 := fun f => by rw [mS_n (by omega), mS_s]
      refine J.of tk_X10_again 200 fun ρ hρ => ?_
      simp only [hρ, x_c, x_il, x_ll, x_al, x_is, x_as, x_ls, x_inc, x_ii, x_iq, x_i1, x_l2, x_lq, x_lh, x_i2l, x_l2i, x_lcmp, x_dup, x_dup2, x_pop, x_if, x_ifn, x_ic, x_icn, x_go, x_sw, swc, x_l01, x_mx, x_gI, x_gL, x_gR, x_pI, x_pZ, x_pL, x_pR, x_ia, x_za, x_aa, x_ias, x_zas, x_aas, x_fac, x_fa, x_slen, x_sa, x_ac, x_oi, x_new, x_na, x_cS, x_cV, x_cI, x_rI, x_rZ, x_rL, x_r0, pa, short, oc, lg, lset, lset2, wide, cond_true, cond_false, true_and, and_true, ↓reduceIte, Bool.false_eq_true, true_or, or_true, lf_X10_again, h1.f, e108, e110, e79, eq_true v79, e9, nI80, nI_leI (show 80 < 2 ^ 31 by omega) (show 80 < 2 ^ 31 by omega), Nat.le_refl, true_implies, not_true_eq_false, false_implies]
      obtain ⟨a1, y, a2, a3, -⟩ := h5
      refine hA' _ L (fun q hq => by rw [mS_n (by omega), mS_n (by omega)]) (fun _ _ => rfl) ⟨h1, h2, ?_, by rw [e110]; exact hr, ⟨by rw [mS_s]; rfl, y, a2, by rw [mS_s]; exact a3, fun j hj => absurd hj (Nat.not_lt_zero j)⟩, h6, h7, h8, h9⟩
      show mS _ 108 (upd (I 108) 7 0) 108 2 = nI (aN (gS g s)) ∧ mS _ 108 (upd (I 108) 7 0) 108 3 = nI (aM (gS g s))
      rw [mS_s, hz.2.1, hz.2.2]; exact h3
  · have hx' : x < 0 ∨ ¬ x < 2 := Classical.byContradiction fun q => hx ⟨fun r => q (.inl r), Classical.byContradiction fun r => q (.inr r)⟩
    refine J.of tk_X10_again 200 fun ρ hρ => ?_
    simp only [hρ, x_c, x_il, x_ll, x_al, x_is, x_as, x_ls, x_inc, x_ii, x_iq, x_i1, x_l2, x_lq, x_lh, x_i2l, x_l2i, x_lcmp, x_dup, x_dup2, x_pop, x_if, x_ifn, x_ic, x_icn, x_go, x_sw, swc, x_l01, x_mx, x_gI, x_gL, x_gR, x_pI, x_pZ, x_pL, x_pR, x_ia, x_za, x_aa, x_ias, x_zas, x_aas, x_fac, x_fa, x_slen, x_sa, x_ac, x_oi, x_new, x_na, x_cS, x_cV, x_cI, x_rI, x_rZ, x_rL, x_r0, pa, short, oc, lg, lset, lset2, wide, cond_true, cond_false, true_and, and_true, ↓reduceIte, Bool.false_eq_true, true_or, or_true, lf_X10_again, h1.f, P_X10_in, i1, bI_0, hx, true_implies, not_true_eq_false, false_implies, not_false_eq_true]
    exact (hA.e (by rw [gAgain, if_pos hx'])).s hc
