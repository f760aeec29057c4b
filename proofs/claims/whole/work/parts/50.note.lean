/-! NOTE of the model -/
def sgC (f g : Nat → Int32) (o i : Nat) : Nat → Int32 := fun j => if o ≤ j ∧ j < o + i then f (j - o) else g j
theorem sgC_0 (f g : Nat → Int32) (o : Nat) : sgC f g o 0 = g := by funext j; rw [sgC, if_neg (by omega)]
theorem sgC_s (f g : Nat → Int32) (o i : Nat) : upd (sgC f g o i) (o + i) (f i) = sgC f g o (i + 1) := by
  funext j
  rw [upd_app]
  simp only [sgC]
  by_cases h : j = o + i
  · subst h
    rw [if_pos rfl, if_pos (by omega), show o + i - o = i by omega]
  · rw [if_neg h]
    by_cases h2 : o ≤ j ∧ j < o + i
    · rw [if_pos h2, if_pos (by omega)]
    · rw [if_neg h2, if_neg (by omega)]
theorem RW.sg {f g : Nat → Int32} {o : Nat} {a : AS} (h : RW f 0 a) (hm : aM a ≤ 6) : RW (sgC f g o 80) o a := by
  have e : ∀ j, j < 80 → sgC f g o 80 (o + j) = f j := fun j hj => by rw [sgC, if_pos (by omega), show o + j - o = j by omega]
  refine ⟨fun b hb => ?_, fun b hb => ?_, fun c hc => ?_, fun j hj => ?_, ?_, ?_⟩
  · rw [e b (by omega)]; exact h.l hb
  · rw [Nat.add_assoc, e (9 + b) (by omega)]; exact h.t hb
  · rw [Nat.add_assoc, e (18 + c) (by omega)]; exact h.v hc
  · rw [Nat.add_assoc, e (24 + j) (by omega)]; exact h.m hj
  · rw [e 78 (by omega)]; exact h.2.2.2.2.1
  · rw [e 79 (by omega)]; exact h.2.2.2.2.2
theorem RW.sn {f g : Nat → Int32} {o p : Nat} {a : AS} (h : RW g p a) (hm : aM a ≤ 6) (ho : p + 80 ≤ o ∨ o + 80 ≤ p) : RW (sgC f g o 80) p a := by
  have e : ∀ j, j < 80 → sgC f g o 80 (p + j) = g (p + j) := fun j hj => by rw [sgC, if_neg (by omega)]
  refine ⟨fun b hb => ?_, fun b hb => ?_, fun c hc => ?_, fun j hj => ?_, ?_, ?_⟩
  · rw [e b (by omega)]; exact h.1 b hb
  · rw [Nat.add_assoc, e (9 + b) (by omega), ← Nat.add_assoc]; exact h.2.1 b hb
  · rw [Nat.add_assoc, e (18 + c) (by omega), ← Nat.add_assoc]; exact h.2.2.1 c hc
  · rw [Nat.add_assoc, e (24 + j) (by omega), ← Nat.add_assoc]; exact h.2.2.2.1 j hj
  · rw [e 78 (by omega)]; exact h.2.2.2.2.1
  · rw [e 79 (by omega)]; exact h.2.2.2.2.2
theorem nI80 : (80 : Int32) = nI 80 := by decide
def il_X10_note : List (Nat × Instr × Nat) := [(0, .iconst 0, 1), (1, .istore_n 1, 1), (2, .iload_n 1, 1), (3, .bipush 80, 2), (5, .if_icmp .ge 29, 3), (8, .aload_n 0, 1), (9, .getfield 19, 3), (12, .bipush 80, 2), (14, .aload_n 0, 1), (15, .getfield 177, 3), (18, .imul, 1), (19, .iload_n 1, 1), (20, .iadd, 1), (21, .aload_n 0, 1), (22, .getfield 13, 3), (25, .iload_n 1, 1), (26, .iaload, 1), (27, .iastore, 1), (28, .iinc 1 1, 3), (31, .goto (-29), 3), (34, .aload_n 0, 1), (35, .aload_n 0, 1), (36, .getfield 177, 3), (39, .iconst 1, 1), (40, .iadd, 1), (41, .bipush 14, 2), (43, .irem, 1), (44, .putfield 177, 3), (47, .aload_n 0, 1), (48, .aload_n 0, 1), (49, .getfield 99, 3), (52, .bipush 14, 2), (54, .if_icmp .ge 12, 3), (57, .aload_n 0, 1), (58, .getfield 99, 3), (61, .iconst 1, 1), (62, .iadd, 1), (63, .goto 5, 3), (66, .bipush 14, 2), (68, .putfield 99, 3), (71, .return_, 1)]
def mt_X10_note : Mt := (cX10_note, RX10, 2, none, ({ frames := 0, cells := 0, slots := 0, locals := 0 } : Room), false, none, none)
set_option maxRecDepth 100000 in
theorem dl_X10_note : ∀ q ∈ il_X10_note, decode (mt_X10_note).1 q.1 = .ok q.2 := by decide +kernel
def tb_X10_note : Tb := [(0, x_c 1 (.int 0), false),
  (1, x_is 2 1, false),
  (2, x_il 3 1, true),
  (3, x_c 5 (.int 80), false),
  (5, x_ic 34 8 (fun x y : Int32 => y ≤ x), false),
  (8, x_al 9 0, false),
  (9, x_gR 10 6 12, false),
  (12, x_c 14 (.int 80), false),
  (14, x_al 15 0, false),
  (15, x_gI 10 8 18, false),
  (18, x_ii 19 (fun x y : Int32 => x * y), false),
  (19, x_il 20 1, false),
  (20, x_ii 21 (fun x y : Int32 => x + y), false),
  (21, x_al 22 0, false),
  (22, x_gR 10 4 25, false),
  (25, x_il 26 1, false),
  (26, x_ia 27, false),
  (27, x_ias 28, false),
  (28, x_inc 31 1 1, false),
  (31, x_go 2, false),
  (34, x_al 35 0, true),
  (35, x_al 36 0, false),
  (36, x_gI 10 8 39, false),
  (39, x_c 40 (.int 1), false),
  (40, x_ii 41 (fun x y : Int32 => x + y), false),
  (41, x_c 43 (.int 14), false),
  (43, x_iq 44 (fun x y : Int32 => x - x / y * y), false),
  (44, x_pI 10 8 47, false),
  (47, x_al 48 0, false),
  (48, x_al 49 0, false),
  (49, x_gI 10 7 52, false),
  (52, x_c 54 (.int 14), false),
  (54, x_ic 66 57 (fun x y : Int32 => y ≤ x), false),
  (57, x_al 58 0, false),
  (58, x_gI 10 7 61, false),
  (61, x_c 62 (.int 1), false),
  (62, x_ii 63 (fun x y : Int32 => x + y), false),
  (63, x_go 68, false),
  (66, x_c 68 (.int 14), false),
  (68, x_pI 10 7 71, false),
  (71, x_r0, false)]
set_option maxRecDepth 100000 in
theorem tk_X10_note : TbOk (mt_X10_note) (tb_X10_note) :=
  tkc (s_iconst (at_ dl_X10_note 0 (ins := .iconst 0) rfl) (by first | rfl | decide)) (
  tkc (s_istore_n (at_ dl_X10_note 1 (ins := .istore_n 1) rfl) (by decide)) (
  tkc (s_iload_n (at_ dl_X10_note 2 (ins := .iload_n 1) rfl)) (
  tkc (s_bipush (at_ dl_X10_note 3 (ins := .bipush 80) rfl) (by first | rfl | decide)) (
  tkc (s_ic_ge (at_ dl_X10_note 4 (ins := .if_icmp .ge 29) rfl) (by decide)) (
  tkc (s_aload_n (at_ dl_X10_note 5 (ins := .aload_n 0) rfl)) (
  tkc (s_gR (at_ dl_X10_note 6 (ins := .getfield 19) rfl) (by decide) (by decide) (by decide) (tg 702 (by decide +kernel) (by decide +kernel))) (
  tkc (s_bipush (at_ dl_X10_note 7 (ins := .bipush 80) rfl) (by first | rfl | decide)) (
  tkc (s_aload_n (at_ dl_X10_note 8 (ins := .aload_n 0) rfl)) (
  tkc (s_gI (at_ dl_X10_note 9 (ins := .getfield 177) rfl) (by decide) (by decide) (by decide) (tg 704 (by decide +kernel) (by decide +kernel))) (
  tkc (s_imul (at_ dl_X10_note 10 (ins := .imul) rfl)) (
  tkc (s_iload_n (at_ dl_X10_note 11 (ins := .iload_n 1) rfl)) (
  tkc (s_iadd (at_ dl_X10_note 12 (ins := .iadd) rfl)) (
  tkc (s_aload_n (at_ dl_X10_note 13 (ins := .aload_n 0) rfl)) (
  tkc (s_gR (at_ dl_X10_note 14 (ins := .getfield 13) rfl) (by decide) (by decide) (by decide) (tg 700 (by decide +kernel) (by decide +kernel))) (
  tkc (s_iload_n (at_ dl_X10_note 15 (ins := .iload_n 1) rfl)) (
  tkc (s_ia (at_ dl_X10_note 16 (ins := .iaload) rfl)) (
  tkc (s_ias (at_ dl_X10_note 17 (ins := .iastore) rfl)) (
  tkc (s_iinc (at_ dl_X10_note 18 (ins := .iinc 1 1) rfl) (by decide) (by first | rfl | decide)) (
  tkc (s_goto (at_ dl_X10_note 19 (ins := .goto (-29)) rfl) (by decide)) (
  tkc (s_aload_n (at_ dl_X10_note 20 (ins := .aload_n 0) rfl)) (
  tkc (s_aload_n (at_ dl_X10_note 21 (ins := .aload_n 0) rfl)) (
  tkc (s_gI (at_ dl_X10_note 22 (ins := .getfield 177) rfl) (by decide) (by decide) (by decide) (tg 704 (by decide +kernel) (by decide +kernel))) (
  tkc (s_iconst (at_ dl_X10_note 23 (ins := .iconst 1) rfl) (by first | rfl | decide)) (
  tkc (s_iadd (at_ dl_X10_note 24 (ins := .iadd) rfl)) (
  tkc (s_bipush (at_ dl_X10_note 25 (ins := .bipush 14) rfl) (by first | rfl | decide)) (
  tkc (s_irem (at_ dl_X10_note 26 (ins := .irem) rfl)) (
  tkc (s_pI (at_ dl_X10_note 27 (ins := .putfield 177) rfl) (by decide) (by decide) (by decide) (by decide) (tg 704 (by decide +kernel) (by decide +kernel))) (
  tkc (s_aload_n (at_ dl_X10_note 28 (ins := .aload_n 0) rfl)) (
  tkc (s_aload_n (at_ dl_X10_note 29 (ins := .aload_n 0) rfl)) (
  tkc (s_gI (at_ dl_X10_note 30 (ins := .getfield 99) rfl) (by decide) (by decide) (by decide) (tg 703 (by decide +kernel) (by decide +kernel))) (
  tkc (s_bipush (at_ dl_X10_note 31 (ins := .bipush 14) rfl) (by first | rfl | decide)) (
  tkc (s_ic_ge (at_ dl_X10_note 32 (ins := .if_icmp .ge 12) rfl) (by decide)) (
  tkc (s_aload_n (at_ dl_X10_note 33 (ins := .aload_n 0) rfl)) (
  tkc (s_gI (at_ dl_X10_note 34 (ins := .getfield 99) rfl) (by decide) (by decide) (by decide) (tg 703 (by decide +kernel) (by decide +kernel))) (
  tkc (s_iconst (at_ dl_X10_note 35 (ins := .iconst 1) rfl) (by first | rfl | decide)) (
  tkc (s_iadd (at_ dl_X10_note 36 (ins := .iadd) rfl)) (
  tkc (s_goto (at_ dl_X10_note 37 (ins := .goto 5) rfl) (by decide)) (
  tkc (s_bipush (at_ dl_X10_note 38 (ins := .bipush 14) rfl) (by first | rfl | decide)) (
  tkc (s_pI (at_ dl_X10_note 39 (ins := .putfield 99) rfl) (by decide) (by decide) (by decide) (by decide) (tg 703 (by decide +kernel) (by decide +kernel))) (
  tkc (s_r0 (at_ dl_X10_note 40 (ins := .return_) rfl) rfl) ( tk0)))))))))))))))))))))))))))))))))))))))))
theorem lf_X10_note : lk (tb_X10_note) 0 = (x_c 1 (.int 0), false) ∧ lk (tb_X10_note) 1 = (x_is 2 1, false) ∧ lk (tb_X10_note) 2 = (x_il 3 1, true) ∧ lk (tb_X10_note) 3 = (x_c 5 (.int 80), false) ∧ lk (tb_X10_note) 5 = (x_ic 34 8 (fun x y : Int32 => y ≤ x), false) ∧ lk (tb_X10_note) 8 = (x_al 9 0, false) ∧ lk (tb_X10_note) 9 = (x_gR 10 6 12, false) ∧ lk (tb_X10_note) 12 = (x_c 14 (.int 80), false) ∧ lk (tb_X10_note) 14 = (x_al 15 0, false) ∧ lk (tb_X10_note) 15 = (x_gI 10 8 18, false) ∧ lk (tb_X10_note) 18 = (x_ii 19 (fun x y : Int32 => x * y), false) ∧ lk (tb_X10_note) 19 = (x_il 20 1, false) ∧ lk (tb_X10_note) 20 = (x_ii 21 (fun x y : Int32 => x + y), false) ∧ lk (tb_X10_note) 21 = (x_al 22 0, false) ∧ lk (tb_X10_note) 22 = (x_gR 10 4 25, false) ∧ lk (tb_X10_note) 25 = (x_il 26 1, false) ∧ lk (tb_X10_note) 26 = (x_ia 27, false) ∧ lk (tb_X10_note) 27 = (x_ias 28, false) ∧ lk (tb_X10_note) 28 = (x_inc 31 1 1, false) ∧ lk (tb_X10_note) 31 = (x_go 2, false) ∧ lk (tb_X10_note) 34 = (x_al 35 0, true) ∧ lk (tb_X10_note) 35 = (x_al 36 0, false) ∧ lk (tb_X10_note) 36 = (x_gI 10 8 39, false) ∧ lk (tb_X10_note) 39 = (x_c 40 (.int 1), false) ∧ lk (tb_X10_note) 40 = (x_ii 41 (fun x y : Int32 => x + y), false) ∧ lk (tb_X10_note) 41 = (x_c 43 (.int 14), false) ∧ lk (tb_X10_note) 43 = (x_iq 44 (fun x y : Int32 => x - x / y * y), false) ∧ lk (tb_X10_note) 44 = (x_pI 10 8 47, false) ∧ lk (tb_X10_note) 47 = (x_al 48 0, false) ∧ lk (tb_X10_note) 48 = (x_al 49 0, false) ∧ lk (tb_X10_note) 49 = (x_gI 10 7 52, false) ∧ lk (tb_X10_note) 52 = (x_c 54 (.int 14), false) ∧ lk (tb_X10_note) 54 = (x_ic 66 57 (fun x y : Int32 => y ≤ x), false) ∧ lk (tb_X10_note) 57 = (x_al 58 0, false) ∧ lk (tb_X10_note) 58 = (x_gI 10 7 61, false) ∧ lk (tb_X10_note) 61 = (x_c 62 (.int 1), false) ∧ lk (tb_X10_note) 62 = (x_ii 63 (fun x y : Int32 => x + y), false) ∧ lk (tb_X10_note) 63 = (x_go 68, false) ∧ lk (tb_X10_note) 66 = (x_c 68 (.int 14), false) ∧ lk (tb_X10_note) 68 = (x_pI 10 7 71, false) ∧ lk (tb_X10_note) 71 = (x_r0, false) := ⟨rfl, rfl, rfl, rfl, rfl, rfl, rfl, rfl, rfl, rfl, rfl, rfl, rfl, rfl, rfl, rfl, rfl, rfl, rfl, rfl, rfl, rfl, rfl, rfl, rfl, rfl, rfl, rfl, rfl, rfl, rfl, rfl, rfl, rfl, rfl, rfl, rfl, rfl, rfl, rfl, rfl⟩
def P_X10_note : PTT := fun as M R => match as with
  | [.ref k] => k = 108 ∧ ∃ g, MR M.1 M.2.1 M.2.2 g ∧ GOk g ∧ ∀ I', lo8 M.2.1 I' → MR M.1 I' M.2.2 (remG g) → R none (M.1, I', M.2.2)
  | _ => False
set_option maxRecDepth 20000 in
theorem ok_X10_note : Ok yX10_note mt_X10_note P_X10_note := by
  refine Ok.of (by decide) rfl rfl rfl rfl fun av ⟨S, I, L⟩ R hP => ?_
  unfold P_X10_note at hP
  split at hP
  case h_2 => exact hP.elim
  rename_i k
  obtain ⟨k, rfl⟩ : ∃ q : Nat, q = k := ⟨k, rfl⟩
  refine ⟨by simp [ent, wide, mt_X10_note], ?_⟩
  show J mt_X10_note R 0 [some (.ref k), none] [] (S, I, L)
  try dsimp only at hP
  obtain ⟨rfl, g, ⟨h1, h2, h3, h4, ⟨h5, x, hx, ex, hs⟩, h6, h7, h8, h9⟩, ho, hR⟩ := hP
  have hC := ho.2.2.1.1
  have key := up (P := fun i => J mt_X10_note R 2 [some (.ref 108), some (.int (nI i))] [] (S, mS I 112 (sgC (I 110) (I 112) (80 * x) i), L)) (n := 80) (fun i hi ih => ?_) 0 (Nat.zero_le _)
  · rw [sgC_0, mS_id] at key
    refine J.of tk_X10_note 200 fun ρ hρ => ?_
    simp only [hρ, x_c, x_il, x_ll, x_al, x_is, x_as, x_ls, x_inc, x_ii, x_iq, x_i1, x_l2, x_lq, x_lh, x_i2l, x_l2i, x_lcmp, x_dup, x_dup2, x_pop, x_if, x_ifn, x_ic, x_icn, x_go, x_sw, swc, x_l01, x_mx, x_gI, x_gL, x_gR, x_pI, x_pZ, x_pL, x_pR, x_ia, x_za, x_aa, x_ias, x_zas, x_aas, x_fac, x_fa, x_slen, x_sa, x_ac, x_oi, x_new, x_na, x_cS, x_cV, x_cI, x_rI, x_rZ, x_rL, x_r0, pa, short, oc, lg, lset, lset2, wide, cond_true, cond_false, true_and, and_true, ↓reduceIte, Bool.false_eq_true, true_or, or_true, lf_X10_note]
    exact key
  have e108 : mS I 112 (sgC (I 110) (I 112) (80 * x) i) 108 = I 108 := mS_n (by omega)
  have e110 : mS I 112 (sgC (I 110) (I 112) (80 * x) i) 110 = I 110 := mS_n (by omega)
  by_cases hlt : i < 80
  · refine J.of tk_X10_note 200 fun ρ hρ => ?_
    simp only [hρ, x_c, x_il, x_ll, x_al, x_is, x_as, x_ls, x_inc, x_ii, x_iq, x_i1, x_l2, x_lq, x_lh, x_i2l, x_l2i, x_lcmp, x_dup, x_dup2, x_pop, x_if, x_ifn, x_ic, x_icn, x_go, x_sw, swc, x_l01, x_mx, x_gI, x_gL, x_gR, x_pI, x_pZ, x_pL, x_pR, x_ia, x_za, x_aa, x_ias, x_zas, x_aas, x_fac, x_fa, x_slen, x_sa, x_ac, x_oi, x_new, x_na, x_cS, x_cV, x_cI, x_rI, x_rZ, x_rL, x_r0, pa, short, oc, lg, lset, lset2, wide, cond_true, cond_false, true_and, and_true, ↓reduceIte, Bool.false_eq_true, true_or, or_true, lf_X10_note, h1.f, e108, e110, ex, nI80, pk_mul, nI_add, nI_leI (show 80 < 2 ^ 31 by omega) (show i < 2 ^ 31 by omega), ncl (show i < 2 ^ 31 by omega), ncl (show 80 * x + i < 2 ^ 31 by omega), nI_1, mS_s, mS_ss, sgC_s]
    exact ⟨fun h => absurd h (by omega), fun _ => ⟨vp_in_nI (by omega) (by omega), vp_in_nI (by omega) (by omega), ih hlt⟩⟩
  · have : i = 80 := by omega
    subst this
    refine J.of tk_X10_note 200 fun ρ hρ => ?_
    simp only [hρ, x_c, x_il, x_ll, x_al, x_is, x_as, x_ls, x_inc, x_ii, x_iq, x_i1, x_l2, x_lq, x_lh, x_i2l, x_l2i, x_lcmp, x_dup, x_dup2, x_pop, x_if, x_ifn, x_ic, x_icn, x_go, x_sw, swc, x_l01, x_mx, x_gI, x_gL, x_gR, x_pI, x_pZ, x_pL, x_pR, x_ia, x_za, x_aa, x_ias, x_zas, x_aas, x_fac, x_fa, x_slen, x_sa, x_ac, x_oi, x_new, x_na, x_cS, x_cV, x_cI, x_rI, x_rZ, x_rL, x_r0, pa, short, oc, lg, lset, lset2, wide, cond_true, cond_false, true_and, and_true, ↓reduceIte, Bool.false_eq_true, true_or, or_true, lf_X10_note, nI80, nI_leI (show 80 < 2 ^ 31 by omega) (show 80 < 2 ^ 31 by omega), Nat.le_refl, true_implies, not_true_eq_false, false_implies]
    have hfin : ∀ I' : MI, (∀ q, q ≠ 108 → q ≠ 112 → I' q = I q) → I' 112 = sgC (I 110) (I 112) (80 * x) 80 → (∀ j, j ≠ 7 → j ≠ 8 → I' 108 j = I 108 j) → I' 108 8 = nI ((x + 1) % 14) → I' 108 7 = nI (if gC g < 14 then gC g + 1 else 14) → R none (S, I', L) := fun I' f1 f2 f3 f4 f5 => by
      refine hR I' (fun q hq => f1 q (by omega) (by omega)) ⟨h1, ?_, ?_, by rw [f1 110 (by omega) (by omega)]; exact h4, ⟨f5, (x + 1) % 14, Nat.mod_lt _ (by omega), f4, fun j hj => ?_⟩, ?_, ?_, h8, ?_⟩
      · unfold NT; rw [f3 1 (by omega) (by omega), f1 109 (by omega) (by omega)]; exact h2
      · unfold NZ; rw [f3 2 (by omega) (by omega), f3 3 (by omega) (by omega)]; exact h3
      · replace hj : j < (if gC g < 14 then gC g + 1 else 14) := hj
        have hj' : j < 14 ∧ j ≤ gC g := by split at hj <;> omega
        show RW (I' 112) (80 * (((x + 1) % 14 + 13 - j) % 14)) (if j = 0 then gA g else gH g (j - 1))
        rw [f2]
        by_cases hj0 : j = 0
        · subst hj0
          rw [if_pos rfl, show ((x + 1) % 14 + 13 - 0) % 14 = x by omega]
          exact h4.sg ho.2.1.1.2.2
        · rw [if_neg hj0]
          have hq := hs (j - 1) (by omega)
          have hk := (ho.2.2.1.2 (j - 1) (by omega)).1.1.2.2
          rw [show ((x + 1) % 14 + 13 - j) % 14 = (x + 13 - (j - 1)) % 14 by omega]
          exact hq.sn hk (by omega)
      · unfold NK; rw [f1 113 (by omega) (by omega), f1 114 (by omega) (by omega)]; exact h6
      · unfold NE; rw [f3 13 (by omega) (by omega), f1 115 (by omega) (by omega), f1 116 (by omega) (by omega)]; exact h7
      · unfold OrdN; rw [f1 117 (by omega) (by omega)]; exact h9
    refine J.of tk_X10_note 200 fun ρ hρ => ?_
    simp only [hρ, x_c, x_il, x_ll, x_al, x_is, x_as, x_ls, x_inc, x_ii, x_iq, x_i1, x_l2, x_lq, x_lh, x_i2l, x_l2i, x_lcmp, x_dup, x_dup2, x_pop, x_if, x_ifn, x_ic, x_icn, x_go, x_sw, swc, x_l01, x_mx, x_gI, x_gL, x_gR, x_pI, x_pZ, x_pL, x_pR, x_ia, x_za, x_aa, x_ias, x_zas, x_aas, x_fac, x_fa, x_slen, x_sa, x_ac, x_oi, x_new, x_na, x_cS, x_cV, x_cI, x_rI, x_rZ, x_rL, x_r0, pa, short, oc, lg, lset, lset2, wide, cond_true, cond_false, true_and, and_true, ↓reduceIte, Bool.false_eq_true, true_or, or_true, lf_X10_note, h1.f, e108, ex, h5, nI14, f14, rem14 (show x + 1 < 1000 by omega), nI_1, mS_app, upd_app, Nat.reduceEqDiff, mS_ss, not_false_eq_true, nI_leI (show 14 < 2 ^ 31 by omega) (show gC g < 2 ^ 31 by omega)]
    have hgo : ∀ y, nI (if gC g < 14 then gC g + 1 else 14) = y → R none (S, mS (mS I 112 (sgC (I 110) (I 112) (80 * x) 80)) 108 (upd (upd (I 108) 8 (nI ((x + 1) % 14))) 7 y), L) := fun y hy => by
      refine hfin _ (fun q a b => by rw [mS_n a, mS_n b]) (by rw [mS_n (by omega), mS_s]) (fun j a b => by rw [mS_s, upd_app, if_neg a, upd_app, if_neg b]) (by rw [mS_s, upd_app, if_neg (by omega), upd_s]) (by rw [mS_s, upd_s, hy])
    exact ⟨fun h => hgo _ (by rw [if_neg (by omega)]), fun h => hgo _ (by rw [if_pos (by omega)])⟩
