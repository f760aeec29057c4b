/-! ROWS of the model -/
def RW (f : Nat → Int32) (o : Nat) (a : AS) : Prop := (∀ b, b < 9 → f (o + b) = aL a b) ∧ (∀ b, b < 9 → f (o + 9 + b) = (aD a).1 b) ∧ (∀ c, c < aM a → f (o + 18 + c) = nI (aV a c)) ∧ (∀ j, j < 54 → f (o + 24 + j) = (aD a).2 j) ∧ f (o + 78) = aO a ∧ f (o + 79) = aR a
/-- a row at k, and the sizes in the model -/
def MS (S : Sh) (I : MI) (k : Nat) (a : AS) : Prop := (tO S 108 10 ∧ tA S k 1 ∧ ln S k = 80) ∧ RW (I k) 0 a ∧ AOk a ∧ I 108 2 = nI (aN a) ∧ I 108 3 = nI (aM a)
theorem RW.l {f : Nat → Int32} {a : AS} (h : RW f 0 a) {b : Nat} (hb : b < 9) : f b = aL a b := by have := h.1 b hb; rwa [Nat.zero_add] at this
theorem RW.t {f : Nat → Int32} {a : AS} (h : RW f 0 a) {b : Nat} (hb : b < 9) : f (9 + b) = (aD a).1 b := h.2.1 b hb
theorem RW.v {f : Nat → Int32} {a : AS} (h : RW f 0 a) {c : Nat} (hc : c < aM a) : f (18 + c) = nI (aV a c) := h.2.2.1 c hc
theorem RW.m {f : Nat → Int32} {a : AS} (h : RW f 0 a) {j : Nat} (hj : j < 54) : f (24 + j) = (aD a).2 j := h.2.2.2.1 j hj
def il_X10_wordOf : List (Nat × Instr × Nat) := [(0, .iconst 0, 1), (1, .istore_n 2, 1), (2, .iconst 0, 1), (3, .istore_n 3, 1), (4, .iload_n 3, 1), (5, .aload_n 0, 1), (6, .getfield 53, 3), (9, .if_icmp .ge 28, 3), (12, .iload_n 2, 1), (13, .aload_n 1, 1), (14, .bipush 9, 2), (16, .iload_n 3, 1), (17, .iadd, 1), (18, .iaload, 1), (19, .ifCond .ge 9, 3), (22, .iconst 1, 1), (23, .iload_n 3, 1), (24, .ishl, 1), (25, .goto 4, 3), (28, .iconst 0, 1), (29, .ior, 1), (30, .istore_n 2, 1), (31, .iinc 3 1, 3), (34, .goto (-30), 3), (37, .iload_n 2, 1), (38, .ireturn, 1)]
def mt_X10_wordOf : Mt := (cX10_wordOf, RX10, 4, (some .int), ({ frames := 0, cells := 0, slots := 0, locals := 0 } : Room), false, none, none)
set_option maxRecDepth 100000 in
theorem dl_X10_wordOf : ∀ q ∈ il_X10_wordOf, decode (mt_X10_wordOf).1 q.1 = .ok q.2 := by decide +kernel
def tb_X10_wordOf : Tb := [(0, x_c 1 (.int 0), false),
  (1, x_is 2 2, false),
  (2, x_c 3 (.int 0), false),
  (3, x_is 4 3, false),
  (4, x_il 5 3, true),
  (5, x_al 6 0, false),
  (6, x_gI 10 2 9, false),
  (9, x_ic 37 12 (fun x y : Int32 => y ≤ x), false),
  (12, x_il 13 2, false),
  (13, x_al 14 1, false),
  (14, x_c 16 (.int 9), false),
  (16, x_il 17 3, false),
  (17, x_ii 18 (fun x y : Int32 => x + y), false),
  (18, x_ia 19, false),
  (19, x_if 28 22 (fun x : Int32 => 0 ≤ x), false),
  (22, x_c 23 (.int 1), false),
  (23, x_il 24 3, false),
  (24, x_ii 25 (fun x y : Int32 => x <<< (y &&& 31)), false),
  (25, x_go 29, false),
  (28, x_c 29 (.int 0), false),
  (29, x_ii 30 (fun x y : Int32 => x ||| y), true),
  (30, x_is 31 2, false),
  (31, x_inc 34 3 1, false),
  (34, x_go 4, false),
  (37, x_il 38 2, false),
  (38, x_rI, false)]
set_option maxRecDepth 100000 in
theorem tk_X10_wordOf : TbOk (mt_X10_wordOf) (tb_X10_wordOf) :=
  tkc (s_iconst (at_ dl_X10_wordOf 0 (ins := .iconst 0) rfl) (by first | rfl | decide)) (
  tkc (s_istore_n (at_ dl_X10_wordOf 1 (ins := .istore_n 2) rfl) (by decide)) (
  tkc (s_iconst (at_ dl_X10_wordOf 2 (ins := .iconst 0) rfl) (by first | rfl | decide)) (
  tkc (s_istore_n (at_ dl_X10_wordOf 3 (ins := .istore_n 3) rfl) (by decide)) (
  tkc (s_iload_n (at_ dl_X10_wordOf 4 (ins := .iload_n 3) rfl)) (
  tkc (s_aload_n (at_ dl_X10_wordOf 5 (ins := .aload_n 0) rfl)) (
  tkc (s_gI (at_ dl_X10_wordOf 6 (ins := .getfield 53) rfl) (by decide) (by decide) (by decide) (tg 698 (by decide +kernel) (by decide +kernel))) (
  tkc (s_ic_ge (at_ dl_X10_wordOf 7 (ins := .if_icmp .ge 28) rfl) (by decide)) (
  tkc (s_iload_n (at_ dl_X10_wordOf 8 (ins := .iload_n 2) rfl)) (
  tkc (s_aload_n (at_ dl_X10_wordOf 9 (ins := .aload_n 1) rfl)) (
  tkc (s_bipush (at_ dl_X10_wordOf 10 (ins := .bipush 9) rfl) (by first | rfl | decide)) (
  tkc (s_iload_n (at_ dl_X10_wordOf 11 (ins := .iload_n 3) rfl)) (
  tkc (s_iadd (at_ dl_X10_wordOf 12 (ins := .iadd) rfl)) (
  tkc (s_ia (at_ dl_X10_wordOf 13 (ins := .iaload) rfl)) (
  tkc (s_if_ge (at_ dl_X10_wordOf 14 (ins := .ifCond .ge 9) rfl) (by decide)) (
  tkc (s_iconst (at_ dl_X10_wordOf 15 (ins := .iconst 1) rfl) (by first | rfl | decide)) (
  tkc (s_iload_n (at_ dl_X10_wordOf 16 (ins := .iload_n 3) rfl)) (
  tkc (s_ishl (at_ dl_X10_wordOf 17 (ins := .ishl) rfl)) (
  tkc (s_goto (at_ dl_X10_wordOf 18 (ins := .goto 4) rfl) (by decide)) (
  tkc (s_iconst (at_ dl_X10_wordOf 19 (ins := .iconst 0) rfl) (by first | rfl | decide)) (
  tkc (s_ior (at_ dl_X10_wordOf 20 (ins := .ior) rfl)) (
  tkc (s_istore_n (at_ dl_X10_wordOf 21 (ins := .istore_n 2) rfl) (by decide)) (
  tkc (s_iinc (at_ dl_X10_wordOf 22 (ins := .iinc 3 1) rfl) (by decide) (by first | rfl | decide)) (
  tkc (s_goto (at_ dl_X10_wordOf 23 (ins := .goto (-30)) rfl) (by decide)) (
  tkc (s_iload_n (at_ dl_X10_wordOf 24 (ins := .iload_n 2) rfl)) (
  tkc (s_rI (at_ dl_X10_wordOf 25 (ins := .ireturn) rfl) rfl) ( tk0))))))))))))))))))))))))))
theorem lf_X10_wordOf : lk (tb_X10_wordOf) 0 = (x_c 1 (.int 0), false) ∧ lk (tb_X10_wordOf) 1 = (x_is 2 2, false) ∧ lk (tb_X10_wordOf) 2 = (x_c 3 (.int 0), false) ∧ lk (tb_X10_wordOf) 3 = (x_is 4 3, false) ∧ lk (tb_X10_wordOf) 4 = (x_il 5 3, true) ∧ lk (tb_X10_wordOf) 5 = (x_al 6 0, false) ∧ lk (tb_X10_wordOf) 6 = (x_gI 10 2 9, false) ∧ lk (tb_X10_wordOf) 9 = (x_ic 37 12 (fun x y : Int32 => y ≤ x), false) ∧ lk (tb_X10_wordOf) 12 = (x_il 13 2, false) ∧ lk (tb_X10_wordOf) 13 = (x_al 14 1, false) ∧ lk (tb_X10_wordOf) 14 = (x_c 16 (.int 9), false) ∧ lk (tb_X10_wordOf) 16 = (x_il 17 3, false) ∧ lk (tb_X10_wordOf) 17 = (x_ii 18 (fun x y : Int32 => x + y), false) ∧ lk (tb_X10_wordOf) 18 = (x_ia 19, false) ∧ lk (tb_X10_wordOf) 19 = (x_if 28 22 (fun x : Int32 => 0 ≤ x), false) ∧ lk (tb_X10_wordOf) 22 = (x_c 23 (.int 1), false) ∧ lk (tb_X10_wordOf) 23 = (x_il 24 3, false) ∧ lk (tb_X10_wordOf) 24 = (x_ii 25 (fun x y : Int32 => x <<< (y &&& 31)), false) ∧ lk (tb_X10_wordOf) 25 = (x_go 29, false) ∧ lk (tb_X10_wordOf) 28 = (x_c 29 (.int 0), false) ∧ lk (tb_X10_wordOf) 29 = (x_ii 30 (fun x y : Int32 => x ||| y), true) ∧ lk (tb_X10_wordOf) 30 = (x_is 31 2, false) ∧ lk (tb_X10_wordOf) 31 = (x_inc 34 3 1, false) ∧ lk (tb_X10_wordOf) 34 = (x_go 4, false) ∧ lk (tb_X10_wordOf) 37 = (x_il 38 2, false) ∧ lk (tb_X10_wordOf) 38 = (x_rI, false) := ⟨rfl, rfl, rfl, rfl, rfl, rfl, rfl, rfl, rfl, rfl, rfl, rfl, rfl, rfl, rfl, rfl, rfl, rfl, rfl, rfl, rfl, rfl, rfl, rfl, rfl, rfl⟩
def P_X10_wordOf : PTT := fun as M R => match as with
  | [.ref z, .ref k] => z = 108 ∧ ∃ a, MS M.1 M.2.1 k a ∧ R (some (.int (nI (wdA a)))) M
  | _ => False
set_option maxRecDepth 20000 in
theorem ok_X10_wordOf : Ok yX10_wordOf mt_X10_wordOf P_X10_wordOf := by
  refine Ok.of (by decide) rfl rfl rfl rfl fun av ⟨S, I, L⟩ R hP => ?_
  unfold P_X10_wordOf at hP
  split at hP
  case h_2 => exact hP.elim
  rename_i z k
  obtain ⟨z, rfl⟩ : ∃ q : Nat, q = z := ⟨z, rfl⟩
  obtain ⟨k, rfl⟩ : ∃ q : Nat, q = k := ⟨k, rfl⟩
  refine ⟨by simp [ent, wide, mt_X10_wordOf], ?_⟩
  show J mt_X10_wordOf R 0 [some (.ref z), some (.ref k), none, none] [] (S, I, L)
  try dsimp only at hP
  obtain ⟨rfl, a, ⟨⟨h1, h2, h3⟩, hr, ha, en, em⟩, hR⟩ := hP
  have h9 := ha.1
  have key := up (P := fun i => J mt_X10_wordOf R 4 [some (.ref 108), some (.ref k), some (.int (nI (bs (fun b => decide ((aD a).1 b < 0)) i))), some (.int (nI i))] [] (S, I, L)) (n := aN a) (fun i hi ih => ?_) 0 (Nat.zero_le _)
  · refine J.of tk_X10_wordOf 200 fun ρ hρ => ?_
    simp only [hρ, x_c, x_il, x_ll, x_al, x_is, x_as, x_ls, x_inc, x_ii, x_iq, x_i1, x_l2, x_lq, x_lh, x_i2l, x_l2i, x_lcmp, x_dup, x_dup2, x_pop, x_if, x_ifn, x_ic, x_icn, x_go, x_sw, swc, x_l01, x_mx, x_gI, x_gL, x_gR, x_pI, x_pZ, x_pL, x_pR, x_ia, x_za, x_aa, x_ias, x_zas, x_aas, x_fac, x_fa, x_slen, x_sa, x_ac, x_oi, x_new, x_na, x_cS, x_cV, x_cI, x_rI, x_rZ, x_rL, x_r0, pa, short, oc, lg, lset, lset2, wide, cond_true, cond_false, true_and, and_true, ↓reduceIte, Bool.false_eq_true, true_or, or_true, lf_X10_wordOf]
    exact key
  by_cases hlt : i < aN a
  · have et := hr.t (show i < 9 by omega)
    refine J.of tk_X10_wordOf 200 fun ρ hρ => ?_
    simp only [hρ, x_c, x_il, x_ll, x_al, x_is, x_as, x_ls, x_inc, x_ii, x_iq, x_i1, x_l2, x_lq, x_lh, x_i2l, x_l2i, x_lcmp, x_dup, x_dup2, x_pop, x_if, x_ifn, x_ic, x_icn, x_go, x_sw, swc, x_l01, x_mx, x_gI, x_gL, x_gR, x_pI, x_pZ, x_pL, x_pR, x_ia, x_za, x_aa, x_ias, x_zas, x_aas, x_fac, x_fa, x_slen, x_sa, x_ac, x_oi, x_new, x_na, x_cS, x_cV, x_cI, x_rI, x_rZ, x_rL, x_r0, pa, short, oc, lg, lset, lset2, wide, cond_true, cond_false, true_and, and_true, ↓reduceIte, Bool.false_eq_true, true_or, or_true, lf_X10_wordOf, h1, h2, h3, en, nI9, nI_add, ncl (show 9 + i < 2 ^ 31 by omega), et, nI_leI (show aN a < 2 ^ 31 by omega) (show i < 2 ^ 31 by omega)]
    refine ⟨fun h => absurd h (by omega), fun _ => ⟨vp_in_nI (by omega) (by omega), fun h => ?_, fun h => ?_⟩⟩
    · refine J.of tk_X10_wordOf 200 fun ρ hρ => ?_
      simp only [hρ, x_c, x_il, x_ll, x_al, x_is, x_as, x_ls, x_inc, x_ii, x_iq, x_i1, x_l2, x_lq, x_lh, x_i2l, x_l2i, x_lcmp, x_dup, x_dup2, x_pop, x_if, x_ifn, x_ic, x_icn, x_go, x_sw, swc, x_l01, x_mx, x_gI, x_gL, x_gR, x_pI, x_pZ, x_pL, x_pR, x_ia, x_za, x_aa, x_ias, x_zas, x_aas, x_fac, x_fa, x_slen, x_sa, x_ac, x_oi, x_new, x_na, x_cS, x_cV, x_cI, x_rI, x_rZ, x_rL, x_r0, pa, short, oc, lg, lset, lset2, wide, cond_true, cond_false, true_and, and_true, ↓reduceIte, Bool.false_eq_true, true_or, or_true, lf_X10_wordOf, Int32.or_zero, nI_1]
      have := ih hlt
      rwa [← bs_f (by simpa using Int32.not_lt.mpr h)] at this
    · refine J.of tk_X10_wordOf 200 fun ρ hρ => ?_
      simp only [hρ, x_c, x_il, x_ll, x_al, x_is, x_as, x_ls, x_inc, x_ii, x_iq, x_i1, x_l2, x_lq, x_lh, x_i2l, x_l2i, x_lcmp, x_dup, x_dup2, x_pop, x_if, x_ifn, x_ic, x_icn, x_go, x_sw, swc, x_l01, x_mx, x_gI, x_gL, x_gR, x_pI, x_pZ, x_pL, x_pR, x_ia, x_za, x_aa, x_ias, x_zas, x_aas, x_fac, x_fa, x_slen, x_sa, x_ac, x_oi, x_new, x_na, x_cS, x_cV, x_cI, x_rI, x_rZ, x_rL, x_r0, pa, short, oc, lg, lset, lset2, wide, cond_true, cond_false, true_and, and_true, ↓reduceIte, Bool.false_eq_true, true_or, or_true, lf_X10_wordOf, nI_1]
      have := ih hlt
      rwa [← bs_t (by omega) (by simpa using Int32.not_le.mp h)] at this
  · have : i = aN a := by omega
    subst this
    refine J.of tk_X10_wordOf 200 fun ρ hρ => ?_
    simp only [hρ, x_c, x_il, x_ll, x_al, x_is, x_as, x_ls, x_inc, x_ii, x_iq, x_i1, x_l2, x_lq, x_lh, x_i2l, x_l2i, x_lcmp, x_dup, x_dup2, x_pop, x_if, x_ifn, x_ic, x_icn, x_go, x_sw, swc, x_l01, x_mx, x_gI, x_gL, x_gR, x_pI, x_pZ, x_pL, x_pR, x_ia, x_za, x_aa, x_ias, x_zas, x_aas, x_fac, x_fa, x_slen, x_sa, x_ac, x_oi, x_new, x_na, x_cS, x_cV, x_cI, x_rI, x_rZ, x_rL, x_r0, pa, short, oc, lg, lset, lset2, wide, cond_true, cond_false, true_and, and_true, ↓reduceIte, Bool.false_eq_true, true_or, or_true, lf_X10_wordOf, h1, en, nI_leI (show aN a < 2 ^ 31 by omega) (show aN a < 2 ^ 31 by omega), Nat.le_refl, true_implies, not_true_eq_false, false_implies]
    exact hR
def il_X10_openBy : List (Nat × Instr × Nat) := [(0, .iconst 0, 1), (1, .istore_n 3, 1), (2, .iconst 0, 1), (3, .istore 4, 2), (5, .iload 4, 2), (7, .aload_n 0, 1), (8, .getfield 64, 3), (11, .if_icmp .ge 29, 3), (14, .iload_n 3, 1), (15, .aload_n 1, 1), (16, .bipush 18, 2), (18, .iload 4, 2), (20, .iadd, 1), (21, .iaload, 1), (22, .iload_n 2, 1), (23, .iand, 1), (24, .invokestatic 114, 3), (27, .iconst 2, 1), (28, .irem, 1), (29, .iload 4, 2), (31, .ishl, 1), (32, .ior, 1), (33, .istore_n 3, 1), (34, .iinc 4 1, 3), (37, .goto (-32), 3), (40, .iload_n 3, 1), (41, .ireturn, 1)]
def mt_X10_openBy : Mt := (cX10_openBy, RX10, 5, (some .int), ({ frames := 1, cells := 0, slots := 0, locals := 22 } : Room), false, none, none)
set_option maxRecDepth 100000 in
theorem dl_X10_openBy : ∀ q ∈ il_X10_openBy, decode (mt_X10_openBy).1 q.1 = .ok q.2 := by decide +kernel
def tb_X10_openBy : Tb := [(0, x_c 1 (.int 0), false),
  (1, x_is 2 3, false),
  (2, x_c 3 (.int 0), false),
  (3, x_is 5 4, false),
  (5, x_il 7 4, true),
  (7, x_al 8 0, false),
  (8, x_gI 10 3 11, false),
  (11, x_ic 40 14 (fun x y : Int32 => y ≤ x), false),
  (14, x_il 15 3, false),
  (15, x_al 16 1, false),
  (16, x_c 18 (.int 18), false),
  (18, x_il 20 4, false),
  (20, x_ii 21 (fun x y : Int32 => x + y), false),
  (21, x_ia 22, false),
  (22, x_il 23 2, false),
  (23, x_ii 24 (fun x y : Int32 => x &&& y), false),
  (24, x_cS 1 P_X10_ones 27, false),
  (27, x_c 28 (.int 2), false),
  (28, x_iq 29 (fun x y : Int32 => x - x / y * y), false),
  (29, x_il 31 4, false),
  (31, x_ii 32 (fun x y : Int32 => x <<< (y &&& 31)), false),
  (32, x_ii 33 (fun x y : Int32 => x ||| y), false),
  (33, x_is 34 3, false),
  (34, x_inc 37 4 1, false),
  (37, x_go 5, false),
  (40, x_il 41 3, false),
  (41, x_rI, false)]
set_option maxRecDepth 100000 in
theorem tk_X10_openBy : TbOk (mt_X10_openBy) (tb_X10_openBy) :=
  tkc (s_iconst (at_ dl_X10_openBy 0 (ins := .iconst 0) rfl) (by first | rfl | decide)) (
  tkc (s_istore_n (at_ dl_X10_openBy 1 (ins := .istore_n 3) rfl) (by decide)) (
  tkc (s_iconst (at_ dl_X10_openBy 2 (ins := .iconst 0) rfl) (by first | rfl | decide)) (
  tkc (s_istore (at_ dl_X10_openBy 3 (ins := .istore 4) rfl) (by decide)) (
  tkc (s_iload (at_ dl_X10_openBy 4 (ins := .iload 4) rfl)) (
  tkc (s_aload_n (at_ dl_X10_openBy 5 (ins := .aload_n 0) rfl)) (
  tkc (s_gI (at_ dl_X10_openBy 6 (ins := .getfield 64) rfl) (by decide) (by decide) (by decide) (tg 699 (by decide +kernel) (by decide +kernel))) (
  tkc (s_ic_ge (at_ dl_X10_openBy 7 (ins := .if_icmp .ge 29) rfl) (by decide)) (
  tkc (s_iload_n (at_ dl_X10_openBy 8 (ins := .iload_n 3) rfl)) (
  tkc (s_aload_n (at_ dl_X10_openBy 9 (ins := .aload_n 1) rfl)) (
  tkc (s_bipush (at_ dl_X10_openBy 10 (ins := .bipush 18) rfl) (by first | rfl | decide)) (
  tkc (s_iload (at_ dl_X10_openBy 11 (ins := .iload 4) rfl)) (
  tkc (s_iadd (at_ dl_X10_openBy 12 (ins := .iadd) rfl)) (
  tkc (s_ia (at_ dl_X10_openBy 13 (ins := .iaload) rfl)) (
  tkc (s_iload_n (at_ dl_X10_openBy 14 (ins := .iload_n 2) rfl)) (
  tkc (s_iand (at_ dl_X10_openBy 15 (ins := .iand) rfl)) (
  tkc (s_cS ok_X10_ones (at_ dl_X10_openBy 16 (ins := .invokestatic 114) rfl) (tg 821 (by decide +kernel) (by decide +kernel)) (tg 822 (by decide +kernel) (by decide +kernel)) (tg 51 (by decide +kernel) (by decide +kernel)) (tg 823 (by decide +kernel) (by decide +kernel)) (⟨by decide, by decide, by decide +kernel⟩) (⟨by decide, by decide⟩) rfl rfl) (
  tkc (s_iconst (at_ dl_X10_openBy 17 (ins := .iconst 2) rfl) (by first | rfl | decide)) (
  tkc (s_irem (at_ dl_X10_openBy 18 (ins := .irem) rfl)) (
  tkc (s_iload (at_ dl_X10_openBy 19 (ins := .iload 4) rfl)) (
  tkc (s_ishl (at_ dl_X10_openBy 20 (ins := .ishl) rfl)) (
  tkc (s_ior (at_ dl_X10_openBy 21 (ins := .ior) rfl)) (
  tkc (s_istore_n (at_ dl_X10_openBy 22 (ins := .istore_n 3) rfl) (by decide)) (
  tkc (s_iinc (at_ dl_X10_openBy 23 (ins := .iinc 4 1) rfl) (by decide) (by first | rfl | decide)) (
  tkc (s_goto (at_ dl_X10_openBy 24 (ins := .goto (-32)) rfl) (by decide)) (
  tkc (s_iload_n (at_ dl_X10_openBy 25 (ins := .iload_n 3) rfl)) (
  tkc (s_rI (at_ dl_X10_openBy 26 (ins := .ireturn) rfl) rfl) ( tk0)))))))))))))))))))))))))))
theorem lf_X10_openBy : lk (tb_X10_openBy) 0 = (x_c 1 (.int 0), false) ∧ lk (tb_X10_openBy) 1 = (x_is 2 3, false) ∧ lk (tb_X10_openBy) 2 = (x_c 3 (.int 0), false) ∧ lk (tb_X10_openBy) 3 = (x_is 5 4, false) ∧ lk (tb_X10_openBy) 5 = (x_il 7 4, true) ∧ lk (tb_X10_openBy) 7 = (x_al 8 0, false) ∧ lk (tb_X10_openBy) 8 = (x_gI 10 3 11, false) ∧ lk (tb_X10_openBy) 11 = (x_ic 40 14 (fun x y : Int32 => y ≤ x), false) ∧ lk (tb_X10_openBy) 14 = (x_il 15 3, false) ∧ lk (tb_X10_openBy) 15 = (x_al 16 1, false) ∧ lk (tb_X10_openBy) 16 = (x_c 18 (.int 18), false) ∧ lk (tb_X10_openBy) 18 = (x_il 20 4, false) ∧ lk (tb_X10_openBy) 20 = (x_ii 21 (fun x y : Int32 => x + y), false) ∧ lk (tb_X10_openBy) 21 = (x_ia 22, false) ∧ lk (tb_X10_openBy) 22 = (x_il 23 2, false) ∧ lk (tb_X10_openBy) 23 = (x_ii 24 (fun x y : Int32 => x &&& y), false) ∧ lk (tb_X10_openBy) 24 = (x_cS 1 P_X10_ones 27, false) ∧ lk (tb_X10_openBy) 27 = (x_c 28 (.int 2), false) ∧ lk (tb_X10_openBy) 28 = (x_iq 29 (fun x y : Int32 => x - x / y * y), false) ∧ lk (tb_X10_openBy) 29 = (x_il 31 4, false) ∧ lk (tb_X10_openBy) 31 = (x_ii 32 (fun x y : Int32 => x <<< (y &&& 31)), false) ∧ lk (tb_X10_openBy) 32 = (x_ii 33 (fun x y : Int32 => x ||| y), false) ∧ lk (tb_X10_openBy) 33 = (x_is 34 3, false) ∧ lk (tb_X10_openBy) 34 = (x_inc 37 4 1, false) ∧ lk (tb_X10_openBy) 37 = (x_go 5, false) ∧ lk (tb_X10_openBy) 40 = (x_il 41 3, false) ∧ lk (tb_X10_openBy) 41 = (x_rI, false) := ⟨rfl, rfl, rfl, rfl, rfl, rfl, rfl, rfl, rfl, rfl, rfl, rfl, rfl, rfl, rfl, rfl, rfl, rfl, rfl, rfl, rfl, rfl, rfl, rfl, rfl, rfl, rfl⟩
def P_X10_openBy : PTT := fun as M R => match as with
  | [.ref z, .ref k, .int w] => z = 108 ∧ tn w < 512 ∧ ∃ a, MS M.1 M.2.1 k a ∧ R (some (.int (nI (opB (aV a) (aM a) (tn w))))) M
  | _ => False
theorem rem2 {v : Nat} (h : v < 2 ^ 31) : nI v - nI v / nI 2 * nI 2 = nI (if v % 2 == 1 then 1 else 0) := by
  rw [pk_rem h (by omega) (by omega)]
  congr 1
  by_cases h : v % 2 = 1
  · simp [h]
  · simp [h]; omega
set_option maxRecDepth 20000 in
theorem ok_X10_openBy : Ok yX10_openBy mt_X10_openBy P_X10_openBy := by
  refine Ok.of (by decide) rfl rfl rfl rfl fun av ⟨S, I, L⟩ R hP => ?_
  unfold P_X10_openBy at hP
  split at hP
  case h_2 => exact hP.elim
  rename_i z k w
  obtain ⟨z, rfl⟩ : ∃ q : Nat, q = z := ⟨z, rfl⟩
  obtain ⟨k, rfl⟩ : ∃ q : Nat, q = k := ⟨k, rfl⟩
  refine ⟨by simp [ent, wide, mt_X10_openBy], ?_⟩
  show J mt_X10_openBy R 0 [some (.ref z), some (.ref k), some (.int w), none, none] [] (S, I, L)
  try dsimp only at hP
  obtain ⟨rfl, hw, a, ⟨⟨h1, h2, h3⟩, hr, ha, en, em⟩, hR⟩ := hP
  have h9 := ha.1
  obtain ⟨y, hy, rfl⟩ := tn_ex hw
  have hty : tn (nI y) = y := tn_nI (by omega)
  rw [hty] at hR
  have n2 : ¬ nI 2 = 0 := by decide
  have key := up (P := fun i => J mt_X10_openBy R 5 [some (.ref 108), some (.ref k), some (.int (nI y)), some (.int (nI (bs (fun c => ones9 (aV a c &&& y) % 2 == 1) i))), some (.int (nI i))] [] (S, I, L)) (n := aM a) (fun i hi ih => ?_) 0 (Nat.zero_le _)
  · refine J.of tk_X10_openBy 200 fun ρ hρ => ?_
    simp only [hρ, x_c, x_il, x_ll, x_al, x_is, x_as, x_ls, x_inc, x_ii, x_iq, x_i1, x_l2, x_lq, x_lh, x_i2l, x_l2i, x_lcmp, x_dup, x_dup2, x_pop, x_if, x_ifn, x_ic, x_icn, x_go, x_sw, swc, x_l01, x_mx, x_gI, x_gL, x_gR, x_pI, x_pZ, x_pL, x_pR, x_ia, x_za, x_aa, x_ias, x_zas, x_aas, x_fac, x_fa, x_slen, x_sa, x_ac, x_oi, x_new, x_na, x_cS, x_cV, x_cI, x_rI, x_rZ, x_rL, x_r0, pa, short, oc, lg, lset, lset2, wide, cond_true, cond_false, true_and, and_true, ↓reduceIte, Bool.false_eq_true, true_or, or_true, lf_X10_openBy]
    exact key
  by_cases hlt : i < aM a
  · have et := hr.v hlt
    have hv := ha.v hlt
    have hva : aV a i &&& y < 512 := and512 hv
    have ho := ones9_le (aV a i &&& y)
    have tv : tn (nI (aV a i &&& y)) = aV a i &&& y := tn_nI (by omega)
    refine J.of tk_X10_openBy 200 fun ρ hρ => ?_
    simp only [hρ, x_c, x_il, x_ll, x_al, x_is, x_as, x_ls, x_inc, x_ii, x_iq, x_i1, x_l2, x_lq, x_lh, x_i2l, x_l2i, x_lcmp, x_dup, x_dup2, x_pop, x_if, x_ifn, x_ic, x_icn, x_go, x_sw, swc, x_l01, x_mx, x_gI, x_gL, x_gR, x_pI, x_pZ, x_pL, x_pR, x_ia, x_za, x_aa, x_ias, x_zas, x_aas, x_fac, x_fa, x_slen, x_sa, x_ac, x_oi, x_new, x_na, x_cS, x_cV, x_cI, x_rI, x_rZ, x_rL, x_r0, pa, short, oc, lg, lset, lset2, wide, cond_true, cond_false, true_and, and_true, ↓reduceIte, Bool.false_eq_true, true_or, or_true, lf_X10_openBy, h1, h2, h3, em, show (18 : Int32) = nI 18 by decide, show (2 : Int32) = nI 2 by decide, n2, nI_add, ncl (show 18 + i < 2 ^ 31 by omega), et, nI_leI (show aM a < 2 ^ 31 by omega) (show i < 2 ^ 31 by omega), nI_and, P_X10_ones, tv, hva, rem2 (show ones9 (aV a i &&& y) < 2 ^ 31 by omega), bs_b (f := fun c => ones9 (aV a c &&& y) % 2 == 1) (i := i) (show i < 31 by omega) rfl, nI_1, not_false_eq_true]
    exact ⟨fun h => absurd h (by omega), fun _ => ⟨vp_in_nI (by omega) (by omega), ih hlt⟩⟩
  · have : i = aM a := by omega
    subst this
    refine J.of tk_X10_openBy 200 fun ρ hρ => ?_
    simp only [hρ, x_c, x_il, x_ll, x_al, x_is, x_as, x_ls, x_inc, x_ii, x_iq, x_i1, x_l2, x_lq, x_lh, x_i2l, x_l2i, x_lcmp, x_dup, x_dup2, x_pop, x_if, x_ifn, x_ic, x_icn, x_go, x_sw, swc, x_l01, x_mx, x_gI, x_gL, x_gR, x_pI, x_pZ, x_pL, x_pR, x_ia, x_za, x_aa, x_ias, x_zas, x_aas, x_fac, x_fa, x_slen, x_sa, x_ac, x_oi, x_new, x_na, x_cS, x_cV, x_cI, x_rI, x_rZ, x_rL, x_r0, pa, short, oc, lg, lset, lset2, wide, cond_true, cond_false, true_and, and_true, ↓reduceIte, Bool.false_eq_true, true_or, or_true, lf_X10_openBy, h1, em, nI_leI (show aM a < 2 ^ 31 by omega) (show aM a < 2 ^ 31 by omega), Nat.le_refl, true_implies, not_true_eq_false, false_implies]
    exact hR
def il_X10_openOf : List (Nat × Instr × Nat) := [(0, .aload_n 0, 1), (1, .aload_n 1, 1), (2, .aload_n 0, 1), (3, .aload_n 1, 1), (4, .invokevirtual 118, 3), (7, .invokevirtual 122, 3), (10, .ireturn, 1)]
def mt_X10_openOf : Mt := (cX10_openOf, RX10, 2, (some .int), ({ frames := 2, cells := 0, slots := 0, locals := 46 } : Room), false, none, none)
set_option maxRecDepth 100000 in
theorem dl_X10_openOf : ∀ q ∈ il_X10_openOf, decode (mt_X10_openOf).1 q.1 = .ok q.2 := by decide +kernel
def tb_X10_openOf : Tb := [(0, x_al 1 0, false),
  (1, x_al 2 1, false),
  (2, x_al 3 0, false),
  (3, x_al 4 1, false),
  (4, x_cV 10 1 P_X10_wordOf 7, false),
  (7, x_cV 10 2 P_X10_openBy 10, false),
  (10, x_rI, false)]
set_option maxRecDepth 100000 in
theorem tk_X10_openOf : TbOk (mt_X10_openOf) (tb_X10_openOf) :=
  tkc (s_aload_n (at_ dl_X10_openOf 0 (ins := .aload_n 0) rfl)) (
  tkc (s_aload_n (at_ dl_X10_openOf 1 (ins := .aload_n 1) rfl)) (
  tkc (s_aload_n (at_ dl_X10_openOf 2 (ins := .aload_n 0) rfl)) (
  tkc (s_aload_n (at_ dl_X10_openOf 3 (ins := .aload_n 1) rfl)) (
  tkc (s_cV ok_X10_wordOf (at_ dl_X10_openOf 4 (ins := .invokevirtual 118) rfl) (by decide) rfl (tg 809 (by decide +kernel) (by decide +kernel)) (tg 811 (by decide +kernel) (by decide +kernel)) (tg 21 (by decide +kernel) (by decide +kernel)) (tg 51 (by decide +kernel) (by decide +kernel)) (tg 812 (by decide +kernel) (by decide +kernel)) (⟨by decide, by decide, by decide +kernel⟩) (⟨by decide, by decide⟩) rfl rfl) (
  tkc (s_cV ok_X10_openBy (at_ dl_X10_openOf 5 (ins := .invokevirtual 122) rfl) (by decide) rfl (tg 817 (by decide +kernel) (by decide +kernel)) (tg 819 (by decide +kernel) (by decide +kernel)) (tg 23 (by decide +kernel) (by decide +kernel)) (tg 51 (by decide +kernel) (by decide +kernel)) (tg 820 (by decide +kernel) (by decide +kernel)) (⟨by decide, by decide, by decide +kernel⟩) (⟨by decide, by decide⟩) rfl rfl) (
  tkc (s_rI (at_ dl_X10_openOf 6 (ins := .ireturn) rfl) rfl) ( tk0)))))))
theorem lf_X10_openOf : lk (tb_X10_openOf) 0 = (x_al 1 0, false) ∧ lk (tb_X10_openOf) 1 = (x_al 2 1, false) ∧ lk (tb_X10_openOf) 2 = (x_al 3 0, false) ∧ lk (tb_X10_openOf) 3 = (x_al 4 1, false) ∧ lk (tb_X10_openOf) 4 = (x_cV 10 1 P_X10_wordOf 7, false) ∧ lk (tb_X10_openOf) 7 = (x_cV 10 2 P_X10_openBy 10, false) ∧ lk (tb_X10_openOf) 10 = (x_rI, false) := ⟨rfl, rfl, rfl, rfl, rfl, rfl, rfl⟩
def P_X10_openOf : PTT := fun as M R => match as with
  | [.ref z, .ref k] => z = 108 ∧ ∃ a, MS M.1 M.2.1 k a ∧ R (some (.int (nI (opA a)))) M
  | _ => False
set_option maxRecDepth 20000 in
theorem ok_X10_openOf : Ok yX10_openOf mt_X10_openOf P_X10_openOf := by
  refine Ok.of (by decide) rfl rfl rfl rfl fun av ⟨S, I, L⟩ R hP => ?_
  unfold P_X10_openOf at hP
  split at hP
  case h_2 => exact hP.elim
  rename_i z k
  obtain ⟨z, rfl⟩ : ∃ q : Nat, q = z := ⟨z, rfl⟩
  obtain ⟨k, rfl⟩ : ∃ q : Nat, q = k := ⟨k, rfl⟩
  refine ⟨by simp [ent, wide, mt_X10_openOf], ?_⟩
  show J mt_X10_openOf R 0 [some (.ref z), some (.ref k)] [] (S, I, L)
  try dsimp only at hP
  obtain ⟨rfl, a, hm, hR⟩ := hP
  have hwl : wdA a < 512 := wdF_lt _ hm.2.2.1.1.2.1
  refine J.of tk_X10_openOf 200 fun ρ hρ => ?_
  simp only [hρ, x_c, x_il, x_ll, x_al, x_is, x_as, x_ls, x_inc, x_ii, x_iq, x_i1, x_l2, x_lq, x_lh, x_i2l, x_l2i, x_lcmp, x_dup, x_dup2, x_pop, x_if, x_ifn, x_ic, x_icn, x_go, x_sw, swc, x_l01, x_mx, x_gI, x_gL, x_gR, x_pI, x_pZ, x_pL, x_pR, x_ia, x_za, x_aa, x_ias, x_zas, x_aas, x_fac, x_fa, x_slen, x_sa, x_ac, x_oi, x_new, x_na, x_cS, x_cV, x_cI, x_rI, x_rZ, x_rL, x_r0, pa, short, oc, lg, lset, lset2, wide, cond_true, cond_false, true_and, and_true, ↓reduceIte, Bool.false_eq_true, true_or, or_true, lf_X10_openOf, hm.1.1, P_X10_wordOf, P_X10_openBy]
  refine ⟨a, hm, by rw [tn_nI (by omega)]; exact hwl, a, hm, ?_⟩
  rw [tn_nI (by omega)]
  exact hR
def il_X10_checksOver : List (Nat × Instr × Nat) := [(0, .iconst 0, 1), (1, .istore_n 3, 1), (2, .iconst 0, 1), (3, .istore 4, 2), (5, .iload 4, 2), (7, .aload_n 0, 1), (8, .getfield 64, 3), (11, .if_icmp .ge 34, 3), (14, .iload_n 3, 1), (15, .aload_n 1, 1), (16, .bipush 18, 2), (18, .iload 4, 2), (20, .iadd, 1), (21, .iaload, 1), (22, .iload_n 2, 1), (23, .invokestatic 102, 3), (26, .ifCond .eq 10, 3), (29, .iconst 1, 1), (30, .iload 4, 2), (32, .ishl, 1), (33, .goto 4, 3), (36, .iconst 0, 1), (37, .ior, 1), (38, .istore_n 3, 1), (39, .iinc 4 1, 3), (42, .goto (-37), 3), (45, .iload_n 3, 1), (46, .ireturn, 1)]
def mt_X10_checksOver : Mt := (cX10_checksOver, RX10, 5, (some .int), ({ frames := 1, cells := 0, slots := 0, locals := 21 } : Room), false, none, none)
set_option maxRecDepth 100000 in
theorem dl_X10_checksOver : ∀ q ∈ il_X10_checksOver, decode (mt_X10_checksOver).1 q.1 = .ok q.2 := by decide +kernel
def tb_X10_checksOver : Tb := [(0, x_c 1 (.int 0), false),
  (1, x_is 2 3, false),
  (2, x_c 3 (.int 0), false),
  (3, x_is 5 4, false),
  (5, x_il 7 4, true),
  (7, x_al 8 0, false),
  (8, x_gI 10 3 11, false),
  (11, x_ic 45 14 (fun x y : Int32 => y ≤ x), false),
  (14, x_il 15 3, false),
  (15, x_al 16 1, false),
  (16, x_c 18 (.int 18), false),
  (18, x_il 20 4, false),
  (20, x_ii 21 (fun x y : Int32 => x + y), false),
  (21, x_ia 22, false),
  (22, x_il 23 2, false),
  (23, x_cS 2 P_X10_has 26, false),
  (26, x_if 36 29 (fun x : Int32 => x = 0), false),
  (29, x_c 30 (.int 1), false),
  (30, x_il 32 4, false),
  (32, x_ii 33 (fun x y : Int32 => x <<< (y &&& 31)), false),
  (33, x_go 37, false),
  (36, x_c 37 (.int 0), false),
  (37, x_ii 38 (fun x y : Int32 => x ||| y), true),
  (38, x_is 39 3, false),
  (39, x_inc 42 4 1, false),
  (42, x_go 5, false),
  (45, x_il 46 3, false),
  (46, x_rI, false)]
set_option maxRecDepth 100000 in
theorem tk_X10_checksOver : TbOk (mt_X10_checksOver) (tb_X10_checksOver) :=
  tkc (s_iconst (at_ dl_X10_checksOver 0 (ins := .iconst 0) rfl) (by first | rfl | decide)) (
  tkc (s_istore_n (at_ dl_X10_checksOver 1 (ins := .istore_n 3) rfl) (by decide)) (
  tkc (s_iconst (at_ dl_X10_checksOver 2 (ins := .iconst 0) rfl) (by first | rfl | decide)) (
  tkc (s_istore (at_ dl_X10_checksOver 3 (ins := .istore 4) rfl) (by decide)) (
  tkc (s_iload (at_ dl_X10_checksOver 4 (ins := .iload 4) rfl)) (
  tkc (s_aload_n (at_ dl_X10_checksOver 5 (ins := .aload_n 0) rfl)) (
  tkc (s_gI (at_ dl_X10_checksOver 6 (ins := .getfield 64) rfl) (by decide) (by decide) (by decide) (tg 699 (by decide +kernel) (by decide +kernel))) (
  tkc (s_ic_ge (at_ dl_X10_checksOver 7 (ins := .if_icmp .ge 34) rfl) (by decide)) (
  tkc (s_iload_n (at_ dl_X10_checksOver 8 (ins := .iload_n 3) rfl)) (
  tkc (s_aload_n (at_ dl_X10_checksOver 9 (ins := .aload_n 1) rfl)) (
  tkc (s_bipush (at_ dl_X10_checksOver 10 (ins := .bipush 18) rfl) (by first | rfl | decide)) (
  tkc (s_iload (at_ dl_X10_checksOver 11 (ins := .iload 4) rfl)) (
  tkc (s_iadd (at_ dl_X10_checksOver 12 (ins := .iadd) rfl)) (
  tkc (s_ia (at_ dl_X10_checksOver 13 (ins := .iaload) rfl)) (
  tkc (s_iload_n (at_ dl_X10_checksOver 14 (ins := .iload_n 2) rfl)) (
  tkc (s_cS ok_X10_has (at_ dl_X10_checksOver 15 (ins := .invokestatic 102) rfl) (tg 828 (by decide +kernel) (by decide +kernel)) (tg 829 (by decide +kernel) (by decide +kernel)) (tg 51 (by decide +kernel) (by decide +kernel)) (tg 830 (by decide +kernel) (by decide +kernel)) (⟨by decide, by decide, by decide +kernel⟩) (⟨by decide, by decide⟩) rfl rfl) (
  tkc (s_if_eq (at_ dl_X10_checksOver 16 (ins := .ifCond .eq 10) rfl) (by decide)) (
  tkc (s_iconst (at_ dl_X10_checksOver 17 (ins := .iconst 1) rfl) (by first | rfl | decide)) (
  tkc (s_iload (at_ dl_X10_checksOver 18 (ins := .iload 4) rfl)) (
  tkc (s_ishl (at_ dl_X10_checksOver 19 (ins := .ishl) rfl)) (
  tkc (s_goto (at_ dl_X10_checksOver 20 (ins := .goto 4) rfl) (by decide)) (
  tkc (s_iconst (at_ dl_X10_checksOver 21 (ins := .iconst 0) rfl) (by first | rfl | decide)) (
  tkc (s_ior (at_ dl_X10_checksOver 22 (ins := .ior) rfl)) (
  tkc (s_istore_n (at_ dl_X10_checksOver 23 (ins := .istore_n 3) rfl) (by decide)) (
  tkc (s_iinc (at_ dl_X10_checksOver 24 (ins := .iinc 4 1) rfl) (by decide) (by first | rfl | decide)) (
  tkc (s_goto (at_ dl_X10_checksOver 25 (ins := .goto (-37)) rfl) (by decide)) (
  tkc (s_iload_n (at_ dl_X10_checksOver 26 (ins := .iload_n 3) rfl)) (
  tkc (s_rI (at_ dl_X10_checksOver 27 (ins := .ireturn) rfl) rfl) ( tk0))))))))))))))))))))))))))))
theorem lf_X10_checksOver : lk (tb_X10_checksOver) 0 = (x_c 1 (.int 0), false) ∧ lk (tb_X10_checksOver) 1 = (x_is 2 3, false) ∧ lk (tb_X10_checksOver) 2 = (x_c 3 (.int 0), false) ∧ lk (tb_X10_checksOver) 3 = (x_is 5 4, false) ∧ lk (tb_X10_checksOver) 5 = (x_il 7 4, true) ∧ lk (tb_X10_checksOver) 7 = (x_al 8 0, false) ∧ lk (tb_X10_checksOver) 8 = (x_gI 10 3 11, false) ∧ lk (tb_X10_checksOver) 11 = (x_ic 45 14 (fun x y : Int32 => y ≤ x), false) ∧ lk (tb_X10_checksOver) 14 = (x_il 15 3, false) ∧ lk (tb_X10_checksOver) 15 = (x_al 16 1, false) ∧ lk (tb_X10_checksOver) 16 = (x_c 18 (.int 18), false) ∧ lk (tb_X10_checksOver) 18 = (x_il 20 4, false) ∧ lk (tb_X10_checksOver) 20 = (x_ii 21 (fun x y : Int32 => x + y), false) ∧ lk (tb_X10_checksOver) 21 = (x_ia 22, false) ∧ lk (tb_X10_checksOver) 22 = (x_il 23 2, false) ∧ lk (tb_X10_checksOver) 23 = (x_cS 2 P_X10_has 26, false) ∧ lk (tb_X10_checksOver) 26 = (x_if 36 29 (fun x : Int32 => x = 0), false) ∧ lk (tb_X10_checksOver) 29 = (x_c 30 (.int 1), false) ∧ lk (tb_X10_checksOver) 30 = (x_il 32 4, false) ∧ lk (tb_X10_checksOver) 32 = (x_ii 33 (fun x y : Int32 => x <<< (y &&& 31)), false) ∧ lk (tb_X10_checksOver) 33 = (x_go 37, false) ∧ lk (tb_X10_checksOver) 36 = (x_c 37 (.int 0), false) ∧ lk (tb_X10_checksOver) 37 = (x_ii 38 (fun x y : Int32 => x ||| y), true) ∧ lk (tb_X10_checksOver) 38 = (x_is 39 3, false) ∧ lk (tb_X10_checksOver) 39 = (x_inc 42 4 1, false) ∧ lk (tb_X10_checksOver) 42 = (x_go 5, false) ∧ lk (tb_X10_checksOver) 45 = (x_il 46 3, false) ∧ lk (tb_X10_checksOver) 46 = (x_rI, false) := ⟨rfl, rfl, rfl, rfl, rfl, rfl, rfl, rfl, rfl, rfl, rfl, rfl, rfl, rfl, rfl, rfl, rfl, rfl, rfl, rfl, rfl, rfl, rfl, rfl, rfl, rfl, rfl, rfl⟩
def P_X10_checksOver : PTT := fun as M R => match as with
  | [.ref z, .ref k, .int b] => z = 108 ∧ ∃ a j, MS M.1 M.2.1 k a ∧ j < 31 ∧ b = nI j ∧ R (some (.int (nI (coF (aV a) (aM a) j)))) M
  | _ => False
set_option maxRecDepth 20000 in
theorem ok_X10_checksOver : Ok yX10_checksOver mt_X10_checksOver P_X10_checksOver := by
  refine Ok.of (by decide) rfl rfl rfl rfl fun av ⟨S, I, L⟩ R hP => ?_
  unfold P_X10_checksOver at hP
  split at hP
  case h_2 => exact hP.elim
  rename_i z k b
  obtain ⟨z, rfl⟩ : ∃ q : Nat, q = z := ⟨z, rfl⟩
  obtain ⟨k, rfl⟩ : ∃ q : Nat, q = k := ⟨k, rfl⟩
  refine ⟨by simp [ent, wide, mt_X10_checksOver], ?_⟩
  show J mt_X10_checksOver R 0 [some (.ref z), some (.ref k), some (.int b), none, none] [] (S, I, L)
  try dsimp only at hP
  obtain ⟨rfl, a, j, ⟨⟨h1, h2, h3⟩, hr, ha, en, em⟩, hj, rfl, hR⟩ := hP
  have h9 := ha.1
  have key := up (P := fun i => J mt_X10_checksOver R 5 [some (.ref 108), some (.ref k), some (.int (nI j)), some (.int (nI (bs (fun c => (aV a c).testBit j) i))), some (.int (nI i))] [] (S, I, L)) (n := aM a) (fun i hi ih => ?_) 0 (Nat.zero_le _)
  · refine J.of tk_X10_checksOver 200 fun ρ hρ => ?_
    simp only [hρ, x_c, x_il, x_ll, x_al, x_is, x_as, x_ls, x_inc, x_ii, x_iq, x_i1, x_l2, x_lq, x_lh, x_i2l, x_l2i, x_lcmp, x_dup, x_dup2, x_pop, x_if, x_ifn, x_ic, x_icn, x_go, x_sw, swc, x_l01, x_mx, x_gI, x_gL, x_gR, x_pI, x_pZ, x_pL, x_pR, x_ia, x_za, x_aa, x_ias, x_zas, x_aas, x_fac, x_fa, x_slen, x_sa, x_ac, x_oi, x_new, x_na, x_cS, x_cV, x_cI, x_rI, x_rZ, x_rL, x_r0, pa, short, oc, lg, lset, lset2, wide, cond_true, cond_false, true_and, and_true, ↓reduceIte, Bool.false_eq_true, true_or, or_true, lf_X10_checksOver]
    exact key
  by_cases hlt : i < aM a
  · have et := hr.v hlt
    have hv := ha.v hlt
    refine J.of tk_X10_checksOver 200 fun ρ hρ => ?_
    simp only [hρ, x_c, x_il, x_ll, x_al, x_is, x_as, x_ls, x_inc, x_ii, x_iq, x_i1, x_l2, x_lq, x_lh, x_i2l, x_l2i, x_lcmp, x_dup, x_dup2, x_pop, x_if, x_ifn, x_ic, x_icn, x_go, x_sw, swc, x_l01, x_mx, x_gI, x_gL, x_gR, x_pI, x_pZ, x_pL, x_pR, x_ia, x_za, x_aa, x_ias, x_zas, x_aas, x_fac, x_fa, x_slen, x_sa, x_ac, x_oi, x_new, x_na, x_cS, x_cV, x_cI, x_rI, x_rZ, x_rL, x_r0, pa, short, oc, lg, lset, lset2, wide, cond_true, cond_false, true_and, and_true, ↓reduceIte, Bool.false_eq_true, true_or, or_true, lf_X10_checksOver, h1, h2, h3, em, show (18 : Int32) = nI 18 by decide, nI_add, ncl (show 18 + i < 2 ^ 31 by omega), et, nI_leI (show aM a < 2 ^ 31 by omega) (show i < 2 ^ 31 by omega), P_X10_has, bB_0]
    refine ⟨fun h => absurd h (by omega), fun _ => ⟨vp_in_nI (by omega) (by omega), _, _, rfl, by omega, rfl, hj, ?_⟩⟩
    refine ⟨fun h => ?_, fun h => ?_⟩
    · refine J.of tk_X10_checksOver 200 fun ρ hρ => ?_
      simp only [hρ, x_c, x_il, x_ll, x_al, x_is, x_as, x_ls, x_inc, x_ii, x_iq, x_i1, x_l2, x_lq, x_lh, x_i2l, x_l2i, x_lcmp, x_dup, x_dup2, x_pop, x_if, x_ifn, x_ic, x_icn, x_go, x_sw, swc, x_l01, x_mx, x_gI, x_gL, x_gR, x_pI, x_pZ, x_pL, x_pR, x_ia, x_za, x_aa, x_ias, x_zas, x_aas, x_fac, x_fa, x_slen, x_sa, x_ac, x_oi, x_new, x_na, x_cS, x_cV, x_cI, x_rI, x_rZ, x_rL, x_r0, pa, short, oc, lg, lset, lset2, wide, cond_true, cond_false, true_and, and_true, ↓reduceIte, Bool.false_eq_true, true_or, or_true, lf_X10_checksOver, Int32.or_zero, nI_1]
      have := ih hlt
      rwa [← bs_f (by simpa using h)] at this
    · refine J.of tk_X10_checksOver 200 fun ρ hρ => ?_
      simp only [hρ, x_c, x_il, x_ll, x_al, x_is, x_as, x_ls, x_inc, x_ii, x_iq, x_i1, x_l2, x_lq, x_lh, x_i2l, x_l2i, x_lcmp, x_dup, x_dup2, x_pop, x_if, x_ifn, x_ic, x_icn, x_go, x_sw, swc, x_l01, x_mx, x_gI, x_gL, x_gR, x_pI, x_pZ, x_pL, x_pR, x_ia, x_za, x_aa, x_ias, x_zas, x_aas, x_fac, x_fa, x_slen, x_sa, x_ac, x_oi, x_new, x_na, x_cS, x_cV, x_cI, x_rI, x_rZ, x_rL, x_r0, pa, short, oc, lg, lset, lset2, wide, cond_true, cond_false, true_and, and_true, ↓reduceIte, Bool.false_eq_true, true_or, or_true, lf_X10_checksOver, nI_1]
      have := ih hlt
      rw [Classical.not_not] at h
      rwa [← bs_t (f := fun c => (aV a c).testBit j) (by omega) h] at this
  · have : i = aM a := by omega
    subst this
    refine J.of tk_X10_checksOver 200 fun ρ hρ => ?_
    simp only [hρ, x_c, x_il, x_ll, x_al, x_is, x_as, x_ls, x_inc, x_ii, x_iq, x_i1, x_l2, x_lq, x_lh, x_i2l, x_l2i, x_lcmp, x_dup, x_dup2, x_pop, x_if, x_ifn, x_ic, x_icn, x_go, x_sw, swc, x_l01, x_mx, x_gI, x_gL, x_gR, x_pI, x_pZ, x_pL, x_pR, x_ia, x_za, x_aa, x_ias, x_zas, x_aas, x_fac, x_fa, x_slen, x_sa, x_ac, x_oi, x_new, x_na, x_cS, x_cV, x_cI, x_rI, x_rZ, x_rL, x_r0, pa, short, oc, lg, lset, lset2, wide, cond_true, cond_false, true_and, and_true, ↓reduceIte, Bool.false_eq_true, true_or, or_true, lf_X10_checksOver, h1, em, nI_leI (show aM a < 2 ^ 31 by omega) (show aM a < 2 ^ 31 by omega), Nat.le_refl, true_implies, not_true_eq_false, false_implies]
    exact hR
/-- begun: the totals, the messages, the rounds -/
def bg1 (f : Nat → Int32) (i : Nat) : Nat → Int32 := fun j => if 9 ≤ j ∧ j < 9 + i then f (j - 9) else f j
def bg2 (f : Nat → Int32) (i : Nat) : Nat → Int32 := fun j => if 24 ≤ j ∧ j < 24 + i then 0 else f j
theorem bg1_0 (f : Nat → Int32) : bg1 f 0 = f := by funext j; rw [bg1, if_neg (by omega)]
theorem bg2_0 (f : Nat → Int32) : bg2 f 0 = f := by funext j; rw [bg2, if_neg (by omega)]
theorem bg1_s (f : Nat → Int32) (i : Nat) (hi : i < 9) : upd (bg1 f i) (9 + i) (bg1 f i i) = bg1 f (i + 1) := by
  funext j
  rw [upd_app]
  simp only [bg1]
  by_cases h : j = 9 + i
  · subst h
    rw [if_pos rfl, if_neg (by omega), if_pos (by omega), show 9 + i - 9 = i by omega]
  · rw [if_neg h]
    by_cases h2 : 9 ≤ j ∧ j < 9 + i
    · rw [if_pos h2, if_pos (by omega)]
    · rw [if_neg h2, if_neg (by omega)]
theorem bg2_s (f : Nat → Int32) (i : Nat) : upd (bg2 f i) (24 + i) 0 = bg2 f (i + 1) := by
  funext j
  rw [upd_app]
  simp only [bg2]
  by_cases h : j = 24 + i
  · subst h
    rw [if_pos rfl, if_pos (by omega)]
  · rw [if_neg h]
    by_cases h2 : 24 ≤ j ∧ j < 24 + i
    · rw [if_pos h2, if_pos (by omega)]
    · rw [if_neg h2, if_neg (by omega)]
def bgF (f : Nat → Int32) : Nat → Int32 := upd (bg2 (bg1 f 9) 54) 79 0
theorem RW.bg {f : Nat → Int32} {a : AS} (h : RW f 0 a) (hm : aM a ≤ 6) : RW (bgF f) 0 (begA a) := by
  have e : ∀ j, bgF f j = if j = 79 then 0 else if 24 ≤ j ∧ j < 78 then 0 else if 9 ≤ j ∧ j < 18 then f (j - 9) else f j := fun j => by simp only [bgF, upd_app, bg2, bg1]
  refine ⟨fun b hb => ?_, fun b hb => ?_, fun c hc => ?_, fun j hj => ?_, ?_, ?_⟩
  · rw [e, if_neg (by omega), if_neg (by omega), if_neg (by omega)]; exact h.1 b hb
  · rw [e, if_neg (by omega), if_neg (by omega), if_pos (by omega), show 0 + 9 + b - 9 = b by omega]; exact h.l hb
  · have : c < aM a := hc
    rw [e, if_neg (by omega), if_neg (by omega), if_neg (by omega)]; exact h.2.2.1 c hc
  · rw [e, if_neg (by omega), if_pos (by omega)]; rfl
  · rw [e, if_neg (by omega), if_neg (by omega), if_neg (by omega)]; exact h.2.2.2.2.1
  · rw [e, if_pos (by omega)]; rfl
def il_X10_beginOn : List (Nat × Instr × Nat) := [(0, .iconst 0, 1), (1, .istore_n 1, 1), (2, .iload_n 1, 1), (3, .bipush 9, 2), (5, .if_icmp .ge 20, 3), (8, .aload_n 0, 1), (9, .bipush 9, 2), (11, .iload_n 1, 1), (12, .iadd, 1), (13, .aload_n 0, 1), (14, .iconst 0, 1), (15, .iload_n 1, 1), (16, .iadd, 1), (17, .iaload, 1), (18, .iastore, 1), (19, .iinc 1 1, 3), (22, .goto (-20), 3), (25, .iconst 0, 1), (26, .istore_n 1, 1), (27, .iload_n 1, 1), (28, .bipush 54, 2), (30, .if_icmp .ge 16, 3), (33, .aload_n 0, 1), (34, .bipush 24, 2), (36, .iload_n 1, 1), (37, .iadd, 1), (38, .iconst 0, 1), (39, .iastore, 1), (40, .iinc 1 1, 3), (43, .goto (-16), 3), (46, .aload_n 0, 1), (47, .bipush 79, 2), (49, .iconst 0, 1), (50, .iastore, 1), (51, .return_, 1)]
def mt_X10_beginOn : Mt := (cX10_beginOn, RX10, 2, none, ({ frames := 0, cells := 0, slots := 0, locals := 0 } : Room), false, none, none)
set_option maxRecDepth 100000 in
theorem dl_X10_beginOn : ∀ q ∈ il_X10_beginOn, decode (mt_X10_beginOn).1 q.1 = .ok q.2 := by decide +kernel
def tb_X10_beginOn : Tb := [(0, x_c 1 (.int 0), false),
  (1, x_is 2 1, false),
  (2, x_il 3 1, true),
  (3, x_c 5 (.int 9), false),
  (5, x_ic 25 8 (fun x y : Int32 => y ≤ x), false),
  (8, x_al 9 0, false),
  (9, x_c 11 (.int 9), false),
  (11, x_il 12 1, false),
  (12, x_ii 13 (fun x y : Int32 => x + y), false),
  (13, x_al 14 0, false),
  (14, x_c 15 (.int 0), false),
  (15, x_il 16 1, false),
  (16, x_ii 17 (fun x y : Int32 => x + y), false),
  (17, x_ia 18, false),
  (18, x_ias 19, false),
  (19, x_inc 22 1 1, false),
  (22, x_go 2, false),
  (25, x_c 26 (.int 0), false),
  (26, x_is 27 1, false),
  (27, x_il 28 1, true),
  (28, x_c 30 (.int 54), false),
  (30, x_ic 46 33 (fun x y : Int32 => y ≤ x), false),
  (33, x_al 34 0, false),
  (34, x_c 36 (.int 24), false),
  (36, x_il 37 1, false),
  (37, x_ii 38 (fun x y : Int32 => x + y), false),
  (38, x_c 39 (.int 0), false),
  (39, x_ias 40, false),
  (40, x_inc 43 1 1, false),
  (43, x_go 27, false),
  (46, x_al 47 0, false),
  (47, x_c 49 (.int 79), false),
  (49, x_c 50 (.int 0), false),
  (50, x_ias 51, false),
  (51, x_r0, false)]
set_option maxRecDepth 100000 in
theorem tk_X10_beginOn : TbOk (mt_X10_beginOn) (tb_X10_beginOn) :=
  tkc (s_iconst (at_ dl_X10_beginOn 0 (ins := .iconst 0) rfl) (by first | rfl | decide)) (
  tkc (s_istore_n (at_ dl_X10_beginOn 1 (ins := .istore_n 1) rfl) (by decide)) (
  tkc (s_iload_n (at_ dl_X10_beginOn 2 (ins := .iload_n 1) rfl)) (
  tkc (s_bipush (at_ dl_X10_beginOn 3 (ins := .bipush 9) rfl) (by first | rfl | decide)) (
  tkc (s_ic_ge (at_ dl_X10_beginOn 4 (ins := .if_icmp .ge 20) rfl) (by decide)) (
  tkc (s_aload_n (at_ dl_X10_beginOn 5 (ins := .aload_n 0) rfl)) (
  tkc (s_bipush (at_ dl_X10_beginOn 6 (ins := .bipush 9) rfl) (by first | rfl | decide)) (
  tkc (s_iload_n (at_ dl_X10_beginOn 7 (ins := .iload_n 1) rfl)) (
  tkc (s_iadd (at_ dl_X10_beginOn 8 (ins := .iadd) rfl)) (
  tkc (s_aload_n (at_ dl_X10_beginOn 9 (ins := .aload_n 0) rfl)) (
  tkc (s_iconst (at_ dl_X10_beginOn 10 (ins := .iconst 0) rfl) (by first | rfl | decide)) (
  tkc (s_iload_n (at_ dl_X10_beginOn 11 (ins := .iload_n 1) rfl)) (
  tkc (s_iadd (at_ dl_X10_beginOn 12 (ins := .iadd) rfl)) (
  tkc (s_ia (at_ dl_X10_beginOn 13 (ins := .iaload) rfl)) (
  tkc (s_ias (at_ dl_X10_beginOn 14 (ins := .iastore) rfl)) (
  tkc (s_iinc (at_ dl_X10_beginOn 15 (ins := .iinc 1 1) rfl) (by decide) (by first | rfl | decide)) (
  tkc (s_goto (at_ dl_X10_beginOn 16 (ins := .goto (-20)) rfl) (by decide)) (
  tkc (s_iconst (at_ dl_X10_beginOn 17 (ins := .iconst 0) rfl) (by first | rfl | decide)) (
  tkc (s_istore_n (at_ dl_X10_beginOn 18 (ins := .istore_n 1) rfl) (by decide)) (
  tkc (s_iload_n (at_ dl_X10_beginOn 19 (ins := .iload_n 1) rfl)) (
  tkc (s_bipush (at_ dl_X10_beginOn 20 (ins := .bipush 54) rfl) (by first | rfl | decide)) (
  tkc (s_ic_ge (at_ dl_X10_beginOn 21 (ins := .if_icmp .ge 16) rfl) (by decide)) (
  tkc (s_aload_n (at_ dl_X10_beginOn 22 (ins := .aload_n 0) rfl)) (
  tkc (s_bipush (at_ dl_X10_beginOn 23 (ins := .bipush 24) rfl) (by first | rfl | decide)) (
  tkc (s_iload_n (at_ dl_X10_beginOn 24 (ins := .iload_n 1) rfl)) (
  tkc (s_iadd (at_ dl_X10_beginOn 25 (ins := .iadd) rfl)) (
  tkc (s_iconst (at_ dl_X10_beginOn 26 (ins := .iconst 0) rfl) (by first | rfl | decide)) (
  tkc (s_ias (at_ dl_X10_beginOn 27 (ins := .iastore) rfl)) (
  tkc (s_iinc (at_ dl_X10_beginOn 28 (ins := .iinc 1 1) rfl) (by decide) (by first | rfl | decide)) (
  tkc (s_goto (at_ dl_X10_beginOn 29 (ins := .goto (-16)) rfl) (by decide)) (
  tkc (s_aload_n (at_ dl_X10_beginOn 30 (ins := .aload_n 0) rfl)) (
  tkc (s_bipush (at_ dl_X10_beginOn 31 (ins := .bipush 79) rfl) (by first | rfl | decide)) (
  tkc (s_iconst (at_ dl_X10_beginOn 32 (ins := .iconst 0) rfl) (by first | rfl | decide)) (
  tkc (s_ias (at_ dl_X10_beginOn 33 (ins := .iastore) rfl)) (
  tkc (s_r0 (at_ dl_X10_beginOn 34 (ins := .return_) rfl) rfl) ( tk0)))))))))))))))))))))))))))))))))))
theorem lf_X10_beginOn : lk (tb_X10_beginOn) 0 = (x_c 1 (.int 0), false) ∧ lk (tb_X10_beginOn) 1 = (x_is 2 1, false) ∧ lk (tb_X10_beginOn) 2 = (x_il 3 1, true) ∧ lk (tb_X10_beginOn) 3 = (x_c 5 (.int 9), false) ∧ lk (tb_X10_beginOn) 5 = (x_ic 25 8 (fun x y : Int32 => y ≤ x), false) ∧ lk (tb_X10_beginOn) 8 = (x_al 9 0, false) ∧ lk (tb_X10_beginOn) 9 = (x_c 11 (.int 9), false) ∧ lk (tb_X10_beginOn) 11 = (x_il 12 1, false) ∧ lk (tb_X10_beginOn) 12 = (x_ii 13 (fun x y : Int32 => x + y), false) ∧ lk (tb_X10_beginOn) 13 = (x_al 14 0, false) ∧ lk (tb_X10_beginOn) 14 = (x_c 15 (.int 0), false) ∧ lk (tb_X10_beginOn) 15 = (x_il 16 1, false) ∧ lk (tb_X10_beginOn) 16 = (x_ii 17 (fun x y : Int32 => x + y), false) ∧ lk (tb_X10_beginOn) 17 = (x_ia 18, false) ∧ lk (tb_X10_beginOn) 18 = (x_ias 19, false) ∧ lk (tb_X10_beginOn) 19 = (x_inc 22 1 1, false) ∧ lk (tb_X10_beginOn) 22 = (x_go 2, false) ∧ lk (tb_X10_beginOn) 25 = (x_c 26 (.int 0), false) ∧ lk (tb_X10_beginOn) 26 = (x_is 27 1, false) ∧ lk (tb_X10_beginOn) 27 = (x_il 28 1, true) ∧ lk (tb_X10_beginOn) 28 = (x_c 30 (.int 54), false) ∧ lk (tb_X10_beginOn) 30 = (x_ic 46 33 (fun x y : Int32 => y ≤ x), false) ∧ lk (tb_X10_beginOn) 33 = (x_al 34 0, false) ∧ lk (tb_X10_beginOn) 34 = (x_c 36 (.int 24), false) ∧ lk (tb_X10_beginOn) 36 = (x_il 37 1, false) ∧ lk (tb_X10_beginOn) 37 = (x_ii 38 (fun x y : Int32 => x + y), false) ∧ lk (tb_X10_beginOn) 38 = (x_c 39 (.int 0), false) ∧ lk (tb_X10_beginOn) 39 = (x_ias 40, false) ∧ lk (tb_X10_beginOn) 40 = (x_inc 43 1 1, false) ∧ lk (tb_X10_beginOn) 43 = (x_go 27, false) ∧ lk (tb_X10_beginOn) 46 = (x_al 47 0, false) ∧ lk (tb_X10_beginOn) 47 = (x_c 49 (.int 79), false) ∧ lk (tb_X10_beginOn) 49 = (x_c 50 (.int 0), false) ∧ lk (tb_X10_beginOn) 50 = (x_ias 51, false) ∧ lk (tb_X10_beginOn) 51 = (x_r0, false) := ⟨rfl, rfl, rfl, rfl, rfl, rfl, rfl, rfl, rfl, rfl, rfl, rfl, rfl, rfl, rfl, rfl, rfl, rfl, rfl, rfl, rfl, rfl, rfl, rfl, rfl, rfl, rfl, rfl, rfl, rfl, rfl, rfl, rfl, rfl, rfl⟩
def P_X10_beginOn : PTT := fun as M R => match as with
  | [.ref k] => tA M.1 k 1 ∧ ln M.1 k = 80 ∧ R none (M.1, mS M.2.1 k (bgF (M.2.1 k)), M.2.2)
  | _ => False
set_option maxRecDepth 20000 in
theorem ok_X10_beginOn : Ok yX10_beginOn mt_X10_beginOn P_X10_beginOn := by
  refine Ok.of (by decide) rfl rfl rfl rfl fun av ⟨S, I, L⟩ R hP => ?_
  unfold P_X10_beginOn at hP
  split at hP
  case h_2 => exact hP.elim
  rename_i k
  obtain ⟨k, rfl⟩ : ∃ q : Nat, q = k := ⟨k, rfl⟩
  refine ⟨by simp [ent, wide, mt_X10_beginOn], ?_⟩
  show J mt_X10_beginOn R 0 [some (.ref k), none] [] (S, I, L)
  try dsimp only at hP
  obtain ⟨h2, h3, hR⟩ := hP
  have key2 := up (P := fun i => J mt_X10_beginOn R 27 [some (.ref k), some (.int (nI i))] [] (S, mS I k (bg2 (bg1 (I k) 9) i), L)) (n := 54) (fun i hi ih => ?_) 0 (Nat.zero_le _)
  · rw [bg2_0] at key2
    have key := up (P := fun i => J mt_X10_beginOn R 2 [some (.ref k), some (.int (nI i))] [] (S, mS I k (bg1 (I k) i), L)) (n := 9) (fun i hi ih => ?_) 0 (Nat.zero_le _)
    · rw [bg1_0, mS_id] at key
      refine J.of tk_X10_beginOn 200 fun ρ hρ => ?_
      simp only [hρ, x_c, x_il, x_ll, x_al, x_is, x_as, x_ls, x_inc, x_ii, x_iq, x_i1, x_l2, x_lq, x_lh, x_i2l, x_l2i, x_lcmp, x_dup, x_dup2, x_pop, x_if, x_ifn, x_ic, x_icn, x_go, x_sw, swc, x_l01, x_mx, x_gI, x_gL, x_gR, x_pI, x_pZ, x_pL, x_pR, x_ia, x_za, x_aa, x_ias, x_zas, x_aas, x_fac, x_fa, x_slen, x_sa, x_ac, x_oi, x_new, x_na, x_cS, x_cV, x_cI, x_rI, x_rZ, x_rL, x_r0, pa, short, oc, lg, lset, lset2, wide, cond_true, cond_false, true_and, and_true, ↓reduceIte, Bool.false_eq_true, true_or, or_true, lf_X10_beginOn]
      exact key
    by_cases hlt : i < 9
    · refine J.of tk_X10_beginOn 200 fun ρ hρ => ?_
      simp only [hρ, x_c, x_il, x_ll, x_al, x_is, x_as, x_ls, x_inc, x_ii, x_iq, x_i1, x_l2, x_lq, x_lh, x_i2l, x_l2i, x_lcmp, x_dup, x_dup2, x_pop, x_if, x_ifn, x_ic, x_icn, x_go, x_sw, swc, x_l01, x_mx, x_gI, x_gL, x_gR, x_pI, x_pZ, x_pL, x_pR, x_ia, x_za, x_aa, x_ias, x_zas, x_aas, x_fac, x_fa, x_slen, x_sa, x_ac, x_oi, x_new, x_na, x_cS, x_cV, x_cI, x_rI, x_rZ, x_rL, x_r0, pa, short, oc, lg, lset, lset2, wide, cond_true, cond_false, true_and, and_true, ↓reduceIte, Bool.false_eq_true, true_or, or_true, lf_X10_beginOn, h2, h3, nI9, Int32.zero_add, nI_add, nI_leI (show 9 < 2 ^ 31 by omega) (show i < 2 ^ 31 by omega), ncl (show i < 2 ^ 31 by omega), ncl (show 9 + i < 2 ^ 31 by omega), nI_1, mS_s, mS_ss, bg1_s (I k) i hlt]
      exact ⟨fun h => absurd h (by omega), fun _ => ⟨vp_in_nI (by omega) (by omega), vp_in_nI (by omega) (by omega), ih hlt⟩⟩
    · have : i = 9 := by omega
      subst this
      refine J.of tk_X10_beginOn 200 fun ρ hρ => ?_
      simp only [hρ, x_c, x_il, x_ll, x_al, x_is, x_as, x_ls, x_inc, x_ii, x_iq, x_i1, x_l2, x_lq, x_lh, x_i2l, x_l2i, x_lcmp, x_dup, x_dup2, x_pop, x_if, x_ifn, x_ic, x_icn, x_go, x_sw, swc, x_l01, x_mx, x_gI, x_gL, x_gR, x_pI, x_pZ, x_pL, x_pR, x_ia, x_za, x_aa, x_ias, x_zas, x_aas, x_fac, x_fa, x_slen, x_sa, x_ac, x_oi, x_new, x_na, x_cS, x_cV, x_cI, x_rI, x_rZ, x_rL, x_r0, pa, short, oc, lg, lset, lset2, wide, cond_true, cond_false, true_and, and_true, ↓reduceIte, Bool.false_eq_true, true_or, or_true, lf_X10_beginOn, nI9, nI_leI (show 9 < 2 ^ 31 by omega) (show 9 < 2 ^ 31 by omega), Nat.le_refl, true_implies, not_true_eq_false, false_implies]
      exact key2
  by_cases hlt : i < 54
  · refine J.of tk_X10_beginOn 200 fun ρ hρ => ?_
    simp only [hρ, x_c, x_il, x_ll, x_al, x_is, x_as, x_ls, x_inc, x_ii, x_iq, x_i1, x_l2, x_lq, x_lh, x_i2l, x_l2i, x_lcmp, x_dup, x_dup2, x_pop, x_if, x_ifn, x_ic, x_icn, x_go, x_sw, swc, x_l01, x_mx, x_gI, x_gL, x_gR, x_pI, x_pZ, x_pL, x_pR, x_ia, x_za, x_aa, x_ias, x_zas, x_aas, x_fac, x_fa, x_slen, x_sa, x_ac, x_oi, x_new, x_na, x_cS, x_cV, x_cI, x_rI, x_rZ, x_rL, x_r0, pa, short, oc, lg, lset, lset2, wide, cond_true, cond_false, true_and, and_true, ↓reduceIte, Bool.false_eq_true, true_or, or_true, lf_X10_beginOn, h2, h3, nI54, show (24 : Int32) = nI 24 by decide, nI_add, nI_leI (show 54 < 2 ^ 31 by omega) (show i < 2 ^ 31 by omega), ncl (show 24 + i < 2 ^ 31 by omega), nI_1, mS_s, mS_ss, bg2_s]
    exact ⟨fun h => absurd h (by omega), fun _ => ⟨vp_in_nI (by omega) (by omega), ih hlt⟩⟩
  · have : i = 54 := by omega
    subst this
    have e79 : (79 : Int32).toNatClampNeg = 79 := by decide
    have v79 : vp_in 79 80 := vp_in_nI (n := 79) (by omega) (by omega)
    refine J.of tk_X10_beginOn 200 fun ρ hρ => ?_
    simp only [hρ, x_c, x_il, x_ll, x_al, x_is, x_as, x_ls, x_inc, x_ii, x_iq, x_i1, x_l2, x_lq, x_lh, x_i2l, x_l2i, x_lcmp, x_dup, x_dup2, x_pop, x_if, x_ifn, x_ic, x_icn, x_go, x_sw, swc, x_l01, x_mx, x_gI, x_gL, x_gR, x_pI, x_pZ, x_pL, x_pR, x_ia, x_za, x_aa, x_ias, x_zas, x_aas, x_fac, x_fa, x_slen, x_sa, x_ac, x_oi, x_new, x_na, x_cS, x_cV, x_cI, x_rI, x_rZ, x_rL, x_r0, pa, short, oc, lg, lset, lset2, wide, cond_true, cond_false, true_and, and_true, ↓reduceIte, Bool.false_eq_true, true_or, or_true, lf_X10_beginOn, h2, h3, e79, eq_true v79, nI54, nI_leI (show 54 < 2 ^ 31 by omega) (show 54 < 2 ^ 31 by omega), Nat.le_refl, mS_s, mS_ss, true_implies, not_true_eq_false, false_implies]
    exact hR
/-- put -/
def ptF (f : Nat → Int32) (c b : Nat) : Nat → Int32 := upd (upd f (18 + c) (f (18 + c) ^^^ nI (2 ^ b))) (24 + 9 * c + b) 0
theorem RW.pt {f : Nat → Int32} {a : AS} {c b : Nat} (h : RW f 0 a) (ho : AOk a) (hc : c < aM a) (hb : b < aN a) : RW (ptF f c b) 0 (putA a c b) := by
  have h9 := ho.1
  have e : ∀ j, ptF f c b j = if j = 24 + 9 * c + b then 0 else if j = 18 + c then f (18 + c) ^^^ nI (2 ^ b) else f j := fun j => by simp only [ptF, upd_app]
  refine ⟨fun x hx => ?_, fun x hx => ?_, fun x hx => ?_, fun j hj => ?_, ?_, ?_⟩
  · rw [e, if_neg (by omega), if_neg (by omega)]; exact h.1 x hx
  · rw [e, if_neg (by omega), if_neg (by omega)]; exact h.2.1 x hx
  · have hx' : x < aM a := hx
    rw [e, if_neg (by omega)]
    show _ = nI (va_up (aV a) c (aV a c ^^^ 2 ^ b) x)
    unfold va_up
    by_cases q : x = c
    · subst q; rw [if_pos (by omega), if_pos rfl, h.v hc, nI_xor]
    · rw [if_neg (by omega), if_neg q]; exact h.2.2.1 x hx'
  · show _ = upd (aD a).2 (9 * c + b) 0 j
    rw [e, upd_app]
    by_cases q : j = 9 * c + b
    · rw [if_pos (by omega), if_pos q]
    · rw [if_neg (by omega), if_neg (by omega), if_neg q]; exact h.2.2.2.1 j hj
  · rw [e, if_neg (by omega), if_neg (by omega)]; exact h.2.2.2.2.1
  · rw [e, if_neg (by omega), if_neg (by omega)]; exact h.2.2.2.2.2
def il_X10_putOn : List (Nat × Instr × Nat) := [(0, .aload_n 0, 1), (1, .bipush 18, 2), (3, .iload_n 1, 1), (4, .iadd, 1), (5, .dup2, 1), (6, .iaload, 1), (7, .iconst 1, 1), (8, .iload_n 2, 1), (9, .ishl, 1), (10, .ixor, 1), (11, .iastore, 1), (12, .aload_n 0, 1), (13, .bipush 24, 2), (15, .bipush 9, 2), (17, .iload_n 1, 1), (18, .imul, 1), (19, .iadd, 1), (20, .iload_n 2, 1), (21, .iadd, 1), (22, .iconst 0, 1), (23, .iastore, 1), (24, .return_, 1)]
def mt_X10_putOn : Mt := (cX10_putOn, RX10, 3, none, ({ frames := 0, cells := 0, slots := 0, locals := 0 } : Room), false, none, none)
set_option maxRecDepth 100000 in
theorem dl_X10_putOn : ∀ q ∈ il_X10_putOn, decode (mt_X10_putOn).1 q.1 = .ok q.2 := by decide +kernel
def tb_X10_putOn : Tb := [(0, x_al 1 0, false),
  (1, x_c 3 (.int 18), false),
  (3, x_il 4 1, false),
  (4, x_ii 5 (fun x y : Int32 => x + y), false),
  (5, x_dup2 6, false),
  (6, x_ia 7, false),
  (7, x_c 8 (.int 1), false),
  (8, x_il 9 2, false),
  (9, x_ii 10 (fun x y : Int32 => x <<< (y &&& 31)), false),
  (10, x_ii 11 (fun x y : Int32 => x ^^^ y), false),
  (11, x_ias 12, false),
  (12, x_al 13 0, false),
  (13, x_c 15 (.int 24), false),
  (15, x_c 17 (.int 9), false),
  (17, x_il 18 1, false),
  (18, x_ii 19 (fun x y : Int32 => x * y), false),
  (19, x_ii 20 (fun x y : Int32 => x + y), false),
  (20, x_il 21 2, false),
  (21, x_ii 22 (fun x y : Int32 => x + y), false),
  (22, x_c 23 (.int 0), false),
  (23, x_ias 24, false),
  (24, x_r0, false)]
set_option maxRecDepth 100000 in
theorem tk_X10_putOn : TbOk (mt_X10_putOn) (tb_X10_putOn) :=
  tkc (s_aload_n (at_ dl_X10_putOn 0 (ins := .aload_n 0) rfl)) (
  tkc (s_bipush (at_ dl_X10_putOn 1 (ins := .bipush 18) rfl) (by first | rfl | decide)) (
  tkc (s_iload_n (at_ dl_X10_putOn 2 (ins := .iload_n 1) rfl)) (
  tkc (s_iadd (at_ dl_X10_putOn 3 (ins := .iadd) rfl)) (
  tkc (s_dup2 (at_ dl_X10_putOn 4 (ins := .dup2) rfl)) (
  tkc (s_ia (at_ dl_X10_putOn 5 (ins := .iaload) rfl)) (
  tkc (s_iconst (at_ dl_X10_putOn 6 (ins := .iconst 1) rfl) (by first | rfl | decide)) (
  tkc (s_iload_n (at_ dl_X10_putOn 7 (ins := .iload_n 2) rfl)) (
  tkc (s_ishl (at_ dl_X10_putOn 8 (ins := .ishl) rfl)) (
  tkc (s_ixor (at_ dl_X10_putOn 9 (ins := .ixor) rfl)) (
  tkc (s_ias (at_ dl_X10_putOn 10 (ins := .iastore) rfl)) (
  tkc (s_aload_n (at_ dl_X10_putOn 11 (ins := .aload_n 0) rfl)) (
  tkc (s_bipush (at_ dl_X10_putOn 12 (ins := .bipush 24) rfl) (by first | rfl | decide)) (
  tkc (s_bipush (at_ dl_X10_putOn 13 (ins := .bipush 9) rfl) (by first | rfl | decide)) (
  tkc (s_iload_n (at_ dl_X10_putOn 14 (ins := .iload_n 1) rfl)) (
  tkc (s_imul (at_ dl_X10_putOn 15 (ins := .imul) rfl)) (
  tkc (s_iadd (at_ dl_X10_putOn 16 (ins := .iadd) rfl)) (
  tkc (s_iload_n (at_ dl_X10_putOn 17 (ins := .iload_n 2) rfl)) (
  tkc (s_iadd (at_ dl_X10_putOn 18 (ins := .iadd) rfl)) (
  tkc (s_iconst (at_ dl_X10_putOn 19 (ins := .iconst 0) rfl) (by first | rfl | decide)) (
  tkc (s_ias (at_ dl_X10_putOn 20 (ins := .iastore) rfl)) (
  tkc (s_r0 (at_ dl_X10_putOn 21 (ins := .return_) rfl) rfl) ( tk0))))))))))))))))))))))
theorem lf_X10_putOn : lk (tb_X10_putOn) 0 = (x_al 1 0, false) ∧ lk (tb_X10_putOn) 1 = (x_c 3 (.int 18), false) ∧ lk (tb_X10_putOn) 3 = (x_il 4 1, false) ∧ lk (tb_X10_putOn) 4 = (x_ii 5 (fun x y : Int32 => x + y), false) ∧ lk (tb_X10_putOn) 5 = (x_dup2 6, false) ∧ lk (tb_X10_putOn) 6 = (x_ia 7, false) ∧ lk (tb_X10_putOn) 7 = (x_c 8 (.int 1), false) ∧ lk (tb_X10_putOn) 8 = (x_il 9 2, false) ∧ lk (tb_X10_putOn) 9 = (x_ii 10 (fun x y : Int32 => x <<< (y &&& 31)), false) ∧ lk (tb_X10_putOn) 10 = (x_ii 11 (fun x y : Int32 => x ^^^ y), false) ∧ lk (tb_X10_putOn) 11 = (x_ias 12, false) ∧ lk (tb_X10_putOn) 12 = (x_al 13 0, false) ∧ lk (tb_X10_putOn) 13 = (x_c 15 (.int 24), false) ∧ lk (tb_X10_putOn) 15 = (x_c 17 (.int 9), false) ∧ lk (tb_X10_putOn) 17 = (x_il 18 1, false) ∧ lk (tb_X10_putOn) 18 = (x_ii 19 (fun x y : Int32 => x * y), false) ∧ lk (tb_X10_putOn) 19 = (x_ii 20 (fun x y : Int32 => x + y), false) ∧ lk (tb_X10_putOn) 20 = (x_il 21 2, false) ∧ lk (tb_X10_putOn) 21 = (x_ii 22 (fun x y : Int32 => x + y), false) ∧ lk (tb_X10_putOn) 22 = (x_c 23 (.int 0), false) ∧ lk (tb_X10_putOn) 23 = (x_ias 24, false) ∧ lk (tb_X10_putOn) 24 = (x_r0, false) := ⟨rfl, rfl, rfl, rfl, rfl, rfl, rfl, rfl, rfl, rfl, rfl, rfl, rfl, rfl, rfl, rfl, rfl, rfl, rfl, rfl, rfl, rfl⟩
def P_X10_putOn : PTT := fun as M R => match as with
  | [.ref k, .int x, .int y] => tA M.1 k 1 ∧ ln M.1 k = 80 ∧ ∃ c b, c < 6 ∧ b < 9 ∧ x = nI c ∧ y = nI b ∧ R none (M.1, mS M.2.1 k (ptF (M.2.1 k) c b), M.2.2)
  | _ => False
set_option maxRecDepth 20000 in
theorem ok_X10_putOn : Ok yX10_putOn mt_X10_putOn P_X10_putOn := by
  refine Ok.of (by decide) rfl rfl rfl rfl fun av ⟨S, I, L⟩ R hP => ?_
  unfold P_X10_putOn at hP
  split at hP
  case h_2 => exact hP.elim
  rename_i k x y
  obtain ⟨k, rfl⟩ : ∃ q : Nat, q = k := ⟨k, rfl⟩
  refine ⟨by simp [ent, wide, mt_X10_putOn], ?_⟩
  show J mt_X10_putOn R 0 [some (.ref k), some (.int x), some (.int y)] [] (S, I, L)
  try dsimp only at hP
  obtain ⟨h2, h3, c, b, hc, hb, rfl, rfl, hR⟩ := hP
  refine J.of tk_X10_putOn 200 fun ρ hρ => ?_
  simp only [hρ, x_c, x_il, x_ll, x_al, x_is, x_as, x_ls, x_inc, x_ii, x_iq, x_i1, x_l2, x_lq, x_lh, x_i2l, x_l2i, x_lcmp, x_dup, x_dup2, x_pop, x_if, x_ifn, x_ic, x_icn, x_go, x_sw, swc, x_l01, x_mx, x_gI, x_gL, x_gR, x_pI, x_pZ, x_pL, x_pR, x_ia, x_za, x_aa, x_ias, x_zas, x_aas, x_fac, x_fa, x_slen, x_sa, x_ac, x_oi, x_new, x_na, x_cS, x_cV, x_cI, x_rI, x_rZ, x_rL, x_r0, pa, short, oc, lg, lset, lset2, wide, cond_true, cond_false, true_and, and_true, ↓reduceIte, Bool.false_eq_true, true_or, or_true, lf_X10_putOn, h2, h3, show (18 : Int32) = nI 18 by decide, show (24 : Int32) = nI 24 by decide, nI9, pk_mul, nI_add, shl1 (show b < 31 by omega), ncl (show 18 + c < 2 ^ 31 by omega), ncl (show 24 + 9 * c + b < 2 ^ 31 by omega), mS_s, mS_ss]
  exact ⟨vp_in_nI (by omega) (by omega), vp_in_nI (by omega) (by omega), vp_in_nI (by omega) (by omega), hR⟩
