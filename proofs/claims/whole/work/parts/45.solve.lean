/-! NEEDS and ENDS of the model -/
def rnA (a : AS) (r : Int32) : AS := (a.1, a.2.1, a.2.2.1, r, a.2.2.2.2)
theorem MS.of {S : Sh} {I : MI} {k : Nat} {a : AS} (hm : IsMo S) (hk : MK2 k) (hr : RW (I k) 0 a) (ha : AOk a) (en : I 108 2 = nI (aN a)) (em : I 108 3 = nI (aM a)) : MS S I k a := ⟨⟨hm.1, (hm.k hk).1, (hm.k hk).2⟩, hr, ha, en, em⟩
def il_X10_solve : List (Nat × Instr × Nat) := [(0, .aload_n 0, 1), (1, .getfield 16, 3), (4, .invokestatic 126, 3), (7, .iconst 0, 1), (8, .istore_n 1, 1), (9, .iload_n 1, 1), (10, .bipush 20, 2), (12, .if_icmp .ge 30, 3), (15, .aload_n 0, 1), (16, .aload_n 0, 1), (17, .getfield 16, 3), (20, .invokevirtual 130, 3), (23, .ifCond .ne 5, 3), (26, .iload_n 1, 1), (27, .ireturn, 1), (28, .aload_n 0, 1), (29, .aload_n 0, 1), (30, .getfield 16, 3), (33, .invokevirtual 133, 3), (36, .iinc 1 1, 3), (39, .goto (-30), 3), (42, .aload_n 0, 1), (43, .aload_n 0, 1), (44, .getfield 16, 3), (47, .invokevirtual 130, 3), (50, .ifCond .ne 8, 3), (53, .bipush 20, 2), (55, .goto 5, 3), (58, .bipush (-9), 2), (60, .ireturn, 1)]
def mt_X10_solve : Mt := (cX10_solve, RX10, 2, (some .int), ({ frames := 3, cells := 0, slots := 0, locals := 72 } : Room), false, none, none)
set_option maxRecDepth 100000 in
theorem dl_X10_solve : ∀ q ∈ il_X10_solve, decode (mt_X10_solve).1 q.1 = .ok q.2 := by decide +kernel
def tb_X10_solve : Tb := [(0, x_al 1 0, false),
  (1, x_gR 10 5 4, false),
  (4, x_cS 1 P_X10_beginOn 7, false),
  (7, x_c 8 (.int 0), false),
  (8, x_is 9 1, false),
  (9, x_il 10 1, true),
  (10, x_c 12 (.int 20), false),
  (12, x_ic 42 15 (fun x y : Int32 => y ≤ x), false),
  (15, x_al 16 0, false),
  (16, x_al 17 0, false),
  (17, x_gR 10 5 20, false),
  (20, x_cV 10 1 P_X10_openOf 23, false),
  (23, x_ifn 28 26 (fun x : Int32 => x = 0), false),
  (26, x_il 27 1, false),
  (27, x_rI, false),
  (28, x_al 29 0, false),
  (29, x_al 30 0, false),
  (30, x_gR 10 5 33, false),
  (33, x_cV 10 1 P_X10_goOn 36, false),
  (36, x_inc 39 1 1, false),
  (39, x_go 9, false),
  (42, x_al 43 0, false),
  (43, x_al 44 0, false),
  (44, x_gR 10 5 47, false),
  (47, x_cV 10 1 P_X10_openOf 50, false),
  (50, x_ifn 58 53 (fun x : Int32 => x = 0), false),
  (53, x_c 55 (.int 20), false),
  (55, x_go 60, false),
  (58, x_c 60 (.int (-9)), false),
  (60, x_rI, false)]
set_option maxRecDepth 100000 in
theorem tk_X10_solve : TbOk (mt_X10_solve) (tb_X10_solve) :=
  tkc (s_aload_n (at_ dl_X10_solve 0 (ins := .aload_n 0) rfl)) (
  tkc (s_gR (at_ dl_X10_solve 1 (ins := .getfield 16) rfl) (by decide) (by decide) (by decide) (tg 701 (by decide +kernel) (by decide +kernel))) (
  tkc (s_cS ok_X10_beginOn (at_ dl_X10_solve 2 (ins := .invokestatic 126) rfl) (tg 854 (by decide +kernel) (by decide +kernel)) (tg 855 (by decide +kernel) (by decide +kernel)) (tg 51 (by decide +kernel) (by decide +kernel)) (tg 856 (by decide +kernel) (by decide +kernel)) (⟨by decide, by decide, by decide +kernel⟩) (⟨by decide, by decide⟩) rfl rfl) (
  tkc (s_iconst (at_ dl_X10_solve 3 (ins := .iconst 0) rfl) (by first | rfl | decide)) (
  tkc (s_istore_n (at_ dl_X10_solve 4 (ins := .istore_n 1) rfl) (by decide)) (
  tkc (s_iload_n (at_ dl_X10_solve 5 (ins := .iload_n 1) rfl)) (
  tkc (s_bipush (at_ dl_X10_solve 6 (ins := .bipush 20) rfl) (by first | rfl | decide)) (
  tkc (s_ic_ge (at_ dl_X10_solve 7 (ins := .if_icmp .ge 30) rfl) (by decide)) (
  tkc (s_aload_n (at_ dl_X10_solve 8 (ins := .aload_n 0) rfl)) (
  tkc (s_aload_n (at_ dl_X10_solve 9 (ins := .aload_n 0) rfl)) (
  tkc (s_gR (at_ dl_X10_solve 10 (ins := .getfield 16) rfl) (by decide) (by decide) (by decide) (tg 701 (by decide +kernel) (by decide +kernel))) (
  tkc (s_cV ok_X10_openOf (at_ dl_X10_solve 11 (ins := .invokevirtual 130) rfl) (by decide) rfl (tg 813 (by decide +kernel) (by decide +kernel)) (tg 815 (by decide +kernel) (by decide +kernel)) (tg 22 (by decide +kernel) (by decide +kernel)) (tg 51 (by decide +kernel) (by decide +kernel)) (tg 816 (by decide +kernel) (by decide +kernel)) (⟨by decide, by decide, by decide +kernel⟩) (⟨by decide, by decide⟩) rfl rfl) (
  tkc (s_if_ne (at_ dl_X10_solve 12 (ins := .ifCond .ne 5) rfl) (by decide)) (
  tkc (s_iload_n (at_ dl_X10_solve 13 (ins := .iload_n 1) rfl)) (
  tkc (s_rI (at_ dl_X10_solve 14 (ins := .ireturn) rfl) rfl) (
  tkc (s_aload_n (at_ dl_X10_solve 15 (ins := .aload_n 0) rfl)) (
  tkc (s_aload_n (at_ dl_X10_solve 16 (ins := .aload_n 0) rfl)) (
  tkc (s_gR (at_ dl_X10_solve 17 (ins := .getfield 16) rfl) (by decide) (by decide) (by decide) (tg 701 (by decide +kernel) (by decide +kernel))) (
  tkc (s_cV ok_X10_goOn (at_ dl_X10_solve 18 (ins := .invokevirtual 133) rfl) (by decide) rfl (tg 857 (by decide +kernel) (by decide +kernel)) (tg 859 (by decide +kernel) (by decide +kernel)) (tg 30 (by decide +kernel) (by decide +kernel)) (tg 51 (by decide +kernel) (by decide +kernel)) (tg 860 (by decide +kernel) (by decide +kernel)) (⟨by decide, by decide, by decide +kernel⟩) (⟨by decide, by decide⟩) rfl rfl) (
  tkc (s_iinc (at_ dl_X10_solve 19 (ins := .iinc 1 1) rfl) (by decide) (by first | rfl | decide)) (
  tkc (s_goto (at_ dl_X10_solve 20 (ins := .goto (-30)) rfl) (by decide)) (
  tkc (s_aload_n (at_ dl_X10_solve 21 (ins := .aload_n 0) rfl)) (
  tkc (s_aload_n (at_ dl_X10_solve 22 (ins := .aload_n 0) rfl)) (
  tkc (s_gR (at_ dl_X10_solve 23 (ins := .getfield 16) rfl) (by decide) (by decide) (by decide) (tg 701 (by decide +kernel) (by decide +kernel))) (
  tkc (s_cV ok_X10_openOf (at_ dl_X10_solve 24 (ins := .invokevirtual 130) rfl) (by decide) rfl (tg 813 (by decide +kernel) (by decide +kernel)) (tg 815 (by decide +kernel) (by decide +kernel)) (tg 22 (by decide +kernel) (by decide +kernel)) (tg 51 (by decide +kernel) (by decide +kernel)) (tg 816 (by decide +kernel) (by decide +kernel)) (⟨by decide, by decide, by decide +kernel⟩) (⟨by decide, by decide⟩) rfl rfl) (
  tkc (s_if_ne (at_ dl_X10_solve 25 (ins := .ifCond .ne 8) rfl) (by decide)) (
  tkc (s_bipush (at_ dl_X10_solve 26 (ins := .bipush 20) rfl) (by first | rfl | decide)) (
  tkc (s_goto (at_ dl_X10_solve 27 (ins := .goto 5) rfl) (by decide)) (
  tkc (s_bipush (at_ dl_X10_solve 28 (ins := .bipush (-9)) rfl) (by first | rfl | decide)) (
  tkc (s_rI (at_ dl_X10_solve 29 (ins := .ireturn) rfl) rfl) ( tk0))))))))))))))))))))))))))))))
theorem lf_X10_solve : lk (tb_X10_solve) 0 = (x_al 1 0, false) ∧ lk (tb_X10_solve) 1 = (x_gR 10 5 4, false) ∧ lk (tb_X10_solve) 4 = (x_cS 1 P_X10_beginOn 7, false) ∧ lk (tb_X10_solve) 7 = (x_c 8 (.int 0), false) ∧ lk (tb_X10_solve) 8 = (x_is 9 1, false) ∧ lk (tb_X10_solve) 9 = (x_il 10 1, true) ∧ lk (tb_X10_solve) 10 = (x_c 12 (.int 20), false) ∧ lk (tb_X10_solve) 12 = (x_ic 42 15 (fun x y : Int32 => y ≤ x), false) ∧ lk (tb_X10_solve) 15 = (x_al 16 0, false) ∧ lk (tb_X10_solve) 16 = (x_al 17 0, false) ∧ lk (tb_X10_solve) 17 = (x_gR 10 5 20, false) ∧ lk (tb_X10_solve) 20 = (x_cV 10 1 P_X10_openOf 23, false) ∧ lk (tb_X10_solve) 23 = (x_ifn 28 26 (fun x : Int32 => x = 0), false) ∧ lk (tb_X10_solve) 26 = (x_il 27 1, false) ∧ lk (tb_X10_solve) 27 = (x_rI, false) ∧ lk (tb_X10_solve) 28 = (x_al 29 0, false) ∧ lk (tb_X10_solve) 29 = (x_al 30 0, false) ∧ lk (tb_X10_solve) 30 = (x_gR 10 5 33, false) ∧ lk (tb_X10_solve) 33 = (x_cV 10 1 P_X10_goOn 36, false) ∧ lk (tb_X10_solve) 36 = (x_inc 39 1 1, false) ∧ lk (tb_X10_solve) 39 = (x_go 9, false) ∧ lk (tb_X10_solve) 42 = (x_al 43 0, false) ∧ lk (tb_X10_solve) 43 = (x_al 44 0, false) ∧ lk (tb_X10_solve) 44 = (x_gR 10 5 47, false) ∧ lk (tb_X10_solve) 47 = (x_cV 10 1 P_X10_openOf 50, false) ∧ lk (tb_X10_solve) 50 = (x_ifn 58 53 (fun x : Int32 => x = 0), false) ∧ lk (tb_X10_solve) 53 = (x_c 55 (.int 20), false) ∧ lk (tb_X10_solve) 55 = (x_go 60, false) ∧ lk (tb_X10_solve) 58 = (x_c 60 (.int (-9)), false) ∧ lk (tb_X10_solve) 60 = (x_rI, false) := ⟨rfl, rfl, rfl, rfl, rfl, rfl, rfl, rfl, rfl, rfl, rfl, rfl, rfl, rfl, rfl, rfl, rfl, rfl, rfl, rfl, rfl, rfl, rfl, rfl, rfl, rfl, rfl, rfl, rfl, rfl⟩
def P_X10_solve : PTT := fun as M R => match as with
  | [.ref z] => z = 108 ∧ IsMo M.1 ∧ ∃ a ord, RW (M.2.1 111) 0 a ∧ AOk a ∧ M.2.1 108 2 = nI (aN a) ∧ M.2.1 108 3 = nI (aM a) ∧ OrdM M.2.1 (aM a) ord ∧ ∀ I' r, frK 111 M.2.1 I' → RW (I' 111) 0 (rnA (runA a ord) r) → R (some (.int (ndO a ord).1)) (M.1, I', M.2.2)
  | _ => False
set_option maxRecDepth 20000 in
theorem ok_X10_solve : Ok yX10_solve mt_X10_solve P_X10_solve := by
  refine Ok.of (by decide) rfl rfl rfl rfl fun av ⟨S, I, L⟩ R hP => ?_
  unfold P_X10_solve at hP
  split at hP
  case h_2 => exact hP.elim
  rename_i z
  obtain ⟨z, rfl⟩ : ∃ q : Nat, q = z := ⟨z, rfl⟩
  refine ⟨by simp [ent, wide, mt_X10_solve], ?_⟩
  show J mt_X10_solve R 0 [some (.ref z), none] [] (S, I, L)
  try dsimp only at hP
  obtain ⟨rfl, hm, a, ord, hr, ha, en, em, hor, hR⟩ := hP
  have h9 := ha.1
  have hk : MK2 111 := Or.inr rfl
  have hmk := hm.k hk
  have key : ∀ l i, i + l = 20 → ∀ I' r, frK 111 I I' → RW (I' 111) 0 (a.1, a.2.1, a.2.2.1, r, a.2.2.2.2.1, a.2.2.2.2.2.1, itD (aN a) (aM a) (aO a) (aV a) ord i (d0A a)) → ndR (solS (aN a) (aM a) (aO a) (aV a) ord (d0A a)) l i = ndO a ord → J mt_X10_solve R 9 [some (.ref 108), some (.int (nI i))] [] (S, I', L) := by
    intro l
    induction l with
    | zero =>
      intro i hi I' r hf hr' he
      have : i = 20 := by omega
      subst this
      have hai : AOk (a.1, a.2.1, a.2.2.1, r, a.2.2.2.2.1, a.2.2.2.2.2.1, itD (aN a) (aM a) (aO a) (aV a) ord 20 (d0A a)) := ⟨ha.1, ha.2.1, ha.2.2.1, ha.2.2.2.1, itD_ok (d0A_ok ha) _⟩
      have e108 : I' 108 = I 108 := hf 108 (by omega) (by omega)
      have hms := MS.of (I := I') hm hk hr' hai (by rw [e108]; exact en) (by rw [e108]; exact em)
      have hol : opA (a.1, a.2.1, a.2.2.1, r, a.2.2.2.2.1, a.2.2.2.2.2.1, itD (aN a) (aM a) (aO a) (aV a) ord 20 (d0A a)) < 64 := opB_lt h9.2.2
      refine J.of tk_X10_solve 200 fun ρ hρ => ?_
      simp only [hρ, x_c, x_il, x_ll, x_al, x_is, x_as, x_ls, x_inc, x_ii, x_iq, x_i1, x_l2, x_lq, x_lh, x_i2l, x_l2i, x_lcmp, x_dup, x_dup2, x_pop, x_if, x_ifn, x_ic, x_icn, x_go, x_sw, swc, x_l01, x_mx, x_gI, x_gL, x_gR, x_pI, x_pZ, x_pL, x_pR, x_ia, x_za, x_aa, x_ias, x_zas, x_aas, x_fac, x_fa, x_slen, x_sa, x_ac, x_oi, x_new, x_na, x_cS, x_cV, x_cI, x_rI, x_rZ, x_rL, x_r0, pa, short, oc, lg, lset, lset2, wide, cond_true, cond_false, true_and, and_true, ↓reduceIte, Bool.false_eq_true, true_or, or_true, lf_X10_solve, hm.f, nI20, nI_leI (show 20 < 2 ^ 31 by omega) (show 20 < 2 ^ 31 by omega), Nat.le_refl, true_implies, not_true_eq_false, false_implies, P_X10_openOf]
      refine ⟨_, hms, ?_⟩
      rw [nI_z (by omega)]
      have hR' := hR I' r hf (by
        have e2 : (ndO a ord).2 = 20 := by rw [← he]; rfl
        unfold rnA runA
        rw [e2]
        exact hr')
      have hs : solS (aN a) (aM a) (aO a) (aV a) ord (d0A a) 20 = true ↔ opA (a.1, a.2.1, a.2.2.1, r, a.2.2.2.2.1, a.2.2.2.2.2.1, itD (aN a) (aM a) (aO a) (aV a) ord 20 (d0A a)) = 0 := by
        unfold solS opA; rw [beq_iff_eq]
      rw [← he, ndR] at hR'
      refine ⟨fun h => ?_, fun h => ?_⟩
      · rw [if_neg (fun q => h (hs.mp q))] at hR'; exact hR'
      · rw [if_pos (hs.mpr (by simpa using h))] at hR'; exact hR'
    | succ l ih =>
      intro i hi I' r hf hr' he
      have hai : AOk (a.1, a.2.1, a.2.2.1, r, a.2.2.2.2.1, a.2.2.2.2.2.1, itD (aN a) (aM a) (aO a) (aV a) ord i (d0A a)) := ⟨ha.1, ha.2.1, ha.2.2.1, ha.2.2.2.1, itD_ok (d0A_ok ha) _⟩
      have e108 : I' 108 = I 108 := hf 108 (by omega) (by omega)
      have e117 : I' 117 = I 117 := hf 117 (by omega) (by omega)
      have en' : I' 108 2 = nI (aN a) := by rw [e108]; exact en
      have em' : I' 108 3 = nI (aM a) := by rw [e108]; exact em
      have hms := MS.of (I := I') hm hk hr' hai en' em'
      have hol : opA (a.1, a.2.1, a.2.2.1, r, a.2.2.2.2.1, a.2.2.2.2.2.1, itD (aN a) (aM a) (aO a) (aV a) ord i (d0A a)) < 64 := opB_lt h9.2.2
      have hs : solS (aN a) (aM a) (aO a) (aV a) ord (d0A a) i = true ↔ opA (a.1, a.2.1, a.2.2.1, r, a.2.2.2.2.1, a.2.2.2.2.2.1, itD (aN a) (aM a) (aO a) (aV a) ord i (d0A a)) = 0 := by
        unfold solS opA; rw [beq_iff_eq]
      rw [ndR] at he
      refine J.of tk_X10_solve 200 fun ρ hρ => ?_
      simp only [hρ, x_c, x_il, x_ll, x_al, x_is, x_as, x_ls, x_inc, x_ii, x_iq, x_i1, x_l2, x_lq, x_lh, x_i2l, x_l2i, x_lcmp, x_dup, x_dup2, x_pop, x_if, x_ifn, x_ic, x_icn, x_go, x_sw, swc, x_l01, x_mx, x_gI, x_gL, x_gR, x_pI, x_pZ, x_pL, x_pR, x_ia, x_za, x_aa, x_ias, x_zas, x_aas, x_fac, x_fa, x_slen, x_sa, x_ac, x_oi, x_new, x_na, x_cS, x_cV, x_cI, x_rI, x_rZ, x_rL, x_r0, pa, short, oc, lg, lset, lset2, wide, cond_true, cond_false, true_and, and_true, ↓reduceIte, Bool.false_eq_true, true_or, or_true, lf_X10_solve, hm, hk, hm.f, nI20, nI_leI (show 20 < 2 ^ 31 by omega) (show i < 2 ^ 31 by omega), P_X10_openOf, P_X10_goOn, nI_1]
      refine ⟨fun h => absurd h (by omega), fun _ => ⟨_, hms, ?_⟩⟩
      rw [nI_z (by omega)]
      refine ⟨fun h => ?_, fun h => ?_⟩
      · rw [if_neg (fun q => h (hs.mp q))] at he
        refine ⟨_, ord, hr', hai, en', em', fun j hj => by rw [e117]; exact hor j hj, fun I2 hf2 hr2 => ?_⟩
        exact ih (i + 1) (by omega) I2 _ (fun q q1 q2 => by rw [hf2 q q1 q2, hf q q1 q2]) hr2 he
      · rw [if_pos (hs.mpr (by simpa using h))] at he
        have hR' := hR I' r hf (by
          have e2 : (ndO a ord).2 = i := by rw [← he]
          unfold rnA runA
          rw [e2]
          exact hr')
        rw [← he] at hR'
        exact hR'
  refine J.of tk_X10_solve 200 fun ρ hρ => ?_
  simp only [hρ, x_c, x_il, x_ll, x_al, x_is, x_as, x_ls, x_inc, x_ii, x_iq, x_i1, x_l2, x_lq, x_lh, x_i2l, x_l2i, x_lcmp, x_dup, x_dup2, x_pop, x_if, x_ifn, x_ic, x_icn, x_go, x_sw, swc, x_l01, x_mx, x_gI, x_gL, x_gR, x_pI, x_pZ, x_pL, x_pR, x_ia, x_za, x_aa, x_ias, x_zas, x_aas, x_fac, x_fa, x_slen, x_sa, x_ac, x_oi, x_new, x_na, x_cS, x_cV, x_cI, x_rI, x_rZ, x_rL, x_r0, pa, short, oc, lg, lset, lset2, wide, cond_true, cond_false, true_and, and_true, ↓reduceIte, Bool.false_eq_true, true_or, or_true, lf_X10_solve, hm.f, hmk, P_X10_beginOn]
  refine key 20 0 rfl _ 0 (fun q q1 q2 => mS_n q1) ?_ rfl
  rw [mS_s]
  exact hr.bg h9.2.2
