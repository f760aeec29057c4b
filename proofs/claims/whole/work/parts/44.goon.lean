/-! ROUNDS of the model -/
def OrdM (I : MI) (m : Nat) (ord : Nat → Nat) : Prop := ∀ i, i < m → I 117 i = nI (ord i) ∧ ord i < m
def rdA (a : AS) (ord : Nat → Nat) : AS := (a.1, a.2.1, a.2.2.1, a.2.2.2.1 + 1, a.2.2.2.2.1, a.2.2.2.2.2.1, rndD (aN a) (aO a) (aV a) ord (aM a) (aD a))
theorem rdA_ok {a : AS} {ord : Nat → Nat} (h : AOk a) : AOk (rdA a ord) := ⟨h.1, h.2.1, h.2.2.1, h.2.2.2.1, rndD_ok h.2.2.2.2 _⟩
/-- a row of the model, and what goes with it -/
def MK2 (k : Nat) : Prop := k = 110 ∨ k = 111
theorem IsMo.k {S : Sh} (h : IsMo S) {k : Nat} (hk : MK2 k) : tA S k 1 ∧ ln S k = 80 := by
  rcases hk with rfl | rfl
  · exact h.2.2.2.1
  · exact h.2.2.2.2.1
def frK (k : Nat) (I I' : MI) : Prop := ∀ q, q ≠ k → q ≠ 118 → I' q = I q
theorem RW.r79 {f : Nat → Int32} {a : AS} (h : RW f 0 a) (hm : aM a ≤ 6) : RW (upd f 79 (f 79 + 1)) 0 (a.1, a.2.1, a.2.2.1, a.2.2.2.1 + 1, a.2.2.2.2.1, a.2.2.2.2.2.1, a.2.2.2.2.2.2) := by
  have e : ∀ j, upd f 79 (f 79 + 1) j = if j = 79 then f 79 + 1 else f j := fun j => upd_app f 79 _ j
  refine ⟨fun b hb => ?_, fun b hb => ?_, fun c hc => ?_, fun j hj => ?_, ?_, ?_⟩
  · rw [e, if_neg (by omega)]; exact h.1 b hb
  · rw [e, if_neg (by omega)]; exact h.2.1 b hb
  · have : c < aM a := hc
    rw [e, if_neg (by omega)]; exact h.2.2.1 c hc
  · rw [e, if_neg (by omega)]; exact h.2.2.2.1 j hj
  · rw [e, if_neg (by omega)]; exact h.2.2.2.2.1
  · rw [e, if_pos (by omega)]
    have : f 79 = aR a := h.2.2.2.2.2
    rw [this]
def il_X10_goOn : List (Nat × Instr × Nat) := [(0, .iconst 0, 1), (1, .istore_n 2, 1), (2, .iload_n 2, 1), (3, .aload_n 0, 1), (4, .getfield 64, 3), (7, .if_icmp .ge 20, 3), (10, .aload_n 0, 1), (11, .aload_n 1, 1), (12, .aload_n 0, 1), (13, .getfield 35, 3), (16, .iload_n 2, 1), (17, .iaload, 1), (18, .invokevirtual 110, 3), (21, .iinc 2 1, 3), (24, .goto (-22), 3), (27, .aload_n 1, 1), (28, .bipush 79, 2), (30, .dup2, 1), (31, .iaload, 1), (32, .iconst 1, 1), (33, .iadd, 1), (34, .iastore, 1), (35, .return_, 1)]
def mt_X10_goOn : Mt := (cX10_goOn, RX10, 3, none, ({ frames := 2, cells := 0, slots := 0, locals := 50 } : Room), false, none, none)
set_option maxRecDepth 100000 in
theorem dl_X10_goOn : ∀ q ∈ il_X10_goOn, decode (mt_X10_goOn).1 q.1 = .ok q.2 := by decide +kernel
def tb_X10_goOn : Tb := [(0, x_c 1 (.int 0), false),
  (1, x_is 2 2, false),
  (2, x_il 3 2, true),
  (3, x_al 4 0, false),
  (4, x_gI 10 3 7, false),
  (7, x_ic 27 10 (fun x y : Int32 => y ≤ x), false),
  (10, x_al 11 0, false),
  (11, x_al 12 1, false),
  (12, x_al 13 0, false),
  (13, x_gR 10 15 16, false),
  (16, x_il 17 2, false),
  (17, x_ia 18, false),
  (18, x_cV 10 2 P_X10_goCheck 21, false),
  (21, x_inc 24 2 1, false),
  (24, x_go 2, false),
  (27, x_al 28 1, false),
  (28, x_c 30 (.int 79), false),
  (30, x_dup2 31, false),
  (31, x_ia 32, false),
  (32, x_c 33 (.int 1), false),
  (33, x_ii 34 (fun x y : Int32 => x + y), false),
  (34, x_ias 35, false),
  (35, x_r0, false)]
set_option maxRecDepth 100000 in
theorem tk_X10_goOn : TbOk (mt_X10_goOn) (tb_X10_goOn) :=
  tkc (s_iconst (at_ dl_X10_goOn 0 (ins := .iconst 0) rfl) (by first | rfl | decide)) (
  tkc (s_istore_n (at_ dl_X10_goOn 1 (ins := .istore_n 2) rfl) (by decide)) (
  tkc (s_iload_n (at_ dl_X10_goOn 2 (ins := .iload_n 2) rfl)) (
  tkc (s_aload_n (at_ dl_X10_goOn 3 (ins := .aload_n 0) rfl)) (
  tkc (s_gI (at_ dl_X10_goOn 4 (ins := .getfield 64) rfl) (by decide) (by decide) (by decide) (tg 699 (by decide +kernel) (by decide +kernel))) (
  tkc (s_ic_ge (at_ dl_X10_goOn 5 (ins := .if_icmp .ge 20) rfl) (by decide)) (
  tkc (s_aload_n (at_ dl_X10_goOn 6 (ins := .aload_n 0) rfl)) (
  tkc (s_aload_n (at_ dl_X10_goOn 7 (ins := .aload_n 1) rfl)) (
  tkc (s_aload_n (at_ dl_X10_goOn 8 (ins := .aload_n 0) rfl)) (
  tkc (s_gR (at_ dl_X10_goOn 9 (ins := .getfield 35) rfl) (by decide) (by decide) (by decide) (tg 711 (by decide +kernel) (by decide +kernel))) (
  tkc (s_iload_n (at_ dl_X10_goOn 10 (ins := .iload_n 2) rfl)) (
  tkc (s_ia (at_ dl_X10_goOn 11 (ins := .iaload) rfl)) (
  tkc (s_cV ok_X10_goCheck (at_ dl_X10_goOn 12 (ins := .invokevirtual 110) rfl) (by decide) rfl (tg 861 (by decide +kernel) (by decide +kernel)) (tg 863 (by decide +kernel) (by decide +kernel)) (tg 31 (by decide +kernel) (by decide +kernel)) (tg 51 (by decide +kernel) (by decide +kernel)) (tg 864 (by decide +kernel) (by decide +kernel)) (⟨by decide, by decide, by decide +kernel⟩) (⟨by decide, by decide⟩) rfl rfl) (
  tkc (s_iinc (at_ dl_X10_goOn 13 (ins := .iinc 2 1) rfl) (by decide) (by first | rfl | decide)) (
  tkc (s_goto (at_ dl_X10_goOn 14 (ins := .goto (-22)) rfl) (by decide)) (
  tkc (s_aload_n (at_ dl_X10_goOn 15 (ins := .aload_n 1) rfl)) (
  tkc (s_bipush (at_ dl_X10_goOn 16 (ins := .bipush 79) rfl) (by first | rfl | decide)) (
  tkc (s_dup2 (at_ dl_X10_goOn 17 (ins := .dup2) rfl)) (
  tkc (s_ia (at_ dl_X10_goOn 18 (ins := .iaload) rfl)) (
  tkc (s_iconst (at_ dl_X10_goOn 19 (ins := .iconst 1) rfl) (by first | rfl | decide)) (
  tkc (s_iadd (at_ dl_X10_goOn 20 (ins := .iadd) rfl)) (
  tkc (s_ias (at_ dl_X10_goOn 21 (ins := .iastore) rfl)) (
  tkc (s_r0 (at_ dl_X10_goOn 22 (ins := .return_) rfl) rfl) ( tk0)))))))))))))))))))))))
theorem lf_X10_goOn : lk (tb_X10_goOn) 0 = (x_c 1 (.int 0), false) ∧ lk (tb_X10_goOn) 1 = (x_is 2 2, false) ∧ lk (tb_X10_goOn) 2 = (x_il 3 2, true) ∧ lk (tb_X10_goOn) 3 = (x_al 4 0, false) ∧ lk (tb_X10_goOn) 4 = (x_gI 10 3 7, false) ∧ lk (tb_X10_goOn) 7 = (x_ic 27 10 (fun x y : Int32 => y ≤ x), false) ∧ lk (tb_X10_goOn) 10 = (x_al 11 0, false) ∧ lk (tb_X10_goOn) 11 = (x_al 12 1, false) ∧ lk (tb_X10_goOn) 12 = (x_al 13 0, false) ∧ lk (tb_X10_goOn) 13 = (x_gR 10 15 16, false) ∧ lk (tb_X10_goOn) 16 = (x_il 17 2, false) ∧ lk (tb_X10_goOn) 17 = (x_ia 18, false) ∧ lk (tb_X10_goOn) 18 = (x_cV 10 2 P_X10_goCheck 21, false) ∧ lk (tb_X10_goOn) 21 = (x_inc 24 2 1, false) ∧ lk (tb_X10_goOn) 24 = (x_go 2, false) ∧ lk (tb_X10_goOn) 27 = (x_al 28 1, false) ∧ lk (tb_X10_goOn) 28 = (x_c 30 (.int 79), false) ∧ lk (tb_X10_goOn) 30 = (x_dup2 31, false) ∧ lk (tb_X10_goOn) 31 = (x_ia 32, false) ∧ lk (tb_X10_goOn) 32 = (x_c 33 (.int 1), false) ∧ lk (tb_X10_goOn) 33 = (x_ii 34 (fun x y : Int32 => x + y), false) ∧ lk (tb_X10_goOn) 34 = (x_ias 35, false) ∧ lk (tb_X10_goOn) 35 = (x_r0, false) := ⟨rfl, rfl, rfl, rfl, rfl, rfl, rfl, rfl, rfl, rfl, rfl, rfl, rfl, rfl, rfl, rfl, rfl, rfl, rfl, rfl, rfl, rfl, rfl⟩
def P_X10_goOn : PTT := fun as M R => match as with
  | [.ref z, .ref k] => z = 108 ∧ IsMo M.1 ∧ MK2 k ∧ ∃ a ord, RW (M.2.1 k) 0 a ∧ AOk a ∧ M.2.1 108 2 = nI (aN a) ∧ M.2.1 108 3 = nI (aM a) ∧ OrdM M.2.1 (aM a) ord ∧ ∀ I', frK k M.2.1 I' → RW (I' k) 0 (rdA a ord) → R none (M.1, I', M.2.2)
  | _ => False
set_option maxRecDepth 20000 in
theorem ok_X10_goOn : Ok yX10_goOn mt_X10_goOn P_X10_goOn := by
  refine Ok.of (by decide) rfl rfl rfl rfl fun av ⟨S, I, L⟩ R hP => ?_
  unfold P_X10_goOn at hP
  split at hP
  case h_2 => exact hP.elim
  rename_i z k
  obtain ⟨z, rfl⟩ : ∃ q : Nat, q = z := ⟨z, rfl⟩
  obtain ⟨k, rfl⟩ : ∃ q : Nat, q = k := ⟨k, rfl⟩
  refine ⟨by simp [ent, wide, mt_X10_goOn], ?_⟩
  show J mt_X10_goOn R 0 [some (.ref z), some (.ref k), none] [] (S, I, L)
  try dsimp only at hP
  obtain ⟨rfl, hm, hk, a, ord, hr, ha, en, em, hor, hR⟩ := hP
  have h9 := ha.1
  have hkk := hm.k hk
  have hk1 : k ≠ 108 := by rcases hk with rfl | rfl <;> omega
  have hk2 : k ≠ 118 := by rcases hk with rfl | rfl <;> omega
  have hk3 : (117 : Nat) ≠ k := by rcases hk with rfl | rfl <;> omega
  have key := up (P := fun i => ∀ I', frK k I I' → RW (I' k) 0 (a.1, a.2.1, a.2.2.1, a.2.2.2.1, a.2.2.2.2.1, a.2.2.2.2.2.1, rndD (aN a) (aO a) (aV a) ord i (aD a)) → J mt_X10_goOn R 2 [some (.ref 108), some (.ref k), some (.int (nI i))] [] (S, I', L)) (n := aM a) (fun i hi ih I' hf hr' => ?_) 0 (Nat.zero_le _) I (fun _ _ _ => rfl) hr
  · refine J.of tk_X10_goOn 200 fun ρ hρ => ?_
    simp only [hρ, x_c, x_il, x_ll, x_al, x_is, x_as, x_ls, x_inc, x_ii, x_iq, x_i1, x_l2, x_lq, x_lh, x_i2l, x_l2i, x_lcmp, x_dup, x_dup2, x_pop, x_if, x_ifn, x_ic, x_icn, x_go, x_sw, swc, x_l01, x_mx, x_gI, x_gL, x_gR, x_pI, x_pZ, x_pL, x_pR, x_ia, x_za, x_aa, x_ias, x_zas, x_aas, x_fac, x_fa, x_slen, x_sa, x_ac, x_oi, x_new, x_na, x_cS, x_cV, x_cI, x_rI, x_rZ, x_rL, x_r0, pa, short, oc, lg, lset, lset2, wide, cond_true, cond_false, true_and, and_true, ↓reduceIte, Bool.false_eq_true, true_or, or_true, lf_X10_goOn]
    exact key
  have e108 : I' 108 = I 108 := hf 108 (Ne.symm hk1) (by omega)
  have e117 : I' 117 = I 117 := hf 117 hk3 (by omega)
  by_cases hlt : i < aM a
  · obtain ⟨o1, o2⟩ := hor i hlt
    have hv := ha.v o2
    refine J.of tk_X10_goOn 200 fun ρ hρ => ?_
    simp only [hρ, x_c, x_il, x_ll, x_al, x_is, x_as, x_ls, x_inc, x_ii, x_iq, x_i1, x_l2, x_lq, x_lh, x_i2l, x_l2i, x_lcmp, x_dup, x_dup2, x_pop, x_if, x_ifn, x_ic, x_icn, x_go, x_sw, swc, x_l01, x_mx, x_gI, x_gL, x_gR, x_pI, x_pZ, x_pL, x_pR, x_ia, x_za, x_aa, x_ias, x_zas, x_aas, x_fac, x_fa, x_slen, x_sa, x_ac, x_oi, x_new, x_na, x_cS, x_cV, x_cI, x_rI, x_rZ, x_rL, x_r0, pa, short, oc, lg, lset, lset2, wide, cond_true, cond_false, true_and, and_true, ↓reduceIte, Bool.false_eq_true, true_or, or_true, lf_X10_goOn, hm.f, hkk, e108, e117, em, en, o1, nI_leI (show aM a < 2 ^ 31 by omega) (show i < 2 ^ 31 by omega), ncl (show i < 2 ^ 31 by omega), P_X10_goCheck, nI_1]
    refine ⟨fun h => absurd h (by omega), fun _ => ⟨vp_in_nI (by omega) (by omega), hk1, hk2, aN a, ord i, aV a (ord i), h9.2.1, by omega, hv, rfl, rfl, hr'.v o2, fun I2 hf2 e2 => ?_⟩⟩
    refine ih hlt I2 (fun q q1 q2 => by rw [hf2 q q1 q2, hf q q1 q2]) ?_
    rw [e2]
    exact RW.gk (a := a) hr' h9.2.1 h9.2.2 (by omega)
  · have : i = aM a := by omega
    subst this
    have e79n : (79 : Int32).toNatClampNeg = 79 := by decide
    have v79 : vp_in 79 80 := vp_in_nI (n := 79) (by omega) (by omega)
    refine J.of tk_X10_goOn 200 fun ρ hρ => ?_
    simp only [hρ, x_c, x_il, x_ll, x_al, x_is, x_as, x_ls, x_inc, x_ii, x_iq, x_i1, x_l2, x_lq, x_lh, x_i2l, x_l2i, x_lcmp, x_dup, x_dup2, x_pop, x_if, x_ifn, x_ic, x_icn, x_go, x_sw, swc, x_l01, x_mx, x_gI, x_gL, x_gR, x_pI, x_pZ, x_pL, x_pR, x_ia, x_za, x_aa, x_ias, x_zas, x_aas, x_fac, x_fa, x_slen, x_sa, x_ac, x_oi, x_new, x_na, x_cS, x_cV, x_cI, x_rI, x_rZ, x_rL, x_r0, pa, short, oc, lg, lset, lset2, wide, cond_true, cond_false, true_and, and_true, ↓reduceIte, Bool.false_eq_true, true_or, or_true, lf_X10_goOn, hm.f, hkk, e108, em, e79n, eq_true v79, nI_leI (show aM a < 2 ^ 31 by omega) (show aM a < 2 ^ 31 by omega), Nat.le_refl, true_implies, not_true_eq_false, false_implies]
    refine hR _ (fun q q1 q2 => by rw [mS_n q1, hf q q1 q2]) ?_
    rw [mS_s]
    exact hr'.r79 h9.2.2
/-- rounds on end -/
theorem itA_s (r : Nat) (a : AS) : itA (r + 1) a = rdA (itA r a) id := by
  unfold itA rdA
  simp only [itD]
  rw [Int32.add_assoc, show nI r + 1 = nI (r + 1) from nI_1 r]
theorem itA_0 (a : AS) : itA 0 a = a := by
  unfold itA
  simp only [itD]
  rw [show nI 0 = 0 by decide, Int32.add_zero]
