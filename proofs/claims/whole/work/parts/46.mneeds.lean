/-! NEEDS, ENDS, BEST of the model -/
theorem RW.cp {f g : Nat → Int32} {a : AS} (h : RW f 0 a) (hm : aM a ≤ 6) : RW (cpy f g 80) 0 a := by
  refine ⟨fun b hb => ?_, fun b hb => ?_, fun c hc => ?_, fun j hj => ?_, ?_, ?_⟩
  · rw [cpy_in (by omega)]; exact h.1 b hb
  · rw [cpy_in (by omega)]; exact h.2.1 b hb
  · rw [cpy_in (by omega)]; exact h.2.2.1 c hc
  · rw [cpy_in (by omega)]; exact h.2.2.2.1 j hj
  · rw [cpy_in (by omega)]; exact h.2.2.2.2.1
  · rw [cpy_in (by omega)]; exact h.2.2.2.2.2
theorem cp_fr {I : MI} {f : Nat → Int32} : frK 111 I (mS I 111 f) := fun q q1 _ => mS_n q1
theorem frK.trans {k : Nat} {A B C : MI} (h : frK k A B) (h' : frK k B C) : frK k A C := fun q q1 q2 => (h' q q1 q2).trans (h q q1 q2)
def il_X10_needs : List (Nat × Instr × Nat) := [(0, .aload_n 0, 1), (1, .getfield 13, 3), (4, .aload_n 0, 1), (5, .getfield 16, 3), (8, .invokestatic 136, 3), (11, .aload_n 0, 1), (12, .invokevirtual 140, 3), (15, .ireturn, 1)]
def mt_X10_needs : Mt := (cX10_needs, RX10, 1, (some .int), ({ frames := 4, cells := 0, slots := 0, locals := 93 } : Room), false, none, none)
set_option maxRecDepth 100000 in
theorem dl_X10_needs : ∀ q ∈ il_X10_needs, decode (mt_X10_needs).1 q.1 = .ok q.2 := by decide +kernel
def tb_X10_needs : Tb := [(0, x_al 1 0, false),
  (1, x_gR 10 4 4, false),
  (4, x_al 5 0, false),
  (5, x_gR 10 5 8, false),
  (8, x_cS 2 P_X10_copy 11, false),
  (11, x_al 12 0, false),
  (12, x_cV 10 0 P_X10_solve 15, false),
  (15, x_rI, false)]
set_option maxRecDepth 100000 in
theorem tk_X10_needs : TbOk (mt_X10_needs) (tb_X10_needs) :=
  tkc (s_aload_n (at_ dl_X10_needs 0 (ins := .aload_n 0) rfl)) (
  tkc (s_gR (at_ dl_X10_needs 1 (ins := .getfield 13) rfl) (by decide) (by decide) (by decide) (tg 700 (by decide +kernel) (by decide +kernel))) (
  tkc (s_aload_n (at_ dl_X10_needs 2 (ins := .aload_n 0) rfl)) (
  tkc (s_gR (at_ dl_X10_needs 3 (ins := .getfield 16) rfl) (by decide) (by decide) (by decide) (tg 701 (by decide +kernel) (by decide +kernel))) (
  tkc (s_cS ok_X10_copy (at_ dl_X10_needs 4 (ins := .invokestatic 136) rfl) (tg 847 (by decide +kernel) (by decide +kernel)) (tg 848 (by decide +kernel) (by decide +kernel)) (tg 51 (by decide +kernel) (by decide +kernel)) (tg 849 (by decide +kernel) (by decide +kernel)) (⟨by decide, by decide, by decide +kernel⟩) (⟨by decide, by decide⟩) rfl rfl) (
  tkc (s_aload_n (at_ dl_X10_needs 5 (ins := .aload_n 0) rfl)) (
  tkc (s_cV ok_X10_solve (at_ dl_X10_needs 6 (ins := .invokevirtual 140) rfl) (by decide) rfl (tg 850 (by decide +kernel) (by decide +kernel)) (tg 852 (by decide +kernel) (by decide +kernel)) (tg 29 (by decide +kernel) (by decide +kernel)) (tg 51 (by decide +kernel) (by decide +kernel)) (tg 853 (by decide +kernel) (by decide +kernel)) (⟨by decide, by decide, by decide +kernel⟩) (⟨by decide, by decide⟩) rfl rfl) (
  tkc (s_rI (at_ dl_X10_needs 7 (ins := .ireturn) rfl) rfl) ( tk0))))))))
theorem lf_X10_needs : lk (tb_X10_needs) 0 = (x_al 1 0, false) ∧ lk (tb_X10_needs) 1 = (x_gR 10 4 4, false) ∧ lk (tb_X10_needs) 4 = (x_al 5 0, false) ∧ lk (tb_X10_needs) 5 = (x_gR 10 5 8, false) ∧ lk (tb_X10_needs) 8 = (x_cS 2 P_X10_copy 11, false) ∧ lk (tb_X10_needs) 11 = (x_al 12 0, false) ∧ lk (tb_X10_needs) 12 = (x_cV 10 0 P_X10_solve 15, false) ∧ lk (tb_X10_needs) 15 = (x_rI, false) := ⟨rfl, rfl, rfl, rfl, rfl, rfl, rfl, rfl⟩
def P_X10_needs : PTT := fun as M R => match as with
  | [.ref z] => z = 108 ∧ IsMo M.1 ∧ ∃ a ord, RW (M.2.1 110) 0 a ∧ AOk a ∧ M.2.1 108 2 = nI (aN a) ∧ M.2.1 108 3 = nI (aM a) ∧ OrdM M.2.1 (aM a) ord ∧ ∀ I', frK 111 M.2.1 I' → R (some (.int (ndO a ord).1)) (M.1, I', M.2.2)
  | _ => False
set_option maxRecDepth 20000 in
theorem ok_X10_needs : Ok yX10_needs mt_X10_needs P_X10_needs := by
  refine Ok.of (by decide) rfl rfl rfl rfl fun av ⟨S, I, L⟩ R hP => ?_
  unfold P_X10_needs at hP
  split at hP
  case h_2 => exact hP.elim
  rename_i z
  obtain ⟨z, rfl⟩ : ∃ q : Nat, q = z := ⟨z, rfl⟩
  refine ⟨by simp [ent, wide, mt_X10_needs], ?_⟩
  show J mt_X10_needs R 0 [some (.ref z)] [] (S, I, L)
  try dsimp only at hP
  obtain ⟨rfl, hm, a, ord, hr, ha, en, em, hor, hR⟩ := hP
  refine J.of tk_X10_needs 200 fun ρ hρ => ?_
  simp only [hρ, x_c, x_il, x_ll, x_al, x_is, x_as, x_ls, x_inc, x_ii, x_iq, x_i1, x_l2, x_lq, x_lh, x_i2l, x_l2i, x_lcmp, x_dup, x_dup2, x_pop, x_if, x_ifn, x_ic, x_icn, x_go, x_sw, swc, x_l01, x_mx, x_gI, x_gL, x_gR, x_pI, x_pZ, x_pL, x_pR, x_ia, x_za, x_aa, x_ias, x_zas, x_aas, x_fac, x_fa, x_slen, x_sa, x_ac, x_oi, x_new, x_na, x_cS, x_cV, x_cI, x_rI, x_rZ, x_rL, x_r0, pa, short, oc, lg, lset, lset2, wide, cond_true, cond_false, true_and, and_true, ↓reduceIte, Bool.false_eq_true, true_or, or_true, lf_X10_needs, hm, hm.f, P_X10_copy, P_X10_solve]
  refine ⟨a, ord, by rw [mS_s]; exact hr.cp ha.1.2.2, ha, en, em, hor, fun I' r hf hr' => hR I' (cp_fr.trans hf)⟩
theorem rnA_ok {a : AS} {r : Int32} (h : AOk a) : AOk (rnA a r) := ⟨h.1, h.2.1, h.2.2.1, h.2.2.2.1, h.2.2.2.2⟩
def il_X10_ends : List (Nat × Instr × Nat) := [(0, .aload_n 0, 1), (1, .getfield 13, 3), (4, .aload_n 0, 1), (5, .getfield 16, 3), (8, .invokestatic 136, 3), (11, .aload_n 0, 1), (12, .invokevirtual 140, 3), (15, .istore_n 1, 1), (16, .aload_n 0, 1), (17, .aload_n 0, 1), (18, .getfield 16, 3), (21, .invokevirtual 118, 3), (24, .ireturn, 1)]
def mt_X10_ends : Mt := (cX10_ends, RX10, 2, (some .int), ({ frames := 4, cells := 0, slots := 0, locals := 93 } : Room), false, none, none)
set_option maxRecDepth 100000 in
theorem dl_X10_ends : ∀ q ∈ il_X10_ends, decode (mt_X10_ends).1 q.1 = .ok q.2 := by decide +kernel
def tb_X10_ends : Tb := [(0, x_al 1 0, false),
  (1, x_gR 10 4 4, false),
  (4, x_al 5 0, false),
  (5, x_gR 10 5 8, false),
  (8, x_cS 2 P_X10_copy 11, false),
  (11, x_al 12 0, false),
  (12, x_cV 10 0 P_X10_solve 15, false),
  (15, x_is 16 1, false),
  (16, x_al 17 0, false),
  (17, x_al 18 0, false),
  (18, x_gR 10 5 21, false),
  (21, x_cV 10 1 P_X10_wordOf 24, false),
  (24, x_rI, false)]
set_option maxRecDepth 100000 in
theorem tk_X10_ends : TbOk (mt_X10_ends) (tb_X10_ends) :=
  tkc (s_aload_n (at_ dl_X10_ends 0 (ins := .aload_n 0) rfl)) (
  tkc (s_gR (at_ dl_X10_ends 1 (ins := .getfield 13) rfl) (by decide) (by decide) (by decide) (tg 700 (by decide +kernel) (by decide +kernel))) (
  tkc (s_aload_n (at_ dl_X10_ends 2 (ins := .aload_n 0) rfl)) (
  tkc (s_gR (at_ dl_X10_ends 3 (ins := .getfield 16) rfl) (by decide) (by decide) (by decide) (tg 701 (by decide +kernel) (by decide +kernel))) (
  tkc (s_cS ok_X10_copy (at_ dl_X10_ends 4 (ins := .invokestatic 136) rfl) (tg 847 (by decide +kernel) (by decide +kernel)) (tg 848 (by decide +kernel) (by decide +kernel)) (tg 51 (by decide +kernel) (by decide +kernel)) (tg 849 (by decide +kernel) (by decide +kernel)) (⟨by decide, by decide, by decide +kernel⟩) (⟨by decide, by decide⟩) rfl rfl) (
  tkc (s_aload_n (at_ dl_X10_ends 5 (ins := .aload_n 0) rfl)) (
  tkc (s_cV ok_X10_solve (at_ dl_X10_ends 6 (ins := .invokevirtual 140) rfl) (by decide) rfl (tg 850 (by decide +kernel) (by decide +kernel)) (tg 852 (by decide +kernel) (by decide +kernel)) (tg 29 (by decide +kernel) (by decide +kernel)) (tg 51 (by decide +kernel) (by decide +kernel)) (tg 853 (by decide +kernel) (by decide +kernel)) (⟨by decide, by decide, by decide +kernel⟩) (⟨by decide, by decide⟩) rfl rfl) (
  tkc (s_istore_n (at_ dl_X10_ends 7 (ins := .istore_n 1) rfl) (by decide)) (
  tkc (s_aload_n (at_ dl_X10_ends 8 (ins := .aload_n 0) rfl)) (
  tkc (s_aload_n (at_ dl_X10_ends 9 (ins := .aload_n 0) rfl)) (
  tkc (s_gR (at_ dl_X10_ends 10 (ins := .getfield 16) rfl) (by decide) (by decide) (by decide) (tg 701 (by decide +kernel) (by decide +kernel))) (
  tkc (s_cV ok_X10_wordOf (at_ dl_X10_ends 11 (ins := .invokevirtual 118) rfl) (by decide) rfl (tg 809 (by decide +kernel) (by decide +kernel)) (tg 811 (by decide +kernel) (by decide +kernel)) (tg 21 (by decide +kernel) (by decide +kernel)) (tg 51 (by decide +kernel) (by decide +kernel)) (tg 812 (by decide +kernel) (by decide +kernel)) (⟨by decide, by decide, by decide +kernel⟩) (⟨by decide, by decide⟩) rfl rfl) (
  tkc (s_rI (at_ dl_X10_ends 12 (ins := .ireturn) rfl) rfl) ( tk0)))))))))))))
theorem lf_X10_ends : lk (tb_X10_ends) 0 = (x_al 1 0, false) ∧ lk (tb_X10_ends) 1 = (x_gR 10 4 4, false) ∧ lk (tb_X10_ends) 4 = (x_al 5 0, false) ∧ lk (tb_X10_ends) 5 = (x_gR 10 5 8, false) ∧ lk (tb_X10_ends) 8 = (x_cS 2 P_X10_copy 11, false) ∧ lk (tb_X10_ends) 11 = (x_al 12 0, false) ∧ lk (tb_X10_ends) 12 = (x_cV 10 0 P_X10_solve 15, false) ∧ lk (tb_X10_ends) 15 = (x_is 16 1, false) ∧ lk (tb_X10_ends) 16 = (x_al 17 0, false) ∧ lk (tb_X10_ends) 17 = (x_al 18 0, false) ∧ lk (tb_X10_ends) 18 = (x_gR 10 5 21, false) ∧ lk (tb_X10_ends) 21 = (x_cV 10 1 P_X10_wordOf 24, false) ∧ lk (tb_X10_ends) 24 = (x_rI, false) := ⟨rfl, rfl, rfl, rfl, rfl, rfl, rfl, rfl, rfl, rfl, rfl, rfl, rfl⟩
def P_X10_ends : PTT := fun as M R => match as with
  | [.ref z] => z = 108 ∧ IsMo M.1 ∧ ∃ a ord, RW (M.2.1 110) 0 a ∧ AOk a ∧ M.2.1 108 2 = nI (aN a) ∧ M.2.1 108 3 = nI (aM a) ∧ OrdM M.2.1 (aM a) ord ∧ ∀ I', frK 111 M.2.1 I' → R (some (.int (nI (wdA (runA a ord))))) (M.1, I', M.2.2)
  | _ => False
set_option maxRecDepth 20000 in
theorem ok_X10_ends : Ok yX10_ends mt_X10_ends P_X10_ends := by
  refine Ok.of (by decide) rfl rfl rfl rfl fun av ⟨S, I, L⟩ R hP => ?_
  unfold P_X10_ends at hP
  split at hP
  case h_2 => exact hP.elim
  rename_i z
  obtain ⟨z, rfl⟩ : ∃ q : Nat, q = z := ⟨z, rfl⟩
  refine ⟨by simp [ent, wide, mt_X10_ends], ?_⟩
  show J mt_X10_ends R 0 [some (.ref z), none] [] (S, I, L)
  try dsimp only at hP
  obtain ⟨rfl, hm, a, ord, hr, ha, en, em, hor, hR⟩ := hP
  refine J.of tk_X10_ends 200 fun ρ hρ => ?_
  simp only [hρ, x_c, x_il, x_ll, x_al, x_is, x_as, x_ls, x_inc, x_ii, x_iq, x_i1, x_l2, x_lq, x_lh, x_i2l, x_l2i, x_lcmp, x_dup, x_dup2, x_pop, x_if, x_ifn, x_ic, x_icn, x_go, x_sw, swc, x_l01, x_mx, x_gI, x_gL, x_gR, x_pI, x_pZ, x_pL, x_pR, x_ia, x_za, x_aa, x_ias, x_zas, x_aas, x_fac, x_fa, x_slen, x_sa, x_ac, x_oi, x_new, x_na, x_cS, x_cV, x_cI, x_rI, x_rZ, x_rL, x_r0, pa, short, oc, lg, lset, lset2, wide, cond_true, cond_false, true_and, and_true, ↓reduceIte, Bool.false_eq_true, true_or, or_true, lf_X10_ends, hm, hm.f, P_X10_copy, P_X10_solve, P_X10_wordOf]
  refine ⟨a, ord, by rw [mS_s]; exact hr.cp ha.1.2.2, ha, en, em, hor, fun I' r hf hr' => ?_⟩
  have e108 : I' 108 = I 108 := by rw [hf 108 (by omega) (by omega), mS_n (by omega)]
  exact ⟨rnA (runA a ord) r, MS.of hm (Or.inr rfl) hr' (rnA_ok (runA_ok ha)) (by rw [e108]; exact en) (by rw [e108]; exact em), hR I' (cp_fr.trans hf)⟩
/-- the best, as the model has it -/
theorem ndR_in {f : Nat → Bool} : ∀ {d r : Nat}, r + d ≤ 20 → (ndR f d r).1 = -9 ∨ ∃ k, k ≤ 20 ∧ (ndR f d r).1 = nI k
  | 0, r, h => by
    simp only [ndR]
    split
    · exact .inr ⟨r, by omega, rfl⟩
    · exact .inl rfl
  | d + 1, r, h => by
    simp only [ndR]
    split
    · exact .inr ⟨r, by omega, rfl⟩
    · exact ndR_in (by omega)
theorem ndO_in (a : AS) (ord : Nat → Nat) : (ndO a ord).1 = -9 ∨ ∃ k, k ≤ 20 ∧ (ndO a ord).1 = nI k := ndR_in (by omega)
theorem bsA_in (a : AS) : ∀ v, v ≤ 10 → ((bsA a v).1 = -9 ∧ (bsA a v).2 = 21) ∨ ((∃ k, k < v ∧ (bsA a v).1 = nI k) ∧ ∃ j, j ≤ 20 ∧ (bsA a v).2 = nI j)
  | 0, _ => .inl ⟨rfl, rfl⟩
  | v + 1, h => by
    simp only [bsA]
    split
    · next hc =>
      rcases ndO_in (ofA a (nI v)) id with h1 | ⟨k, hk, h1⟩
      · exact absurd h1 hc.1
      · exact .inr ⟨⟨v, by omega, rfl⟩, k, hk, h1⟩
    · rcases bsA_in a v (by omega) with h1 | ⟨⟨k, hk, h1⟩, h2⟩
      · exact .inl h1
      · exact .inr ⟨⟨k, by omega, h1⟩, h2⟩
/-- the model's least: -9 ahead of the first -/
def bsM (a : AS) (v : Nat) : Int32 := if (bsA a v).1 = -9 then -9 else (bsA a v).2
theorem RW.of {f : Nat → Int32} {a : AS} {v : Int32} (h : RW f 0 a) (hm : aM a ≤ 6) : RW (upd f 78 v) 0 (ofA a v) := by
  have e : ∀ j, upd f 78 v j = if j = 78 then v else f j := fun j => upd_app f 78 _ j
  refine ⟨fun b hb => ?_, fun b hb => ?_, fun c hc => ?_, fun j hj => ?_, ?_, ?_⟩
  · rw [e, if_neg (by omega)]; exact h.1 b hb
  · rw [e, if_neg (by omega)]; exact h.2.1 b hb
  · have : c < aM a := hc
    rw [e, if_neg (by omega)]; exact h.2.2.1 c hc
  · rw [e, if_neg (by omega)]; exact h.2.2.2.1 j hj
  · rw [e, if_pos (by omega)]; rfl
  · rw [e, if_neg (by omega)]; exact h.2.2.2.2.2
theorem k9 {k : Nat} (h : k < 100) : ¬ nI k = -9 := fun q => by
  have : tn (nI k) = tn (-9) := by rw [q]
  rw [tn_nI (by omega), show tn (-9) = 4294967287 by decide] at this
  omega
def il_X10_best : List (Nat × Instr × Nat) := [(0, .bipush (-9), 2), (2, .istore_n 1, 1), (3, .bipush (-9), 2), (5, .istore_n 2, 1), (6, .iconst 0, 1), (7, .istore_n 3, 1), (8, .iload_n 3, 1), (9, .bipush 10, 2), (11, .if_icmp .ge 58, 3), (14, .aload_n 0, 1), (15, .getfield 13, 3), (18, .aload_n 0, 1), (19, .getfield 16, 3), (22, .invokestatic 136, 3), (25, .aload_n 0, 1), (26, .getfield 16, 3), (29, .bipush 78, 2), (31, .iload_n 3, 1), (32, .iastore, 1), (33, .aload_n 0, 1), (34, .invokevirtual 140, 3), (37, .istore 4, 2), (39, .iload 4, 2), (41, .bipush (-9), 2), (43, .if_icmp .eq 20, 3), (46, .iload_n 1, 1), (47, .bipush (-9), 2), (49, .if_icmp .eq 9, 3), (52, .iload 4, 2), (54, .iload_n 2, 1), (55, .if_icmp .ge 8, 3), (58, .iload_n 3, 1), (59, .istore_n 1, 1), (60, .iload 4, 2), (62, .istore_n 2, 1), (63, .iinc 3 1, 3), (66, .goto (-58), 3), (69, .iload_n 1, 1), (70, .ireturn, 1)]
def mt_X10_best : Mt := (cX10_best, RX10, 5, (some .int), ({ frames := 4, cells := 0, slots := 0, locals := 93 } : Room), false, none, none)
set_option maxRecDepth 100000 in
theorem dl_X10_best : ∀ q ∈ il_X10_best, decode (mt_X10_best).1 q.1 = .ok q.2 := by decide +kernel
def tb_X10_best : Tb := [(0, x_c 2 (.int (-9)), false),
  (2, x_is 3 1, false),
  (3, x_c 5 (.int (-9)), false),
  (5, x_is 6 2, false),
  (6, x_c 7 (.int 0), false),
  (7, x_is 8 3, false),
  (8, x_il 9 3, true),
  (9, x_c 11 (.int 10), false),
  (11, x_ic 69 14 (fun x y : Int32 => y ≤ x), false),
  (14, x_al 15 0, false),
  (15, x_gR 10 4 18, false),
  (18, x_al 19 0, false),
  (19, x_gR 10 5 22, false),
  (22, x_cS 2 P_X10_copy 25, false),
  (25, x_al 26 0, false),
  (26, x_gR 10 5 29, false),
  (29, x_c 31 (.int 78), false),
  (31, x_il 32 3, false),
  (32, x_ias 33, false),
  (33, x_al 34 0, false),
  (34, x_cV 10 0 P_X10_solve 37, false),
  (37, x_is 39 4, false),
  (39, x_il 41 4, false),
  (41, x_c 43 (.int (-9)), false),
  (43, x_ic 63 46 (fun x y : Int32 => x = y), false),
  (46, x_il 47 1, false),
  (47, x_c 49 (.int (-9)), false),
  (49, x_ic 58 52 (fun x y : Int32 => x = y), false),
  (52, x_il 54 4, false),
  (54, x_il 55 2, false),
  (55, x_ic 63 58 (fun x y : Int32 => y ≤ x), false),
  (58, x_il 59 3, false),
  (59, x_is 60 1, false),
  (60, x_il 62 4, false),
  (62, x_is 63 2, false),
  (63, x_inc 66 3 1, false),
  (66, x_go 8, false),
  (69, x_il 70 1, false),
  (70, x_rI, false)]
set_option maxRecDepth 100000 in
theorem tk_X10_best : TbOk (mt_X10_best) (tb_X10_best) :=
  tkc (s_bipush (at_ dl_X10_best 0 (ins := .bipush (-9)) rfl) (by first | rfl | decide)) (
  tkc (s_istore_n (at_ dl_X10_best 1 (ins := .istore_n 1) rfl) (by decide)) (
  tkc (s_bipush (at_ dl_X10_best 2 (ins := .bipush (-9)) rfl) (by first | rfl | decide)) (
  tkc (s_istore_n (at_ dl_X10_best 3 (ins := .istore_n 2) rfl) (by decide)) (
  tkc (s_iconst (at_ dl_X10_best 4 (ins := .iconst 0) rfl) (by first | rfl | decide)) (
  tkc (s_istore_n (at_ dl_X10_best 5 (ins := .istore_n 3) rfl) (by decide)) (
  tkc (s_iload_n (at_ dl_X10_best 6 (ins := .iload_n 3) rfl)) (
  tkc (s_bipush (at_ dl_X10_best 7 (ins := .bipush 10) rfl) (by first | rfl | decide)) (
  tkc (s_ic_ge (at_ dl_X10_best 8 (ins := .if_icmp .ge 58) rfl) (by decide)) (
  tkc (s_aload_n (at_ dl_X10_best 9 (ins := .aload_n 0) rfl)) (
  tkc (s_gR (at_ dl_X10_best 10 (ins := .getfield 13) rfl) (by decide) (by decide) (by decide) (tg 700 (by decide +kernel) (by decide +kernel))) (
  tkc (s_aload_n (at_ dl_X10_best 11 (ins := .aload_n 0) rfl)) (
  tkc (s_gR (at_ dl_X10_best 12 (ins := .getfield 16) rfl) (by decide) (by decide) (by decide) (tg 701 (by decide +kernel) (by decide +kernel))) (
  tkc (s_cS ok_X10_copy (at_ dl_X10_best 13 (ins := .invokestatic 136) rfl) (tg 847 (by decide +kernel) (by decide +kernel)) (tg 848 (by decide +kernel) (by decide +kernel)) (tg 51 (by decide +kernel) (by decide +kernel)) (tg 849 (by decide +kernel) (by decide +kernel)) (⟨by decide, by decide, by decide +kernel⟩) (⟨by decide, by decide⟩) rfl rfl) (
  tkc (s_aload_n (at_ dl_X10_best 14 (ins := .aload_n 0) rfl)) (
  tkc (s_gR (at_ dl_X10_best 15 (ins := .getfield 16) rfl) (by decide) (by decide) (by decide) (tg 701 (by decide +kernel) (by decide +kernel))) (
  tkc (s_bipush (at_ dl_X10_best 16 (ins := .bipush 78) rfl) (by first | rfl | decide)) (
  tkc (s_iload_n (at_ dl_X10_best 17 (ins := .iload_n 3) rfl)) (
  tkc (s_ias (at_ dl_X10_best 18 (ins := .iastore) rfl)) (
  tkc (s_aload_n (at_ dl_X10_best 19 (ins := .aload_n 0) rfl)) (
  tkc (s_cV ok_X10_solve (at_ dl_X10_best 20 (ins := .invokevirtual 140) rfl) (by decide) rfl (tg 850 (by decide +kernel) (by decide +kernel)) (tg 852 (by decide +kernel) (by decide +kernel)) (tg 29 (by decide +kernel) (by decide +kernel)) (tg 51 (by decide +kernel) (by decide +kernel)) (tg 853 (by decide +kernel) (by decide +kernel)) (⟨by decide, by decide, by decide +kernel⟩) (⟨by decide, by decide⟩) rfl rfl) (
  tkc (s_istore (at_ dl_X10_best 21 (ins := .istore 4) rfl) (by decide)) (
  tkc (s_iload (at_ dl_X10_best 22 (ins := .iload 4) rfl)) (
  tkc (s_bipush (at_ dl_X10_best 23 (ins := .bipush (-9)) rfl) (by first | rfl | decide)) (
  tkc (s_ic_eq (at_ dl_X10_best 24 (ins := .if_icmp .eq 20) rfl) (by decide)) (
  tkc (s_iload_n (at_ dl_X10_best 25 (ins := .iload_n 1) rfl)) (
  tkc (s_bipush (at_ dl_X10_best 26 (ins := .bipush (-9)) rfl) (by first | rfl | decide)) (
  tkc (s_ic_eq (at_ dl_X10_best 27 (ins := .if_icmp .eq 9) rfl) (by decide)) (
  tkc (s_iload (at_ dl_X10_best 28 (ins := .iload 4) rfl)) (
  tkc (s_iload_n (at_ dl_X10_best 29 (ins := .iload_n 2) rfl)) (
  tkc (s_ic_ge (at_ dl_X10_best 30 (ins := .if_icmp .ge 8) rfl) (by decide)) (
  tkc (s_iload_n (at_ dl_X10_best 31 (ins := .iload_n 3) rfl)) (
  tkc (s_istore_n (at_ dl_X10_best 32 (ins := .istore_n 1) rfl) (by decide)) (
  tkc (s_iload (at_ dl_X10_best 33 (ins := .iload 4) rfl)) (
  tkc (s_istore_n (at_ dl_X10_best 34 (ins := .istore_n 2) rfl) (by decide)) (
  tkc (s_iinc (at_ dl_X10_best 35 (ins := .iinc 3 1) rfl) (by decide) (by first | rfl | decide)) (
  tkc (s_goto (at_ dl_X10_best 36 (ins := .goto (-58)) rfl) (by decide)) (
  tkc (s_iload_n (at_ dl_X10_best 37 (ins := .iload_n 1) rfl)) (
  tkc (s_rI (at_ dl_X10_best 38 (ins := .ireturn) rfl) rfl) ( tk0)))))))))))))))))))))))))))))))))))))))
theorem lf_X10_best : lk (tb_X10_best) 0 = (x_c 2 (.int (-9)), false) ∧ lk (tb_X10_best) 2 = (x_is 3 1, false) ∧ lk (tb_X10_best) 3 = (x_c 5 (.int (-9)), false) ∧ lk (tb_X10_best) 5 = (x_is 6 2, false) ∧ lk (tb_X10_best) 6 = (x_c 7 (.int 0), false) ∧ lk (tb_X10_best) 7 = (x_is 8 3, false) ∧ lk (tb_X10_best) 8 = (x_il 9 3, true) ∧ lk (tb_X10_best) 9 = (x_c 11 (.int 10), false) ∧ lk (tb_X10_best) 11 = (x_ic 69 14 (fun x y : Int32 => y ≤ x), false) ∧ lk (tb_X10_best) 14 = (x_al 15 0, false) ∧ lk (tb_X10_best) 15 = (x_gR 10 4 18, false) ∧ lk (tb_X10_best) 18 = (x_al 19 0, false) ∧ lk (tb_X10_best) 19 = (x_gR 10 5 22, false) ∧ lk (tb_X10_best) 22 = (x_cS 2 P_X10_copy 25, false) ∧ lk (tb_X10_best) 25 = (x_al 26 0, false) ∧ lk (tb_X10_best) 26 = (x_gR 10 5 29, false) ∧ lk (tb_X10_best) 29 = (x_c 31 (.int 78), false) ∧ lk (tb_X10_best) 31 = (x_il 32 3, false) ∧ lk (tb_X10_best) 32 = (x_ias 33, false) ∧ lk (tb_X10_best) 33 = (x_al 34 0, false) ∧ lk (tb_X10_best) 34 = (x_cV 10 0 P_X10_solve 37, false) ∧ lk (tb_X10_best) 37 = (x_is 39 4, false) ∧ lk (tb_X10_best) 39 = (x_il 41 4, false) ∧ lk (tb_X10_best) 41 = (x_c 43 (.int (-9)), false) ∧ lk (tb_X10_best) 43 = (x_ic 63 46 (fun x y : Int32 => x = y), false) ∧ lk (tb_X10_best) 46 = (x_il 47 1, false) ∧ lk (tb_X10_best) 47 = (x_c 49 (.int (-9)), false) ∧ lk (tb_X10_best) 49 = (x_ic 58 52 (fun x y : Int32 => x = y), false) ∧ lk (tb_X10_best) 52 = (x_il 54 4, false) ∧ lk (tb_X10_best) 54 = (x_il 55 2, false) ∧ lk (tb_X10_best) 55 = (x_ic 63 58 (fun x y : Int32 => y ≤ x), false) ∧ lk (tb_X10_best) 58 = (x_il 59 3, false) ∧ lk (tb_X10_best) 59 = (x_is 60 1, false) ∧ lk (tb_X10_best) 60 = (x_il 62 4, false) ∧ lk (tb_X10_best) 62 = (x_is 63 2, false) ∧ lk (tb_X10_best) 63 = (x_inc 66 3 1, false) ∧ lk (tb_X10_best) 66 = (x_go 8, false) ∧ lk (tb_X10_best) 69 = (x_il 70 1, false) ∧ lk (tb_X10_best) 70 = (x_rI, false) := ⟨rfl, rfl, rfl, rfl, rfl, rfl, rfl, rfl, rfl, rfl, rfl, rfl, rfl, rfl, rfl, rfl, rfl, rfl, rfl, rfl, rfl, rfl, rfl, rfl, rfl, rfl, rfl, rfl, rfl, rfl, rfl, rfl, rfl, rfl, rfl, rfl, rfl, rfl, rfl⟩
def P_X10_best : PTT := fun as M R => match as with
  | [.ref z] => z = 108 ∧ IsMo M.1 ∧ ∃ a, RW (M.2.1 110) 0 a ∧ AOk a ∧ M.2.1 108 2 = nI (aN a) ∧ M.2.1 108 3 = nI (aM a) ∧ OrdM M.2.1 (aM a) id ∧ ∀ I', frK 111 M.2.1 I' → R (some (.int (bsA a 10).1)) (M.1, I', M.2.2)
  | _ => False
set_option maxRecDepth 20000 in
theorem ok_X10_best : Ok yX10_best mt_X10_best P_X10_best := by
  refine Ok.of (by decide) rfl rfl rfl rfl fun av ⟨S, I, L⟩ R hP => ?_
  unfold P_X10_best at hP
  split at hP
  case h_2 => exact hP.elim
  rename_i z
  obtain ⟨z, rfl⟩ : ∃ q : Nat, q = z := ⟨z, rfl⟩
  refine ⟨by simp [ent, wide, mt_X10_best], ?_⟩
  show J mt_X10_best R 0 [some (.ref z), none, none, none, none] [] (S, I, L)
  try dsimp only at hP
  obtain ⟨rfl, hm, a, hr, ha, en, em, hor, hR⟩ := hP
  have key := up (P := fun v => ∀ I', frK 111 I I' → J mt_X10_best R 8 [some (.ref 108), some (.int (bsA a v).1), some (.int (bsM a v)), some (.int (nI v)), none] [] (S, I', L)) (n := 10) (fun v hv ih I' hf => ?_) 0 (Nat.zero_le _) I (fun _ _ _ => rfl)
  · refine J.of tk_X10_best 200 fun ρ hρ => ?_
    simp only [hρ, x_c, x_il, x_ll, x_al, x_is, x_as, x_ls, x_inc, x_ii, x_iq, x_i1, x_l2, x_lq, x_lh, x_i2l, x_l2i, x_lcmp, x_dup, x_dup2, x_pop, x_if, x_ifn, x_ic, x_icn, x_go, x_sw, swc, x_l01, x_mx, x_gI, x_gL, x_gR, x_pI, x_pZ, x_pL, x_pR, x_ia, x_za, x_aa, x_ias, x_zas, x_aas, x_fac, x_fa, x_slen, x_sa, x_ac, x_oi, x_new, x_na, x_cS, x_cV, x_cI, x_rI, x_rZ, x_rL, x_r0, pa, short, oc, lg, lset, lset2, wide, cond_true, cond_false, true_and, and_true, ↓reduceIte, Bool.false_eq_true, true_or, or_true, lf_X10_best]
    exact key
  by_cases hlt : v < 10
  · have e108 : I' 108 = I 108 := hf 108 (by omega) (by omega)
    have e110 : I' 110 = I 110 := hf 110 (by omega) (by omega)
    have e117 : I' 117 = I 117 := hf 117 (by omega) (by omega)
    have e78 : (78 : Int32).toNatClampNeg = 78 := by decide
    have v78 : vp_in 78 80 := vp_in_nI (n := 78) (by omega) (by omega)
    refine J.of tk_X10_best 200 fun ρ hρ => ?_
    simp only [hρ, x_c, x_il, x_ll, x_al, x_is, x_as, x_ls, x_inc, x_ii, x_iq, x_i1, x_l2, x_lq, x_lh, x_i2l, x_l2i, x_lcmp, x_dup, x_dup2, x_pop, x_if, x_ifn, x_ic, x_icn, x_go, x_sw, swc, x_l01, x_mx, x_gI, x_gL, x_gR, x_pI, x_pZ, x_pL, x_pR, x_ia, x_za, x_aa, x_ias, x_zas, x_aas, x_fac, x_fa, x_slen, x_sa, x_ac, x_oi, x_new, x_na, x_cS, x_cV, x_cI, x_rI, x_rZ, x_rL, x_r0, pa, short, oc, lg, lset, lset2, wide, cond_true, cond_false, true_and, and_true, ↓reduceIte, Bool.false_eq_true, true_or, or_true, lf_X10_best, hm, hm.f, e78, eq_true v78, nI10, nI_leI (show 10 < 2 ^ 31 by omega) (show v < 2 ^ 31 by omega), P_X10_copy, P_X10_solve, nI_1, mS_s, mS_ss]
    refine ⟨fun h => absurd h (by omega), fun _ => ⟨ofA a (nI v), id, by rw [e110]; exact (hr.cp ha.1.2.2).of ha.1.2.2, ⟨ha.1, ha.2.1, ⟨v, by omega, rfl⟩, ha.2.2.2.1, ha.2.2.2.2⟩, by rw [mS_n (by omega), e108]; exact en, by rw [mS_n (by omega), e108]; exact em, fun i hi => by rw [mS_n (by omega), e117]; exact hor i hi, fun I2 r hf2 _ => ?_⟩⟩
    have hnx := ih hlt I2 (hf.trans (cp_fr.trans hf2))
    have hT : ∀ nd, (ndO (ofA a (nI v)) id).1 = nd → ¬ nd = -9 → nd < (bsA a v).2 → ∀ w, J mt_X10_best R 8 [some (.ref 108), some (.int (nI v)), some (.int nd), some (.int (nI (v + 1))), some w] [] (S, I2, L) := fun nd e q1 q2 w => by
      have e1 : bsA a (v + 1) = (nI v, nd) := by rw [bsA, e, if_pos ⟨q1, q2⟩]
      have e2 : bsM a (v + 1) = nd := by rw [bsM, e1, if_neg (k9 (by omega))]
      rw [e1, e2] at hnx
      exact J.weak (by simp [lsub]) hnx
    have hN : ∀ nd, (ndO (ofA a (nI v)) id).1 = nd → ¬ (¬ nd = -9 ∧ nd < (bsA a v).2) → ∀ w, J mt_X10_best R 8 [some (.ref 108), some (.int (bsA a v).1), some (.int (bsM a v)), some (.int (nI (v + 1))), some w] [] (S, I2, L) := fun nd e q w => by
      have e1 : bsA a (v + 1) = bsA a v := by rw [bsA, e, if_neg q]
      have e2 : bsM a (v + 1) = bsM a v := by rw [bsM, bsM, e1]
      rw [e1, e2] at hnx
      exact J.weak (by simp [lsub]) hnx
    refine ⟨fun h => hN _ rfl (fun q => q.1 h) _, fun h => ⟨fun h2 => hT _ rfl h ?_ _, fun h2 => ⟨fun h3 => hN _ rfl (fun q => ?_) _, fun h3 => hT _ rfl h ?_ _⟩⟩⟩
    · rcases bsA_in a v hv with ⟨-, q⟩ | ⟨⟨k, hk, q⟩, -⟩
      · rw [q]
        rcases ndO_in (ofA a (nI v)) id with h1 | ⟨k, hk, h1⟩
        · exact absurd h1 h
        · rw [h1, show (21 : Int32) = nI 21 by decide, nI_ltI (by omega) (by omega)]; omega
      · rw [q] at h2; exact absurd h2 (k9 (by omega))
    · rw [bsM, if_neg h2] at h3
      exact absurd h3 (Int32.not_le.mpr q.2)
    · rw [bsM, if_neg h2] at h3
      exact Int32.not_le.mp h3
  · have : v = 10 := by omega
    subst this
    refine J.of tk_X10_best 200 fun ρ hρ => ?_
    simp only [hρ, x_c, x_il, x_ll, x_al, x_is, x_as, x_ls, x_inc, x_ii, x_iq, x_i1, x_l2, x_lq, x_lh, x_i2l, x_l2i, x_lcmp, x_dup, x_dup2, x_pop, x_if, x_ifn, x_ic, x_icn, x_go, x_sw, swc, x_l01, x_mx, x_gI, x_gL, x_gR, x_pI, x_pZ, x_pL, x_pR, x_ia, x_za, x_aa, x_ias, x_zas, x_aas, x_fac, x_fa, x_slen, x_sa, x_ac, x_oi, x_new, x_na, x_cS, x_cV, x_cI, x_rI, x_rZ, x_rL, x_r0, pa, short, oc, lg, lset, lset2, wide, cond_true, cond_false, true_and, and_true, ↓reduceIte, Bool.false_eq_true, true_or, or_true, lf_X10_best, nI10, nI_leI (show 10 < 2 ^ 31 by omega) (show 10 < 2 ^ 31 by omega), Nat.le_refl, true_implies, not_true_eq_false, false_implies]
    exact hR I' hf
