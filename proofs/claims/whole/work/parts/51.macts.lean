/-! ACTS of the model -/
theorem MR.now {S : Sh} {I : MI} {L : Nat → Nat → Int64} {g : GS} {f : Nat → Int32} {a : AS} (h : MR S I L g) (hr : RW f 0 a) (hz : sz a (gA g)) : MR S (mS I 110 f) L (GA g a) := by
  obtain ⟨h1, h2, h3, h4, h5, h6, h7, h8, h9⟩ := h
  refine ⟨h1, h2, ?_, ?_, h5, h6, h7, h8, h9⟩
  · show I 108 2 = nI (aN a) ∧ I 108 3 = nI (aM a)
    rw [hz.1, hz.2]; exact h3
  · rw [mS_s]; exact hr
def il_X10_begin : List (Nat × Instr × Nat) := [(0, .aload_n 0, 1), (1, .invokevirtual 184, 3), (4, .aload_n 0, 1), (5, .getfield 13, 3), (8, .invokestatic 126, 3), (11, .aload_n 0, 1), (12, .aload_n 0, 1), (13, .getfield 13, 3), (16, .invokevirtual 118, 3), (19, .ireturn, 1)]
def mt_X10_begin : Mt := (cX10_begin, RX10, 1, (some .int), ({ frames := 1, cells := 0, slots := 0, locals := 23 } : Room), false, none, none)
set_option maxRecDepth 100000 in
theorem dl_X10_begin : ∀ q ∈ il_X10_begin, decode (mt_X10_begin).1 q.1 = .ok q.2 := by decide +kernel
def tb_X10_begin : Tb := [(0, x_al 1 0, false),
  (1, x_cV 10 0 P_X10_note 4, false),
  (4, x_al 5 0, false),
  (5, x_gR 10 4 8, false),
  (8, x_cS 1 P_X10_beginOn 11, false),
  (11, x_al 12 0, false),
  (12, x_al 13 0, false),
  (13, x_gR 10 4 16, false),
  (16, x_cV 10 1 P_X10_wordOf 19, false),
  (19, x_rI, false)]
set_option maxRecDepth 100000 in
theorem tk_X10_begin : TbOk (mt_X10_begin) (tb_X10_begin) :=
  tkc (s_aload_n (at_ dl_X10_begin 0 (ins := .aload_n 0) rfl)) (
  tkc (s_cV ok_X10_note (at_ dl_X10_begin 1 (ins := .invokevirtual 184) rfl) (by decide) rfl (tg 906 (by decide +kernel) (by decide +kernel)) (tg 908 (by decide +kernel) (by decide +kernel)) (tg 37 (by decide +kernel) (by decide +kernel)) (tg 51 (by decide +kernel) (by decide +kernel)) (tg 909 (by decide +kernel) (by decide +kernel)) (⟨by decide, by decide, by decide +kernel⟩) (⟨by decide, by decide⟩) rfl rfl) (
  tkc (s_aload_n (at_ dl_X10_begin 2 (ins := .aload_n 0) rfl)) (
  tkc (s_gR (at_ dl_X10_begin 3 (ins := .getfield 13) rfl) (by decide) (by decide) (by decide) (tg 700 (by decide +kernel) (by decide +kernel))) (
  tkc (s_cS ok_X10_beginOn (at_ dl_X10_begin 4 (ins := .invokestatic 126) rfl) (tg 854 (by decide +kernel) (by decide +kernel)) (tg 855 (by decide +kernel) (by decide +kernel)) (tg 51 (by decide +kernel) (by decide +kernel)) (tg 856 (by decide +kernel) (by decide +kernel)) (⟨by decide, by decide, by decide +kernel⟩) (⟨by decide, by decide⟩) rfl rfl) (
  tkc (s_aload_n (at_ dl_X10_begin 5 (ins := .aload_n 0) rfl)) (
  tkc (s_aload_n (at_ dl_X10_begin 6 (ins := .aload_n 0) rfl)) (
  tkc (s_gR (at_ dl_X10_begin 7 (ins := .getfield 13) rfl) (by decide) (by decide) (by decide) (tg 700 (by decide +kernel) (by decide +kernel))) (
  tkc (s_cV ok_X10_wordOf (at_ dl_X10_begin 8 (ins := .invokevirtual 118) rfl) (by decide) rfl (tg 809 (by decide +kernel) (by decide +kernel)) (tg 811 (by decide +kernel) (by decide +kernel)) (tg 21 (by decide +kernel) (by decide +kernel)) (tg 51 (by decide +kernel) (by decide +kernel)) (tg 812 (by decide +kernel) (by decide +kernel)) (⟨by decide, by decide, by decide +kernel⟩) (⟨by decide, by decide⟩) rfl rfl) (
  tkc (s_rI (at_ dl_X10_begin 9 (ins := .ireturn) rfl) rfl) ( tk0))))))))))
theorem lf_X10_begin : lk (tb_X10_begin) 0 = (x_al 1 0, false) ∧ lk (tb_X10_begin) 1 = (x_cV 10 0 P_X10_note 4, false) ∧ lk (tb_X10_begin) 4 = (x_al 5 0, false) ∧ lk (tb_X10_begin) 5 = (x_gR 10 4 8, false) ∧ lk (tb_X10_begin) 8 = (x_cS 1 P_X10_beginOn 11, false) ∧ lk (tb_X10_begin) 11 = (x_al 12 0, false) ∧ lk (tb_X10_begin) 12 = (x_al 13 0, false) ∧ lk (tb_X10_begin) 13 = (x_gR 10 4 16, false) ∧ lk (tb_X10_begin) 16 = (x_cV 10 1 P_X10_wordOf 19, false) ∧ lk (tb_X10_begin) 19 = (x_rI, false) := ⟨rfl, rfl, rfl, rfl, rfl, rfl, rfl, rfl, rfl, rfl⟩
def P_X10_begin : PTT := fun as M R => match as with
  | [.ref k] => k = 108 ∧ ∃ g, MR M.1 M.2.1 M.2.2 g ∧ GOk g ∧ Anm M R (gBegin g).1 (gBegin g).2
  | _ => False
set_option maxRecDepth 20000 in
theorem ok_X10_begin : Ok yX10_begin mt_X10_begin P_X10_begin := by
  refine Ok.of (by decide) rfl rfl rfl rfl fun av ⟨S, I, L⟩ R hP => ?_
  unfold P_X10_begin at hP
  split at hP
  case h_2 => exact hP.elim
  rename_i k
  obtain ⟨k, rfl⟩ : ∃ q : Nat, q = k := ⟨k, rfl⟩
  refine ⟨by simp [ent, wide, mt_X10_begin], ?_⟩
  show J mt_X10_begin R 0 [some (.ref k)] [] (S, I, L)
  try dsimp only at hP
  obtain ⟨rfl, g, hc, ho, hA⟩ := hP
  have h1 := hc.1
  refine J.of tk_X10_begin 200 fun ρ hρ => ?_
  simp only [hρ, x_c, x_il, x_ll, x_al, x_is, x_as, x_ls, x_inc, x_ii, x_iq, x_i1, x_l2, x_lq, x_lh, x_i2l, x_l2i, x_lcmp, x_dup, x_dup2, x_pop, x_if, x_ifn, x_ic, x_icn, x_go, x_sw, swc, x_l01, x_mx, x_gI, x_gL, x_gR, x_pI, x_pZ, x_pL, x_pR, x_ia, x_za, x_aa, x_ias, x_zas, x_aas, x_fac, x_fa, x_slen, x_sa, x_ac, x_oi, x_new, x_na, x_cS, x_cV, x_cI, x_rI, x_rZ, x_rL, x_r0, pa, short, oc, lg, lset, lset2, wide, cond_true, cond_false, true_and, and_true, ↓reduceIte, Bool.false_eq_true, true_or, or_true, lf_X10_begin, h1.f, P_X10_note, P_X10_beginOn, P_X10_wordOf]
  refine ⟨g, hc, ho, fun I' hl hc' => ?_⟩
  have hn := hc'.now (hc'.2.2.2.1.bg ho.2.1.1.2.2) ⟨rfl, rfl⟩
  exact ⟨begA (gA g), MS.of h1 (Or.inl rfl) hn.2.2.2.1 (begA_ok ho.2.1) hn.2.2.1.1 hn.2.2.1.2, hA _ L (fun q hq => by rw [mS_n (by omega)]; exact hl q hq) (fun _ _ => rfl) hn⟩
