/-! THE MODEL holds g -/
def NT (I : MI) (g : GS) : Prop := I 108 1 = nI (gL g) ∧ ∀ j, j < gL g → I 109 j = nI (gT g j)
def NZ (I : MI) (g : GS) : Prop := I 108 2 = nI (aN (gA g)) ∧ I 108 3 = nI (aM (gA g))
def NA (I : MI) (g : GS) : Prop := I 108 7 = nI (gC g) ∧ ∃ x, x < 14 ∧ I 108 8 = nI x ∧ ∀ j, j < gC g → RW (I 112) (80 * ((x + 13 - j) % 14)) (gH g j)
def NK (I : MI) (g : GS) : Prop := ∀ i, i < 2 → I 114 i = bB (gK g i) ∧ (gK g i = true → RW (I 113) (80 * i) (gS g i))
def NE (I : MI) (g : GS) : Prop := I 108 13 = nI (gN g) ∧ ∀ i, i < gN g → I 115 i = gB g i ∧ I 116 i = gO g i
def OrdN (I : MI) : Prop := ∀ i, i < 6 → I 117 i = nI i
def MR (S : Sh) (I : MI) (L : Nat → Nat → Int64) (g : GS) : Prop := IsMo S ∧ NT I g ∧ NZ I g ∧ RW (I 110) 0 (gA g) ∧ NA I g ∧ NK I g ∧ NE I g ∧ L 108 14 = gZ g ∧ OrdN I
theorem OrdN.O {I : MI} (h : OrdN I) {m : Nat} (hm : m ≤ 6) : OrdM I m id := fun i hi => ⟨h i (by omega), hi⟩
/-- nothing but what is free to be written over is another -/
def frM (I I' : MI) : Prop := (∀ q, q ≠ 108 → q ≠ 111 → (q < 118 ∨ 123 ≤ q) → I' q = I q) ∧ ∀ j, j < 20 → I' 108 j = I 108 j
theorem frM.refl (I : MI) : frM I I := ⟨fun _ _ _ _ => rfl, fun _ _ => rfl⟩
theorem frM.trans {A B C : MI} (h : frM A B) (h' : frM B C) : frM A C := ⟨fun q a b c => (h'.1 q a b c).trans (h.1 q a b c), fun j hj => (h'.2 j hj).trans (h.2 j hj)⟩
theorem frK.M {I I' : MI} (h : frK 111 I I') : frM I I' := ⟨fun q a b c => h q b (by omega), fun j _ => by rw [h 108 (by omega) (by omega)]⟩
theorem MR.fr {S : Sh} {I I' : MI} {L : Nat → Nat → Int64} {g : GS} (h : MR S I L g) (hf : frM I I') : MR S I' L g := by
  obtain ⟨h1, h2, h3, h4, h5, h6, h7, h8, h9⟩ := h
  obtain ⟨f1, f2⟩ := hf
  have e109 := f1 109 (by omega) (by omega) (by omega)
  have e110 := f1 110 (by omega) (by omega) (by omega)
  have e112 := f1 112 (by omega) (by omega) (by omega)
  have e113 := f1 113 (by omega) (by omega) (by omega)
  have e114 := f1 114 (by omega) (by omega) (by omega)
  have e115 := f1 115 (by omega) (by omega) (by omega)
  have e116 := f1 116 (by omega) (by omega) (by omega)
  have e117 := f1 117 (by omega) (by omega) (by omega)
  refine ⟨h1, ?_, ?_, by rw [e110]; exact h4, ?_, ?_, ?_, h8, ?_⟩
  · unfold NT; rw [f2 1 (by omega), e109]; exact h2
  · unfold NZ; rw [f2 2 (by omega), f2 3 (by omega)]; exact h3
  · unfold NA; rw [f2 7 (by omega), f2 8 (by omega), e112]; exact h5
  · unfold NK; rw [e113, e114]; exact h6
  · unfold NE; rw [f2 13 (by omega), e115, e116]; exact h7
  · unfold OrdN; rw [e117]; exact h9
/-- an answer of the model, and what it holds behind it -/
def lo8 (I I' : MI) : Prop := ∀ q, q < 108 → I' q = I q
theorem frM.lo {I I' : MI} (h : frM I I') : lo8 I I' := fun q hq => h.1 q (by omega) (by omega) (by omega)
def Anm (M : Mem) (R : Option Value → Mem → Prop) (v : Int32) (g : GS) : Prop := ∀ I' L', lo8 M.2.1 I' → (∀ q, q ≠ 108 → L' q = M.2.2 q) → MR M.1 I' L' g → R (some (.int v)) (M.1, I', L')
theorem Anm.q {M : Mem} {R : Option Value → Mem → Prop} {v : Int32} {g : GS} (h : Anm M R v g) (hc : MR M.1 M.2.1 M.2.2 g) {I' : MI} (hf : frM M.2.1 I') : R (some (.int v)) (M.1, I', M.2.2) := h I' M.2.2 hf.lo (fun _ _ => rfl) (hc.fr hf)
theorem Anm.s {S : Sh} {I : MI} {L : Nat → Nat → Int64} {R : Option Value → Mem → Prop} {v : Int32} {g : GS} (h : Anm (S, I, L) R v g) (hc : MR S I L g) : R (some (.int v)) (S, I, L) := h.q hc (frM.refl _)
theorem Anm.e {M : Mem} {R : Option Value → Mem → Prop} {p : Int32 × GS} {v : Int32} {g : GS} (h : Anm M R p.1 p.2) (e : p = (v, g)) : Anm M R v g := by rw [e] at h; exact h
/-- wipe -/
def il_X10_wipe : List (Nat × Instr × Nat) := [(0, .aload_n 0, 1), (1, .getfield 69, 3), (4, .istore_n 1, 1), (5, .aload_n 0, 1), (6, .iconst 0, 1), (7, .putfield 69, 3), (10, .iload_n 1, 1), (11, .ireturn, 1)]
def mt_X10_wipe : Mt := (cX10_wipe, RX10, 2, (some .int), ({ frames := 0, cells := 0, slots := 0, locals := 0 } : Room), false, none, none)
set_option maxRecDepth 100000 in
theorem dl_X10_wipe : ∀ q ∈ il_X10_wipe, decode (mt_X10_wipe).1 q.1 = .ok q.2 := by decide +kernel
def tb_X10_wipe : Tb := [(0, x_al 1 0, false),
  (1, x_gI 10 1 4, false),
  (4, x_is 5 1, false),
  (5, x_al 6 0, false),
  (6, x_c 7 (.int 0), false),
  (7, x_pI 10 1 10, false),
  (10, x_il 11 1, false),
  (11, x_rI, false)]
set_option maxRecDepth 100000 in
theorem tk_X10_wipe : TbOk (mt_X10_wipe) (tb_X10_wipe) :=
  tkc (s_aload_n (at_ dl_X10_wipe 0 (ins := .aload_n 0) rfl)) (
  tkc (s_gI (at_ dl_X10_wipe 1 (ins := .getfield 69) rfl) (by decide) (by decide) (by decide) (tg 697 (by decide +kernel) (by decide +kernel))) (
  tkc (s_istore_n (at_ dl_X10_wipe 2 (ins := .istore_n 1) rfl) (by decide)) (
  tkc (s_aload_n (at_ dl_X10_wipe 3 (ins := .aload_n 0) rfl)) (
  tkc (s_iconst (at_ dl_X10_wipe 4 (ins := .iconst 0) rfl) (by first | rfl | decide)) (
  tkc (s_pI (at_ dl_X10_wipe 5 (ins := .putfield 69) rfl) (by decide) (by decide) (by decide) (by decide) (tg 697 (by decide +kernel) (by decide +kernel))) (
  tkc (s_iload_n (at_ dl_X10_wipe 6 (ins := .iload_n 1) rfl)) (
  tkc (s_rI (at_ dl_X10_wipe 7 (ins := .ireturn) rfl) rfl) ( tk0))))))))
theorem lf_X10_wipe : lk (tb_X10_wipe) 0 = (x_al 1 0, false) ∧ lk (tb_X10_wipe) 1 = (x_gI 10 1 4, false) ∧ lk (tb_X10_wipe) 4 = (x_is 5 1, false) ∧ lk (tb_X10_wipe) 5 = (x_al 6 0, false) ∧ lk (tb_X10_wipe) 6 = (x_c 7 (.int 0), false) ∧ lk (tb_X10_wipe) 7 = (x_pI 10 1 10, false) ∧ lk (tb_X10_wipe) 10 = (x_il 11 1, false) ∧ lk (tb_X10_wipe) 11 = (x_rI, false) := ⟨rfl, rfl, rfl, rfl, rfl, rfl, rfl, rfl⟩
def P_X10_wipe : PTT := fun as M R => match as with
  | [.ref k] => k = 108 ∧ ∃ g, MR M.1 M.2.1 M.2.2 g ∧ GOk g ∧ Anm M R (gWipe g).1 (gWipe g).2
  | _ => False
set_option maxRecDepth 20000 in
theorem ok_X10_wipe : Ok yX10_wipe mt_X10_wipe P_X10_wipe := by
  refine Ok.of (by decide) rfl rfl rfl rfl fun av ⟨S, I, L⟩ R hP => ?_
  unfold P_X10_wipe at hP
  split at hP
  case h_2 => exact hP.elim
  rename_i k
  obtain ⟨k, rfl⟩ : ∃ q : Nat, q = k := ⟨k, rfl⟩
  refine ⟨by simp [ent, wide, mt_X10_wipe], ?_⟩
  show J mt_X10_wipe R 0 [some (.ref k), none] [] (S, I, L)
  try dsimp only at hP
  obtain ⟨rfl, g, ⟨h1, h2, h3, h4, h5, h6, h7, h8, h9⟩, ho, hA⟩ := hP
  refine J.of tk_X10_wipe 200 fun ρ hρ => ?_
  simp only [hρ, x_c, x_il, x_ll, x_al, x_is, x_as, x_ls, x_inc, x_ii, x_iq, x_i1, x_l2, x_lq, x_lh, x_i2l, x_l2i, x_lcmp, x_dup, x_dup2, x_pop, x_if, x_ifn, x_ic, x_icn, x_go, x_sw, swc, x_l01, x_mx, x_gI, x_gL, x_gR, x_pI, x_pZ, x_pL, x_pR, x_ia, x_za, x_aa, x_ias, x_zas, x_aas, x_fac, x_fa, x_slen, x_sa, x_ac, x_oi, x_new, x_na, x_cS, x_cV, x_cI, x_rI, x_rZ, x_rL, x_r0, pa, short, oc, lg, lset, lset2, wide, cond_true, cond_false, true_and, and_true, ↓reduceIte, Bool.false_eq_true, true_or, or_true, lf_X10_wipe, h1.f, h2.1]
  exact hA _ L (fun q hq => mS_n (by omega)) (fun _ _ => rfl) ⟨h1, ⟨by rw [mS_s, upd_s]; rfl, fun j hj => absurd hj (Nat.not_lt_zero j)⟩, h3, h4, h5, h6, h7, h8, h9⟩
/-- unsee -/
def il_X10_unsee : List (Nat × Instr × Nat) := [(0, .aload_n 0, 1), (1, .getfield 165, 3), (4, .istore_n 1, 1), (5, .aload_n 0, 1), (6, .iconst 0, 1), (7, .putfield 165, 3), (10, .iload_n 1, 1), (11, .ireturn, 1)]
def mt_X10_unsee : Mt := (cX10_unsee, RX10, 2, (some .int), ({ frames := 0, cells := 0, slots := 0, locals := 0 } : Room), false, none, none)
set_option maxRecDepth 100000 in
theorem dl_X10_unsee : ∀ q ∈ il_X10_unsee, decode (mt_X10_unsee).1 q.1 = .ok q.2 := by decide +kernel
def tb_X10_unsee : Tb := [(0, x_al 1 0, false),
  (1, x_gI 10 13 4, false),
  (4, x_is 5 1, false),
  (5, x_al 6 0, false),
  (6, x_c 7 (.int 0), false),
  (7, x_pI 10 13 10, false),
  (10, x_il 11 1, false),
  (11, x_rI, false)]
set_option maxRecDepth 100000 in
theorem tk_X10_unsee : TbOk (mt_X10_unsee) (tb_X10_unsee) :=
  tkc (s_aload_n (at_ dl_X10_unsee 0 (ins := .aload_n 0) rfl)) (
  tkc (s_gI (at_ dl_X10_unsee 1 (ins := .getfield 165) rfl) (by decide) (by decide) (by decide) (tg 709 (by decide +kernel) (by decide +kernel))) (
  tkc (s_istore_n (at_ dl_X10_unsee 2 (ins := .istore_n 1) rfl) (by decide)) (
  tkc (s_aload_n (at_ dl_X10_unsee 3 (ins := .aload_n 0) rfl)) (
  tkc (s_iconst (at_ dl_X10_unsee 4 (ins := .iconst 0) rfl) (by first | rfl | decide)) (
  tkc (s_pI (at_ dl_X10_unsee 5 (ins := .putfield 165) rfl) (by decide) (by decide) (by decide) (by decide) (tg 709 (by decide +kernel) (by decide +kernel))) (
  tkc (s_iload_n (at_ dl_X10_unsee 6 (ins := .iload_n 1) rfl)) (
  tkc (s_rI (at_ dl_X10_unsee 7 (ins := .ireturn) rfl) rfl) ( tk0))))))))
theorem lf_X10_unsee : lk (tb_X10_unsee) 0 = (x_al 1 0, false) ∧ lk (tb_X10_unsee) 1 = (x_gI 10 13 4, false) ∧ lk (tb_X10_unsee) 4 = (x_is 5 1, false) ∧ lk (tb_X10_unsee) 5 = (x_al 6 0, false) ∧ lk (tb_X10_unsee) 6 = (x_c 7 (.int 0), false) ∧ lk (tb_X10_unsee) 7 = (x_pI 10 13 10, false) ∧ lk (tb_X10_unsee) 10 = (x_il 11 1, false) ∧ lk (tb_X10_unsee) 11 = (x_rI, false) := ⟨rfl, rfl, rfl, rfl, rfl, rfl, rfl, rfl⟩
def P_X10_unsee : PTT := fun as M R => match as with
  | [.ref k] => k = 108 ∧ ∃ g, MR M.1 M.2.1 M.2.2 g ∧ GOk g ∧ Anm M R (gUnsee g).1 (gUnsee g).2
  | _ => False
set_option maxRecDepth 20000 in
theorem ok_X10_unsee : Ok yX10_unsee mt_X10_unsee P_X10_unsee := by
  refine Ok.of (by decide) rfl rfl rfl rfl fun av ⟨S, I, L⟩ R hP => ?_
  unfold P_X10_unsee at hP
  split at hP
  case h_2 => exact hP.elim
  rename_i k
  obtain ⟨k, rfl⟩ : ∃ q : Nat, q = k := ⟨k, rfl⟩
  refine ⟨by simp [ent, wide, mt_X10_unsee], ?_⟩
  show J mt_X10_unsee R 0 [some (.ref k), none] [] (S, I, L)
  try dsimp only at hP
  obtain ⟨rfl, g, ⟨h1, h2, h3, h4, h5, h6, h7, h8, h9⟩, ho, hA⟩ := hP
  refine J.of tk_X10_unsee 200 fun ρ hρ => ?_
  simp only [hρ, x_c, x_il, x_ll, x_al, x_is, x_as, x_ls, x_inc, x_ii, x_iq, x_i1, x_l2, x_lq, x_lh, x_i2l, x_l2i, x_lcmp, x_dup, x_dup2, x_pop, x_if, x_ifn, x_ic, x_icn, x_go, x_sw, swc, x_l01, x_mx, x_gI, x_gL, x_gR, x_pI, x_pZ, x_pL, x_pR, x_ia, x_za, x_aa, x_ias, x_zas, x_aas, x_fac, x_fa, x_slen, x_sa, x_ac, x_oi, x_new, x_na, x_cS, x_cV, x_cI, x_rI, x_rZ, x_rL, x_r0, pa, short, oc, lg, lset, lset2, wide, cond_true, cond_false, true_and, and_true, ↓reduceIte, Bool.false_eq_true, true_or, or_true, lf_X10_unsee, h1.f, h7.1]
  exact hA _ L (fun q hq => mS_n (by omega)) (fun _ _ => rfl) ⟨h1, h2, h3, h4, h5, h6, ⟨by rw [mS_s, upd_s]; rfl, fun j hj => absurd hj (Nat.not_lt_zero j)⟩, h8, h9⟩
/-- seed -/
def il_X10_seed : List (Nat × Instr × Nat) := [(0, .aload_n 0, 1), (1, .getfield 230, 3), (4, .lstore_n 3, 1), (5, .aload_n 0, 1), (6, .lload_n 1, 1), (7, .putfield 230, 3), (10, .lload_n 3, 1), (11, .lreturn, 1)]
def mt_X10_seed : Mt := (cX10_seed, RX10, 5, (some .long), ({ frames := 0, cells := 0, slots := 0, locals := 0 } : Room), false, none, none)
set_option maxRecDepth 100000 in
theorem dl_X10_seed : ∀ q ∈ il_X10_seed, decode (mt_X10_seed).1 q.1 = .ok q.2 := by decide +kernel
def tb_X10_seed : Tb := [(0, x_al 1 0, false),
  (1, x_gL 10 14 4, false),
  (4, x_ls 5 3, false),
  (5, x_al 6 0, false),
  (6, x_ll 7 1, false),
  (7, x_pL 10 14 10, false),
  (10, x_ll 11 3, false),
  (11, x_rL, false)]
set_option maxRecDepth 100000 in
theorem tk_X10_seed : TbOk (mt_X10_seed) (tb_X10_seed) :=
  tkc (s_aload_n (at_ dl_X10_seed 0 (ins := .aload_n 0) rfl)) (
  tkc (s_gL (at_ dl_X10_seed 1 (ins := .getfield 230) rfl) (by decide) (by decide) (by decide) (tg 710 (by decide +kernel) (by decide +kernel))) (
  tkc (s_lstore_n (at_ dl_X10_seed 2 (ins := .lstore_n 3) rfl) (by decide)) (
  tkc (s_aload_n (at_ dl_X10_seed 3 (ins := .aload_n 0) rfl)) (
  tkc (s_lload_n (at_ dl_X10_seed 4 (ins := .lload_n 1) rfl)) (
  tkc (s_pL (at_ dl_X10_seed 5 (ins := .putfield 230) rfl) (by decide) (by decide) (by decide) (by decide) (tg 710 (by decide +kernel) (by decide +kernel))) (
  tkc (s_lload_n (at_ dl_X10_seed 6 (ins := .lload_n 3) rfl)) (
  tkc (s_rL (at_ dl_X10_seed 7 (ins := .lreturn) rfl) rfl) ( tk0))))))))
theorem lf_X10_seed : lk (tb_X10_seed) 0 = (x_al 1 0, false) ∧ lk (tb_X10_seed) 1 = (x_gL 10 14 4, false) ∧ lk (tb_X10_seed) 4 = (x_ls 5 3, false) ∧ lk (tb_X10_seed) 5 = (x_al 6 0, false) ∧ lk (tb_X10_seed) 6 = (x_ll 7 1, false) ∧ lk (tb_X10_seed) 7 = (x_pL 10 14 10, false) ∧ lk (tb_X10_seed) 10 = (x_ll 11 3, false) ∧ lk (tb_X10_seed) 11 = (x_rL, false) := ⟨rfl, rfl, rfl, rfl, rfl, rfl, rfl, rfl⟩
def P_X10_seed : PTT := fun as M R => match as with
  | [.ref k, .long v] => k = 108 ∧ ∃ g, MR M.1 M.2.1 M.2.2 g ∧ ∀ L', (∀ q, q ≠ 108 → L' q = M.2.2 q) → MR M.1 M.2.1 L' (GZ g v) → R (some (.long (gZ g))) (M.1, M.2.1, L')
  | _ => False
set_option maxRecDepth 20000 in
theorem ok_X10_seed : Ok yX10_seed mt_X10_seed P_X10_seed := by
  refine Ok.of (by decide) rfl rfl rfl rfl fun av ⟨S, I, L⟩ R hP => ?_
  unfold P_X10_seed at hP
  split at hP
  case h_2 => exact hP.elim
  rename_i k v
  obtain ⟨k, rfl⟩ : ∃ q : Nat, q = k := ⟨k, rfl⟩
  refine ⟨by simp [ent, wide, mt_X10_seed], ?_⟩
  show J mt_X10_seed R 0 [some (.ref k), some (.long v), none, none, none] [] (S, I, L)
  try dsimp only at hP
  obtain ⟨rfl, g, ⟨h1, h2, h3, h4, h5, h6, h7, h8, h9⟩, hA⟩ := hP
  refine J.of tk_X10_seed 200 fun ρ hρ => ?_
  simp only [hρ, x_c, x_il, x_ll, x_al, x_is, x_as, x_ls, x_inc, x_ii, x_iq, x_i1, x_l2, x_lq, x_lh, x_i2l, x_l2i, x_lcmp, x_dup, x_dup2, x_pop, x_if, x_ifn, x_ic, x_icn, x_go, x_sw, swc, x_l01, x_mx, x_gI, x_gL, x_gR, x_pI, x_pZ, x_pL, x_pR, x_ia, x_za, x_aa, x_ias, x_zas, x_aas, x_fac, x_fa, x_slen, x_sa, x_ac, x_oi, x_new, x_na, x_cS, x_cV, x_cI, x_rI, x_rZ, x_rL, x_r0, pa, short, oc, lg, lset, lset2, wide, cond_true, cond_false, true_and, and_true, ↓reduceIte, Bool.false_eq_true, true_or, or_true, lf_X10_seed, h1.f, h8]
  exact hA _ (fun q hq => mS_n hq) ⟨h1, h2, h3, h4, h5, h6, h7, by rw [mS_s]; simp [vp_updL]; rfl, h9⟩
/-- check -/
def il_X10_check : List (Nat × Instr × Nat) := [(0, .aload_n 0, 1), (1, .iload_n 1, 1), (2, .invokevirtual 174, 3), (5, .ifCond .eq 15, 3), (8, .aload_n 0, 1), (9, .getfield 13, 3), (12, .bipush 18, 2), (14, .iload_n 1, 1), (15, .iadd, 1), (16, .iaload, 1), (17, .goto 4, 3), (20, .iconst (-1), 1), (21, .ireturn, 1)]
def mt_X10_check : Mt := (cX10_check, RX10, 2, (some .int), ({ frames := 2, cells := 0, slots := 0, locals := 46 } : Room), false, none, none)
set_option maxRecDepth 100000 in
theorem dl_X10_check : ∀ q ∈ il_X10_check, decode (mt_X10_check).1 q.1 = .ok q.2 := by decide +kernel
def tb_X10_check : Tb := [(0, x_al 1 0, false),
  (1, x_il 2 1, false),
  (2, x_cV 10 1 P_X10_isCheck 5, false),
  (5, x_if 20 8 (fun x : Int32 => x = 0), false),
  (8, x_al 9 0, false),
  (9, x_gR 10 4 12, false),
  (12, x_c 14 (.int 18), false),
  (14, x_il 15 1, false),
  (15, x_ii 16 (fun x y : Int32 => x + y), false),
  (16, x_ia 17, false),
  (17, x_go 21, false),
  (20, x_c 21 (.int (-1)), false),
  (21, x_rI, false)]
set_option maxRecDepth 100000 in
theorem tk_X10_check : TbOk (mt_X10_check) (tb_X10_check) :=
  tkc (s_aload_n (at_ dl_X10_check 0 (ins := .aload_n 0) rfl)) (
  tkc (s_iload_n (at_ dl_X10_check 1 (ins := .iload_n 1) rfl)) (
  tkc (s_cV ok_X10_isCheck (at_ dl_X10_check 2 (ins := .invokevirtual 174) rfl) (by decide) rfl (tg 892 (by decide +kernel) (by decide +kernel)) (tg 894 (by decide +kernel) (by decide +kernel)) (tg 36 (by decide +kernel) (by decide +kernel)) (tg 51 (by decide +kernel) (by decide +kernel)) (tg 895 (by decide +kernel) (by decide +kernel)) (⟨by decide, by decide, by decide +kernel⟩) (⟨by decide, by decide⟩) rfl rfl) (
  tkc (s_if_eq (at_ dl_X10_check 3 (ins := .ifCond .eq 15) rfl) (by decide)) (
  tkc (s_aload_n (at_ dl_X10_check 4 (ins := .aload_n 0) rfl)) (
  tkc (s_gR (at_ dl_X10_check 5 (ins := .getfield 13) rfl) (by decide) (by decide) (by decide) (tg 700 (by decide +kernel) (by decide +kernel))) (
  tkc (s_bipush (at_ dl_X10_check 6 (ins := .bipush 18) rfl) (by first | rfl | decide)) (
  tkc (s_iload_n (at_ dl_X10_check 7 (ins := .iload_n 1) rfl)) (
  tkc (s_iadd (at_ dl_X10_check 8 (ins := .iadd) rfl)) (
  tkc (s_ia (at_ dl_X10_check 9 (ins := .iaload) rfl)) (
  tkc (s_goto (at_ dl_X10_check 10 (ins := .goto 4) rfl) (by decide)) (
  tkc (s_iconst (at_ dl_X10_check 11 (ins := .iconst (-1)) rfl) (by first | rfl | decide)) (
  tkc (s_rI (at_ dl_X10_check 12 (ins := .ireturn) rfl) rfl) ( tk0)))))))))))))
theorem lf_X10_check : lk (tb_X10_check) 0 = (x_al 1 0, false) ∧ lk (tb_X10_check) 1 = (x_il 2 1, false) ∧ lk (tb_X10_check) 2 = (x_cV 10 1 P_X10_isCheck 5, false) ∧ lk (tb_X10_check) 5 = (x_if 20 8 (fun x : Int32 => x = 0), false) ∧ lk (tb_X10_check) 8 = (x_al 9 0, false) ∧ lk (tb_X10_check) 9 = (x_gR 10 4 12, false) ∧ lk (tb_X10_check) 12 = (x_c 14 (.int 18), false) ∧ lk (tb_X10_check) 14 = (x_il 15 1, false) ∧ lk (tb_X10_check) 15 = (x_ii 16 (fun x y : Int32 => x + y), false) ∧ lk (tb_X10_check) 16 = (x_ia 17, false) ∧ lk (tb_X10_check) 17 = (x_go 21, false) ∧ lk (tb_X10_check) 20 = (x_c 21 (.int (-1)), false) ∧ lk (tb_X10_check) 21 = (x_rI, false) := ⟨rfl, rfl, rfl, rfl, rfl, rfl, rfl, rfl, rfl, rfl, rfl, rfl, rfl⟩
def P_X10_check : PTT := fun as M R => match as with
  | [.ref k, .int c] => k = 108 ∧ ∃ g, MR M.1 M.2.1 M.2.2 g ∧ GOk g ∧ Anm M R (gCheck g c) g
  | _ => False
set_option maxRecDepth 20000 in
theorem ok_X10_check : Ok yX10_check mt_X10_check P_X10_check := by
  refine Ok.of (by decide) rfl rfl rfl rfl fun av ⟨S, I, L⟩ R hP => ?_
  unfold P_X10_check at hP
  split at hP
  case h_2 => exact hP.elim
  rename_i k c
  obtain ⟨k, rfl⟩ : ∃ q : Nat, q = k := ⟨k, rfl⟩
  refine ⟨by simp [ent, wide, mt_X10_check], ?_⟩
  show J mt_X10_check R 0 [some (.ref k), some (.int c)] [] (S, I, L)
  try dsimp only at hP
  obtain ⟨rfl, g, hc, ho, hA⟩ := hP
  obtain ⟨h1, h2, h3, h4, h5, h6, h7, h8, h9⟩ := id hc
  have hm := ho.2.1.1
  have hfin : ∀ v, gCheck g c = v → R (some (.int v)) (S, I, L) := fun v hv => (hv ▸ hA).s hc
  refine J.of tk_X10_check 200 fun ρ hρ => ?_
  simp only [hρ, x_c, x_il, x_ll, x_al, x_is, x_as, x_ls, x_inc, x_ii, x_iq, x_i1, x_l2, x_lq, x_lh, x_i2l, x_l2i, x_lcmp, x_dup, x_dup2, x_pop, x_if, x_ifn, x_ic, x_icn, x_go, x_sw, swc, x_l01, x_mx, x_gI, x_gL, x_gR, x_pI, x_pZ, x_pL, x_pR, x_ia, x_za, x_aa, x_ias, x_zas, x_aas, x_fac, x_fa, x_slen, x_sa, x_ac, x_oi, x_new, x_na, x_cS, x_cV, x_cI, x_rI, x_rZ, x_rL, x_r0, pa, short, oc, lg, lset, lset2, wide, cond_true, cond_false, true_and, and_true, ↓reduceIte, Bool.false_eq_true, true_or, or_true, lf_X10_check, h1.f, P_X10_isCheck]
  refine ⟨aM (gA g), by omega, h3.2, ?_⟩
  simp only [bI_0, Classical.not_not]
  refine ⟨fun h => hfin _ (if_neg h), fun h => ?_⟩
  obtain ⟨i, hi, rfl⟩ := hC.i (g := g) h ho
  rw [show (18 : Int32) = nI 18 by decide, nI_add, ncl (by omega), h4.v hi]
  refine ⟨vp_in_nI (by omega) (by omega), hfin _ ?_⟩
  rw [gCheck, if_pos h, tn_nI (by omega)]
/-- write -/
theorem in255 {x : Int32} : (¬ x.toInt64 < (0 : Int64) ∧ ¬ (255 : Int64) < x.toInt64) ↔ ¬ (x < 0 ∨ ¬ x ≤ 255) := by
  have e : ¬ (255 : Int64) < x.toInt64 ↔ x ≤ 255 := by
    rw [Int64.lt_iff_toInt_lt, Int32.le_iff_toInt_le, Int32.toInt_toInt64, show (255 : Int64).toInt = 255 by decide, show (255 : Int32).toInt = 255 by decide]
    omega
  rw [i2l_0, e]
  exact ⟨fun q r => r.elim q.1 (fun s => s q.2), fun q => ⟨fun r => q (.inl r), Classical.byContradiction fun r => q (.inr r)⟩⟩
def il_X10_write : List (Nat × Instr × Nat) := [(0, .iload_n 1, 1), (1, .i2l, 1), (2, .lconst 0, 1), (3, .ldc2_w 67, 3), (6, .invokestatic 60, 3), (9, .ifCond .ne 6, 3), (12, .bipush (-2), 2), (14, .ireturn, 1), (15, .aload_n 0, 1), (16, .getfield 69, 3), (19, .bipush 70, 2), (21, .if_icmp .ne 6, 3), (24, .bipush (-4), 2), (26, .ireturn, 1), (27, .aload_n 0, 1), (28, .getfield 7, 3), (31, .aload_n 0, 1), (32, .getfield 69, 3), (35, .iload_n 1, 1), (36, .iastore, 1), (37, .aload_n 0, 1), (38, .dup, 1), (39, .getfield 69, 3), (42, .iconst 1, 1), (43, .iadd, 1), (44, .putfield 69, 3), (47, .aload_n 0, 1), (48, .getfield 69, 3), (51, .ireturn, 1)]
def mt_X10_write : Mt := (cX10_write, RX10, 2, (some .int), ({ frames := 1, cells := 0, slots := 0, locals := 25 } : Room), false, none, none)
set_option maxRecDepth 100000 in
theorem dl_X10_write : ∀ q ∈ il_X10_write, decode (mt_X10_write).1 q.1 = .ok q.2 := by decide +kernel
def tb_X10_write : Tb := [(0, x_il 1 1, false),
  (1, x_i2l 2, false),
  (2, x_c 3 (.long 0), false),
  (3, x_c 6 (.long 255), false),
  (6, x_cS 3 P_X10_in 9, false),
  (9, x_ifn 15 12 (fun x : Int32 => x = 0), false),
  (12, x_c 14 (.int (-2)), false),
  (14, x_rI, false),
  (15, x_al 16 0, false),
  (16, x_gI 10 1 19, false),
  (19, x_c 21 (.int 70), false),
  (21, x_icn 27 24 (fun x y : Int32 => x = y), false),
  (24, x_c 26 (.int (-4)), false),
  (26, x_rI, false),
  (27, x_al 28 0, false),
  (28, x_gR 10 0 31, false),
  (31, x_al 32 0, false),
  (32, x_gI 10 1 35, false),
  (35, x_il 36 1, false),
  (36, x_ias 37, false),
  (37, x_al 38 0, false),
  (38, x_dup 39, false),
  (39, x_gI 10 1 42, false),
  (42, x_c 43 (.int 1), false),
  (43, x_ii 44 (fun x y : Int32 => x + y), false),
  (44, x_pI 10 1 47, false),
  (47, x_al 48 0, false),
  (48, x_gI 10 1 51, false),
  (51, x_rI, false)]
set_option maxRecDepth 100000 in
theorem tk_X10_write : TbOk (mt_X10_write) (tb_X10_write) :=
  tkc (s_iload_n (at_ dl_X10_write 0 (ins := .iload_n 1) rfl)) (
  tkc (s_i2l (at_ dl_X10_write 1 (ins := .i2l) rfl)) (
  tkc (s_lconst (at_ dl_X10_write 2 (ins := .lconst 0) rfl) (by first | rfl | decide)) (
  tkc (s_ldc2 (at_ dl_X10_write 3 (ins := .ldc2_w 67) rfl) (tg 779 (by decide +kernel) (by decide +kernel))) (
  tkc (s_cS ok_X10_in (at_ dl_X10_write 4 (ins := .invokestatic 60) rfl) (tg 780 (by decide +kernel) (by decide +kernel)) (tg 781 (by decide +kernel) (by decide +kernel)) (tg 51 (by decide +kernel) (by decide +kernel)) (tg 782 (by decide +kernel) (by decide +kernel)) (⟨by decide, by decide, by decide +kernel⟩) (⟨by decide, by decide⟩) rfl rfl) (
  tkc (s_if_ne (at_ dl_X10_write 5 (ins := .ifCond .ne 6) rfl) (by decide)) (
  tkc (s_bipush (at_ dl_X10_write 6 (ins := .bipush (-2)) rfl) (by first | rfl | decide)) (
  tkc (s_rI (at_ dl_X10_write 7 (ins := .ireturn) rfl) rfl) (
  tkc (s_aload_n (at_ dl_X10_write 8 (ins := .aload_n 0) rfl)) (
  tkc (s_gI (at_ dl_X10_write 9 (ins := .getfield 69) rfl) (by decide) (by decide) (by decide) (tg 697 (by decide +kernel) (by decide +kernel))) (
  tkc (s_bipush (at_ dl_X10_write 10 (ins := .bipush 70) rfl) (by first | rfl | decide)) (
  tkc (s_ic_ne (at_ dl_X10_write 11 (ins := .if_icmp .ne 6) rfl) (by decide)) (
  tkc (s_bipush (at_ dl_X10_write 12 (ins := .bipush (-4)) rfl) (by first | rfl | decide)) (
  tkc (s_rI (at_ dl_X10_write 13 (ins := .ireturn) rfl) rfl) (
  tkc (s_aload_n (at_ dl_X10_write 14 (ins := .aload_n 0) rfl)) (
  tkc (s_gR (at_ dl_X10_write 15 (ins := .getfield 7) rfl) (by decide) (by decide) (by decide) (tg 696 (by decide +kernel) (by decide +kernel))) (
  tkc (s_aload_n (at_ dl_X10_write 16 (ins := .aload_n 0) rfl)) (
  tkc (s_gI (at_ dl_X10_write 17 (ins := .getfield 69) rfl) (by decide) (by decide) (by decide) (tg 697 (by decide +kernel) (by decide +kernel))) (
  tkc (s_iload_n (at_ dl_X10_write 18 (ins := .iload_n 1) rfl)) (
  tkc (s_ias (at_ dl_X10_write 19 (ins := .iastore) rfl)) (
  tkc (s_aload_n (at_ dl_X10_write 20 (ins := .aload_n 0) rfl)) (
  tkc (s_dup (at_ dl_X10_write 21 (ins := .dup) rfl)) (
  tkc (s_gI (at_ dl_X10_write 22 (ins := .getfield 69) rfl) (by decide) (by decide) (by decide) (tg 697 (by decide +kernel) (by decide +kernel))) (
  tkc (s_iconst (at_ dl_X10_write 23 (ins := .iconst 1) rfl) (by first | rfl | decide)) (
  tkc (s_iadd (at_ dl_X10_write 24 (ins := .iadd) rfl)) (
  tkc (s_pI (at_ dl_X10_write 25 (ins := .putfield 69) rfl) (by decide) (by decide) (by decide) (by decide) (tg 697 (by decide +kernel) (by decide +kernel))) (
  tkc (s_aload_n (at_ dl_X10_write 26 (ins := .aload_n 0) rfl)) (
  tkc (s_gI (at_ dl_X10_write 27 (ins := .getfield 69) rfl) (by decide) (by decide) (by decide) (tg 697 (by decide +kernel) (by decide +kernel))) (
  tkc (s_rI (at_ dl_X10_write 28 (ins := .ireturn) rfl) rfl) ( tk0)))))))))))))))))))))))))))))
theorem lf_X10_write : lk (tb_X10_write) 0 = (x_il 1 1, false) ∧ lk (tb_X10_write) 1 = (x_i2l 2, false) ∧ lk (tb_X10_write) 2 = (x_c 3 (.long 0), false) ∧ lk (tb_X10_write) 3 = (x_c 6 (.long 255), false) ∧ lk (tb_X10_write) 6 = (x_cS 3 P_X10_in 9, false) ∧ lk (tb_X10_write) 9 = (x_ifn 15 12 (fun x : Int32 => x = 0), false) ∧ lk (tb_X10_write) 12 = (x_c 14 (.int (-2)), false) ∧ lk (tb_X10_write) 14 = (x_rI, false) ∧ lk (tb_X10_write) 15 = (x_al 16 0, false) ∧ lk (tb_X10_write) 16 = (x_gI 10 1 19, false) ∧ lk (tb_X10_write) 19 = (x_c 21 (.int 70), false) ∧ lk (tb_X10_write) 21 = (x_icn 27 24 (fun x y : Int32 => x = y), false) ∧ lk (tb_X10_write) 24 = (x_c 26 (.int (-4)), false) ∧ lk (tb_X10_write) 26 = (x_rI, false) ∧ lk (tb_X10_write) 27 = (x_al 28 0, false) ∧ lk (tb_X10_write) 28 = (x_gR 10 0 31, false) ∧ lk (tb_X10_write) 31 = (x_al 32 0, false) ∧ lk (tb_X10_write) 32 = (x_gI 10 1 35, false) ∧ lk (tb_X10_write) 35 = (x_il 36 1, false) ∧ lk (tb_X10_write) 36 = (x_ias 37, false) ∧ lk (tb_X10_write) 37 = (x_al 38 0, false) ∧ lk (tb_X10_write) 38 = (x_dup 39, false) ∧ lk (tb_X10_write) 39 = (x_gI 10 1 42, false) ∧ lk (tb_X10_write) 42 = (x_c 43 (.int 1), false) ∧ lk (tb_X10_write) 43 = (x_ii 44 (fun x y : Int32 => x + y), false) ∧ lk (tb_X10_write) 44 = (x_pI 10 1 47, false) ∧ lk (tb_X10_write) 47 = (x_al 48 0, false) ∧ lk (tb_X10_write) 48 = (x_gI 10 1 51, false) ∧ lk (tb_X10_write) 51 = (x_rI, false) := ⟨rfl, rfl, rfl, rfl, rfl, rfl, rfl, rfl, rfl, rfl, rfl, rfl, rfl, rfl, rfl, rfl, rfl, rfl, rfl, rfl, rfl, rfl, rfl, rfl, rfl, rfl, rfl, rfl, rfl⟩
def P_X10_write : PTT := fun as M R => match as with
  | [.ref k, .int x] => k = 108 ∧ ∃ g, MR M.1 M.2.1 M.2.2 g ∧ GOk g ∧ Anm M R (gWrite g x).1 (gWrite g x).2
  | _ => False
set_option maxRecDepth 20000 in
theorem ok_X10_write : Ok yX10_write mt_X10_write P_X10_write := by
  refine Ok.of (by decide) rfl rfl rfl rfl fun av ⟨S, I, L⟩ R hP => ?_
  unfold P_X10_write at hP
  split at hP
  case h_2 => exact hP.elim
  rename_i k x
  obtain ⟨k, rfl⟩ : ∃ q : Nat, q = k := ⟨k, rfl⟩
  refine ⟨by simp [ent, wide, mt_X10_write], ?_⟩
  show J mt_X10_write R 0 [some (.ref k), some (.int x)] [] (S, I, L)
  try dsimp only at hP
  obtain ⟨rfl, g, hc, ho, hA⟩ := hP
  obtain ⟨h1, h2, h3, h4, h5, h6, h7, h8, h9⟩ := id hc
  have hl := ho.1.1
  have e108 : ∀ f, mS I 109 f 108 = I 108 := fun f => mS_n (by omega)
  refine J.of tk_X10_write 200 fun ρ hρ => ?_
  simp only [hρ, x_c, x_il, x_ll, x_al, x_is, x_as, x_ls, x_inc, x_ii, x_iq, x_i1, x_l2, x_lq, x_lh, x_i2l, x_l2i, x_lcmp, x_dup, x_dup2, x_pop, x_if, x_ifn, x_ic, x_icn, x_go, x_sw, swc, x_l01, x_mx, x_gI, x_gL, x_gR, x_pI, x_pZ, x_pL, x_pR, x_ia, x_za, x_aa, x_ias, x_zas, x_aas, x_fac, x_fa, x_slen, x_sa, x_ac, x_oi, x_new, x_na, x_cS, x_cV, x_cI, x_rI, x_rZ, x_rL, x_r0, pa, short, oc, lg, lset, lset2, wide, cond_true, cond_false, true_and, and_true, ↓reduceIte, Bool.false_eq_true, true_or, or_true, lf_X10_write, h1.f, P_X10_in, h2.1, e108, nI70, nI_eq (show gL g < 2 ^ 31 by omega) (show 70 < 2 ^ 31 by omega), ncl (show gL g < 2 ^ 31 by omega), nI_1, bI_0, in255, Classical.not_not, mS_s, upd_s]
  refine ⟨fun h => ⟨fun h7' => ?_, fun h7' => (hA.e (by rw [gWrite, if_neg h, if_pos h7'])).s hc⟩, fun h => (hA.e (by rw [gWrite, if_pos h])).s hc⟩
  refine ⟨vp_in_nI (by omega) (by omega), ?_⟩
  refine (hA.e (show gWrite g x = (nI (gL g + 1), GT g (gL g + 1) (va_up (gT g) (gL g) (tn x))) by rw [gWrite, if_neg h, if_neg h7'])) _ L (fun q hq => by rw [mS_n (by omega), mS_n (by omega)]) (fun _ _ => rfl) ⟨h1, ⟨?_, fun j hj => ?_⟩, h3, h4, h5, h6, h7, h8, h9⟩
  · rw [mS_s, upd_s]; rfl
  · rw [mS_n (by omega), mS_s, upd_app]
    show _ = nI (va_up (gT g) (gL g) (tn x) j)
    unfold va_up
    split
    · rw [nI_tn]
    · exact h2.2 j (by have : j < gL g + 1 := hj; omega)
