/-! THE CLASS: what it holds, as one abstract thing -/
/-- the text; now; the acts, the newest first; what is kept; what is seen; the seed -/
abbrev GS : Type := Nat × (Nat → Nat) × AS × Nat × (Nat → AS) × (Nat → Bool) × (Nat → AS) × Nat × (Nat → Int32) × (Nat → Int32) × Int64
abbrev gL (g : GS) : Nat := g.1
abbrev gT (g : GS) : Nat → Nat := g.2.1
abbrev gA (g : GS) : AS := g.2.2.1
abbrev gC (g : GS) : Nat := g.2.2.2.1
abbrev gH (g : GS) : Nat → AS := g.2.2.2.2.1
abbrev gK (g : GS) : Nat → Bool := g.2.2.2.2.2.1
abbrev gS (g : GS) : Nat → AS := g.2.2.2.2.2.2.1
abbrev gN (g : GS) : Nat := g.2.2.2.2.2.2.2.1
abbrev gB (g : GS) : Nat → Int32 := g.2.2.2.2.2.2.2.2.1
abbrev gO (g : GS) : Nat → Int32 := g.2.2.2.2.2.2.2.2.2.1
abbrev gZ (g : GS) : Int64 := g.2.2.2.2.2.2.2.2.2.2
def GT (g : GS) (l : Nat) (t : Nat → Nat) : GS := (l, t, g.2.2)
def GA (g : GS) (a : AS) : GS := (g.1, g.2.1, a, g.2.2.2)
def GH (g : GS) (c : Nat) (h : Nat → AS) : GS := (g.1, g.2.1, g.2.2.1, c, h, g.2.2.2.2.2)
def GK (g : GS) (k : Nat → Bool) (s : Nat → AS) : GS := (g.1, g.2.1, g.2.2.1, g.2.2.2.1, g.2.2.2.2.1, k, s, g.2.2.2.2.2.2.2)
def GE (g : GS) (n : Nat) (b o : Nat → Int32) : GS := (g.1, g.2.1, g.2.2.1, g.2.2.2.1, g.2.2.2.2.1, g.2.2.2.2.2.1, g.2.2.2.2.2.2.1, n, b, o, g.2.2.2.2.2.2.2.2.2.2)
def GZ (g : GS) (z : Int64) : GS := (g.1, g.2.1, g.2.2.1, g.2.2.2.1, g.2.2.2.2.1, g.2.2.2.2.2.1, g.2.2.2.2.2.2.1, g.2.2.2.2.2.2.2.1, g.2.2.2.2.2.2.2.2.1, g.2.2.2.2.2.2.2.2.2.1, z)
def sz (a b : AS) : Prop := aN a = aN b ∧ aM a = aM b
def GOk (g : GS) : Prop := (gL g ≤ 70 ∧ ∀ j, j < gL g → gT g j < 256) ∧ AOk (gA g) ∧ (gC g ≤ 14 ∧ ∀ j, j < gC g → AOk (gH g j) ∧ sz (gH g j) (gA g)) ∧ (∀ i, i < 2 → gK g i = true → AOk (gS g i) ∧ sz (gS g i) (gA g)) ∧ (gN g ≤ 6 ∧ ∀ i, i < gN g → tn (gB g i) ≤ 20)
/-- the shapes -/
def IsSl (S : Sh) : Prop := tA S 96 3 ∧ ln S 96 = 2 ∧ sR S 96 0 = 97 ∧ sR S 96 1 = 102 ∧ tA S 107 2 ∧ ln S 107 = 2
def IsC0 (S : Sh) : Prop := tO S 0 9 ∧ sR S 0 0 = 1 ∧ sR S 0 1 = 5 ∧ sR S 0 2 = 10 ∧ sR S 0 3 = 15 ∧ sR S 0 4 = 18 ∧ sR S 0 5 = 19 ∧ sR S 0 6 = 21 ∧ sR S 0 7 = 93 ∧ sR S 0 8 = 96 ∧ sR S 0 9 = 107
def IsCl (S : Sh) : Prop := IsC0 S ∧ IsTx S ∧ IsRd S 3 ∧ IsSt S 5 ∧ IsSt S 10 ∧ IsDc S ∧ IsWa S ∧ IsSu S ∧ IsAc S ∧ IsSe S ∧ IsSl S ∧ IsSt S 97 ∧ IsSt S 102
theorem IsC0.f {S : Sh} (h : IsC0 S) : tO S 0 9 ∧ sR S 0 0 = 1 ∧ sR S 0 1 = 5 ∧ sR S 0 2 = 10 ∧ sR S 0 3 = 15 ∧ sR S 0 4 = 18 ∧ sR S 0 5 = 19 ∧ sR S 0 6 = 21 ∧ sR S 0 7 = 93 ∧ sR S 0 8 = 96 ∧ sR S 0 9 = 107 := h
theorem IsSl.f {S : Sh} (h : IsSl S) : tA S 96 3 ∧ ln S 96 = 2 ∧ sR S 96 0 = 97 ∧ sR S 96 1 = 102 ∧ tA S 107 2 ∧ ln S 107 = 2 := h
/-- the places -/
def CT (I : MI) (g : GS) : Prop := I 1 2 = nI (gL g) ∧ ∀ j, j < gL g → I 2 j = nI (gT g j)
def CA (I : MI) (g : GS) : Prop := ∃ f, AcV I f (gC g) ∧ ∀ j, j < gC g → SR I (23 + 5 * ((f + gC g - 1 - j) % 14)) (gH g j)
def CK (I : MI) (g : GS) : Prop := ∀ i, i < 2 → I 107 i = bB (gK g i) ∧ (gK g i = true → SR I (97 + 5 * i) (gS g i))
def CE (I : MI) (g : GS) : Prop := I 93 2 = nI (gN g) ∧ ∀ i, i < gN g → I 94 i = gB g i ∧ I 95 i = gO g i
def CR (S : Sh) (I : MI) (L : Nat → Nat → Int64) (g : GS) : Prop := IsCl S ∧ CT I g ∧ SR I 5 (gA g) ∧ CA I g ∧ CK I g ∧ CE I g ∧ L 0 10 = gZ g ∧ OrdId I
theorem CT.fr {I I' : MI} {g : GS} (h : CT I g) (h1 : I' 1 = I 1) (h2 : I' 2 = I 2) : CT I' g := by unfold CT at h ⊢; rw [h1, h2]; exact h
theorem CA.fr {I I' : MI} {g : GS} (h : CA I g) (h1 : ∀ q, 21 ≤ q → q < 93 → I' q = I q) : CA I' g := by
  obtain ⟨f, ha, hs⟩ := h
  refine ⟨f, ?_, fun j hj => (hs j hj).fr (fun q q1 q2 => h1 q (by omega) (by have := Nat.mod_lt (f + gC g - 1 - j) (show 0 < 14 by omega); omega))⟩
  unfold AcV at ha ⊢; rw [h1 21 (by omega) (by omega)]; exact ha
theorem CK.fr {I I' : MI} {g : GS} (h : CK I g) (h1 : ∀ q, 97 ≤ q → q < 108 → I' q = I q) : CK I' g := fun i hi => by
  rw [h1 107 (by omega) (by omega)]
  exact ⟨(h i hi).1, fun hk => ((h i hi).2 hk).fr (fun q q1 q2 => h1 q (by omega) (by omega))⟩
theorem CE.fr {I I' : MI} {g : GS} (h : CE I g) (h1 : I' 93 = I 93) (h2 : I' 94 = I 94) (h3 : I' 95 = I 95) : CE I' g := by unfold CE at h ⊢; rw [h1, h2, h3]; exact h
theorem OrdId.fr {I I' : MI} (h : OrdId I) (h1 : I' 16 = I 16) : OrdId I' := by unfold OrdId at h ⊢; rw [h1]; exact h
/-- nothing but what is free to be written over is another -/
def frS (I I' : MI) : Prop := ∀ q, q ≠ 3 → q ≠ 4 → (q < 10 ∨ 15 ≤ q) → q ≠ 15 → q ≠ 17 → q ≠ 20 → I' q = I q
theorem frS.refl (I : MI) : frS I I := fun _ _ _ _ _ _ _ => rfl
theorem frS.trans {A B C : MI} (h : frS A B) (h' : frS B C) : frS A C := fun q a b c d e f => (h' q a b c d e f).trans (h q a b c d e f)
theorem CR.fr {S : Sh} {I I' : MI} {L : Nat → Nat → Int64} {g : GS} (h : CR S I L g) (hf : frS I I') : CR S I' L g := by
  obtain ⟨h1, h2, h3, h4, h5, h6, h7, h8⟩ := h
  exact ⟨h1, h2.fr (hf 1 (by omega) (by omega) (by omega) (by omega) (by omega) (by omega)) (hf 2 (by omega) (by omega) (by omega) (by omega) (by omega) (by omega)), h3.fr (fun q a b => hf q (by omega) (by omega) (by omega) (by omega) (by omega) (by omega)), h4.fr (fun q a b => hf q (by omega) (by omega) (by omega) (by omega) (by omega) (by omega)), h5.fr (fun q a b => hf q (by omega) (by omega) (by omega) (by omega) (by omega) (by omega)), h6.fr (hf 93 (by omega) (by omega) (by omega) (by omega) (by omega) (by omega)) (hf 94 (by omega) (by omega) (by omega) (by omega) (by omega) (by omega)) (hf 95 (by omega) (by omega) (by omega) (by omega) (by omega) (by omega)), h7, h8.fr (hf 16 (by omega) (by omega) (by omega) (by omega) (by omega) (by omega))⟩
/-- an answer, and what is held behind it -/
def fr8 (I I' : MI) : Prop := ∀ q, 108 ≤ q → I' q = I q
theorem frS.f8 {I I' : MI} (h : frS I I') : fr8 I I' := fun q hq => h q (by omega) (by omega) (by omega) (by omega) (by omega) (by omega)
def Ans (M : Mem) (R : Option Value → Mem → Prop) (v : Int32) (g : GS) : Prop := ∀ I' L', fr8 M.2.1 I' → (∀ q, q ≠ 0 → L' q = M.2.2 q) → CR M.1 I' L' g → R (some (.int v)) (M.1, I', L')
theorem Ans.q {M : Mem} {R : Option Value → Mem → Prop} {v : Int32} {g : GS} (h : Ans M R v g) (hc : CR M.1 M.2.1 M.2.2 g) {I' : MI} (hf : frS M.2.1 I') : R (some (.int v)) (M.1, I', M.2.2) := h I' M.2.2 hf.f8 (fun _ _ => rfl) (hc.fr hf)
theorem Ans.s {S : Sh} {I : MI} {L : Nat → Nat → Int64} {R : Option Value → Mem → Prop} {v : Int32} {g : GS} (h : Ans (S, I, L) R v g) (hc : CR S I L g) : R (some (.int v)) (S, I, L) := h.q hc (frS.refl _)
theorem Ans.e {M : Mem} {R : Option Value → Mem → Prop} {p : Int32 × GS} {v : Int32} {g : GS} (h : Ans M R p.1 p.2) (e : p = (v, g)) : Ans M R v g := by rw [e] at h; exact h
/-- write -/
def gWrite (g : GS) (x : Int32) : Int32 × GS := if x < 0 ∨ ¬ x ≤ 255 then (-2, g) else if gL g = 70 then (-4, g) else (nI (gL g + 1), GT g (gL g + 1) (va_up (gT g) (gL g) (tn x)))
def il_X9_write : List (Nat × Instr × Nat) := [(0, .iload_n 1, 1), (1, .ifCond .lt 10, 3), (4, .iload_n 1, 1), (5, .sipush 255, 3), (8, .if_icmp .le 6, 3), (11, .bipush (-2), 2), (13, .ireturn, 1), (14, .aload_n 0, 1), (15, .getfield 10, 3), (18, .getfield 75, 3), (21, .bipush 70, 2), (23, .if_icmp .lt 6, 3), (26, .bipush (-4), 2), (28, .ireturn, 1), (29, .aload_n 0, 1), (30, .getfield 10, 3), (33, .iload_n 1, 1), (34, .invokevirtual 79, 3), (37, .ireturn, 1)]
def mt_X9_write : Mt := (cX9_write, RX9, 2, (some .int), ({ frames := 1, cells := 0, slots := 0, locals := 21 } : Room), false, none, none)
set_option maxRecDepth 100000 in
theorem dl_X9_write : ∀ q ∈ il_X9_write, decode (mt_X9_write).1 q.1 = .ok q.2 := by decide +kernel
def tb_X9_write : Tb := [(0, x_il 1 1, false),
  (1, x_if 11 4 (fun x : Int32 => x < 0), false),
  (4, x_il 5 1, false),
  (5, x_c 8 (.int 255), false),
  (8, x_ic 14 11 (fun x y : Int32 => x ≤ y), false),
  (11, x_c 13 (.int (-2)), false),
  (13, x_rI, false),
  (14, x_al 15 0, false),
  (15, x_gR 9 0 18, false),
  (18, x_gI 7 2 21, false),
  (21, x_c 23 (.int 70), false),
  (23, x_ic 29 26 (fun x y : Int32 => x < y), false),
  (26, x_c 28 (.int (-4)), false),
  (28, x_rI, false),
  (29, x_al 30 0, false),
  (30, x_gR 9 0 33, false),
  (33, x_il 34 1, false),
  (34, x_cV 7 1 P_X7_append 37, false),
  (37, x_rI, false)]
set_option maxRecDepth 100000 in
theorem tk_X9_write : TbOk (mt_X9_write) (tb_X9_write) :=
  tkc (s_iload_n (at_ dl_X9_write 0 (ins := .iload_n 1) rfl)) (
  tkc (s_if_lt (at_ dl_X9_write 1 (ins := .ifCond .lt 10) rfl) (by decide)) (
  tkc (s_iload_n (at_ dl_X9_write 2 (ins := .iload_n 1) rfl)) (
  tkc (s_sipush (at_ dl_X9_write 3 (ins := .sipush 255) rfl) (by first | rfl | decide)) (
  tkc (s_ic_le (at_ dl_X9_write 4 (ins := .if_icmp .le 6) rfl) (by decide)) (
  tkc (s_bipush (at_ dl_X9_write 5 (ins := .bipush (-2)) rfl) (by first | rfl | decide)) (
  tkc (s_rI (at_ dl_X9_write 6 (ins := .ireturn) rfl) rfl) (
  tkc (s_aload_n (at_ dl_X9_write 7 (ins := .aload_n 0) rfl)) (
  tkc (s_gR (at_ dl_X9_write 8 (ins := .getfield 10) rfl) (by decide) (by decide) (by decide) (tg 254 (by decide +kernel) (by decide +kernel))) (
  tkc (s_gI (at_ dl_X9_write 9 (ins := .getfield 75) rfl) (by decide) (by decide) (by decide) (tg 107 (by decide +kernel) (by decide +kernel))) (
  tkc (s_bipush (at_ dl_X9_write 10 (ins := .bipush 70) rfl) (by first | rfl | decide)) (
  tkc (s_ic_lt (at_ dl_X9_write 11 (ins := .if_icmp .lt 6) rfl) (by decide)) (
  tkc (s_bipush (at_ dl_X9_write 12 (ins := .bipush (-4)) rfl) (by first | rfl | decide)) (
  tkc (s_rI (at_ dl_X9_write 13 (ins := .ireturn) rfl) rfl) (
  tkc (s_aload_n (at_ dl_X9_write 14 (ins := .aload_n 0) rfl)) (
  tkc (s_gR (at_ dl_X9_write 15 (ins := .getfield 10) rfl) (by decide) (by decide) (by decide) (tg 254 (by decide +kernel) (by decide +kernel))) (
  tkc (s_iload_n (at_ dl_X9_write 16 (ins := .iload_n 1) rfl)) (
  tkc (s_cV ok_X7_append (at_ dl_X9_write 17 (ins := .invokevirtual 79) rfl) (by decide) rfl (tg 293 (by decide +kernel) (by decide +kernel)) (tg 294 (by decide +kernel) (by decide +kernel)) (tg 295 (by decide +kernel) (by decide +kernel)) (tg 43 (by decide +kernel) (by decide +kernel)) (tg 296 (by decide +kernel) (by decide +kernel)) (⟨by decide, by decide, by decide +kernel⟩) (⟨by decide, by decide⟩) rfl rfl) (
  tkc (s_rI (at_ dl_X9_write 18 (ins := .ireturn) rfl) rfl) ( tk0)))))))))))))))))))
theorem lf_X9_write : lk (tb_X9_write) 0 = (x_il 1 1, false) ∧ lk (tb_X9_write) 1 = (x_if 11 4 (fun x : Int32 => x < 0), false) ∧ lk (tb_X9_write) 4 = (x_il 5 1, false) ∧ lk (tb_X9_write) 5 = (x_c 8 (.int 255), false) ∧ lk (tb_X9_write) 8 = (x_ic 14 11 (fun x y : Int32 => x ≤ y), false) ∧ lk (tb_X9_write) 11 = (x_c 13 (.int (-2)), false) ∧ lk (tb_X9_write) 13 = (x_rI, false) ∧ lk (tb_X9_write) 14 = (x_al 15 0, false) ∧ lk (tb_X9_write) 15 = (x_gR 9 0 18, false) ∧ lk (tb_X9_write) 18 = (x_gI 7 2 21, false) ∧ lk (tb_X9_write) 21 = (x_c 23 (.int 70), false) ∧ lk (tb_X9_write) 23 = (x_ic 29 26 (fun x y : Int32 => x < y), false) ∧ lk (tb_X9_write) 26 = (x_c 28 (.int (-4)), false) ∧ lk (tb_X9_write) 28 = (x_rI, false) ∧ lk (tb_X9_write) 29 = (x_al 30 0, false) ∧ lk (tb_X9_write) 30 = (x_gR 9 0 33, false) ∧ lk (tb_X9_write) 33 = (x_il 34 1, false) ∧ lk (tb_X9_write) 34 = (x_cV 7 1 P_X7_append 37, false) ∧ lk (tb_X9_write) 37 = (x_rI, false) := ⟨rfl, rfl, rfl, rfl, rfl, rfl, rfl, rfl, rfl, rfl, rfl, rfl, rfl, rfl, rfl, rfl, rfl, rfl, rfl⟩
def P_X9_write : PTT := fun as M R => match as with
  | [.ref k, .int x] => k = 0 ∧ ∃ g, CR M.1 M.2.1 M.2.2 g ∧ GOk g ∧ Ans M R (gWrite g x).1 (gWrite g x).2
  | _ => False
set_option maxRecDepth 20000 in
theorem ok_X9_write : Ok yX9_write mt_X9_write P_X9_write := by
  refine Ok.of (by decide) rfl rfl rfl rfl fun av ⟨S, I, L⟩ R hP => ?_
  unfold P_X9_write at hP
  split at hP
  case h_2 => exact hP.elim
  rename_i k x
  obtain ⟨k, rfl⟩ : ∃ q : Nat, q = k := ⟨k, rfl⟩
  refine ⟨by simp [ent, wide, mt_X9_write], ?_⟩
  show J mt_X9_write R 0 [some (.ref k), some (.int x)] [] (S, I, L)
  try dsimp only at hP
  obtain ⟨rfl, g, hc, ho, hA⟩ := hP
  obtain ⟨h1, h2, h3, h4, h5, h6, h7, h8⟩ := hc
  have hl := ho.1.1
  refine J.of tk_X9_write 200 fun ρ hρ => ?_
  simp only [hρ, x_c, x_il, x_ll, x_al, x_is, x_as, x_ls, x_inc, x_ii, x_iq, x_i1, x_l2, x_lq, x_lh, x_i2l, x_l2i, x_lcmp, x_dup, x_dup2, x_pop, x_if, x_ifn, x_ic, x_icn, x_go, x_sw, swc, x_l01, x_mx, x_gI, x_gL, x_gR, x_pI, x_pZ, x_pL, x_pR, x_ia, x_za, x_aa, x_ias, x_zas, x_aas, x_fac, x_fa, x_slen, x_sa, x_ac, x_oi, x_new, x_na, x_cS, x_cV, x_cI, x_rI, x_rZ, x_rL, x_r0, pa, short, oc, lg, lset, lset2, wide, cond_true, cond_false, true_and, and_true, ↓reduceIte, Bool.false_eq_true, true_or, or_true, lf_X9_write, h1.1.f, h1.2.1, h1.2.1.f, h2.1, nI70, nI_ltI (show gL g < 2 ^ 31 by omega) (show 70 < 2 ^ 31 by omega), P_X7_append, Classical.not_not]
  have hc : CR S I L g := ⟨h1, h2, h3, h4, h5, h6, h7, h8⟩
  refine ⟨fun h => (hA.e (show gWrite g x = (-2, g) by rw [gWrite, if_pos (.inl h)])).s hc, fun h => ⟨fun hx => ⟨fun h7' => ⟨gL g, h7', rfl, ?_⟩, fun h7' => (hA.e (show gWrite g x = (-4, g) by rw [gWrite, if_neg (fun q => q.elim h (fun r => r hx)), if_pos (by omega)])).s hc⟩, fun hx => (hA.e (show gWrite g x = (-2, g) by rw [gWrite, if_pos (.inr hx)])).s hc⟩⟩
  refine (hA.e (show gWrite g x = (nI (gL g + 1), GT g (gL g + 1) (va_up (gT g) (gL g) (tn x))) by rw [gWrite, if_neg (fun q => q.elim h (fun r => r hx)), if_neg (by omega)])) _ L (fun q hq => by rw [mS_n (by omega), mS_n (by omega)]) (fun _ _ => rfl) ⟨h1, ⟨?_, fun j hj => ?_⟩, h3.fr (fun q a b => by rw [mS_n (by omega), mS_n (by omega)]), h4.fr (fun q a b => by rw [mS_n (by omega), mS_n (by omega)]), h5.fr (fun q a b => by rw [mS_n (by omega), mS_n (by omega)]), h6.fr rfl rfl rfl, h7, h8.fr rfl⟩
  · rw [mS_s, upd_s]; rfl
  · rw [mS_n (by omega), mS_s, upd_app]
    show _ = nI (va_up (gT g) (gL g) (tn x) j)
    unfold va_up
    split
    · rw [nI_tn]
    · exact h2.2 j (by have : j < gL g + 1 := hj; omega)
/-- wipe -/
def gWipe (g : GS) : Int32 × GS := (nI (gL g), GT g 0 (gT g))
def il_X9_wipe : List (Nat × Instr × Nat) := [(0, .aload_n 0, 1), (1, .getfield 10, 3), (4, .getfield 75, 3), (7, .istore_n 1, 1), (8, .aload_n 0, 1), (9, .getfield 10, 3), (12, .iconst 0, 1), (13, .putfield 75, 3), (16, .iload_n 1, 1), (17, .ireturn, 1)]
def mt_X9_wipe : Mt := (cX9_wipe, RX9, 2, (some .int), ({ frames := 0, cells := 0, slots := 0, locals := 0 } : Room), false, none, none)
set_option maxRecDepth 100000 in
theorem dl_X9_wipe : ∀ q ∈ il_X9_wipe, decode (mt_X9_wipe).1 q.1 = .ok q.2 := by decide +kernel
def tb_X9_wipe : Tb := [(0, x_al 1 0, false),
  (1, x_gR 9 0 4, false),
  (4, x_gI 7 2 7, false),
  (7, x_is 8 1, false),
  (8, x_al 9 0, false),
  (9, x_gR 9 0 12, false),
  (12, x_c 13 (.int 0), false),
  (13, x_pI 7 2 16, false),
  (16, x_il 17 1, false),
  (17, x_rI, false)]
set_option maxRecDepth 100000 in
theorem tk_X9_wipe : TbOk (mt_X9_wipe) (tb_X9_wipe) :=
  tkc (s_aload_n (at_ dl_X9_wipe 0 (ins := .aload_n 0) rfl)) (
  tkc (s_gR (at_ dl_X9_wipe 1 (ins := .getfield 10) rfl) (by decide) (by decide) (by decide) (tg 254 (by decide +kernel) (by decide +kernel))) (
  tkc (s_gI (at_ dl_X9_wipe 2 (ins := .getfield 75) rfl) (by decide) (by decide) (by decide) (tg 107 (by decide +kernel) (by decide +kernel))) (
  tkc (s_istore_n (at_ dl_X9_wipe 3 (ins := .istore_n 1) rfl) (by decide)) (
  tkc (s_aload_n (at_ dl_X9_wipe 4 (ins := .aload_n 0) rfl)) (
  tkc (s_gR (at_ dl_X9_wipe 5 (ins := .getfield 10) rfl) (by decide) (by decide) (by decide) (tg 254 (by decide +kernel) (by decide +kernel))) (
  tkc (s_iconst (at_ dl_X9_wipe 6 (ins := .iconst 0) rfl) (by first | rfl | decide)) (
  tkc (s_pI (at_ dl_X9_wipe 7 (ins := .putfield 75) rfl) (by decide) (by decide) (by decide) (by decide) (tg 107 (by decide +kernel) (by decide +kernel))) (
  tkc (s_iload_n (at_ dl_X9_wipe 8 (ins := .iload_n 1) rfl)) (
  tkc (s_rI (at_ dl_X9_wipe 9 (ins := .ireturn) rfl) rfl) ( tk0))))))))))
theorem lf_X9_wipe : lk (tb_X9_wipe) 0 = (x_al 1 0, false) ∧ lk (tb_X9_wipe) 1 = (x_gR 9 0 4, false) ∧ lk (tb_X9_wipe) 4 = (x_gI 7 2 7, false) ∧ lk (tb_X9_wipe) 7 = (x_is 8 1, false) ∧ lk (tb_X9_wipe) 8 = (x_al 9 0, false) ∧ lk (tb_X9_wipe) 9 = (x_gR 9 0 12, false) ∧ lk (tb_X9_wipe) 12 = (x_c 13 (.int 0), false) ∧ lk (tb_X9_wipe) 13 = (x_pI 7 2 16, false) ∧ lk (tb_X9_wipe) 16 = (x_il 17 1, false) ∧ lk (tb_X9_wipe) 17 = (x_rI, false) := ⟨rfl, rfl, rfl, rfl, rfl, rfl, rfl, rfl, rfl, rfl⟩
def P_X9_wipe : PTT := fun as M R => match as with
  | [.ref k] => k = 0 ∧ ∃ g, CR M.1 M.2.1 M.2.2 g ∧ GOk g ∧ Ans M R (gWipe g).1 (gWipe g).2
  | _ => False
set_option maxRecDepth 20000 in
theorem ok_X9_wipe : Ok yX9_wipe mt_X9_wipe P_X9_wipe := by
  refine Ok.of (by decide) rfl rfl rfl rfl fun av ⟨S, I, L⟩ R hP => ?_
  unfold P_X9_wipe at hP
  split at hP
  case h_2 => exact hP.elim
  rename_i k
  obtain ⟨k, rfl⟩ : ∃ q : Nat, q = k := ⟨k, rfl⟩
  refine ⟨by simp [ent, wide, mt_X9_wipe], ?_⟩
  show J mt_X9_wipe R 0 [some (.ref k), none] [] (S, I, L)
  try dsimp only at hP
  obtain ⟨rfl, g, ⟨h1, h2, h3, h4, h5, h6, h7, h8⟩, ho, hA⟩ := hP
  refine J.of tk_X9_wipe 200 fun ρ hρ => ?_
  simp only [hρ, x_c, x_il, x_ll, x_al, x_is, x_as, x_ls, x_inc, x_ii, x_iq, x_i1, x_l2, x_lq, x_lh, x_i2l, x_l2i, x_lcmp, x_dup, x_dup2, x_pop, x_if, x_ifn, x_ic, x_icn, x_go, x_sw, swc, x_l01, x_mx, x_gI, x_gL, x_gR, x_pI, x_pZ, x_pL, x_pR, x_ia, x_za, x_aa, x_ias, x_zas, x_aas, x_fac, x_fa, x_slen, x_sa, x_ac, x_oi, x_new, x_na, x_cS, x_cV, x_cI, x_rI, x_rZ, x_rL, x_r0, pa, short, oc, lg, lset, lset2, wide, cond_true, cond_false, true_and, and_true, ↓reduceIte, Bool.false_eq_true, true_or, or_true, lf_X9_wipe, h1.1.f, h1.2.1, h1.2.1.f, h2.1]
  exact hA _ L (fun q hq => mS_n (by omega)) (fun _ _ => rfl) ⟨h1, ⟨by rw [mS_s, upd_s]; rfl, fun j hj => absurd hj (Nat.not_lt_zero j)⟩, h3.fr (fun q a b => mS_n (by omega)), h4.fr (fun q a b => mS_n (by omega)), h5.fr (fun q a b => mS_n (by omega)), h6.fr rfl rfl rfl, h7, h8.fr rfl⟩
/-- fault -/
def gFlt (g : GS) : Int32 × TS := flt (gT g) (gL g)
theorem CT.flt {I : MI} {g : GS} (h : CT I g) (ho : GOk g) : flt (fun j => tn (I 2 j)) (tn (I 1 2)) = gFlt g := by
  have hl := ho.1.1
  rw [h.1, tn_nI (n := gL g) (by omega)]
  exact fltR_congr (fun j hj => by rw [h.2 j (by omega)]; exact tn_nI (by have := ho.1.2 j (by omega); omega))
theorem CT.v {I : MI} {g : GS} (h : CT I g) (ho : GOk g) : ∃ len, TxV I len := ⟨gL g, ho.1.1, h.1, fun j hj => by rw [h.2 j hj, tn_nI (by have := ho.1.2 j hj; omega)]; exact ho.1.2 j hj⟩
def il_X9_fault : List (Nat × Instr × Nat) := [(0, .aload_n 0, 1), (1, .getfield 10, 3), (4, .invokevirtual 83, 3), (7, .ireturn, 1)]
def mt_X9_fault : Mt := (cX9_fault, RX9, 1, (some .int), ({ frames := 3, cells := 0, slots := 0, locals := 65 } : Room), false, none, none)
set_option maxRecDepth 100000 in
theorem dl_X9_fault : ∀ q ∈ il_X9_fault, decode (mt_X9_fault).1 q.1 = .ok q.2 := by decide +kernel
def tb_X9_fault : Tb := [(0, x_al 1 0, false),
  (1, x_gR 9 0 4, false),
  (4, x_cV 7 0 P_X7_firstFault 7, false),
  (7, x_rI, false)]
set_option maxRecDepth 100000 in
theorem tk_X9_fault : TbOk (mt_X9_fault) (tb_X9_fault) :=
  tkc (s_aload_n (at_ dl_X9_fault 0 (ins := .aload_n 0) rfl)) (
  tkc (s_gR (at_ dl_X9_fault 1 (ins := .getfield 10) rfl) (by decide) (by decide) (by decide) (tg 254 (by decide +kernel) (by decide +kernel))) (
  tkc (s_cV ok_X7_firstFault (at_ dl_X9_fault 2 (ins := .invokevirtual 83) rfl) (by decide) rfl (tg 305 (by decide +kernel) (by decide +kernel)) (tg 306 (by decide +kernel) (by decide +kernel)) (tg 307 (by decide +kernel) (by decide +kernel)) (tg 43 (by decide +kernel) (by decide +kernel)) (tg 308 (by decide +kernel) (by decide +kernel)) (⟨by decide, by decide, by decide +kernel⟩) (⟨by decide, by decide⟩) rfl rfl) (
  tkc (s_rI (at_ dl_X9_fault 3 (ins := .ireturn) rfl) rfl) ( tk0))))
theorem lf_X9_fault : lk (tb_X9_fault) 0 = (x_al 1 0, false) ∧ lk (tb_X9_fault) 1 = (x_gR 9 0 4, false) ∧ lk (tb_X9_fault) 4 = (x_cV 7 0 P_X7_firstFault 7, false) ∧ lk (tb_X9_fault) 7 = (x_rI, false) := ⟨rfl, rfl, rfl, rfl⟩
def P_X9_fault : PTT := fun as M R => match as with
  | [.ref k] => k = 0 ∧ ∃ g, CR M.1 M.2.1 M.2.2 g ∧ GOk g ∧ Ans M R (gFlt g).1 g
  | _ => False
set_option maxRecDepth 20000 in
theorem ok_X9_fault : Ok yX9_fault mt_X9_fault P_X9_fault := by
  refine Ok.of (by decide) rfl rfl rfl rfl fun av ⟨S, I, L⟩ R hP => ?_
  unfold P_X9_fault at hP
  split at hP
  case h_2 => exact hP.elim
  rename_i k
  obtain ⟨k, rfl⟩ : ∃ q : Nat, q = k := ⟨k, rfl⟩
  refine ⟨by simp [ent, wide, mt_X9_fault], ?_⟩
  show J mt_X9_fault R 0 [some (.ref k)] [] (S, I, L)
  try dsimp only at hP
  obtain ⟨rfl, g, hc, ho, hA⟩ := hP
  have h1 := hc.1
  have h2 := hc.2.1
  refine J.of tk_X9_fault 200 fun ρ hρ => ?_
  simp only [hρ, x_c, x_il, x_ll, x_al, x_is, x_as, x_ls, x_inc, x_ii, x_iq, x_i1, x_l2, x_lq, x_lh, x_i2l, x_l2i, x_lcmp, x_dup, x_dup2, x_pop, x_if, x_ifn, x_ic, x_icn, x_go, x_sw, swc, x_l01, x_mx, x_gI, x_gL, x_gR, x_pI, x_pZ, x_pL, x_pR, x_ia, x_za, x_aa, x_ias, x_zas, x_aas, x_fac, x_fa, x_slen, x_sa, x_ac, x_oi, x_new, x_na, x_cS, x_cV, x_cI, x_rI, x_rZ, x_rL, x_r0, pa, short, oc, lg, lset, lset2, wide, cond_true, cond_false, true_and, and_true, ↓reduceIte, Bool.false_eq_true, true_or, or_true, lf_X9_fault, h1.1.f, h1.2.1, h1.2.1.f, h1.2.2.1, eq_true (h2.v ho), P_X7_firstFault, h2.flt ho]
  exact fun I' hf _ => hA.q hc (fun q a b c d e f => hf q a b)
/-- code -/
def codeA (s : TS) : AS := (s.2.1, s.2.2.2.1, nI s.2.2.1, 0, s.2.2.2.2.2, fun _ => 0, fun _ => 0, fun _ => 0)
def gCode (g : GS) : Int32 × GS := if (gFlt g).1 = -9 then (nI (gFlt g).2.2.2.2.1, GK (GH (GA g (codeA (gFlt g).2)) 0 (gH g)) (fun _ => false) (gS g)) else (-3, g)
theorem gFlt_ok {g : GS} (ho : GOk g) (h : (gFlt g).1 = -9) : TSok (gFlt g).2 ∧ (gFlt g).2.1 = 3 := fltR_ok ho.1.1 (by omega) TSok_0 h
theorem in31 : inR 31 0 := ⟨by decide, by decide⟩
theorem in99 : inR 99 0 := ⟨by decide, by decide⟩
theorem codeA_ok {s : TS} (h : TSok s) (h3 : s.1 = 3) : AOk (codeA s) := by
  obtain ⟨q1, q2, q3, q4, q5, q6, q7⟩ := h
  have t1 := q2 (by omega)
  have t2 := q3 (by omega)
  refine ⟨⟨t1.1, t1.2, q4⟩, fun c hc => ?_, ⟨s.2.2.1, t2, rfl⟩, fun b hb => in31, fun b hb => in99, fun b hb => in31⟩
  have := q7 c
  rw [if_neg (by omega)] at this
  exact this hc
theorem SR_cd {I : MI} {s : TS} (h : RdF I s) (hm : s.2.2.2.1 ≤ 6) : SR (cdI I 5 3) 5 (codeA s) := by
  obtain ⟨r1, r2, r3, r4⟩ := h
  have e0 : cdI I 5 3 5 = upd (upd (upd (upd (I 5) 4 (I 3 2)) 5 (I 3 4)) 6 (I 3 3)) 7 0 := rfl
  have e1 : cdI I 5 3 6 = cpy (I 4) (I 6) 6 := rfl
  have e2 : cdI I 5 3 7 = zr (I 7) 9 := rfl
  have e3 : cdI I 5 3 8 = cpy (zr (I 7) 9) (I 8) 9 := rfl
  have e4 : cdI I 5 3 9 = zr (I 9) 54 := rfl
  refine ⟨by rw [e0]; exact r1, by rw [e0]; exact r3, by rw [e0]; exact r2, by rw [e0]; rfl, fun c hc => ?_, fun b hb => ?_, fun b hb => ?_, fun j hj => ?_⟩
  · show cdI I 5 3 6 c = _
    rw [e1, cpy_in (by have : c < s.2.2.2.1 := hc; omega)]; exact r4 c hc
  · show cdI I 5 3 7 b = _
    rw [e2, zr_in hb]; rfl
  · show cdI I 5 3 8 b = _
    rw [e3, cpy_in hb, zr_in hb]; rfl
  · show cdI I 5 3 9 j = _
    rw [e4, zr_in hj]; rfl
theorem cd_fr {I : MI} {q : Nat} (h : q < 5 ∨ 10 ≤ q) : cdI I 5 3 q = I q := by
  unfold cdI
  rw [beg_r (by omega) (by omega) (by omega), mS_n (by omega), cd1, mS_n (by omega), mS_n (by omega)]
theorem b2 {i : Nat} (h : i < 2) : i = 0 ∨ i = 1 := by omega
def il_X9_code : List (Nat × Instr × Nat) := [(0, .aload_n 0, 1), (1, .getfield 10, 3), (4, .invokevirtual 83, 3), (7, .bipush (-9), 2), (9, .if_icmp .eq 6, 3), (12, .bipush (-3), 2), (14, .ireturn, 1), (15, .aload_n 0, 1), (16, .getfield 19, 3), (19, .aload_n 0, 1), (20, .getfield 10, 3), (23, .getfield 87, 3), (26, .invokevirtual 91, 3), (29, .aload_n 0, 1), (30, .getfield 52, 3), (33, .invokevirtual 95, 3), (36, .iconst 0, 1), (37, .istore_n 1, 1), (38, .iload_n 1, 1), (39, .iconst 2, 1), (40, .if_icmp .ge 16, 3), (43, .aload_n 0, 1), (44, .getfield 67, 3), (47, .iload_n 1, 1), (48, .iconst 0, 1), (49, .bastore, 1), (50, .iinc 1 1, 3), (53, .goto (-15), 3), (56, .aload_n 0, 1), (57, .getfield 19, 3), (60, .getfield 98, 3), (63, .ireturn, 1)]
def mt_X9_code : Mt := (cX9_code, RX9, 2, (some .int), ({ frames := 3, cells := 0, slots := 0, locals := 65 } : Room), false, none, none)
set_option maxRecDepth 100000 in
theorem dl_X9_code : ∀ q ∈ il_X9_code, decode (mt_X9_code).1 q.1 = .ok q.2 := by decide +kernel
def tb_X9_code : Tb := [(0, x_al 1 0, false),
  (1, x_gR 9 0 4, false),
  (4, x_cV 7 0 P_X7_firstFault 7, false),
  (7, x_c 9 (.int (-9)), false),
  (9, x_ic 15 12 (fun x y : Int32 => x = y), false),
  (12, x_c 14 (.int (-3)), false),
  (14, x_rI, false),
  (15, x_al 16 0, false),
  (16, x_gR 9 1 19, false),
  (19, x_al 20 0, false),
  (20, x_gR 9 0 23, false),
  (23, x_gR 7 1 26, false),
  (26, x_cV 5 1 P_X5_becomeCode 29, false),
  (29, x_al 30 0, false),
  (30, x_gR 9 6 33, false),
  (33, x_cV 0 0 P_X0_forgetAll 36, false),
  (36, x_c 37 (.int 0), false),
  (37, x_is 38 1, false),
  (38, x_il 39 1, true),
  (39, x_c 40 (.int 2), false),
  (40, x_ic 56 43 (fun x y : Int32 => y ≤ x), false),
  (43, x_al 44 0, false),
  (44, x_gR 9 9 47, false),
  (47, x_il 48 1, false),
  (48, x_c 49 (.int 0), false),
  (49, x_zas 50, false),
  (50, x_inc 53 1 1, false),
  (53, x_go 38, false),
  (56, x_al 57 0, false),
  (57, x_gR 9 1 60, false),
  (60, x_gI 5 5 63, false),
  (63, x_rI, false)]
set_option maxRecDepth 100000 in
theorem tk_X9_code : TbOk (mt_X9_code) (tb_X9_code) :=
  tkc (s_aload_n (at_ dl_X9_code 0 (ins := .aload_n 0) rfl)) (
  tkc (s_gR (at_ dl_X9_code 1 (ins := .getfield 10) rfl) (by decide) (by decide) (by decide) (tg 254 (by decide +kernel) (by decide +kernel))) (
  tkc (s_cV ok_X7_firstFault (at_ dl_X9_code 2 (ins := .invokevirtual 83) rfl) (by decide) rfl (tg 305 (by decide +kernel) (by decide +kernel)) (tg 306 (by decide +kernel) (by decide +kernel)) (tg 307 (by decide +kernel) (by decide +kernel)) (tg 43 (by decide +kernel) (by decide +kernel)) (tg 308 (by decide +kernel) (by decide +kernel)) (⟨by decide, by decide, by decide +kernel⟩) (⟨by decide, by decide⟩) rfl rfl) (
  tkc (s_bipush (at_ dl_X9_code 3 (ins := .bipush (-9)) rfl) (by first | rfl | decide)) (
  tkc (s_ic_eq (at_ dl_X9_code 4 (ins := .if_icmp .eq 6) rfl) (by decide)) (
  tkc (s_bipush (at_ dl_X9_code 5 (ins := .bipush (-3)) rfl) (by first | rfl | decide)) (
  tkc (s_rI (at_ dl_X9_code 6 (ins := .ireturn) rfl) rfl) (
  tkc (s_aload_n (at_ dl_X9_code 7 (ins := .aload_n 0) rfl)) (
  tkc (s_gR (at_ dl_X9_code 8 (ins := .getfield 19) rfl) (by decide) (by decide) (by decide) (tg 255 (by decide +kernel) (by decide +kernel))) (
  tkc (s_aload_n (at_ dl_X9_code 9 (ins := .aload_n 0) rfl)) (
  tkc (s_gR (at_ dl_X9_code 10 (ins := .getfield 10) rfl) (by decide) (by decide) (by decide) (tg 254 (by decide +kernel) (by decide +kernel))) (
  tkc (s_gR (at_ dl_X9_code 11 (ins := .getfield 87) rfl) (by decide) (by decide) (by decide) (tg 105 (by decide +kernel) (by decide +kernel))) (
  tkc (s_cV ok_X5_becomeCode (at_ dl_X9_code 12 (ins := .invokevirtual 91) rfl) (by decide) rfl (tg 341 (by decide +kernel) (by decide +kernel)) (tg 342 (by decide +kernel) (by decide +kernel)) (tg 343 (by decide +kernel) (by decide +kernel)) (tg 45 (by decide +kernel) (by decide +kernel)) (tg 344 (by decide +kernel) (by decide +kernel)) (⟨by decide, by decide, by decide +kernel⟩) (⟨by decide, by decide⟩) rfl rfl) (
  tkc (s_aload_n (at_ dl_X9_code 13 (ins := .aload_n 0) rfl)) (
  tkc (s_gR (at_ dl_X9_code 14 (ins := .getfield 52) rfl) (by decide) (by decide) (by decide) (tg 260 (by decide +kernel) (by decide +kernel))) (
  tkc (s_cV ok_X0_forgetAll (at_ dl_X9_code 15 (ins := .invokevirtual 95) rfl) (by decide) rfl (tg 352 (by decide +kernel) (by decide +kernel)) (tg 353 (by decide +kernel) (by decide +kernel)) (tg 354 (by decide +kernel) (by decide +kernel)) (tg 49 (by decide +kernel) (by decide +kernel)) (tg 355 (by decide +kernel) (by decide +kernel)) (⟨by decide, by decide, by decide +kernel⟩) (⟨by decide, by decide⟩) rfl rfl) (
  tkc (s_iconst (at_ dl_X9_code 16 (ins := .iconst 0) rfl) (by first | rfl | decide)) (
  tkc (s_istore_n (at_ dl_X9_code 17 (ins := .istore_n 1) rfl) (by decide)) (
  tkc (s_iload_n (at_ dl_X9_code 18 (ins := .iload_n 1) rfl)) (
  tkc (s_iconst (at_ dl_X9_code 19 (ins := .iconst 2) rfl) (by first | rfl | decide)) (
  tkc (s_ic_ge (at_ dl_X9_code 20 (ins := .if_icmp .ge 16) rfl) (by decide)) (
  tkc (s_aload_n (at_ dl_X9_code 21 (ins := .aload_n 0) rfl)) (
  tkc (s_gR (at_ dl_X9_code 22 (ins := .getfield 67) rfl) (by decide) (by decide) (by decide) (tg 263 (by decide +kernel) (by decide +kernel))) (
  tkc (s_iload_n (at_ dl_X9_code 23 (ins := .iload_n 1) rfl)) (
  tkc (s_iconst (at_ dl_X9_code 24 (ins := .iconst 0) rfl) (by first | rfl | decide)) (
  tkc (s_zas (at_ dl_X9_code 25 (ins := .bastore) rfl)) (
  tkc (s_iinc (at_ dl_X9_code 26 (ins := .iinc 1 1) rfl) (by decide) (by first | rfl | decide)) (
  tkc (s_goto (at_ dl_X9_code 27 (ins := .goto (-15)) rfl) (by decide)) (
  tkc (s_aload_n (at_ dl_X9_code 28 (ins := .aload_n 0) rfl)) (
  tkc (s_gR (at_ dl_X9_code 29 (ins := .getfield 19) rfl) (by decide) (by decide) (by decide) (tg 255 (by decide +kernel) (by decide +kernel))) (
  tkc (s_gI (at_ dl_X9_code 30 (ins := .getfield 98) rfl) (by decide) (by decide) (by decide) (tg 142 (by decide +kernel) (by decide +kernel))) (
  tkc (s_rI (at_ dl_X9_code 31 (ins := .ireturn) rfl) rfl) ( tk0))))))))))))))))))))))))))))))))
theorem lf_X9_code : lk (tb_X9_code) 0 = (x_al 1 0, false) ∧ lk (tb_X9_code) 1 = (x_gR 9 0 4, false) ∧ lk (tb_X9_code) 4 = (x_cV 7 0 P_X7_firstFault 7, false) ∧ lk (tb_X9_code) 7 = (x_c 9 (.int (-9)), false) ∧ lk (tb_X9_code) 9 = (x_ic 15 12 (fun x y : Int32 => x = y), false) ∧ lk (tb_X9_code) 12 = (x_c 14 (.int (-3)), false) ∧ lk (tb_X9_code) 14 = (x_rI, false) ∧ lk (tb_X9_code) 15 = (x_al 16 0, false) ∧ lk (tb_X9_code) 16 = (x_gR 9 1 19, false) ∧ lk (tb_X9_code) 19 = (x_al 20 0, false) ∧ lk (tb_X9_code) 20 = (x_gR 9 0 23, false) ∧ lk (tb_X9_code) 23 = (x_gR 7 1 26, false) ∧ lk (tb_X9_code) 26 = (x_cV 5 1 P_X5_becomeCode 29, false) ∧ lk (tb_X9_code) 29 = (x_al 30 0, false) ∧ lk (tb_X9_code) 30 = (x_gR 9 6 33, false) ∧ lk (tb_X9_code) 33 = (x_cV 0 0 P_X0_forgetAll 36, false) ∧ lk (tb_X9_code) 36 = (x_c 37 (.int 0), false) ∧ lk (tb_X9_code) 37 = (x_is 38 1, false) ∧ lk (tb_X9_code) 38 = (x_il 39 1, true) ∧ lk (tb_X9_code) 39 = (x_c 40 (.int 2), false) ∧ lk (tb_X9_code) 40 = (x_ic 56 43 (fun x y : Int32 => y ≤ x), false) ∧ lk (tb_X9_code) 43 = (x_al 44 0, false) ∧ lk (tb_X9_code) 44 = (x_gR 9 9 47, false) ∧ lk (tb_X9_code) 47 = (x_il 48 1, false) ∧ lk (tb_X9_code) 48 = (x_c 49 (.int 0), false) ∧ lk (tb_X9_code) 49 = (x_zas 50, false) ∧ lk (tb_X9_code) 50 = (x_inc 53 1 1, false) ∧ lk (tb_X9_code) 53 = (x_go 38, false) ∧ lk (tb_X9_code) 56 = (x_al 57 0, false) ∧ lk (tb_X9_code) 57 = (x_gR 9 1 60, false) ∧ lk (tb_X9_code) 60 = (x_gI 5 5 63, false) ∧ lk (tb_X9_code) 63 = (x_rI, false) := ⟨rfl, rfl, rfl, rfl, rfl, rfl, rfl, rfl, rfl, rfl, rfl, rfl, rfl, rfl, rfl, rfl, rfl, rfl, rfl, rfl, rfl, rfl, rfl, rfl, rfl, rfl, rfl, rfl, rfl, rfl, rfl, rfl⟩
def P_X9_code : PTT := fun as M R => match as with
  | [.ref k] => k = 0 ∧ ∃ g, CR M.1 M.2.1 M.2.2 g ∧ GOk g ∧ Ans M R (gCode g).1 (gCode g).2
  | _ => False
set_option maxRecDepth 20000 in
theorem ok_X9_code : Ok yX9_code mt_X9_code P_X9_code := by
  refine Ok.of (by decide) rfl rfl rfl rfl fun av ⟨S, I, L⟩ R hP => ?_
  unfold P_X9_code at hP
  split at hP
  case h_2 => exact hP.elim
  rename_i k
  obtain ⟨k, rfl⟩ : ∃ q : Nat, q = k := ⟨k, rfl⟩
  refine ⟨by simp [ent, wide, mt_X9_code], ?_⟩
  show J mt_X9_code R 0 [some (.ref k), none] [] (S, I, L)
  try dsimp only at hP
  obtain ⟨rfl, g, hc, ho, hA⟩ := hP
  obtain ⟨h1, h2, h3, h4, h5, h6, h7, h8⟩ := id hc
  have hah : ahead2 3 5 := Nat.le_refl 5
  refine J.of tk_X9_code 200 fun ρ hρ => ?_
  simp only [hρ, x_c, x_il, x_ll, x_al, x_is, x_as, x_ls, x_inc, x_ii, x_iq, x_i1, x_l2, x_lq, x_lh, x_i2l, x_l2i, x_lcmp, x_dup, x_dup2, x_pop, x_if, x_ifn, x_ic, x_icn, x_go, x_sw, swc, x_l01, x_mx, x_gI, x_gL, x_gR, x_pI, x_pZ, x_pL, x_pR, x_ia, x_za, x_aa, x_ias, x_zas, x_aas, x_fac, x_fa, x_slen, x_sa, x_ac, x_oi, x_new, x_na, x_cS, x_cV, x_cI, x_rI, x_rZ, x_rL, x_r0, pa, short, oc, lg, lset, lset2, wide, cond_true, cond_false, true_and, and_true, ↓reduceIte, Bool.false_eq_true, true_or, or_true, lf_X9_code, h1.1.f, h1.2.1, h1.2.1.f, h1.2.2.1, h1.2.2.2.1, h1.2.2.2.2.2.2.2.2.1, eq_true (h2.v ho), P_X7_firstFault, P_X5_becomeCode, P_X0_forgetAll, h2.flt ho, hah]
  intro I' hf hr
  refine ⟨fun h9 => ⟨h1.2.2.2.1.1, h1.2.2.2.2.2.2.2.2.1.1, ?_⟩, fun h9 => (hA.e (show gCode g = (-3, g) by rw [gCode, if_neg h9])).q hc (fun q a b c d e f => hf q a b)⟩
  obtain ⟨tok, t3⟩ := gFlt_ok ho h9
  have hsr := SR_cd (hr h9) tok.2.2.2.1
  have hA' := hA.e (show gCode g = (nI (gFlt g).2.2.2.2.1, GK (GH (GA g (codeA (gFlt g).2)) 0 (gH g)) (fun _ => false) (gS g)) by rw [gCode, if_pos h9])
  have em : mS (cdI I' 5 3) 21 (upd (cdI I' 5 3 21) 2 0) 5 5 = nI (gFlt g).2.2.2.2.1 := hsr.2.1
  have hX : ∀ q, q ≠ 3 → q ≠ 4 → (q < 5 ∨ 10 ≤ q) → q ≠ 21 → mS (cdI I' 5 3) 21 (upd (cdI I' 5 3 21) 2 0) q = I q := fun q a b c d => by rw [mS_n d, cd_fr c, hf q a b]
  have h21 : mS (cdI I' 5 3) 21 (upd (cdI I' 5 3 21) 2 0) 21 = upd (I 21) 2 0 := by rw [mS_s, cd_fr (by omega), hf 21 (by omega) (by omega)]
  have hs5 : SR (mS (cdI I' 5 3) 21 (upd (cdI I' 5 3 21) 2 0)) 5 (codeA (gFlt g).2) := hsr.fr (fun q a b => mS_n (by omega))
  revert em hX h21 hs5
  generalize mS (cdI I' 5 3) 21 (upd (cdI I' 5 3 21) 2 0) = X
  intro em hX h21 hs5
  have key := up (P := fun i => J mt_X9_code R 38 [some (.ref 0), some (.int (nI i))] [] (S, mS X 107 (zr (X 107) i), L)) (n := 2) (fun i hi ih => ?_) 0 (Nat.zero_le _)
  · rw [zr_0, mS_id] at key
    exact key
  refine J.of tk_X9_code 200 fun ρ hρ => ?_
  simp only [hρ, x_c, x_il, x_ll, x_al, x_is, x_as, x_ls, x_inc, x_ii, x_iq, x_i1, x_l2, x_lq, x_lh, x_i2l, x_l2i, x_lcmp, x_dup, x_dup2, x_pop, x_if, x_ifn, x_ic, x_icn, x_go, x_sw, swc, x_l01, x_mx, x_gI, x_gL, x_gR, x_pI, x_pZ, x_pL, x_pR, x_ia, x_za, x_aa, x_ias, x_zas, x_aas, x_fac, x_fa, x_slen, x_sa, x_ac, x_oi, x_new, x_na, x_cS, x_cV, x_cI, x_rI, x_rZ, x_rL, x_r0, pa, short, oc, lg, lset, lset2, wide, cond_true, cond_false, true_and, and_true, ↓reduceIte, Bool.false_eq_true, true_or, or_true, lf_X9_code, h1.1.f, h1.2.2.2.1.f, h1.2.2.2.2.2.2.2.2.2.2.1.f, show (2 : Int32) = nI 2 by decide, nI_leI (show 2 < 2 ^ 31 by omega) (show i < 2 ^ 31 by omega), ncl (show i < 2 ^ 31 by omega), nI_1, mS_s, mS_ss, zr_s]
  refine ⟨fun h => ?_, fun h => ⟨vp_in_nI (by omega) (by omega), ih (by omega)⟩⟩
  have : i = 2 := by omega
  subst this
  rw [mS_n (show (5 : Nat) ≠ 107 by omega), em]
  obtain ⟨f, ⟨a1, a2, a3, a4⟩, -⟩ := h4
  refine hA' _ L (fun q hq => by rw [mS_n (by omega), hX q (by omega) (by omega) (by omega) (by omega)]) (fun _ _ => rfl) ⟨h1, h2.fr (by rw [mS_n (by omega), hX 1 (by omega) (by omega) (by omega) (by omega)]) (by rw [mS_n (by omega), hX 2 (by omega) (by omega) (by omega) (by omega)]), hs5.fr (fun q a b => mS_n (by omega)), ⟨f, ⟨a1, Nat.zero_le _, ?_, ?_⟩, fun j hj => absurd hj (Nat.not_lt_zero j)⟩, fun i hi => ⟨?_, fun q => absurd q Bool.false_ne_true⟩, h6.fr (by rw [mS_n (by omega), hX 93 (by omega) (by omega) (by omega) (by omega)]) (by rw [mS_n (by omega), hX 94 (by omega) (by omega) (by omega) (by omega)]) (by rw [mS_n (by omega), hX 95 (by omega) (by omega) (by omega) (by omega)]), h7, h8.fr (by rw [mS_n (by omega), hX 16 (by omega) (by omega) (by omega) (by omega)])⟩
  · rw [mS_n (by omega), h21]; exact a3
  · rw [mS_n (by omega), h21]; rfl
  · rw [mS_s, zr_in hi]; rfl
