/-! ACTS of the class -/
def remG (g : GS) : GS := GH g (if gC g < 14 then gC g + 1 else 14) (fun j => if j = 0 then gA g else gH g (j - 1))
theorem CA.rem {S : Sh} {I I' : MI} {L : Nat → Nat → Int64} {g : GS} {f f' c' : Nat} (hc : CR S I L g) (ho : GOk g) (h1 : AcV I f (gC g)) (hs : ∀ j, j < gC g → SR I (23 + 5 * ((f + gC g - 1 - j) % 14)) (gH g j)) (e1 : gC g < 14 → f' = f ∧ c' = gC g + 1) (e2 : gC g = 14 → f' = (f + 1) % 14 ∧ c' = 14) (h2 : AcV I' f' c') (h3 : StCp I' (23 + 5 * ((f' + c' - 1) % 14)) I 5) (hf : ∀ q, q ≠ 21 → (q < 23 + 5 * ((f' + c' - 1) % 14) ∨ 23 + 5 * ((f' + c' - 1) % 14) + 5 ≤ q) → I' q = I q) : CR S I' L (remG g) := by
  obtain ⟨c1, c2, c3, c4, c5, c6, c7, c8⟩ := hc
  have hm := Nat.mod_lt (f' + c' - 1) (show 0 < 14 by omega)
  have h14 := h1.1
  have hC := ho.2.2.1.1
  have hcc : c' = if gC g < 14 then gC g + 1 else 14 := by
    split
    · exact (e1 (by assumption)).2
    · exact (e2 (by omega)).2
  refine ⟨c1, c2.fr (hf 1 (by omega) (by omega)) (hf 2 (by omega) (by omega)), c3.fr (fun q a b => hf q (by omega) (by omega)), ⟨f', ?_, fun j hj => ?_⟩, c5.fr (fun q a b => hf q (by omega) (by omega)), c6.fr (hf 93 (by omega) (by omega)) (hf 94 (by omega) (by omega)) (hf 95 (by omega) (by omega)), c7, c8.fr (hf 16 (by omega) (by omega))⟩
  · show AcV I' f' (if gC g < 14 then gC g + 1 else 14)
    rw [← hcc]; exact h2
  · replace hj : j < (if gC g < 14 then gC g + 1 else 14) := hj
    show SR I' (23 + 5 * ((f' + (if gC g < 14 then gC g + 1 else 14) - 1 - j) % 14)) (if j = 0 then gA g else gH g (j - 1))
    rw [← hcc] at hj ⊢
    by_cases hj0 : j = 0
    · subst hj0
      rw [if_pos rfl, Nat.sub_zero]
      exact SR.cp h3 c3 ho.2.1.1.2.2
    · rw [if_neg hj0]
      have hlt : j - 1 < gC g := by
        by_cases h : gC g < 14
        · have := (e1 h).2; omega
        · have := (e2 (by omega)).2; omega
      have hslot : (f' + c' - 1 - j) % 14 = (f + gC g - 1 - (j - 1)) % 14 := by
        by_cases h : gC g < 14
        · obtain ⟨q1, q2⟩ := e1 h; subst q1; subst q2; congr 1; omega
        · obtain ⟨q1, q2⟩ := e2 (by omega); subst q1; subst q2; omega
      have hne : (f' + c' - 1 - j) % 14 ≠ (f' + c' - 1) % 14 := by
        have : c' ≤ 14 := h2.2.1
        omega
      have hb := Nat.mod_lt (f + gC g - 1 - (j - 1)) (show 0 < 14 by omega)
      have := hs (j - 1) hlt
      rw [← hslot] at this
      rw [← hslot] at hb
      exact this.fr (fun q a b => hf q (by omega) (by omega))
theorem CR.f8r {I I' : MI} {n : Nat} (hn : n < 14) (hf : ∀ q, q ≠ 21 → (q < 23 + 5 * n ∨ 23 + 5 * n + 5 ≤ q) → I' q = I q) : fr8 I I' := fun q hq => hf q (by omega) (by omega)
/-- what stands now becomes another -/
def frN (I I' : MI) : Prop := ∀ q, q ≠ 3 → q ≠ 4 → (q < 5 ∨ 15 ≤ q) → q ≠ 15 → q ≠ 17 → q ≠ 20 → I' q = I q
theorem CR.now {S : Sh} {I I' : MI} {L : Nat → Nat → Int64} {g : GS} {a : AS} (h : CR S I L g) (hf : frN I I') (hs : SR I' 5 a) : CR S I' L (GA g a) := by
  obtain ⟨h1, h2, h3, h4, h5, h6, h7, h8⟩ := h
  exact ⟨h1, h2.fr (hf 1 (by omega) (by omega) (by omega) (by omega) (by omega) (by omega)) (hf 2 (by omega) (by omega) (by omega) (by omega) (by omega) (by omega)), hs, CA.fr (g := g) h4 (fun q a b => hf q (by omega) (by omega) (by omega) (by omega) (by omega) (by omega)), CK.fr (g := g) h5 (fun q a b => hf q (by omega) (by omega) (by omega) (by omega) (by omega) (by omega)), CE.fr (g := g) h6 (hf 93 (by omega) (by omega) (by omega) (by omega) (by omega) (by omega)) (hf 94 (by omega) (by omega) (by omega) (by omega) (by omega) (by omega)) (hf 95 (by omega) (by omega) (by omega) (by omega) (by omega) (by omega)), h7, h8.fr (hf 16 (by omega) (by omega) (by omega) (by omega) (by omega) (by omega))⟩
theorem frN.f8 {I I' : MI} (h : frN I I') : fr8 I I' := fun q hq => h q (by omega) (by omega) (by omega) (by omega) (by omega) (by omega)
theorem fr8.trans {A B C : MI} (h : fr8 A B) (h' : fr8 B C) : fr8 A C := fun q hq => (h' q hq).trans (h q hq)
/-- as the remembering is called -/
theorem CR.ac {S : Sh} {I : MI} {L : Nat → Nat → Int64} {g : GS} (hc : CR S I L g) : IsAc S ∧ IsSt S 5 := ⟨hc.1.2.2.2.2.2.2.2.2.1, hc.1.2.2.2.1⟩
theorem CR.rem {S : Sh} {I : MI} {L : Nat → Nat → Int64} {g : GS} (hc : CR S I L g) (ho : GOk g) {Q : MI → Prop} (h : ∀ I', fr8 I I' → CR S I' L (remG g) → Q I') : ∃ f c, AcV I f c ∧ ∀ I' f' c', (c < 14 → f' = f ∧ c' = c + 1) → (c = 14 → f' = (f + 1) % 14 ∧ c' = 14) → AcV I' f' c' → StCp I' (23 + 5 * ((f' + c' - 1) % 14)) I 5 → (∀ q, q ≠ 21 → (q < 23 + 5 * ((f' + c' - 1) % 14) ∨ 23 + 5 * ((f' + c' - 1) % 14) + 5 ≤ q) → I' q = I q) → Q I' := by
  obtain ⟨f, h1, hs⟩ := hc.2.2.2.1
  exact ⟨f, gC g, h1, fun I' f' c' e1 e2 h2 h3 hf => h I' (CR.f8r (Nat.mod_lt _ (by omega)) hf) (CA.rem hc ho h1 hs e1 e2 h2 h3 hf)⟩
theorem remG_A (g : GS) : gA (remG g) = gA g := rfl
/-- a bit, a check of what stands now -/
abbrev hB (g : GS) (b : Int32) : Prop := ¬ b < 0 ∧ ¬ nI (aN (gA g)) ≤ b
abbrev hC (g : GS) (c : Int32) : Prop := ¬ c < 0 ∧ ¬ nI (aM (gA g)) ≤ c
theorem hB.i {g : GS} {b : Int32} (h : hB g b) (ho : GOk g) : ∃ j, j < aN (gA g) ∧ b = nI j := in_of h ho.2.1.1.2.1 (by omega)
theorem hC.i {g : GS} {c : Int32} (h : hC g c) (ho : GOk g) : ∃ j, j < aM (gA g) ∧ c = nI j := in_of h ho.2.1.1.2.2 (by omega)
/-- level -/
def lvA (a : AS) (b : Nat) (v : Int32) : AS := (a.1, a.2.1, a.2.2.1, a.2.2.2.1, a.2.2.2.2.1, upd a.2.2.2.2.2.1 b v, a.2.2.2.2.2.2)
theorem SR.lv {I : MI} {k b : Nat} {a : AS} {v : Int32} (h : SR I k a) : SR (mS I (k + 2) (upd (I (k + 2)) b v)) k (lvA a b v) := by
  obtain ⟨g1, g2, g3, g4, g5, g6, g7⟩ := h
  have e0 : mS I (k + 2) (upd (I (k + 2)) b v) k = I k := mS_n (by omega)
  have e1 : mS I (k + 2) (upd (I (k + 2)) b v) (k + 1) = I (k + 1) := mS_n (by omega)
  have e3 : mS I (k + 2) (upd (I (k + 2)) b v) (k + 3) = I (k + 3) := mS_n (by omega)
  have e4 : mS I (k + 2) (upd (I (k + 2)) b v) (k + 4) = I (k + 4) := mS_n (by omega)
  refine ⟨by rw [e0]; exact g1, by rw [e0]; exact g2, by rw [e0]; exact g3, by rw [e0]; exact g4, by rw [e1]; exact g5, fun x hx => ?_, by rw [e3, e4]; exact g7⟩
  rw [mS_s, upd_app]
  show _ = upd (aL a) b v x
  rw [upd_app]
  split
  · rfl
  · exact g6 x hx
def gLevel (g : GS) (b v : Int32) : Int32 × GS := if ¬ hB g b then (-1, g) else if v < -31 ∨ ¬ v ≤ 31 then (-2, g) else (aL (gA g) (tn b) + 100, GA (remG g) (lvA (gA g) (tn b) v))
def il_X9_level : List (Nat × Instr × Nat) := [(0, .aload_n 0, 1), (1, .getfield 19, 3), (4, .iload_n 1, 1), (5, .invokevirtual 148, 3), (8, .ifCond .ne 5, 3), (11, .iconst (-1), 1), (12, .ireturn, 1), (13, .iload_n 2, 1), (14, .bipush (-31), 2), (16, .if_icmp .lt 9, 3), (19, .iload_n 2, 1), (20, .bipush 31, 2), (22, .if_icmp .le 6, 3), (25, .bipush (-2), 2), (27, .ireturn, 1), (28, .aload_n 0, 1), (29, .getfield 52, 3), (32, .aload_n 0, 1), (33, .getfield 19, 3), (36, .invokevirtual 175, 3), (39, .aload_n 0, 1), (40, .getfield 19, 3), (43, .getfield 152, 3), (46, .iload_n 1, 1), (47, .iaload, 1), (48, .istore_n 3, 1), (49, .aload_n 0, 1), (50, .getfield 19, 3), (53, .getfield 152, 3), (56, .iload_n 1, 1), (57, .iload_n 2, 1), (58, .iastore, 1), (59, .iload_n 3, 1), (60, .bipush 100, 2), (62, .iadd, 1), (63, .ireturn, 1)]
def mt_X9_level : Mt := (cX9_level, RX9, 4, (some .int), ({ frames := 3, cells := 0, slots := 0, locals := 60 } : Room), false, none, none)
set_option maxRecDepth 100000 in
theorem dl_X9_level : ∀ q ∈ il_X9_level, decode (mt_X9_level).1 q.1 = .ok q.2 := by decide +kernel
def tb_X9_level : Tb := [(0, x_al 1 0, false),
  (1, x_gR 9 1 4, false),
  (4, x_il 5 1, false),
  (5, x_cV 5 1 P_X5_hasBit 8, false),
  (8, x_ifn 13 11 (fun x : Int32 => x = 0), false),
  (11, x_c 12 (.int (-1)), false),
  (12, x_rI, false),
  (13, x_il 14 2, false),
  (14, x_c 16 (.int (-31)), false),
  (16, x_ic 25 19 (fun x y : Int32 => x < y), false),
  (19, x_il 20 2, false),
  (20, x_c 22 (.int 31), false),
  (22, x_ic 28 25 (fun x y : Int32 => x ≤ y), false),
  (25, x_c 27 (.int (-2)), false),
  (27, x_rI, false),
  (28, x_al 29 0, false),
  (29, x_gR 9 6 32, false),
  (32, x_al 33 0, false),
  (33, x_gR 9 1 36, false),
  (36, x_cV 0 1 P_X0_remember 39, false),
  (39, x_al 40 0, false),
  (40, x_gR 9 1 43, false),
  (43, x_gR 5 1 46, false),
  (46, x_il 47 1, false),
  (47, x_ia 48, false),
  (48, x_is 49 3, false),
  (49, x_al 50 0, false),
  (50, x_gR 9 1 53, false),
  (53, x_gR 5 1 56, false),
  (56, x_il 57 1, false),
  (57, x_il 58 2, false),
  (58, x_ias 59, false),
  (59, x_il 60 3, false),
  (60, x_c 62 (.int 100), false),
  (62, x_ii 63 (fun x y : Int32 => x + y), false),
  (63, x_rI, false)]
set_option maxRecDepth 100000 in
theorem tk_X9_level : TbOk (mt_X9_level) (tb_X9_level) :=
  tkc (s_aload_n (at_ dl_X9_level 0 (ins := .aload_n 0) rfl)) (
  tkc (s_gR (at_ dl_X9_level 1 (ins := .getfield 19) rfl) (by decide) (by decide) (by decide) (tg 255 (by decide +kernel) (by decide +kernel))) (
  tkc (s_iload_n (at_ dl_X9_level 2 (ins := .iload_n 1) rfl)) (
  tkc (s_cV ok_X5_hasBit (at_ dl_X9_level 3 (ins := .invokevirtual 148) rfl) (by decide) rfl (tg 480 (by decide +kernel) (by decide +kernel)) (tg 396 (by decide +kernel) (by decide +kernel)) (tg 397 (by decide +kernel) (by decide +kernel)) (tg 45 (by decide +kernel) (by decide +kernel)) (tg 398 (by decide +kernel) (by decide +kernel)) (⟨by decide, by decide, by decide +kernel⟩) (⟨by decide, by decide⟩) rfl rfl) (
  tkc (s_if_ne (at_ dl_X9_level 4 (ins := .ifCond .ne 5) rfl) (by decide)) (
  tkc (s_iconst (at_ dl_X9_level 5 (ins := .iconst (-1)) rfl) (by first | rfl | decide)) (
  tkc (s_rI (at_ dl_X9_level 6 (ins := .ireturn) rfl) rfl) (
  tkc (s_iload_n (at_ dl_X9_level 7 (ins := .iload_n 2) rfl)) (
  tkc (s_bipush (at_ dl_X9_level 8 (ins := .bipush (-31)) rfl) (by first | rfl | decide)) (
  tkc (s_ic_lt (at_ dl_X9_level 9 (ins := .if_icmp .lt 9) rfl) (by decide)) (
  tkc (s_iload_n (at_ dl_X9_level 10 (ins := .iload_n 2) rfl)) (
  tkc (s_bipush (at_ dl_X9_level 11 (ins := .bipush 31) rfl) (by first | rfl | decide)) (
  tkc (s_ic_le (at_ dl_X9_level 12 (ins := .if_icmp .le 6) rfl) (by decide)) (
  tkc (s_bipush (at_ dl_X9_level 13 (ins := .bipush (-2)) rfl) (by first | rfl | decide)) (
  tkc (s_rI (at_ dl_X9_level 14 (ins := .ireturn) rfl) rfl) (
  tkc (s_aload_n (at_ dl_X9_level 15 (ins := .aload_n 0) rfl)) (
  tkc (s_gR (at_ dl_X9_level 16 (ins := .getfield 52) rfl) (by decide) (by decide) (by decide) (tg 260 (by decide +kernel) (by decide +kernel))) (
  tkc (s_aload_n (at_ dl_X9_level 17 (ins := .aload_n 0) rfl)) (
  tkc (s_gR (at_ dl_X9_level 18 (ins := .getfield 19) rfl) (by decide) (by decide) (by decide) (tg 255 (by decide +kernel) (by decide +kernel))) (
  tkc (s_cV ok_X0_remember (at_ dl_X9_level 19 (ins := .invokevirtual 175) rfl) (by decide) rfl (tg 496 (by decide +kernel) (by decide +kernel)) (tg 497 (by decide +kernel) (by decide +kernel)) (tg 498 (by decide +kernel) (by decide +kernel)) (tg 49 (by decide +kernel) (by decide +kernel)) (tg 499 (by decide +kernel) (by decide +kernel)) (⟨by decide, by decide, by decide +kernel⟩) (⟨by decide, by decide⟩) rfl rfl) (
  tkc (s_aload_n (at_ dl_X9_level 20 (ins := .aload_n 0) rfl)) (
  tkc (s_gR (at_ dl_X9_level 21 (ins := .getfield 19) rfl) (by decide) (by decide) (by decide) (tg 255 (by decide +kernel) (by decide +kernel))) (
  tkc (s_gR (at_ dl_X9_level 22 (ins := .getfield 152) rfl) (by decide) (by decide) (by decide) (tg 127 (by decide +kernel) (by decide +kernel))) (
  tkc (s_iload_n (at_ dl_X9_level 23 (ins := .iload_n 1) rfl)) (
  tkc (s_ia (at_ dl_X9_level 24 (ins := .iaload) rfl)) (
  tkc (s_istore_n (at_ dl_X9_level 25 (ins := .istore_n 3) rfl) (by decide)) (
  tkc (s_aload_n (at_ dl_X9_level 26 (ins := .aload_n 0) rfl)) (
  tkc (s_gR (at_ dl_X9_level 27 (ins := .getfield 19) rfl) (by decide) (by decide) (by decide) (tg 255 (by decide +kernel) (by decide +kernel))) (
  tkc (s_gR (at_ dl_X9_level 28 (ins := .getfield 152) rfl) (by decide) (by decide) (by decide) (tg 127 (by decide +kernel) (by decide +kernel))) (
  tkc (s_iload_n (at_ dl_X9_level 29 (ins := .iload_n 1) rfl)) (
  tkc (s_iload_n (at_ dl_X9_level 30 (ins := .iload_n 2) rfl)) (
  tkc (s_ias (at_ dl_X9_level 31 (ins := .iastore) rfl)) (
  tkc (s_iload_n (at_ dl_X9_level 32 (ins := .iload_n 3) rfl)) (
  tkc (s_bipush (at_ dl_X9_level 33 (ins := .bipush 100) rfl) (by first | rfl | decide)) (
  tkc (s_iadd (at_ dl_X9_level 34 (ins := .iadd) rfl)) (
  tkc (s_rI (at_ dl_X9_level 35 (ins := .ireturn) rfl) rfl) ( tk0))))))))))))))))))))))))))))))))))))
theorem lf_X9_level : lk (tb_X9_level) 0 = (x_al 1 0, false) ∧ lk (tb_X9_level) 1 = (x_gR 9 1 4, false) ∧ lk (tb_X9_level) 4 = (x_il 5 1, false) ∧ lk (tb_X9_level) 5 = (x_cV 5 1 P_X5_hasBit 8, false) ∧ lk (tb_X9_level) 8 = (x_ifn 13 11 (fun x : Int32 => x = 0), false) ∧ lk (tb_X9_level) 11 = (x_c 12 (.int (-1)), false) ∧ lk (tb_X9_level) 12 = (x_rI, false) ∧ lk (tb_X9_level) 13 = (x_il 14 2, false) ∧ lk (tb_X9_level) 14 = (x_c 16 (.int (-31)), false) ∧ lk (tb_X9_level) 16 = (x_ic 25 19 (fun x y : Int32 => x < y), false) ∧ lk (tb_X9_level) 19 = (x_il 20 2, false) ∧ lk (tb_X9_level) 20 = (x_c 22 (.int 31), false) ∧ lk (tb_X9_level) 22 = (x_ic 28 25 (fun x y : Int32 => x ≤ y), false) ∧ lk (tb_X9_level) 25 = (x_c 27 (.int (-2)), false) ∧ lk (tb_X9_level) 27 = (x_rI, false) ∧ lk (tb_X9_level) 28 = (x_al 29 0, false) ∧ lk (tb_X9_level) 29 = (x_gR 9 6 32, false) ∧ lk (tb_X9_level) 32 = (x_al 33 0, false) ∧ lk (tb_X9_level) 33 = (x_gR 9 1 36, false) ∧ lk (tb_X9_level) 36 = (x_cV 0 1 P_X0_remember 39, false) ∧ lk (tb_X9_level) 39 = (x_al 40 0, false) ∧ lk (tb_X9_level) 40 = (x_gR 9 1 43, false) ∧ lk (tb_X9_level) 43 = (x_gR 5 1 46, false) ∧ lk (tb_X9_level) 46 = (x_il 47 1, false) ∧ lk (tb_X9_level) 47 = (x_ia 48, false) ∧ lk (tb_X9_level) 48 = (x_is 49 3, false) ∧ lk (tb_X9_level) 49 = (x_al 50 0, false) ∧ lk (tb_X9_level) 50 = (x_gR 9 1 53, false) ∧ lk (tb_X9_level) 53 = (x_gR 5 1 56, false) ∧ lk (tb_X9_level) 56 = (x_il 57 1, false) ∧ lk (tb_X9_level) 57 = (x_il 58 2, false) ∧ lk (tb_X9_level) 58 = (x_ias 59, false) ∧ lk (tb_X9_level) 59 = (x_il 60 3, false) ∧ lk (tb_X9_level) 60 = (x_c 62 (.int 100), false) ∧ lk (tb_X9_level) 62 = (x_ii 63 (fun x y : Int32 => x + y), false) ∧ lk (tb_X9_level) 63 = (x_rI, false) := ⟨rfl, rfl, rfl, rfl, rfl, rfl, rfl, rfl, rfl, rfl, rfl, rfl, rfl, rfl, rfl, rfl, rfl, rfl, rfl, rfl, rfl, rfl, rfl, rfl, rfl, rfl, rfl, rfl, rfl, rfl, rfl, rfl, rfl, rfl, rfl, rfl⟩
def P_X9_level : PTT := fun as M R => match as with
  | [.ref k, .int b, .int v] => k = 0 ∧ ∃ g, CR M.1 M.2.1 M.2.2 g ∧ GOk g ∧ Ans M R (gLevel g b v).1 (gLevel g b v).2
  | _ => False
set_option maxRecDepth 20000 in
theorem ok_X9_level : Ok yX9_level mt_X9_level P_X9_level := by
  refine Ok.of (by decide) rfl rfl rfl rfl fun av ⟨S, I, L⟩ R hP => ?_
  unfold P_X9_level at hP
  split at hP
  case h_2 => exact hP.elim
  rename_i k b v
  obtain ⟨k, rfl⟩ : ∃ q : Nat, q = k := ⟨k, rfl⟩
  refine ⟨by simp [ent, wide, mt_X9_level], ?_⟩
  show J mt_X9_level R 0 [some (.ref k), some (.int b), some (.int v), none] [] (S, I, L)
  try dsimp only at hP
  obtain ⟨rfl, g, hc, ho, hA⟩ := hP
  have h1 := hc.1
  have en : I 5 4 = nI (aN (gA g)) := hc.2.2.1.1
  have h9 := ho.2.1.1
  refine J.of tk_X9_level 200 fun ρ hρ => ?_
  simp only [hρ, x_c, x_il, x_ll, x_al, x_is, x_as, x_ls, x_inc, x_ii, x_iq, x_i1, x_l2, x_lq, x_lh, x_i2l, x_l2i, x_lcmp, x_dup, x_dup2, x_pop, x_if, x_ifn, x_ic, x_icn, x_go, x_sw, swc, x_l01, x_mx, x_gI, x_gL, x_gR, x_pI, x_pZ, x_pL, x_pR, x_ia, x_za, x_aa, x_ias, x_zas, x_aas, x_fac, x_fa, x_slen, x_sa, x_ac, x_oi, x_new, x_na, x_cS, x_cV, x_cI, x_rI, x_rZ, x_rL, x_r0, pa, short, oc, lg, lset, lset2, wide, cond_true, cond_false, true_and, and_true, ↓reduceIte, Bool.false_eq_true, true_or, or_true, lf_X9_level, h1.1.f, hc.ac, hc.ac.1.f, hc.ac.2.f, P_X5_hasBit, P_X0_remember, en, bI_0, Classical.not_not]
  refine ⟨fun hb => ⟨fun h31 => (hA.e (by rw [gLevel, if_neg (fun q => q hb), if_pos (.inl h31)])).s hc, fun h31 => ⟨fun h32 => CR.rem hc ho fun I' hf8 hc' => ?_, fun h32 => (hA.e (by rw [gLevel, if_neg (fun q => q hb), if_pos (.inr h32)])).s hc⟩⟩, fun hb => (hA.e (by rw [gLevel, if_pos hb])).s hc⟩
  have hA' := hA.e (show gLevel g b v = (aL (gA g) (tn b) + 100, GA (remG g) (lvA (gA g) (tn b) v)) by rw [gLevel, if_neg (fun q => q hb), if_neg (fun q => q.elim h31 (fun r => r h32))])
  obtain ⟨j, hj, rfl⟩ := hB.i (g := g) hb ho
  have hv : vp_in (nI j) 9 := vp_in_nI (by omega) (by omega)
  rw [tn_nI (n := j) (by omega)] at hA'
  rw [ncl (show j < 2 ^ 31 by omega), hc'.2.2.1.2.2.2.2.2.1 j (by omega)]
  exact ⟨hv, hv, hA' _ L (hf8.trans (fun q hq => mS_n (by omega))) (fun _ _ => rfl) (hc'.now (fun q a b c d e f => mS_n (by omega)) hc'.2.2.1.lv)⟩
/-- begin -/
def gBegin (g : GS) : Int32 × GS := (nI (wdA (begA (gA g))), GA (remG g) (begA (gA g)))
theorem SR.wdq {I : MI} {k : Nat} {a : AS} (h : SR I k a) (ho : AOk a) : ∃ n, n ≤ 9 ∧ I k 4 = nI n := ⟨aN a, ho.1.2.1, h.1⟩
def il_X9_begin : List (Nat × Instr × Nat) := [(0, .aload_n 0, 1), (1, .getfield 52, 3), (4, .aload_n 0, 1), (5, .getfield 19, 3), (8, .invokevirtual 175, 3), (11, .aload_n 0, 1), (12, .getfield 19, 3), (15, .invokevirtual 178, 3), (18, .aload_n 0, 1), (19, .getfield 19, 3), (22, .invokevirtual 110, 3), (25, .ireturn, 1)]
def mt_X9_begin : Mt := (cX9_begin, RX9, 1, (some .int), ({ frames := 3, cells := 0, slots := 0, locals := 60 } : Room), false, none, none)
set_option maxRecDepth 100000 in
theorem dl_X9_begin : ∀ q ∈ il_X9_begin, decode (mt_X9_begin).1 q.1 = .ok q.2 := by decide +kernel
def tb_X9_begin : Tb := [(0, x_al 1 0, false),
  (1, x_gR 9 6 4, false),
  (4, x_al 5 0, false),
  (5, x_gR 9 1 8, false),
  (8, x_cV 0 1 P_X0_remember 11, false),
  (11, x_al 12 0, false),
  (12, x_gR 9 1 15, false),
  (15, x_cV 5 0 P_X5_beginAnew 18, false),
  (18, x_al 19 0, false),
  (19, x_gR 9 1 22, false),
  (22, x_cV 5 0 P_X5_word 25, false),
  (25, x_rI, false)]
set_option maxRecDepth 100000 in
theorem tk_X9_begin : TbOk (mt_X9_begin) (tb_X9_begin) :=
  tkc (s_aload_n (at_ dl_X9_begin 0 (ins := .aload_n 0) rfl)) (
  tkc (s_gR (at_ dl_X9_begin 1 (ins := .getfield 52) rfl) (by decide) (by decide) (by decide) (tg 260 (by decide +kernel) (by decide +kernel))) (
  tkc (s_aload_n (at_ dl_X9_begin 2 (ins := .aload_n 0) rfl)) (
  tkc (s_gR (at_ dl_X9_begin 3 (ins := .getfield 19) rfl) (by decide) (by decide) (by decide) (tg 255 (by decide +kernel) (by decide +kernel))) (
  tkc (s_cV ok_X0_remember (at_ dl_X9_begin 4 (ins := .invokevirtual 175) rfl) (by decide) rfl (tg 496 (by decide +kernel) (by decide +kernel)) (tg 497 (by decide +kernel) (by decide +kernel)) (tg 498 (by decide +kernel) (by decide +kernel)) (tg 49 (by decide +kernel) (by decide +kernel)) (tg 499 (by decide +kernel) (by decide +kernel)) (⟨by decide, by decide, by decide +kernel⟩) (⟨by decide, by decide⟩) rfl rfl) (
  tkc (s_aload_n (at_ dl_X9_begin 5 (ins := .aload_n 0) rfl)) (
  tkc (s_gR (at_ dl_X9_begin 6 (ins := .getfield 19) rfl) (by decide) (by decide) (by decide) (tg 255 (by decide +kernel) (by decide +kernel))) (
  tkc (s_cV ok_X5_beginAnew (at_ dl_X9_begin 7 (ins := .invokevirtual 178) rfl) (by decide) rfl (tg 505 (by decide +kernel) (by decide +kernel)) (tg 349 (by decide +kernel) (by decide +kernel)) (tg 350 (by decide +kernel) (by decide +kernel)) (tg 45 (by decide +kernel) (by decide +kernel)) (tg 351 (by decide +kernel) (by decide +kernel)) (⟨by decide, by decide, by decide +kernel⟩) (⟨by decide, by decide⟩) rfl rfl) (
  tkc (s_aload_n (at_ dl_X9_begin 8 (ins := .aload_n 0) rfl)) (
  tkc (s_gR (at_ dl_X9_begin 9 (ins := .getfield 19) rfl) (by decide) (by decide) (by decide) (tg 255 (by decide +kernel) (by decide +kernel))) (
  tkc (s_cV ok_X5_word (at_ dl_X9_begin 10 (ins := .invokevirtual 110) rfl) (by decide) rfl (tg 360 (by decide +kernel) (by decide +kernel)) (tg 361 (by decide +kernel) (by decide +kernel)) (tg 362 (by decide +kernel) (by decide +kernel)) (tg 45 (by decide +kernel) (by decide +kernel)) (tg 363 (by decide +kernel) (by decide +kernel)) (⟨by decide, by decide, by decide +kernel⟩) (⟨by decide, by decide⟩) rfl rfl) (
  tkc (s_rI (at_ dl_X9_begin 11 (ins := .ireturn) rfl) rfl) ( tk0))))))))))))
theorem lf_X9_begin : lk (tb_X9_begin) 0 = (x_al 1 0, false) ∧ lk (tb_X9_begin) 1 = (x_gR 9 6 4, false) ∧ lk (tb_X9_begin) 4 = (x_al 5 0, false) ∧ lk (tb_X9_begin) 5 = (x_gR 9 1 8, false) ∧ lk (tb_X9_begin) 8 = (x_cV 0 1 P_X0_remember 11, false) ∧ lk (tb_X9_begin) 11 = (x_al 12 0, false) ∧ lk (tb_X9_begin) 12 = (x_gR 9 1 15, false) ∧ lk (tb_X9_begin) 15 = (x_cV 5 0 P_X5_beginAnew 18, false) ∧ lk (tb_X9_begin) 18 = (x_al 19 0, false) ∧ lk (tb_X9_begin) 19 = (x_gR 9 1 22, false) ∧ lk (tb_X9_begin) 22 = (x_cV 5 0 P_X5_word 25, false) ∧ lk (tb_X9_begin) 25 = (x_rI, false) := ⟨rfl, rfl, rfl, rfl, rfl, rfl, rfl, rfl, rfl, rfl, rfl, rfl⟩
def P_X9_begin : PTT := fun as M R => match as with
  | [.ref k] => k = 0 ∧ ∃ g, CR M.1 M.2.1 M.2.2 g ∧ GOk g ∧ Ans M R (gBegin g).1 (gBegin g).2
  | _ => False
set_option maxRecDepth 20000 in
theorem ok_X9_begin : Ok yX9_begin mt_X9_begin P_X9_begin := by
  refine Ok.of (by decide) rfl rfl rfl rfl fun av ⟨S, I, L⟩ R hP => ?_
  unfold P_X9_begin at hP
  split at hP
  case h_2 => exact hP.elim
  rename_i k
  obtain ⟨k, rfl⟩ : ∃ q : Nat, q = k := ⟨k, rfl⟩
  refine ⟨by simp [ent, wide, mt_X9_begin], ?_⟩
  show J mt_X9_begin R 0 [some (.ref k)] [] (S, I, L)
  try dsimp only at hP
  obtain ⟨rfl, g, hc, ho, hA⟩ := hP
  have h1 := hc.1
  refine J.of tk_X9_begin 200 fun ρ hρ => ?_
  simp only [hρ, x_c, x_il, x_ll, x_al, x_is, x_as, x_ls, x_inc, x_ii, x_iq, x_i1, x_l2, x_lq, x_lh, x_i2l, x_l2i, x_lcmp, x_dup, x_dup2, x_pop, x_if, x_ifn, x_ic, x_icn, x_go, x_sw, swc, x_l01, x_mx, x_gI, x_gL, x_gR, x_pI, x_pZ, x_pL, x_pR, x_ia, x_za, x_aa, x_ias, x_zas, x_aas, x_fac, x_fa, x_slen, x_sa, x_ac, x_oi, x_new, x_na, x_cS, x_cV, x_cI, x_rI, x_rZ, x_rL, x_r0, pa, short, oc, lg, lset, lset2, wide, cond_true, cond_false, true_and, and_true, ↓reduceIte, Bool.false_eq_true, true_or, or_true, lf_X9_begin, h1.1.f, hc.ac, hc.ac.1.f, hc.ac.2.f, P_X5_beginAnew, P_X5_word, P_X0_remember]
  refine CR.rem hc ho fun I' hf8 hc' => ?_
  have hs := hc'.2.2.1.beg
  have hb := begA_ok ho.2.1
  refine ⟨hs.wdq hb, ?_⟩
  rw [hs.wd hb]
  exact hA _ L (hf8.trans (fun q hq => beg_r (by omega) (by omega) (by omega))) (fun _ _ => rfl) (hc'.now (fun q a b c d e f => beg_r (by omega) (by omega) (by omega)) hs)
/-- round -/
def gRound (g : GS) (x : Int32) : Int32 × GS := if x < 1 ∨ ¬ x ≤ 99 then (-2, g) else (nI (ones9 (opA (itA (tn x) (gA g)))), GA (remG g) (itA (tn x) (gA g)))
theorem le99 {x : Int32} (h1 : ¬ x < 1) (h2 : x ≤ 99) : ∃ r, 1 ≤ r ∧ r ≤ 99 ∧ x = nI r := by
  rcases pk_ix x (n := 100) (by omega) with h | h | ⟨j, hj, rfl⟩
  · exact absurd (Int32.lt_trans h (by decide)) h1
  · exact absurd (Int32.le_trans h h2) (by decide)
  · refine ⟨j, ?_, by omega, rfl⟩
    rw [one_nI, nI_ltI (by omega) (by omega)] at h1
    omega
theorem SR.q {I : MI} {k : Nat} {a : AS} (h : SR I k a) (ho : AOk a) : SVq I k := (h.SV ho).q
def il_X9_round : List (Nat × Instr × Nat) := [(0, .iload_n 1, 1), (1, .iconst 1, 1), (2, .if_icmp .lt 9, 3), (5, .iload_n 1, 1), (6, .bipush 99, 2), (8, .if_icmp .le 6, 3), (11, .bipush (-2), 2), (13, .ireturn, 1), (14, .aload_n 0, 1), (15, .getfield 52, 3), (18, .aload_n 0, 1), (19, .getfield 19, 3), (22, .invokevirtual 175, 3), (25, .aload_n 0, 1), (26, .getfield 29, 3), (29, .aload_n 0, 1), (30, .getfield 19, 3), (33, .iload_n 1, 1), (34, .invokevirtual 181, 3), (37, .aload_n 0, 1), (38, .getfield 19, 3), (41, .invokevirtual 113, 3), (44, .invokestatic 185, 3), (47, .ireturn, 1)]
def mt_X9_round : Mt := (cX9_round, RX9, 2, (some .int), ({ frames := 4, cells := 0, slots := 0, locals := 101 } : Room), false, none, none)
set_option maxRecDepth 100000 in
theorem dl_X9_round : ∀ q ∈ il_X9_round, decode (mt_X9_round).1 q.1 = .ok q.2 := by decide +kernel
def tb_X9_round : Tb := [(0, x_il 1 1, false),
  (1, x_c 2 (.int 1), false),
  (2, x_ic 11 5 (fun x y : Int32 => x < y), false),
  (5, x_il 6 1, false),
  (6, x_c 8 (.int 99), false),
  (8, x_ic 14 11 (fun x y : Int32 => x ≤ y), false),
  (11, x_c 13 (.int (-2)), false),
  (13, x_rI, false),
  (14, x_al 15 0, false),
  (15, x_gR 9 6 18, false),
  (18, x_al 19 0, false),
  (19, x_gR 9 1 22, false),
  (22, x_cV 0 1 P_X0_remember 25, false),
  (25, x_al 26 0, false),
  (26, x_gR 9 3 29, false),
  (29, x_al 30 0, false),
  (30, x_gR 9 1 33, false),
  (33, x_il 34 1, false),
  (34, x_cV 1 2 P_X1_runRounds 37, false),
  (37, x_al 38 0, false),
  (38, x_gR 9 1 41, false),
  (41, x_cV 5 0 P_X5_open 44, false),
  (44, x_cS 1 P_J6_bitCount_0f7a4 47, false),
  (47, x_rI, false)]
set_option maxRecDepth 100000 in
theorem tk_X9_round : TbOk (mt_X9_round) (tb_X9_round) :=
  tkc (s_iload_n (at_ dl_X9_round 0 (ins := .iload_n 1) rfl)) (
  tkc (s_iconst (at_ dl_X9_round 1 (ins := .iconst 1) rfl) (by first | rfl | decide)) (
  tkc (s_ic_lt (at_ dl_X9_round 2 (ins := .if_icmp .lt 9) rfl) (by decide)) (
  tkc (s_iload_n (at_ dl_X9_round 3 (ins := .iload_n 1) rfl)) (
  tkc (s_bipush (at_ dl_X9_round 4 (ins := .bipush 99) rfl) (by first | rfl | decide)) (
  tkc (s_ic_le (at_ dl_X9_round 5 (ins := .if_icmp .le 6) rfl) (by decide)) (
  tkc (s_bipush (at_ dl_X9_round 6 (ins := .bipush (-2)) rfl) (by first | rfl | decide)) (
  tkc (s_rI (at_ dl_X9_round 7 (ins := .ireturn) rfl) rfl) (
  tkc (s_aload_n (at_ dl_X9_round 8 (ins := .aload_n 0) rfl)) (
  tkc (s_gR (at_ dl_X9_round 9 (ins := .getfield 52) rfl) (by decide) (by decide) (by decide) (tg 260 (by decide +kernel) (by decide +kernel))) (
  tkc (s_aload_n (at_ dl_X9_round 10 (ins := .aload_n 0) rfl)) (
  tkc (s_gR (at_ dl_X9_round 11 (ins := .getfield 19) rfl) (by decide) (by decide) (by decide) (tg 255 (by decide +kernel) (by decide +kernel))) (
  tkc (s_cV ok_X0_remember (at_ dl_X9_round 12 (ins := .invokevirtual 175) rfl) (by decide) rfl (tg 496 (by decide +kernel) (by decide +kernel)) (tg 497 (by decide +kernel) (by decide +kernel)) (tg 498 (by decide +kernel) (by decide +kernel)) (tg 49 (by decide +kernel) (by decide +kernel)) (tg 499 (by decide +kernel) (by decide +kernel)) (⟨by decide, by decide, by decide +kernel⟩) (⟨by decide, by decide⟩) rfl rfl) (
  tkc (s_aload_n (at_ dl_X9_round 13 (ins := .aload_n 0) rfl)) (
  tkc (s_gR (at_ dl_X9_round 14 (ins := .getfield 29) rfl) (by decide) (by decide) (by decide) (tg 257 (by decide +kernel) (by decide +kernel))) (
  tkc (s_aload_n (at_ dl_X9_round 15 (ins := .aload_n 0) rfl)) (
  tkc (s_gR (at_ dl_X9_round 16 (ins := .getfield 19) rfl) (by decide) (by decide) (by decide) (tg 255 (by decide +kernel) (by decide +kernel))) (
  tkc (s_iload_n (at_ dl_X9_round 17 (ins := .iload_n 1) rfl)) (
  tkc (s_cV ok_X1_runRounds (at_ dl_X9_round 18 (ins := .invokevirtual 181) rfl) (by decide) rfl (tg 510 (by decide +kernel) (by decide +kernel)) (tg 511 (by decide +kernel) (by decide +kernel)) (tg 512 (by decide +kernel) (by decide +kernel)) (tg 46 (by decide +kernel) (by decide +kernel)) (tg 513 (by decide +kernel) (by decide +kernel)) (⟨by decide, by decide, by decide +kernel⟩) (⟨by decide, by decide⟩) rfl rfl) (
  tkc (s_aload_n (at_ dl_X9_round 19 (ins := .aload_n 0) rfl)) (
  tkc (s_gR (at_ dl_X9_round 20 (ins := .getfield 19) rfl) (by decide) (by decide) (by decide) (tg 255 (by decide +kernel) (by decide +kernel))) (
  tkc (s_cV ok_X5_open (at_ dl_X9_round 21 (ins := .invokevirtual 113) rfl) (by decide) rfl (tg 364 (by decide +kernel) (by decide +kernel)) (tg 365 (by decide +kernel) (by decide +kernel)) (tg 366 (by decide +kernel) (by decide +kernel)) (tg 45 (by decide +kernel) (by decide +kernel)) (tg 367 (by decide +kernel) (by decide +kernel)) (⟨by decide, by decide, by decide +kernel⟩) (⟨by decide, by decide⟩) rfl rfl) (
  tkc (s_cS ok_J6_bitCount_0f7a4 (at_ dl_X9_round 22 (ins := .invokestatic 185) rfl) (tg 514 (by decide +kernel) (by decide +kernel)) (tg 374 (by decide +kernel) (by decide +kernel)) (tg 53 (by decide +kernel) (by decide +kernel)) (tg 375 (by decide +kernel) (by decide +kernel)) (⟨by decide, by decide, by decide +kernel⟩) (⟨by decide, by decide⟩) rfl rfl) (
  tkc (s_rI (at_ dl_X9_round 23 (ins := .ireturn) rfl) rfl) ( tk0))))))))))))))))))))))))
theorem lf_X9_round : lk (tb_X9_round) 0 = (x_il 1 1, false) ∧ lk (tb_X9_round) 1 = (x_c 2 (.int 1), false) ∧ lk (tb_X9_round) 2 = (x_ic 11 5 (fun x y : Int32 => x < y), false) ∧ lk (tb_X9_round) 5 = (x_il 6 1, false) ∧ lk (tb_X9_round) 6 = (x_c 8 (.int 99), false) ∧ lk (tb_X9_round) 8 = (x_ic 14 11 (fun x y : Int32 => x ≤ y), false) ∧ lk (tb_X9_round) 11 = (x_c 13 (.int (-2)), false) ∧ lk (tb_X9_round) 13 = (x_rI, false) ∧ lk (tb_X9_round) 14 = (x_al 15 0, false) ∧ lk (tb_X9_round) 15 = (x_gR 9 6 18, false) ∧ lk (tb_X9_round) 18 = (x_al 19 0, false) ∧ lk (tb_X9_round) 19 = (x_gR 9 1 22, false) ∧ lk (tb_X9_round) 22 = (x_cV 0 1 P_X0_remember 25, false) ∧ lk (tb_X9_round) 25 = (x_al 26 0, false) ∧ lk (tb_X9_round) 26 = (x_gR 9 3 29, false) ∧ lk (tb_X9_round) 29 = (x_al 30 0, false) ∧ lk (tb_X9_round) 30 = (x_gR 9 1 33, false) ∧ lk (tb_X9_round) 33 = (x_il 34 1, false) ∧ lk (tb_X9_round) 34 = (x_cV 1 2 P_X1_runRounds 37, false) ∧ lk (tb_X9_round) 37 = (x_al 38 0, false) ∧ lk (tb_X9_round) 38 = (x_gR 9 1 41, false) ∧ lk (tb_X9_round) 41 = (x_cV 5 0 P_X5_open 44, false) ∧ lk (tb_X9_round) 44 = (x_cS 1 P_J6_bitCount_0f7a4 47, false) ∧ lk (tb_X9_round) 47 = (x_rI, false) := ⟨rfl, rfl, rfl, rfl, rfl, rfl, rfl, rfl, rfl, rfl, rfl, rfl, rfl, rfl, rfl, rfl, rfl, rfl, rfl, rfl, rfl, rfl, rfl, rfl⟩
def P_X9_round : PTT := fun as M R => match as with
  | [.ref k, .int x] => k = 0 ∧ ∃ g, CR M.1 M.2.1 M.2.2 g ∧ GOk g ∧ Ans M R (gRound g x).1 (gRound g x).2
  | _ => False
set_option maxRecDepth 20000 in
theorem ok_X9_round : Ok yX9_round mt_X9_round P_X9_round := by
  refine Ok.of (by decide) rfl rfl rfl rfl fun av ⟨S, I, L⟩ R hP => ?_
  unfold P_X9_round at hP
  split at hP
  case h_2 => exact hP.elim
  rename_i k x
  obtain ⟨k, rfl⟩ : ∃ q : Nat, q = k := ⟨k, rfl⟩
  refine ⟨by simp [ent, wide, mt_X9_round], ?_⟩
  show J mt_X9_round R 0 [some (.ref k), some (.int x)] [] (S, I, L)
  try dsimp only at hP
  obtain ⟨rfl, g, hc, ho, hA⟩ := hP
  have h1 := hc.1
  have hap : ap15 5 := Or.inl (by omega)
  refine J.of tk_X9_round 200 fun ρ hρ => ?_
  simp only [hρ, x_c, x_il, x_ll, x_al, x_is, x_as, x_ls, x_inc, x_ii, x_iq, x_i1, x_l2, x_lq, x_lh, x_i2l, x_l2i, x_lcmp, x_dup, x_dup2, x_pop, x_if, x_ifn, x_ic, x_icn, x_go, x_sw, swc, x_l01, x_mx, x_gI, x_gL, x_gR, x_pI, x_pZ, x_pL, x_pR, x_ia, x_za, x_aa, x_ias, x_zas, x_aas, x_fac, x_fa, x_slen, x_sa, x_ac, x_oi, x_new, x_na, x_cS, x_cV, x_cI, x_rI, x_rZ, x_rL, x_r0, pa, short, oc, lg, lset, lset2, wide, cond_true, cond_false, true_and, and_true, ↓reduceIte, Bool.false_eq_true, true_or, or_true, lf_X9_round, h1.1.f, hc.ac, hc.ac.1.f, hc.ac.2.f, h1.2.2.2.2.2.1, h1.2.2.2.2.2.1.f, hap, P_X1_runRounds, P_X5_open, P_J6_bitCount_0f7a4, P_X0_remember, Classical.not_not]
  refine ⟨fun h => (hA.e (by rw [gRound, if_pos (.inl h)])).s hc, fun h => ⟨fun h' => CR.rem hc ho fun I' hf8 hc' => ?_, fun h' => (hA.e (by rw [gRound, if_pos (.inr h')])).s hc⟩⟩
  have hA' := hA.e (show gRound g x = (nI (ones9 (opA (itA (tn x) (gA g)))), GA (remG g) (itA (tn x) (gA g))) by rw [gRound, if_neg (fun q => q.elim h (fun r => r h'))])
  obtain ⟨r, hr1, hr, rfl⟩ := le99 h h'
  rw [tn_nI (n := r) (by omega)] at hA'
  have hs := hc'.2.2.1
  have hok : AOk (gA (remG g)) := ho.2.1
  refine ⟨aN (gA g), aM (gA g), r, hs.SV hok, hc'.2.2.2.2.2.2.2.V ho.2.1.1.2.2, hr, rfl, fun I2 g1 g2 g3 => ?_⟩
  have hs2 : SR I2 5 (itA r (gA g)) := SR.it hs hok hc'.2.2.2.2.2.2.2 (g1 6 (by omega) (by omega) (by omega) (by omega) (by omega)) (g1 7 (by omega) (by omega) (by omega) (by omega) (by omega)) g2 g3
  have hok2 : AOk (itA r (gA g)) := itA_ok ho.2.1
  rw [hs2.op hok2]
  have hl : opA (itA r (gA g)) < 64 := opB_lt ho.2.1.1.2.2
  rw [tn_nI (by omega)]
  exact ⟨hs2.q hok2, by omega, hA' _ L (hf8.trans (fun q hq => g1 q (by omega) (by omega) (by omega) (by omega) (by omega))) (fun _ _ => rfl) (hc'.now (fun q a b c d e f => g1 q (by omega) (by omega) (by omega) (by omega) (by omega)) hs2)⟩
/-- put -/
def gPut (g : GS) (c b : Int32) : Int32 × GS := if ¬ (hC g c ∧ hB g b) then (-1, g) else (bB ((aV (putA (gA g) (tn c) (tn b)) (tn c)).testBit (tn b)), GA (remG g) (putA (gA g) (tn c) (tn b)))
theorem put_fr {I : MI} {k q : Nat} {c b : Int32} (h : q ≠ k + 1) (h' : q ≠ k + 4) : putI I k c b q = I q := by unfold putI; rw [mS_n h', mS_n h]
def il_X9_put : List (Nat × Instr × Nat) := [(0, .aload_n 0, 1), (1, .getfield 19, 3), (4, .iload_n 1, 1), (5, .invokevirtual 162, 3), (8, .ifCond .eq 14, 3), (11, .aload_n 0, 1), (12, .getfield 19, 3), (15, .iload_n 2, 1), (16, .invokevirtual 148, 3), (19, .ifCond .ne 5, 3), (22, .iconst (-1), 1), (23, .ireturn, 1), (24, .aload_n 0, 1), (25, .getfield 52, 3), (28, .aload_n 0, 1), (29, .getfield 19, 3), (32, .invokevirtual 175, 3), (35, .aload_n 0, 1), (36, .getfield 19, 3), (39, .iload_n 1, 1), (40, .iload_n 2, 1), (41, .invokevirtual 190, 3), (44, .aload_n 0, 1), (45, .getfield 19, 3), (48, .iload_n 1, 1), (49, .iload_n 2, 1), (50, .invokevirtual 168, 3), (53, .ifCond .eq 7, 3), (56, .iconst 1, 1), (57, .goto 4, 3), (60, .iconst 0, 1), (61, .ireturn, 1)]
def mt_X9_put : Mt := (cX9_put, RX9, 3, (some .int), ({ frames := 3, cells := 0, slots := 0, locals := 60 } : Room), false, none, none)
set_option maxRecDepth 100000 in
theorem dl_X9_put : ∀ q ∈ il_X9_put, decode (mt_X9_put).1 q.1 = .ok q.2 := by decide +kernel
def tb_X9_put : Tb := [(0, x_al 1 0, false),
  (1, x_gR 9 1 4, false),
  (4, x_il 5 1, false),
  (5, x_cV 5 1 P_X5_hasCheck 8, false),
  (8, x_if 22 11 (fun x : Int32 => x = 0), false),
  (11, x_al 12 0, false),
  (12, x_gR 9 1 15, false),
  (15, x_il 16 2, false),
  (16, x_cV 5 1 P_X5_hasBit 19, false),
  (19, x_ifn 24 22 (fun x : Int32 => x = 0), false),
  (22, x_c 23 (.int (-1)), false),
  (23, x_rI, false),
  (24, x_al 25 0, false),
  (25, x_gR 9 6 28, false),
  (28, x_al 29 0, false),
  (29, x_gR 9 1 32, false),
  (32, x_cV 0 1 P_X0_remember 35, false),
  (35, x_al 36 0, false),
  (36, x_gR 9 1 39, false),
  (39, x_il 40 1, false),
  (40, x_il 41 2, false),
  (41, x_cV 5 2 P_X5_turnOver 44, false),
  (44, x_al 45 0, false),
  (45, x_gR 9 1 48, false),
  (48, x_il 49 1, false),
  (49, x_il 50 2, false),
  (50, x_cV 5 2 P_X5_isOver 53, false),
  (53, x_if 60 56 (fun x : Int32 => x = 0), false),
  (56, x_c 57 (.int 1), false),
  (57, x_go 61, false),
  (60, x_c 61 (.int 0), false),
  (61, x_rI, false)]
set_option maxRecDepth 100000 in
theorem tk_X9_put : TbOk (mt_X9_put) (tb_X9_put) :=
  tkc (s_aload_n (at_ dl_X9_put 0 (ins := .aload_n 0) rfl)) (
  tkc (s_gR (at_ dl_X9_put 1 (ins := .getfield 19) rfl) (by decide) (by decide) (by decide) (tg 255 (by decide +kernel) (by decide +kernel))) (
  tkc (s_iload_n (at_ dl_X9_put 2 (ins := .iload_n 1) rfl)) (
  tkc (s_cV ok_X5_hasCheck (at_ dl_X9_put 3 (ins := .invokevirtual 162) rfl) (by decide) rfl (tg 486 (by decide +kernel) (by decide +kernel)) (tg 392 (by decide +kernel) (by decide +kernel)) (tg 393 (by decide +kernel) (by decide +kernel)) (tg 45 (by decide +kernel) (by decide +kernel)) (tg 394 (by decide +kernel) (by decide +kernel)) (⟨by decide, by decide, by decide +kernel⟩) (⟨by decide, by decide⟩) rfl rfl) (
  tkc (s_if_eq (at_ dl_X9_put 4 (ins := .ifCond .eq 14) rfl) (by decide)) (
  tkc (s_aload_n (at_ dl_X9_put 5 (ins := .aload_n 0) rfl)) (
  tkc (s_gR (at_ dl_X9_put 6 (ins := .getfield 19) rfl) (by decide) (by decide) (by decide) (tg 255 (by decide +kernel) (by decide +kernel))) (
  tkc (s_iload_n (at_ dl_X9_put 7 (ins := .iload_n 2) rfl)) (
  tkc (s_cV ok_X5_hasBit (at_ dl_X9_put 8 (ins := .invokevirtual 148) rfl) (by decide) rfl (tg 480 (by decide +kernel) (by decide +kernel)) (tg 396 (by decide +kernel) (by decide +kernel)) (tg 397 (by decide +kernel) (by decide +kernel)) (tg 45 (by decide +kernel) (by decide +kernel)) (tg 398 (by decide +kernel) (by decide +kernel)) (⟨by decide, by decide, by decide +kernel⟩) (⟨by decide, by decide⟩) rfl rfl) (
  tkc (s_if_ne (at_ dl_X9_put 9 (ins := .ifCond .ne 5) rfl) (by decide)) (
  tkc (s_iconst (at_ dl_X9_put 10 (ins := .iconst (-1)) rfl) (by first | rfl | decide)) (
  tkc (s_rI (at_ dl_X9_put 11 (ins := .ireturn) rfl) rfl) (
  tkc (s_aload_n (at_ dl_X9_put 12 (ins := .aload_n 0) rfl)) (
  tkc (s_gR (at_ dl_X9_put 13 (ins := .getfield 52) rfl) (by decide) (by decide) (by decide) (tg 260 (by decide +kernel) (by decide +kernel))) (
  tkc (s_aload_n (at_ dl_X9_put 14 (ins := .aload_n 0) rfl)) (
  tkc (s_gR (at_ dl_X9_put 15 (ins := .getfield 19) rfl) (by decide) (by decide) (by decide) (tg 255 (by decide +kernel) (by decide +kernel))) (
  tkc (s_cV ok_X0_remember (at_ dl_X9_put 16 (ins := .invokevirtual 175) rfl) (by decide) rfl (tg 496 (by decide +kernel) (by decide +kernel)) (tg 497 (by decide +kernel) (by decide +kernel)) (tg 498 (by decide +kernel) (by decide +kernel)) (tg 49 (by decide +kernel) (by decide +kernel)) (tg 499 (by decide +kernel) (by decide +kernel)) (⟨by decide, by decide, by decide +kernel⟩) (⟨by decide, by decide⟩) rfl rfl) (
  tkc (s_aload_n (at_ dl_X9_put 17 (ins := .aload_n 0) rfl)) (
  tkc (s_gR (at_ dl_X9_put 18 (ins := .getfield 19) rfl) (by decide) (by decide) (by decide) (tg 255 (by decide +kernel) (by decide +kernel))) (
  tkc (s_iload_n (at_ dl_X9_put 19 (ins := .iload_n 1) rfl)) (
  tkc (s_iload_n (at_ dl_X9_put 20 (ins := .iload_n 2) rfl)) (
  tkc (s_cV ok_X5_turnOver (at_ dl_X9_put 21 (ins := .invokevirtual 190) rfl) (by decide) rfl (tg 519 (by decide +kernel) (by decide +kernel)) (tg 520 (by decide +kernel) (by decide +kernel)) (tg 521 (by decide +kernel) (by decide +kernel)) (tg 45 (by decide +kernel) (by decide +kernel)) (tg 522 (by decide +kernel) (by decide +kernel)) (⟨by decide, by decide, by decide +kernel⟩) (⟨by decide, by decide⟩) rfl rfl) (
  tkc (s_aload_n (at_ dl_X9_put 22 (ins := .aload_n 0) rfl)) (
  tkc (s_gR (at_ dl_X9_put 23 (ins := .getfield 19) rfl) (by decide) (by decide) (by decide) (tg 255 (by decide +kernel) (by decide +kernel))) (
  tkc (s_iload_n (at_ dl_X9_put 24 (ins := .iload_n 1) rfl)) (
  tkc (s_iload_n (at_ dl_X9_put 25 (ins := .iload_n 2) rfl)) (
  tkc (s_cV ok_X5_isOver (at_ dl_X9_put 26 (ins := .invokevirtual 168) rfl) (by decide) rfl (tg 491 (by decide +kernel) (by decide +kernel)) (tg 388 (by decide +kernel) (by decide +kernel)) (tg 389 (by decide +kernel) (by decide +kernel)) (tg 45 (by decide +kernel) (by decide +kernel)) (tg 390 (by decide +kernel) (by decide +kernel)) (⟨by decide, by decide, by decide +kernel⟩) (⟨by decide, by decide⟩) rfl rfl) (
  tkc (s_if_eq (at_ dl_X9_put 27 (ins := .ifCond .eq 7) rfl) (by decide)) (
  tkc (s_iconst (at_ dl_X9_put 28 (ins := .iconst 1) rfl) (by first | rfl | decide)) (
  tkc (s_goto (at_ dl_X9_put 29 (ins := .goto 4) rfl) (by decide)) (
  tkc (s_iconst (at_ dl_X9_put 30 (ins := .iconst 0) rfl) (by first | rfl | decide)) (
  tkc (s_rI (at_ dl_X9_put 31 (ins := .ireturn) rfl) rfl) ( tk0))))))))))))))))))))))))))))))))
theorem lf_X9_put : lk (tb_X9_put) 0 = (x_al 1 0, false) ∧ lk (tb_X9_put) 1 = (x_gR 9 1 4, false) ∧ lk (tb_X9_put) 4 = (x_il 5 1, false) ∧ lk (tb_X9_put) 5 = (x_cV 5 1 P_X5_hasCheck 8, false) ∧ lk (tb_X9_put) 8 = (x_if 22 11 (fun x : Int32 => x = 0), false) ∧ lk (tb_X9_put) 11 = (x_al 12 0, false) ∧ lk (tb_X9_put) 12 = (x_gR 9 1 15, false) ∧ lk (tb_X9_put) 15 = (x_il 16 2, false) ∧ lk (tb_X9_put) 16 = (x_cV 5 1 P_X5_hasBit 19, false) ∧ lk (tb_X9_put) 19 = (x_ifn 24 22 (fun x : Int32 => x = 0), false) ∧ lk (tb_X9_put) 22 = (x_c 23 (.int (-1)), false) ∧ lk (tb_X9_put) 23 = (x_rI, false) ∧ lk (tb_X9_put) 24 = (x_al 25 0, false) ∧ lk (tb_X9_put) 25 = (x_gR 9 6 28, false) ∧ lk (tb_X9_put) 28 = (x_al 29 0, false) ∧ lk (tb_X9_put) 29 = (x_gR 9 1 32, false) ∧ lk (tb_X9_put) 32 = (x_cV 0 1 P_X0_remember 35, false) ∧ lk (tb_X9_put) 35 = (x_al 36 0, false) ∧ lk (tb_X9_put) 36 = (x_gR 9 1 39, false) ∧ lk (tb_X9_put) 39 = (x_il 40 1, false) ∧ lk (tb_X9_put) 40 = (x_il 41 2, false) ∧ lk (tb_X9_put) 41 = (x_cV 5 2 P_X5_turnOver 44, false) ∧ lk (tb_X9_put) 44 = (x_al 45 0, false) ∧ lk (tb_X9_put) 45 = (x_gR 9 1 48, false) ∧ lk (tb_X9_put) 48 = (x_il 49 1, false) ∧ lk (tb_X9_put) 49 = (x_il 50 2, false) ∧ lk (tb_X9_put) 50 = (x_cV 5 2 P_X5_isOver 53, false) ∧ lk (tb_X9_put) 53 = (x_if 60 56 (fun x : Int32 => x = 0), false) ∧ lk (tb_X9_put) 56 = (x_c 57 (.int 1), false) ∧ lk (tb_X9_put) 57 = (x_go 61, false) ∧ lk (tb_X9_put) 60 = (x_c 61 (.int 0), false) ∧ lk (tb_X9_put) 61 = (x_rI, false) := ⟨rfl, rfl, rfl, rfl, rfl, rfl, rfl, rfl, rfl, rfl, rfl, rfl, rfl, rfl, rfl, rfl, rfl, rfl, rfl, rfl, rfl, rfl, rfl, rfl, rfl, rfl, rfl, rfl, rfl, rfl, rfl, rfl⟩
def P_X9_put : PTT := fun as M R => match as with
  | [.ref k, .int c, .int b] => k = 0 ∧ ∃ g, CR M.1 M.2.1 M.2.2 g ∧ GOk g ∧ Ans M R (gPut g c b).1 (gPut g c b).2
  | _ => False
set_option maxRecDepth 20000 in
theorem ok_X9_put : Ok yX9_put mt_X9_put P_X9_put := by
  refine Ok.of (by decide) rfl rfl rfl rfl fun av ⟨S, I, L⟩ R hP => ?_
  unfold P_X9_put at hP
  split at hP
  case h_2 => exact hP.elim
  rename_i k c b
  obtain ⟨k, rfl⟩ : ∃ q : Nat, q = k := ⟨k, rfl⟩
  refine ⟨by simp [ent, wide, mt_X9_put], ?_⟩
  show J mt_X9_put R 0 [some (.ref k), some (.int c), some (.int b)] [] (S, I, L)
  try dsimp only at hP
  obtain ⟨rfl, g, hc, ho, hA⟩ := hP
  have h1 := hc.1
  have en : I 5 4 = nI (aN (gA g)) := hc.2.2.1.1
  have em : I 5 5 = nI (aM (gA g)) := hc.2.2.1.2.1
  have h9 := ho.2.1.1
  refine J.of tk_X9_put 200 fun ρ hρ => ?_
  simp only [hρ, x_c, x_il, x_ll, x_al, x_is, x_as, x_ls, x_inc, x_ii, x_iq, x_i1, x_l2, x_lq, x_lh, x_i2l, x_l2i, x_lcmp, x_dup, x_dup2, x_pop, x_if, x_ifn, x_ic, x_icn, x_go, x_sw, swc, x_l01, x_mx, x_gI, x_gL, x_gR, x_pI, x_pZ, x_pL, x_pR, x_ia, x_za, x_aa, x_ias, x_zas, x_aas, x_fac, x_fa, x_slen, x_sa, x_ac, x_oi, x_new, x_na, x_cS, x_cV, x_cI, x_rI, x_rZ, x_rL, x_r0, pa, short, oc, lg, lset, lset2, wide, cond_true, cond_false, true_and, and_true, ↓reduceIte, Bool.false_eq_true, true_or, or_true, lf_X9_put, h1.1.f, hc.ac, hc.ac.1.f, hc.ac.2.f, P_X5_hasBit, P_X5_hasCheck, P_X5_turnOver, P_X5_isOver, P_X0_remember, en, em, bI_0, Classical.not_not]
  refine ⟨fun hcc => (hA.e (by rw [gPut, if_pos (fun q => hcc q.1)])).s hc, fun hcc => ⟨fun hbb => CR.rem hc ho fun I' hf8 hc' => ?_, fun hbb => (hA.e (by rw [gPut, if_pos (fun q => hbb q.2)])).s hc⟩⟩
  have hA' := hA.e (show gPut g c b = (bB ((aV (putA (gA g) (tn c) (tn b)) (tn c)).testBit (tn b)), GA (remG g) (putA (gA g) (tn c) (tn b))) by rw [gPut, if_neg (fun q => q ⟨hcc, hbb⟩)])
  obtain ⟨i, hi, rfl⟩ := hC.i (g := g) hcc ho
  obtain ⟨j, hj, rfl⟩ := hB.i (g := g) hbb ho
  rw [tn_nI (n := i) (by omega), tn_nI (n := j) (by omega)] at hA'
  have hs := hc'.2.2.1
  have en' : I' 5 4 = nI (aN (gA g)) := hs.1
  have em' : I' 5 5 = nI (aM (gA g)) := hs.2.1
  have hok := putA_ok (a := gA g) ho.2.1 hi hj
  have hs2 := SR.put (I := I') (k := 5) hs ho.2.1 hi hj
  have e4 : putI I' 5 (nI i) (nI j) 5 = I' 5 := put_fr (by omega) (by omega)
  have hv := hok.v (c := i) hi
  have e6 : putI I' 5 (nI i) (nI j) (5 + 1) i = nI (aV (putA (gA g) i j) i) := hs2.2.2.2.2.1 i hi
  rw [e4, en', em', ncl (show i < 2 ^ 31 by omega), e6, bit_c (show aV (putA (gA g) i j) i < 2 ^ 31 by omega) (show j < 31 by omega), Classical.not_not]
  have hfin : ∀ v, bB ((aV (putA (gA g) i j) i).testBit j) = v → R (some (.int v)) (S, putI I' 5 (nI i) (nI j), L) := fun v hv => by
    rw [hv] at hA'
    exact hA' _ L (hf8.trans (fun q hq => put_fr (by omega) (by omega))) (fun _ _ => rfl) (hc'.now (fun q a b c d e f => put_fr (by omega) (by omega)) hs2)
  exact ⟨⟨_, h9.2.1, rfl⟩, ⟨_, h9.2.2, rfl⟩, fun _ => ⟨⟨_, h9.2.2, rfl⟩, fun h => hfin 0 (bB_f (fun q => h ⟨hcc, hbb, q⟩)), fun h => hfin 1 (bB_t h.2.2)⟩, fun h => absurd ⟨hcc, hbb⟩ h⟩
/-- offset -/
def ofA (a : AS) (v : Int32) : AS := (a.1, a.2.1, v, a.2.2.2)
theorem SR.of {I : MI} {k : Nat} {a : AS} {v : Int32} (h : SR I k a) : SR (mS I k (upd (I k) 6 v)) k (ofA a v) := by
  obtain ⟨g1, g2, g3, g4, g5, g6, g7⟩ := h
  have e0 : mS I k (upd (I k) 6 v) k = upd (I k) 6 v := mS_s
  have e1 : mS I k (upd (I k) 6 v) (k + 1) = I (k + 1) := mS_n (by omega)
  have e2 : mS I k (upd (I k) 6 v) (k + 2) = I (k + 2) := mS_n (by omega)
  have e3 : mS I k (upd (I k) 6 v) (k + 3) = I (k + 3) := mS_n (by omega)
  have e4 : mS I k (upd (I k) 6 v) (k + 4) = I (k + 4) := mS_n (by omega)
  exact ⟨by rw [e0]; exact g1, by rw [e0]; exact g2, by rw [e0]; rfl, by rw [e0]; exact g4, by rw [e1]; exact g5, by rw [e2]; exact g6, by rw [e3, e4]; exact g7⟩
def gOffset (g : GS) (v : Int32) : Int32 × GS := if v < 0 ∨ ¬ v ≤ 9 then (-2, g) else (aO (gA g), GA (remG g) (ofA (gA g) v))
def il_X9_offset : List (Nat × Instr × Nat) := [(0, .iload_n 1, 1), (1, .ifCond .lt 9, 3), (4, .iload_n 1, 1), (5, .bipush 9, 2), (7, .if_icmp .le 6, 3), (10, .bipush (-2), 2), (12, .ireturn, 1), (13, .aload_n 0, 1), (14, .getfield 52, 3), (17, .aload_n 0, 1), (18, .getfield 19, 3), (21, .invokevirtual 175, 3), (24, .aload_n 0, 1), (25, .getfield 19, 3), (28, .getfield 104, 3), (31, .istore_n 2, 1), (32, .aload_n 0, 1), (33, .getfield 19, 3), (36, .iload_n 1, 1), (37, .putfield 104, 3), (40, .iload_n 2, 1), (41, .ireturn, 1)]
def mt_X9_offset : Mt := (cX9_offset, RX9, 3, (some .int), ({ frames := 3, cells := 0, slots := 0, locals := 60 } : Room), false, none, none)
set_option maxRecDepth 100000 in
theorem dl_X9_offset : ∀ q ∈ il_X9_offset, decode (mt_X9_offset).1 q.1 = .ok q.2 := by decide +kernel
def tb_X9_offset : Tb := [(0, x_il 1 1, false),
  (1, x_if 10 4 (fun x : Int32 => x < 0), false),
  (4, x_il 5 1, false),
  (5, x_c 7 (.int 9), false),
  (7, x_ic 13 10 (fun x y : Int32 => x ≤ y), false),
  (10, x_c 12 (.int (-2)), false),
  (12, x_rI, false),
  (13, x_al 14 0, false),
  (14, x_gR 9 6 17, false),
  (17, x_al 18 0, false),
  (18, x_gR 9 1 21, false),
  (21, x_cV 0 1 P_X0_remember 24, false),
  (24, x_al 25 0, false),
  (25, x_gR 9 1 28, false),
  (28, x_gI 5 6 31, false),
  (31, x_is 32 2, false),
  (32, x_al 33 0, false),
  (33, x_gR 9 1 36, false),
  (36, x_il 37 1, false),
  (37, x_pI 5 6 40, false),
  (40, x_il 41 2, false),
  (41, x_rI, false)]
set_option maxRecDepth 100000 in
theorem tk_X9_offset : TbOk (mt_X9_offset) (tb_X9_offset) :=
  tkc (s_iload_n (at_ dl_X9_offset 0 (ins := .iload_n 1) rfl)) (
  tkc (s_if_lt (at_ dl_X9_offset 1 (ins := .ifCond .lt 9) rfl) (by decide)) (
  tkc (s_iload_n (at_ dl_X9_offset 2 (ins := .iload_n 1) rfl)) (
  tkc (s_bipush (at_ dl_X9_offset 3 (ins := .bipush 9) rfl) (by first | rfl | decide)) (
  tkc (s_ic_le (at_ dl_X9_offset 4 (ins := .if_icmp .le 6) rfl) (by decide)) (
  tkc (s_bipush (at_ dl_X9_offset 5 (ins := .bipush (-2)) rfl) (by first | rfl | decide)) (
  tkc (s_rI (at_ dl_X9_offset 6 (ins := .ireturn) rfl) rfl) (
  tkc (s_aload_n (at_ dl_X9_offset 7 (ins := .aload_n 0) rfl)) (
  tkc (s_gR (at_ dl_X9_offset 8 (ins := .getfield 52) rfl) (by decide) (by decide) (by decide) (tg 260 (by decide +kernel) (by decide +kernel))) (
  tkc (s_aload_n (at_ dl_X9_offset 9 (ins := .aload_n 0) rfl)) (
  tkc (s_gR (at_ dl_X9_offset 10 (ins := .getfield 19) rfl) (by decide) (by decide) (by decide) (tg 255 (by decide +kernel) (by decide +kernel))) (
  tkc (s_cV ok_X0_remember (at_ dl_X9_offset 11 (ins := .invokevirtual 175) rfl) (by decide) rfl (tg 496 (by decide +kernel) (by decide +kernel)) (tg 497 (by decide +kernel) (by decide +kernel)) (tg 498 (by decide +kernel) (by decide +kernel)) (tg 49 (by decide +kernel) (by decide +kernel)) (tg 499 (by decide +kernel) (by decide +kernel)) (⟨by decide, by decide, by decide +kernel⟩) (⟨by decide, by decide⟩) rfl rfl) (
  tkc (s_aload_n (at_ dl_X9_offset 12 (ins := .aload_n 0) rfl)) (
  tkc (s_gR (at_ dl_X9_offset 13 (ins := .getfield 19) rfl) (by decide) (by decide) (by decide) (tg 255 (by decide +kernel) (by decide +kernel))) (
  tkc (s_gI (at_ dl_X9_offset 14 (ins := .getfield 104) rfl) (by decide) (by decide) (by decide) (tg 145 (by decide +kernel) (by decide +kernel))) (
  tkc (s_istore_n (at_ dl_X9_offset 15 (ins := .istore_n 2) rfl) (by decide)) (
  tkc (s_aload_n (at_ dl_X9_offset 16 (ins := .aload_n 0) rfl)) (
  tkc (s_gR (at_ dl_X9_offset 17 (ins := .getfield 19) rfl) (by decide) (by decide) (by decide) (tg 255 (by decide +kernel) (by decide +kernel))) (
  tkc (s_iload_n (at_ dl_X9_offset 18 (ins := .iload_n 1) rfl)) (
  tkc (s_pI (at_ dl_X9_offset 19 (ins := .putfield 104) rfl) (by decide) (by decide) (by decide) (by decide) (tg 145 (by decide +kernel) (by decide +kernel))) (
  tkc (s_iload_n (at_ dl_X9_offset 20 (ins := .iload_n 2) rfl)) (
  tkc (s_rI (at_ dl_X9_offset 21 (ins := .ireturn) rfl) rfl) ( tk0))))))))))))))))))))))
theorem lf_X9_offset : lk (tb_X9_offset) 0 = (x_il 1 1, false) ∧ lk (tb_X9_offset) 1 = (x_if 10 4 (fun x : Int32 => x < 0), false) ∧ lk (tb_X9_offset) 4 = (x_il 5 1, false) ∧ lk (tb_X9_offset) 5 = (x_c 7 (.int 9), false) ∧ lk (tb_X9_offset) 7 = (x_ic 13 10 (fun x y : Int32 => x ≤ y), false) ∧ lk (tb_X9_offset) 10 = (x_c 12 (.int (-2)), false) ∧ lk (tb_X9_offset) 12 = (x_rI, false) ∧ lk (tb_X9_offset) 13 = (x_al 14 0, false) ∧ lk (tb_X9_offset) 14 = (x_gR 9 6 17, false) ∧ lk (tb_X9_offset) 17 = (x_al 18 0, false) ∧ lk (tb_X9_offset) 18 = (x_gR 9 1 21, false) ∧ lk (tb_X9_offset) 21 = (x_cV 0 1 P_X0_remember 24, false) ∧ lk (tb_X9_offset) 24 = (x_al 25 0, false) ∧ lk (tb_X9_offset) 25 = (x_gR 9 1 28, false) ∧ lk (tb_X9_offset) 28 = (x_gI 5 6 31, false) ∧ lk (tb_X9_offset) 31 = (x_is 32 2, false) ∧ lk (tb_X9_offset) 32 = (x_al 33 0, false) ∧ lk (tb_X9_offset) 33 = (x_gR 9 1 36, false) ∧ lk (tb_X9_offset) 36 = (x_il 37 1, false) ∧ lk (tb_X9_offset) 37 = (x_pI 5 6 40, false) ∧ lk (tb_X9_offset) 40 = (x_il 41 2, false) ∧ lk (tb_X9_offset) 41 = (x_rI, false) := ⟨rfl, rfl, rfl, rfl, rfl, rfl, rfl, rfl, rfl, rfl, rfl, rfl, rfl, rfl, rfl, rfl, rfl, rfl, rfl, rfl, rfl, rfl⟩
def P_X9_offset : PTT := fun as M R => match as with
  | [.ref k, .int v] => k = 0 ∧ ∃ g, CR M.1 M.2.1 M.2.2 g ∧ GOk g ∧ Ans M R (gOffset g v).1 (gOffset g v).2
  | _ => False
set_option maxRecDepth 20000 in
theorem ok_X9_offset : Ok yX9_offset mt_X9_offset P_X9_offset := by
  refine Ok.of (by decide) rfl rfl rfl rfl fun av ⟨S, I, L⟩ R hP => ?_
  unfold P_X9_offset at hP
  split at hP
  case h_2 => exact hP.elim
  rename_i k v
  obtain ⟨k, rfl⟩ : ∃ q : Nat, q = k := ⟨k, rfl⟩
  refine ⟨by simp [ent, wide, mt_X9_offset], ?_⟩
  show J mt_X9_offset R 0 [some (.ref k), some (.int v), none] [] (S, I, L)
  try dsimp only at hP
  obtain ⟨rfl, g, hc, ho, hA⟩ := hP
  have h1 := hc.1
  refine J.of tk_X9_offset 200 fun ρ hρ => ?_
  simp only [hρ, x_c, x_il, x_ll, x_al, x_is, x_as, x_ls, x_inc, x_ii, x_iq, x_i1, x_l2, x_lq, x_lh, x_i2l, x_l2i, x_lcmp, x_dup, x_dup2, x_pop, x_if, x_ifn, x_ic, x_icn, x_go, x_sw, swc, x_l01, x_mx, x_gI, x_gL, x_gR, x_pI, x_pZ, x_pL, x_pR, x_ia, x_za, x_aa, x_ias, x_zas, x_aas, x_fac, x_fa, x_slen, x_sa, x_ac, x_oi, x_new, x_na, x_cS, x_cV, x_cI, x_rI, x_rZ, x_rL, x_r0, pa, short, oc, lg, lset, lset2, wide, cond_true, cond_false, true_and, and_true, ↓reduceIte, Bool.false_eq_true, true_or, or_true, lf_X9_offset, h1.1.f, hc.ac, hc.ac.1.f, hc.ac.2.f, P_X0_remember, Classical.not_not]
  refine ⟨fun h => (hA.e (by rw [gOffset, if_pos (.inl h)])).s hc, fun h => ⟨fun h' => CR.rem hc ho fun I' hf8 hc' => ?_, fun h' => (hA.e (by rw [gOffset, if_pos (.inr h')])).s hc⟩⟩
  have hA' := hA.e (show gOffset g v = (aO (gA g), GA (remG g) (ofA (gA g) v)) by rw [gOffset, if_neg (fun q => q.elim h (fun r => r h'))])
  rw [hc'.2.2.1.2.2.1]
  exact hA' _ L (hf8.trans (fun q hq => mS_n (by omega))) (fun _ _ => rfl) (hc'.now (fun q a b c d e f => mS_n (by omega)) hc'.2.2.1.of)
/-- undo -/
def gUndo (g : GS) : Int32 × GS := if gC g = 0 then (-3, g) else (nI (gC g - 1), GH (GA g (gH g 0)) (gC g - 1) (fun j => gH g (j + 1)))
def il_X9_undo : List (Nat × Instr × Nat) := [(0, .aload_n 0, 1), (1, .getfield 52, 3), (4, .getfield 144, 3), (7, .ifCond .ne 6, 3), (10, .bipush (-3), 2), (12, .ireturn, 1), (13, .aload_n 0, 1), (14, .getfield 52, 3), (17, .aload_n 0, 1), (18, .getfield 19, 3), (21, .invokevirtual 197, 3), (24, .aload_n 0, 1), (25, .getfield 52, 3), (28, .getfield 144, 3), (31, .ireturn, 1)]
def mt_X9_undo : Mt := (cX9_undo, RX9, 1, (some .int), ({ frames := 3, cells := 0, slots := 0, locals := 60 } : Room), false, none, none)
set_option maxRecDepth 100000 in
theorem dl_X9_undo : ∀ q ∈ il_X9_undo, decode (mt_X9_undo).1 q.1 = .ok q.2 := by decide +kernel
def tb_X9_undo : Tb := [(0, x_al 1 0, false),
  (1, x_gR 9 6 4, false),
  (4, x_gI 0 2 7, false),
  (7, x_ifn 13 10 (fun x : Int32 => x = 0), false),
  (10, x_c 12 (.int (-3)), false),
  (12, x_rI, false),
  (13, x_al 14 0, false),
  (14, x_gR 9 6 17, false),
  (17, x_al 18 0, false),
  (18, x_gR 9 1 21, false),
  (21, x_cV 0 1 P_X0_giveBackLast 24, false),
  (24, x_al 25 0, false),
  (25, x_gR 9 6 28, false),
  (28, x_gI 0 2 31, false),
  (31, x_rI, false)]
set_option maxRecDepth 100000 in
theorem tk_X9_undo : TbOk (mt_X9_undo) (tb_X9_undo) :=
  tkc (s_aload_n (at_ dl_X9_undo 0 (ins := .aload_n 0) rfl)) (
  tkc (s_gR (at_ dl_X9_undo 1 (ins := .getfield 52) rfl) (by decide) (by decide) (by decide) (tg 260 (by decide +kernel) (by decide +kernel))) (
  tkc (s_gI (at_ dl_X9_undo 2 (ins := .getfield 144) rfl) (by decide) (by decide) (by decide) (tg 229 (by decide +kernel) (by decide +kernel))) (
  tkc (s_if_ne (at_ dl_X9_undo 3 (ins := .ifCond .ne 6) rfl) (by decide)) (
  tkc (s_bipush (at_ dl_X9_undo 4 (ins := .bipush (-3)) rfl) (by first | rfl | decide)) (
  tkc (s_rI (at_ dl_X9_undo 5 (ins := .ireturn) rfl) rfl) (
  tkc (s_aload_n (at_ dl_X9_undo 6 (ins := .aload_n 0) rfl)) (
  tkc (s_gR (at_ dl_X9_undo 7 (ins := .getfield 52) rfl) (by decide) (by decide) (by decide) (tg 260 (by decide +kernel) (by decide +kernel))) (
  tkc (s_aload_n (at_ dl_X9_undo 8 (ins := .aload_n 0) rfl)) (
  tkc (s_gR (at_ dl_X9_undo 9 (ins := .getfield 19) rfl) (by decide) (by decide) (by decide) (tg 255 (by decide +kernel) (by decide +kernel))) (
  tkc (s_cV ok_X0_giveBackLast (at_ dl_X9_undo 10 (ins := .invokevirtual 197) rfl) (by decide) rfl (tg 545 (by decide +kernel) (by decide +kernel)) (tg 546 (by decide +kernel) (by decide +kernel)) (tg 547 (by decide +kernel) (by decide +kernel)) (tg 49 (by decide +kernel) (by decide +kernel)) (tg 548 (by decide +kernel) (by decide +kernel)) (⟨by decide, by decide, by decide +kernel⟩) (⟨by decide, by decide⟩) rfl rfl) (
  tkc (s_aload_n (at_ dl_X9_undo 11 (ins := .aload_n 0) rfl)) (
  tkc (s_gR (at_ dl_X9_undo 12 (ins := .getfield 52) rfl) (by decide) (by decide) (by decide) (tg 260 (by decide +kernel) (by decide +kernel))) (
  tkc (s_gI (at_ dl_X9_undo 13 (ins := .getfield 144) rfl) (by decide) (by decide) (by decide) (tg 229 (by decide +kernel) (by decide +kernel))) (
  tkc (s_rI (at_ dl_X9_undo 14 (ins := .ireturn) rfl) rfl) ( tk0)))))))))))))))
theorem lf_X9_undo : lk (tb_X9_undo) 0 = (x_al 1 0, false) ∧ lk (tb_X9_undo) 1 = (x_gR 9 6 4, false) ∧ lk (tb_X9_undo) 4 = (x_gI 0 2 7, false) ∧ lk (tb_X9_undo) 7 = (x_ifn 13 10 (fun x : Int32 => x = 0), false) ∧ lk (tb_X9_undo) 10 = (x_c 12 (.int (-3)), false) ∧ lk (tb_X9_undo) 12 = (x_rI, false) ∧ lk (tb_X9_undo) 13 = (x_al 14 0, false) ∧ lk (tb_X9_undo) 14 = (x_gR 9 6 17, false) ∧ lk (tb_X9_undo) 17 = (x_al 18 0, false) ∧ lk (tb_X9_undo) 18 = (x_gR 9 1 21, false) ∧ lk (tb_X9_undo) 21 = (x_cV 0 1 P_X0_giveBackLast 24, false) ∧ lk (tb_X9_undo) 24 = (x_al 25 0, false) ∧ lk (tb_X9_undo) 25 = (x_gR 9 6 28, false) ∧ lk (tb_X9_undo) 28 = (x_gI 0 2 31, false) ∧ lk (tb_X9_undo) 31 = (x_rI, false) := ⟨rfl, rfl, rfl, rfl, rfl, rfl, rfl, rfl, rfl, rfl, rfl, rfl, rfl, rfl, rfl⟩
def P_X9_undo : PTT := fun as M R => match as with
  | [.ref k] => k = 0 ∧ ∃ g, CR M.1 M.2.1 M.2.2 g ∧ GOk g ∧ Ans M R (gUndo g).1 (gUndo g).2
  | _ => False
set_option maxRecDepth 20000 in
theorem ok_X9_undo : Ok yX9_undo mt_X9_undo P_X9_undo := by
  refine Ok.of (by decide) rfl rfl rfl rfl fun av ⟨S, I, L⟩ R hP => ?_
  unfold P_X9_undo at hP
  split at hP
  case h_2 => exact hP.elim
  rename_i k
  obtain ⟨k, rfl⟩ : ∃ q : Nat, q = k := ⟨k, rfl⟩
  refine ⟨by simp [ent, wide, mt_X9_undo], ?_⟩
  show J mt_X9_undo R 0 [some (.ref k)] [] (S, I, L)
  try dsimp only at hP
  obtain ⟨rfl, g, hc, ho, hA⟩ := hP
  obtain ⟨h1, h2, h3, ⟨f, hv, hs⟩, h5, h6, h7, h8⟩ := id hc
  have hC := ho.2.2.1.1
  refine J.of tk_X9_undo 200 fun ρ hρ => ?_
  simp only [hρ, x_c, x_il, x_ll, x_al, x_is, x_as, x_ls, x_inc, x_ii, x_iq, x_i1, x_l2, x_lq, x_lh, x_i2l, x_l2i, x_lcmp, x_dup, x_dup2, x_pop, x_if, x_ifn, x_ic, x_icn, x_go, x_sw, swc, x_l01, x_mx, x_gI, x_gL, x_gR, x_pI, x_pZ, x_pL, x_pR, x_ia, x_za, x_aa, x_ias, x_zas, x_aas, x_fac, x_fa, x_slen, x_sa, x_ac, x_oi, x_new, x_na, x_cS, x_cV, x_cI, x_rI, x_rZ, x_rL, x_r0, pa, short, oc, lg, lset, lset2, wide, cond_true, cond_false, true_and, and_true, ↓reduceIte, Bool.false_eq_true, true_or, or_true, lf_X9_undo, h1.1.f, hc.ac, hc.ac.1.f, hc.ac.2.f, P_X0_giveBackLast, hv.2.2.2, nI_z (show gC g < 2 ^ 31 by omega), Classical.not_not]
  refine ⟨fun h => ?_, fun h => (hA.e (by rw [gUndo, if_pos h])).s hc⟩
  have hA' := hA.e (show gUndo g = (nI (gC g - 1), GH (GA g (gH g 0)) (gC g - 1) (fun j => gH g (j + 1))) by rw [gUndo, if_neg h])
  refine ⟨f, gC g - 1, by rw [show gC g - 1 + 1 = gC g by omega]; exact hv, fun I' hv' hcp hf => ?_⟩
  rw [hv'.2.2.2]
  have hs0 : SR I (23 + 5 * ((f + (gC g - 1)) % 14)) (gH g 0) := by
    have := hs 0 (by omega)
    rwa [show f + gC g - 1 - 0 = f + (gC g - 1) by omega] at this
  have hok := ho.2.2.1.2 0 (by omega)
  refine hA' _ L (fun q hq => hf q (by omega) (by omega)) (fun _ _ => rfl) ⟨h1, h2.fr (hf 1 (by omega) (by omega)) (hf 2 (by omega) (by omega)), SR.cp hcp hs0 hok.1.1.2.2, ⟨f, hv', fun j hj => ?_⟩, CK.fr (g := g) h5 (fun q a b => hf q (by omega) (by omega)), h6.fr (hf 93 (by omega) (by omega)) (hf 94 (by omega) (by omega)) (hf 95 (by omega) (by omega)), h7, h8.fr (hf 16 (by omega) (by omega))⟩
  replace hj : j < gC g - 1 := hj
  show SR I' (23 + 5 * ((f + (gC g - 1) - 1 - j) % 14)) (gH g (j + 1))
  have := hs (j + 1) (by omega)
  rw [show f + gC g - 1 - (j + 1) = f + (gC g - 1) - 1 - j by omega] at this
  exact this.fr (fun q a b => hf q (by omega) (by omega))
