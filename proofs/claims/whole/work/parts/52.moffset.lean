/-! OFFSET of the model -/
def il_X10_offset : List (Nat × Instr × Nat) := [(0, .iload_n 1, 1), (1, .i2l, 1), (2, .lconst 0, 1), (3, .ldc2_w 80, 3), (6, .invokestatic 60, 3), (9, .ifCond .ne 6, 3), (12, .bipush (-2), 2), (14, .ireturn, 1), (15, .aload_n 0, 1), (16, .invokevirtual 184, 3), (19, .aload_n 0, 1), (20, .getfield 13, 3), (23, .bipush 78, 2), (25, .iaload, 1), (26, .istore_n 2, 1), (27, .aload_n 0, 1), (28, .getfield 13, 3), (31, .bipush 78, 2), (33, .iload_n 1, 1), (34, .iastore, 1), (35, .iload_n 2, 1), (36, .ireturn, 1)]
def mt_X10_offset : Mt := (cX10_offset, RX10, 3, (some .int), ({ frames := 1, cells := 0, slots := 0, locals := 25 } : Room), false, none, none)
set_option maxRecDepth 100000 in
theorem dl_X10_offset : ∀ q ∈ il_X10_offset, decode (mt_X10_offset).1 q.1 = .ok q.2 := by decide +kernel
def tb_X10_offset : Tb := [(0, x_il 1 1, false),
  (1, x_i2l 2, false),
  (2, x_c 3 (.long 0), false),
  (3, x_c 6 (.long 9), false),
  (6, x_cS 3 P_X10_in 9, false),
  (9, x_ifn 15 12 (fun x : Int32 => x = 0), false),
  (12, x_c 14 (.int (-2)), false),
  (14, x_rI, false),
  (15, x_al 16 0, false),
  (16, x_cV 10 0 P_X10_note 19, false),
  (19, x_al 20 0, false),
  (20, x_gR 10 4 23, false),
  (23, x_c 25 (.int 78), false),
  (25, x_ia 26, false),
  (26, x_is 27 2, false),
  (27, x_al 28 0, false),
  (28, x_gR 10 4 31, false),
  (31, x_c 33 (.int 78), false),
  (33, x_il 34 1, false),
  (34, x_ias 35, false),
  (35, x_il 36 2, false),
  (36, x_rI, false)]
set_option maxRecDepth 100000 in
theorem tk_X10_offset : TbOk (mt_X10_offset) (tb_X10_offset) :=
  tkc (s_iload_n (at_ dl_X10_offset 0 (ins := .iload_n 1) rfl)) (
  tkc (s_i2l (at_ dl_X10_offset 1 (ins := .i2l) rfl)) (
  tkc (s_lconst (at_ dl_X10_offset 2 (ins := .lconst 0) rfl) (by first | rfl | decide)) (
  tkc (s_ldc2 (at_ dl_X10_offset 3 (ins := .ldc2_w 80) rfl) (tg 800 (by decide +kernel) (by decide +kernel))) (
  tkc (s_cS ok_X10_in (at_ dl_X10_offset 4 (ins := .invokestatic 60) rfl) (tg 780 (by decide +kernel) (by decide +kernel)) (tg 781 (by decide +kernel) (by decide +kernel)) (tg 51 (by decide +kernel) (by decide +kernel)) (tg 782 (by decide +kernel) (by decide +kernel)) (⟨by decide, by decide, by decide +kernel⟩) (⟨by decide, by decide⟩) rfl rfl) (
  tkc (s_if_ne (at_ dl_X10_offset 5 (ins := .ifCond .ne 6) rfl) (by decide)) (
  tkc (s_bipush (at_ dl_X10_offset 6 (ins := .bipush (-2)) rfl) (by first | rfl | decide)) (
  tkc (s_rI (at_ dl_X10_offset 7 (ins := .ireturn) rfl) rfl) (
  tkc (s_aload_n (at_ dl_X10_offset 8 (ins := .aload_n 0) rfl)) (
  tkc (s_cV ok_X10_note (at_ dl_X10_offset 9 (ins := .invokevirtual 184) rfl) (by decide) rfl (tg 906 (by decide +kernel) (by decide +kernel)) (tg 908 (by decide +kernel) (by decide +kernel)) (tg 37 (by decide +kernel) (by decide +kernel)) (tg 51 (by decide +kernel) (by decide +kernel)) (tg 909 (by decide +kernel) (by decide +kernel)) (⟨by decide, by decide, by decide +kernel⟩) (⟨by decide, by decide⟩) rfl rfl) (
  tkc (s_aload_n (at_ dl_X10_offset 10 (ins := .aload_n 0) rfl)) (
  tkc (s_gR (at_ dl_X10_offset 11 (ins := .getfield 13) rfl) (by decide) (by decide) (by decide) (tg 700 (by decide +kernel) (by decide +kernel))) (
  tkc (s_bipush (at_ dl_X10_offset 12 (ins := .bipush 78) rfl) (by first | rfl | decide)) (
  tkc (s_ia (at_ dl_X10_offset 13 (ins := .iaload) rfl)) (
  tkc (s_istore_n (at_ dl_X10_offset 14 (ins := .istore_n 2) rfl) (by decide)) (
  tkc (s_aload_n (at_ dl_X10_offset 15 (ins := .aload_n 0) rfl)) (
  tkc (s_gR (at_ dl_X10_offset 16 (ins := .getfield 13) rfl) (by decide) (by decide) (by decide) (tg 700 (by decide +kernel) (by decide +kernel))) (
  tkc (s_bipush (at_ dl_X10_offset 17 (ins := .bipush 78) rfl) (by first | rfl | decide)) (
  tkc (s_iload_n (at_ dl_X10_offset 18 (ins := .iload_n 1) rfl)) (
  tkc (s_ias (at_ dl_X10_offset 19 (ins := .iastore) rfl)) (
  tkc (s_iload_n (at_ dl_X10_offset 20 (ins := .iload_n 2) rfl)) (
  tkc (s_rI (at_ dl_X10_offset 21 (ins := .ireturn) rfl) rfl) ( tk0))))))))))))))))))))))
theorem lf_X10_offset : lk (tb_X10_offset) 0 = (x_il 1 1, false) ∧ lk (tb_X10_offset) 1 = (x_i2l 2, false) ∧ lk (tb_X10_offset) 2 = (x_c 3 (.long 0), false) ∧ lk (tb_X10_offset) 3 = (x_c 6 (.long 9), false) ∧ lk (tb_X10_offset) 6 = (x_cS 3 P_X10_in 9, false) ∧ lk (tb_X10_offset) 9 = (x_ifn 15 12 (fun x : Int32 => x = 0), false) ∧ lk (tb_X10_offset) 12 = (x_c 14 (.int (-2)), false) ∧ lk (tb_X10_offset) 14 = (x_rI, false) ∧ lk (tb_X10_offset) 15 = (x_al 16 0, false) ∧ lk (tb_X10_offset) 16 = (x_cV 10 0 P_X10_note 19, false) ∧ lk (tb_X10_offset) 19 = (x_al 20 0, false) ∧ lk (tb_X10_offset) 20 = (x_gR 10 4 23, false) ∧ lk (tb_X10_offset) 23 = (x_c 25 (.int 78), false) ∧ lk (tb_X10_offset) 25 = (x_ia 26, false) ∧ lk (tb_X10_offset) 26 = (x_is 27 2, false) ∧ lk (tb_X10_offset) 27 = (x_al 28 0, false) ∧ lk (tb_X10_offset) 28 = (x_gR 10 4 31, false) ∧ lk (tb_X10_offset) 31 = (x_c 33 (.int 78), false) ∧ lk (tb_X10_offset) 33 = (x_il 34 1, false) ∧ lk (tb_X10_offset) 34 = (x_ias 35, false) ∧ lk (tb_X10_offset) 35 = (x_il 36 2, false) ∧ lk (tb_X10_offset) 36 = (x_rI, false) := ⟨rfl, rfl, rfl, rfl, rfl, rfl, rfl, rfl, rfl, rfl, rfl, rfl, rfl, rfl, rfl, rfl, rfl, rfl, rfl, rfl, rfl, rfl⟩
def P_X10_offset : PTT := fun as M R => match as with
  | [.ref k, .int v] => k = 108 ∧ ∃ g, MR M.1 M.2.1 M.2.2 g ∧ GOk g ∧ Anm M R (gOffset g v).1 (gOffset g v).2
  | _ => False
set_option maxRecDepth 20000 in
theorem ok_X10_offset : Ok yX10_offset mt_X10_offset P_X10_offset := by
  refine Ok.of (by decide) rfl rfl rfl rfl fun av ⟨S, I, L⟩ R hP => ?_
  unfold P_X10_offset at hP
  split at hP
  case h_2 => exact hP.elim
  rename_i k v
  obtain ⟨k, rfl⟩ : ∃ q : Nat, q = k := ⟨k, rfl⟩
  refine ⟨by simp [ent, wide, mt_X10_offset], ?_⟩
  show J mt_X10_offset R 0 [some (.ref k), some (.int v), none] [] (S, I, L)
  try dsimp only at hP
  obtain ⟨rfl, g, hc, ho, hA⟩ := hP
  have h1 := hc.1
  have i1 : (¬ v.toInt64 < (0 : Int64) ∧ ¬ (9 : Int64) < v.toInt64) ↔ (¬ v < 0 ∧ v ≤ 9) := and_congr i2l_0 (inL (by decide))
  have e78 : (78 : Int32).toNatClampNeg = 78 := by decide
  have v78 : vp_in 78 80 := vp_in_nI (n := 78) (by omega) (by omega)
  refine J.of tk_X10_offset 200 fun ρ hρ => ?_
  simp only [hρ, x_c, x_il, x_ll, x_al, x_is, x_as, x_ls, x_inc, x_ii, x_iq, x_i1, x_l2, x_lq, x_lh, x_i2l, x_l2i, x_lcmp, x_dup, x_dup2, x_pop, x_if, x_ifn, x_ic, x_icn, x_go, x_sw, swc, x_l01, x_mx, x_gI, x_gL, x_gR, x_pI, x_pZ, x_pL, x_pR, x_ia, x_za, x_aa, x_ias, x_zas, x_aas, x_fac, x_fa, x_slen, x_sa, x_ac, x_oi, x_new, x_na, x_cS, x_cV, x_cI, x_rI, x_rZ, x_rL, x_r0, pa, short, oc, lg, lset, lset2, wide, cond_true, cond_false, true_and, and_true, ↓reduceIte, Bool.false_eq_true, true_or, or_true, lf_X10_offset, h1.f, P_X10_in, P_X10_note, i1, bI_0, e78, eq_true v78, Classical.not_not]
  refine ⟨fun h => ⟨g, hc, ho, fun I' hl hc' => ?_⟩, fun h => (hA.e (by rw [gOffset, if_pos (Classical.byContradiction fun q => h ⟨fun r => q (.inl r), Classical.byContradiction fun r => q (.inr r)⟩)])).s hc⟩
  have hA' := hA.e (show gOffset g v = (aO (gA g), GA (remG g) (ofA (gA g) v)) by rw [gOffset, if_neg (fun q => q.elim h.1 (fun r => r h.2))])
  have e : I' 110 78 = aO (gA g) := hc'.2.2.2.1.2.2.2.2.1
  rw [e]
  exact hA' _ L (fun q hq => by rw [mS_n (by omega)]; exact hl q hq) (fun _ _ => rfl) (hc'.now (hc'.2.2.2.1.of ho.2.1.1.2.2) ⟨rfl, rfl⟩)
