/-! LEVEL, PUT, ROUND of the model -/
theorem loL {x : Int32} {a : Int64} {b : Int32} (h : a.toInt = b.toInt) : ¬ x.toInt64 < a ↔ ¬ x < b := by
  rw [Int64.lt_iff_toInt_lt, Int32.lt_iff_toInt_lt, Int32.toInt_toInt64, h]
theorem RW.lv {f : Nat → Int32} {a : AS} {b : Nat} {v : Int32} (h : RW f 0 a) (hb : b < 9) (hm : aM a ≤ 6) : RW (upd f b v) 0 (lvA a b v) := by
  have e : ∀ j, upd f b v j = if j = b then v else f j := fun j => upd_app f b _ j
  refine ⟨fun x hx => ?_, fun x hx => ?_, fun c hc => ?_, fun j hj => ?_, ?_, ?_⟩
  · show upd f b v (0 + x) = upd (aL a) b v x
    rw [Nat.zero_add, upd_app, upd_app]
    by_cases q : x = b
    · rw [if_pos q, if_pos q]
    · rw [if_neg q, if_neg q]; exact h.l hx
  · rw [e, if_neg (by omega)]; exact h.2.1 x hx
  · have : c < aM a := hc
    rw [e, if_neg (by omega)]; exact h.2.2.1 c hc
  · rw [e, if_neg (by omega)]; exact h.2.2.2.1 j hj
  · rw [e, if_neg (by omega)]; exact h.2.2.2.2.1
  · rw [e, if_neg (by omega)]; exact h.2.2.2.2.2
def il_X10_level : List (Nat × Instr × Nat) := [(0, .aload_n 0, 1), (1, .iload_n 1, 1), (2, .invokevirtual 168, 3), (5, .ifCond .ne 5, 3), (8, .iconst (-1), 1), (9, .ireturn, 1), (10, .iload_n 2, 1), (11, .i2l, 1), (12, .ldc2_w 180, 3), (15, .ldc2_w 182, 3), (18, .invokestatic 60, 3), (21, .ifCond .ne 6, 3), (24, .bipush (-2), 2), (26, .ireturn, 1), (27, .aload_n 0, 1), (28, .invokevirtual 184, 3), (31, .aload_n 0, 1), (32, .getfield 13, 3), (35, .iconst 0, 1), (36, .iload_n 1, 1), (37, .iadd, 1), (38, .iaload, 1), (39, .istore_n 3, 1), (40, .aload_n 0, 1), (41, .getfield 13, 3), (44, .iconst 0, 1), (45, .iload_n 1, 1), (46, .iadd, 1), (47, .iload_n 2, 1), (48, .iastore, 1), (49, .iload_n 3, 1), (50, .bipush 100, 2), (52, .iadd, 1), (53, .ireturn, 1)]
def mt_X10_level : Mt := (cX10_level, RX10, 4, (some .int), ({ frames := 2, cells := 0, slots := 0, locals := 46 } : Room), false, none, none)
set_option maxRecDepth 100000 in
theorem dl_X10_level : ∀ q ∈ il_X10_level, decode (mt_X10_level).1 q.1 = .ok q.2 := by decide +kernel
def tb_X10_level : Tb := [(0, x_al 1 0, false),
  (1, x_il 2 1, false),
  (2, x_cV 10 1 P_X10_isBit 5, false),
  (5, x_ifn 10 8 (fun x : Int32 => x = 0), false),
  (8, x_c 9 (.int (-1)), false),
  (9, x_rI, false),
  (10, x_il 11 2, false),
  (11, x_i2l 12, false),
  (12, x_c 15 (.long (-31)), false),
  (15, x_c 18 (.long 31), false),
  (18, x_cS 3 P_X10_in 21, false),
  (21, x_ifn 27 24 (fun x : Int32 => x = 0), false),
  (24, x_c 26 (.int (-2)), false),
  (26, x_rI, false),
  (27, x_al 28 0, false),
  (28, x_cV 10 0 P_X10_note 31, false),
  (31, x_al 32 0, false),
  (32, x_gR 10 4 35, false),
  (35, x_c 36 (.int 0), false),
  (36, x_il 37 1, false),
  (37, x_ii 38 (fun x y : Int32 => x + y), false),
  (38, x_ia 39, false),
  (39, x_is 40 3, false),
  (40, x_al 41 0, false),
  (41, x_gR 10 4 44, false),
  (44, x_c 45 (.int 0), false),
  (45, x_il 46 1, false),
  (46, x_ii 47 (fun x y : Int32 => x + y), false),
  (47, x_il 48 2, false),
  (48, x_ias 49, false),
  (49, x_il 50 3, false),
  (50, x_c 52 (.int 100), false),
  (52, x_ii 53 (fun x y : Int32 => x + y), false),
  (53, x_rI, false)]
set_option maxRecDepth 100000 in
theorem tk_X10_level : TbOk (mt_X10_level) (tb_X10_level) :=
  tkc (s_aload_n (at_ dl_X10_level 0 (ins := .aload_n 0) rfl)) (
  tkc (s_iload_n (at_ dl_X10_level 1 (ins := .iload_n 1) rfl)) (
  tkc (s_cV ok_X10_isBit (at_ dl_X10_level 2 (ins := .invokevirtual 168) rfl) (by decide) rfl (tg 880 (by decide +kernel) (by decide +kernel)) (tg 882 (by decide +kernel) (by decide +kernel)) (tg 34 (by decide +kernel) (by decide +kernel)) (tg 51 (by decide +kernel) (by decide +kernel)) (tg 883 (by decide +kernel) (by decide +kernel)) (⟨by decide, by decide, by decide +kernel⟩) (⟨by decide, by decide⟩) rfl rfl) (
  tkc (s_if_ne (at_ dl_X10_level 3 (ins := .ifCond .ne 5) rfl) (by decide)) (
  tkc (s_iconst (at_ dl_X10_level 4 (ins := .iconst (-1)) rfl) (by first | rfl | decide)) (
  tkc (s_rI (at_ dl_X10_level 5 (ins := .ireturn) rfl) rfl) (
  tkc (s_iload_n (at_ dl_X10_level 6 (ins := .iload_n 2) rfl)) (
  tkc (s_i2l (at_ dl_X10_level 7 (ins := .i2l) rfl)) (
  tkc (s_ldc2 (at_ dl_X10_level 8 (ins := .ldc2_w 180) rfl) (tg 904 (by decide +kernel) (by decide +kernel))) (
  tkc (s_ldc2 (at_ dl_X10_level 9 (ins := .ldc2_w 182) rfl) (tg 905 (by decide +kernel) (by decide +kernel))) (
  tkc (s_cS ok_X10_in (at_ dl_X10_level 10 (ins := .invokestatic 60) rfl) (tg 780 (by decide +kernel) (by decide +kernel)) (tg 781 (by decide +kernel) (by decide +kernel)) (tg 51 (by decide +kernel) (by decide +kernel)) (tg 782 (by decide +kernel) (by decide +kernel)) (⟨by decide, by decide, by decide +kernel⟩) (⟨by decide, by decide⟩) rfl rfl) (
  tkc (s_if_ne (at_ dl_X10_level 11 (ins := .ifCond .ne 6) rfl) (by decide)) (
  tkc (s_bipush (at_ dl_X10_level 12 (ins := .bipush (-2)) rfl) (by first | rfl | decide)) (
  tkc (s_rI (at_ dl_X10_level 13 (ins := .ireturn) rfl) rfl) (
  tkc (s_aload_n (at_ dl_X10_level 14 (ins := .aload_n 0) rfl)) (
  tkc (s_cV ok_X10_note (at_ dl_X10_level 15 (ins := .invokevirtual 184) rfl) (by decide) rfl (tg 906 (by decide +kernel) (by decide +kernel)) (tg 908 (by decide +kernel) (by decide +kernel)) (tg 37 (by decide +kernel) (by decide +kernel)) (tg 51 (by decide +kernel) (by decide +kernel)) (tg 909 (by decide +kernel) (by decide +kernel)) (⟨by decide, by decide, by decide +kernel⟩) (⟨by decide, by decide⟩) rfl rfl) (
  tkc (s_aload_n (at_ dl_X10_level 16 (ins := .aload_n 0) rfl)) (
  tkc (s_gR (at_ dl_X10_level 17 (ins := .getfield 13) rfl) (by decide) (by decide) (by decide) (tg 700 (by decide +kernel) (by decide +kernel))) (
  tkc (s_iconst (at_ dl_X10_level 18 (ins := .iconst 0) rfl) (by first | rfl | decide)) (
  tkc (s_iload_n (at_ dl_X10_level 19 (ins := .iload_n 1) rfl)) (
  tkc (s_iadd (at_ dl_X10_level 20 (ins := .iadd) rfl)) (
  tkc (s_ia (at_ dl_X10_level 21 (ins := .iaload) rfl)) (
  tkc (s_istore_n (at_ dl_X10_level 22 (ins := .istore_n 3) rfl) (by decide)) (
  tkc (s_aload_n (at_ dl_X10_level 23 (ins := .aload_n 0) rfl)) (
  tkc (s_gR (at_ dl_X10_level 24 (ins := .getfield 13) rfl) (by decide) (by decide) (by decide) (tg 700 (by decide +kernel) (by decide +kernel))) (
  tkc (s_iconst (at_ dl_X10_level 25 (ins := .iconst 0) rfl) (by first | rfl | decide)) (
  tkc (s_iload_n (at_ dl_X10_level 26 (ins := .iload_n 1) rfl)) (
  tkc (s_iadd (at_ dl_X10_level 27 (ins := .iadd) rfl)) (
  tkc (s_iload_n (at_ dl_X10_level 28 (ins := .iload_n 2) rfl)) (
  tkc (s_ias (at_ dl_X10_level 29 (ins := .iastore) rfl)) (
  tkc (s_iload_n (at_ dl_X10_level 30 (ins := .iload_n 3) rfl)) (
  tkc (s_bipush (at_ dl_X10_level 31 (ins := .bipush 100) rfl) (by first | rfl | decide)) (
  tkc (s_iadd (at_ dl_X10_level 32 (ins := .iadd) rfl)) (
  tkc (s_rI (at_ dl_X10_level 33 (ins := .ireturn) rfl) rfl) ( tk0))))))))))))))))))))))))))))))))))
theorem lf_X10_level : lk (tb_X10_level) 0 = (x_al 1 0, false) ∧ lk (tb_X10_level) 1 = (x_il 2 1, false) ∧ lk (tb_X10_level) 2 = (x_cV 10 1 P_X10_isBit 5, false) ∧ lk (tb_X10_level) 5 = (x_ifn 10 8 (fun x : Int32 => x = 0), false) ∧ lk (tb_X10_level) 8 = (x_c 9 (.int (-1)), false) ∧ lk (tb_X10_level) 9 = (x_rI, false) ∧ lk (tb_X10_level) 10 = (x_il 11 2, false) ∧ lk (tb_X10_level) 11 = (x_i2l 12, false) ∧ lk (tb_X10_level) 12 = (x_c 15 (.long (-31)), false) ∧ lk (tb_X10_level) 15 = (x_c 18 (.long 31), false) ∧ lk (tb_X10_level) 18 = (x_cS 3 P_X10_in 21, false) ∧ lk (tb_X10_level) 21 = (x_ifn 27 24 (fun x : Int32 => x = 0), false) ∧ lk (tb_X10_level) 24 = (x_c 26 (.int (-2)), false) ∧ lk (tb_X10_level) 26 = (x_rI, false) ∧ lk (tb_X10_level) 27 = (x_al 28 0, false) ∧ lk (tb_X10_level) 28 = (x_cV 10 0 P_X10_note 31, false) ∧ lk (tb_X10_level) 31 = (x_al 32 0, false) ∧ lk (tb_X10_level) 32 = (x_gR 10 4 35, false) ∧ lk (tb_X10_level) 35 = (x_c 36 (.int 0), false) ∧ lk (tb_X10_level) 36 = (x_il 37 1, false) ∧ lk (tb_X10_level) 37 = (x_ii 38 (fun x y : Int32 => x + y), false) ∧ lk (tb_X10_level) 38 = (x_ia 39, false) ∧ lk (tb_X10_level) 39 = (x_is 40 3, false) ∧ lk (tb_X10_level) 40 = (x_al 41 0, false) ∧ lk (tb_X10_level) 41 = (x_gR 10 4 44, false) ∧ lk (tb_X10_level) 44 = (x_c 45 (.int 0), false) ∧ lk (tb_X10_level) 45 = (x_il 46 1, false) ∧ lk (tb_X10_level) 46 = (x_ii 47 (fun x y : Int32 => x + y), false) ∧ lk (tb_X10_level) 47 = (x_il 48 2, false) ∧ lk (tb_X10_level) 48 = (x_ias 49, false) ∧ lk (tb_X10_level) 49 = (x_il 50 3, false) ∧ lk (tb_X10_level) 50 = (x_c 52 (.int 100), false) ∧ lk (tb_X10_level) 52 = (x_ii 53 (fun x y : Int32 => x + y), false) ∧ lk (tb_X10_level) 53 = (x_rI, false) := ⟨rfl, rfl, rfl, rfl, rfl, rfl, rfl, rfl, rfl, rfl, rfl, rfl, rfl, rfl, rfl, rfl, rfl, rfl, rfl, rfl, rfl, rfl, rfl, rfl, rfl, rfl, rfl, rfl, rfl, rfl, rfl, rfl, rfl, rfl⟩
def P_X10_level : PTT := fun as M R => match as with
  | [.ref k, .int b, .int v] => k = 108 ∧ ∃ g, MR M.1 M.2.1 M.2.2 g ∧ GOk g ∧ Anm M R (gLevel g b v).1 (gLevel g b v).2
  | _ => False
set_option maxRecDepth 20000 in
theorem ok_X10_level : Ok yX10_level mt_X10_level P_X10_level := by
  refine Ok.of (by decide) rfl rfl rfl rfl fun av ⟨S, I, L⟩ R hP => ?_
  unfold P_X10_level at hP
  split at hP
  case h_2 => exact hP.elim
  rename_i k b v
  obtain ⟨k, rfl⟩ : ∃ q : Nat, q = k := ⟨k, rfl⟩
  refine ⟨by simp [ent, wide, mt_X10_level], ?_⟩
  show J mt_X10_level R 0 [some (.ref k), some (.int b), some (.int v), none] [] (S, I, L)
  try dsimp only at hP
  obtain ⟨rfl, g, hc, ho, hA⟩ := hP
  obtain ⟨h1, h2, h3, h4, h5, h6, h7, h8, h9⟩ := id hc
  have hm := ho.2.1.1
  have i1 : (¬ v.toInt64 < (-31 : Int64) ∧ ¬ (31 : Int64) < v.toInt64) ↔ (¬ v < -31 ∧ v ≤ 31) := and_congr (loL (by decide)) (inL (by decide))
  refine J.of tk_X10_level 200 fun ρ hρ => ?_
  simp only [hρ, x_c, x_il, x_ll, x_al, x_is, x_as, x_ls, x_inc, x_ii, x_iq, x_i1, x_l2, x_lq, x_lh, x_i2l, x_l2i, x_lcmp, x_dup, x_dup2, x_pop, x_if, x_ifn, x_ic, x_icn, x_go, x_sw, swc, x_l01, x_mx, x_gI, x_gL, x_gR, x_pI, x_pZ, x_pL, x_pR, x_ia, x_za, x_aa, x_ias, x_zas, x_aas, x_fac, x_fa, x_slen, x_sa, x_ac, x_oi, x_new, x_na, x_cS, x_cV, x_cI, x_rI, x_rZ, x_rL, x_r0, pa, short, oc, lg, lset, lset2, wide, cond_true, cond_false, true_and, and_true, ↓reduceIte, Bool.false_eq_true, true_or, or_true, lf_X10_level, h1.f, P_X10_isBit, P_X10_in, P_X10_note, i1]
  refine ⟨aN (gA g), by omega, h3.1, ?_⟩
  simp only [bI_0, Classical.not_not]
  refine ⟨fun hb => ⟨fun h => ⟨g, hc, ho, fun I' hl hc' => ?_⟩, fun h => (hA.e (show gLevel g b v = (-2, g) by rw [gLevel, if_neg (fun q => q hb), if_pos (Classical.byContradiction fun q => h ⟨fun r => q (.inl r), Classical.byContradiction fun r => q (.inr r)⟩)])).s hc⟩, fun hb => (hA.e (by rw [gLevel, if_pos hb])).s hc⟩
  obtain ⟨j, hj, rfl⟩ := hB.i (g := g) hb ho
  have hA' := hA.e (show gLevel g (nI j) v = (aL (gA g) j + 100, GA (remG g) (lvA (gA g) j v)) by rw [gLevel, if_neg (fun q => q hb), if_neg (fun q => q.elim h.1 (fun r => r h.2)), tn_nI (n := j) (by omega)])
  have e : I' 110 j = aL (gA g) j := hc'.2.2.2.1.l (by omega)
  rw [Int32.zero_add, ncl (show j < 2 ^ 31 by omega), e]
  exact ⟨vp_in_nI (by omega) (by omega), vp_in_nI (by omega) (by omega), hA' _ L (fun q hq => by rw [mS_n (by omega)]; exact hl q hq) (fun _ _ => rfl) (hc'.now (hc'.2.2.2.1.lv (by omega) ho.2.1.1.2.2) ⟨rfl, rfl⟩)⟩
def il_X10_put : List (Nat × Instr × Nat) := [(0, .aload_n 0, 1), (1, .iload_n 1, 1), (2, .invokevirtual 174, 3), (5, .ifCond .eq 11, 3), (8, .aload_n 0, 1), (9, .iload_n 2, 1), (10, .invokevirtual 168, 3), (13, .ifCond .ne 5, 3), (16, .iconst (-1), 1), (17, .ireturn, 1), (18, .aload_n 0, 1), (19, .invokevirtual 184, 3), (22, .aload_n 0, 1), (23, .getfield 13, 3), (26, .iload_n 1, 1), (27, .iload_n 2, 1), (28, .invokestatic 189, 3), (31, .aload_n 0, 1), (32, .getfield 13, 3), (35, .bipush 18, 2), (37, .iload_n 1, 1), (38, .iadd, 1), (39, .iaload, 1), (40, .iload_n 2, 1), (41, .invokestatic 102, 3), (44, .ifCond .eq 7, 3), (47, .iconst 1, 1), (48, .goto 4, 3), (51, .iconst 0, 1), (52, .ireturn, 1)]
def mt_X10_put : Mt := (cX10_put, RX10, 3, (some .int), ({ frames := 2, cells := 0, slots := 0, locals := 46 } : Room), false, none, none)
set_option maxRecDepth 100000 in
theorem dl_X10_put : ∀ q ∈ il_X10_put, decode (mt_X10_put).1 q.1 = .ok q.2 := by decide +kernel
def tb_X10_put : Tb := [(0, x_al 1 0, false),
  (1, x_il 2 1, false),
  (2, x_cV 10 1 P_X10_isCheck 5, false),
  (5, x_if 16 8 (fun x : Int32 => x = 0), false),
  (8, x_al 9 0, false),
  (9, x_il 10 2, false),
  (10, x_cV 10 1 P_X10_isBit 13, false),
  (13, x_ifn 18 16 (fun x : Int32 => x = 0), false),
  (16, x_c 17 (.int (-1)), false),
  (17, x_rI, false),
  (18, x_al 19 0, false),
  (19, x_cV 10 0 P_X10_note 22, false),
  (22, x_al 23 0, false),
  (23, x_gR 10 4 26, false),
  (26, x_il 27 1, false),
  (27, x_il 28 2, false),
  (28, x_cS 3 P_X10_putOn 31, false),
  (31, x_al 32 0, false),
  (32, x_gR 10 4 35, false),
  (35, x_c 37 (.int 18), false),
  (37, x_il 38 1, false),
  (38, x_ii 39 (fun x y : Int32 => x + y), false),
  (39, x_ia 40, false),
  (40, x_il 41 2, false),
  (41, x_cS 2 P_X10_has 44, false),
  (44, x_if 51 47 (fun x : Int32 => x = 0), false),
  (47, x_c 48 (.int 1), false),
  (48, x_go 52, false),
  (51, x_c 52 (.int 0), false),
  (52, x_rI, false)]
set_option maxRecDepth 100000 in
theorem tk_X10_put : TbOk (mt_X10_put) (tb_X10_put) :=
  tkc (s_aload_n (at_ dl_X10_put 0 (ins := .aload_n 0) rfl)) (
  tkc (s_iload_n (at_ dl_X10_put 1 (ins := .iload_n 1) rfl)) (
  tkc (s_cV ok_X10_isCheck (at_ dl_X10_put 2 (ins := .invokevirtual 174) rfl) (by decide) rfl (tg 892 (by decide +kernel) (by decide +kernel)) (tg 894 (by decide +kernel) (by decide +kernel)) (tg 36 (by decide +kernel) (by decide +kernel)) (tg 51 (by decide +kernel) (by decide +kernel)) (tg 895 (by decide +kernel) (by decide +kernel)) (⟨by decide, by decide, by decide +kernel⟩) (⟨by decide, by decide⟩) rfl rfl) (
  tkc (s_if_eq (at_ dl_X10_put 3 (ins := .ifCond .eq 11) rfl) (by decide)) (
  tkc (s_aload_n (at_ dl_X10_put 4 (ins := .aload_n 0) rfl)) (
  tkc (s_iload_n (at_ dl_X10_put 5 (ins := .iload_n 2) rfl)) (
  tkc (s_cV ok_X10_isBit (at_ dl_X10_put 6 (ins := .invokevirtual 168) rfl) (by decide) rfl (tg 880 (by decide +kernel) (by decide +kernel)) (tg 882 (by decide +kernel) (by decide +kernel)) (tg 34 (by decide +kernel) (by decide +kernel)) (tg 51 (by decide +kernel) (by decide +kernel)) (tg 883 (by decide +kernel) (by decide +kernel)) (⟨by decide, by decide, by decide +kernel⟩) (⟨by decide, by decide⟩) rfl rfl) (
  tkc (s_if_ne (at_ dl_X10_put 7 (ins := .ifCond .ne 5) rfl) (by decide)) (
  tkc (s_iconst (at_ dl_X10_put 8 (ins := .iconst (-1)) rfl) (by first | rfl | decide)) (
  tkc (s_rI (at_ dl_X10_put 9 (ins := .ireturn) rfl) rfl) (
  tkc (s_aload_n (at_ dl_X10_put 10 (ins := .aload_n 0) rfl)) (
  tkc (s_cV ok_X10_note (at_ dl_X10_put 11 (ins := .invokevirtual 184) rfl) (by decide) rfl (tg 906 (by decide +kernel) (by decide +kernel)) (tg 908 (by decide +kernel) (by decide +kernel)) (tg 37 (by decide +kernel) (by decide +kernel)) (tg 51 (by decide +kernel) (by decide +kernel)) (tg 909 (by decide +kernel) (by decide +kernel)) (⟨by decide, by decide, by decide +kernel⟩) (⟨by decide, by decide⟩) rfl rfl) (
  tkc (s_aload_n (at_ dl_X10_put 12 (ins := .aload_n 0) rfl)) (
  tkc (s_gR (at_ dl_X10_put 13 (ins := .getfield 13) rfl) (by decide) (by decide) (by decide) (tg 700 (by decide +kernel) (by decide +kernel))) (
  tkc (s_iload_n (at_ dl_X10_put 14 (ins := .iload_n 1) rfl)) (
  tkc (s_iload_n (at_ dl_X10_put 15 (ins := .iload_n 2) rfl)) (
  tkc (s_cS ok_X10_putOn (at_ dl_X10_put 16 (ins := .invokestatic 189) rfl) (tg 923 (by decide +kernel) (by decide +kernel)) (tg 924 (by decide +kernel) (by decide +kernel)) (tg 51 (by decide +kernel) (by decide +kernel)) (tg 925 (by decide +kernel) (by decide +kernel)) (⟨by decide, by decide, by decide +kernel⟩) (⟨by decide, by decide⟩) rfl rfl) (
  tkc (s_aload_n (at_ dl_X10_put 17 (ins := .aload_n 0) rfl)) (
  tkc (s_gR (at_ dl_X10_put 18 (ins := .getfield 13) rfl) (by decide) (by decide) (by decide) (tg 700 (by decide +kernel) (by decide +kernel))) (
  tkc (s_bipush (at_ dl_X10_put 19 (ins := .bipush 18) rfl) (by first | rfl | decide)) (
  tkc (s_iload_n (at_ dl_X10_put 20 (ins := .iload_n 1) rfl)) (
  tkc (s_iadd (at_ dl_X10_put 21 (ins := .iadd) rfl)) (
  tkc (s_ia (at_ dl_X10_put 22 (ins := .iaload) rfl)) (
  tkc (s_iload_n (at_ dl_X10_put 23 (ins := .iload_n 2) rfl)) (
  tkc (s_cS ok_X10_has (at_ dl_X10_put 24 (ins := .invokestatic 102) rfl) (tg 828 (by decide +kernel) (by decide +kernel)) (tg 829 (by decide +kernel) (by decide +kernel)) (tg 51 (by decide +kernel) (by decide +kernel)) (tg 830 (by decide +kernel) (by decide +kernel)) (⟨by decide, by decide, by decide +kernel⟩) (⟨by decide, by decide⟩) rfl rfl) (
  tkc (s_if_eq (at_ dl_X10_put 25 (ins := .ifCond .eq 7) rfl) (by decide)) (
  tkc (s_iconst (at_ dl_X10_put 26 (ins := .iconst 1) rfl) (by first | rfl | decide)) (
  tkc (s_goto (at_ dl_X10_put 27 (ins := .goto 4) rfl) (by decide)) (
  tkc (s_iconst (at_ dl_X10_put 28 (ins := .iconst 0) rfl) (by first | rfl | decide)) (
  tkc (s_rI (at_ dl_X10_put 29 (ins := .ireturn) rfl) rfl) ( tk0))))))))))))))))))))))))))))))
theorem lf_X10_put : lk (tb_X10_put) 0 = (x_al 1 0, false) ∧ lk (tb_X10_put) 1 = (x_il 2 1, false) ∧ lk (tb_X10_put) 2 = (x_cV 10 1 P_X10_isCheck 5, false) ∧ lk (tb_X10_put) 5 = (x_if 16 8 (fun x : Int32 => x = 0), false) ∧ lk (tb_X10_put) 8 = (x_al 9 0, false) ∧ lk (tb_X10_put) 9 = (x_il 10 2, false) ∧ lk (tb_X10_put) 10 = (x_cV 10 1 P_X10_isBit 13, false) ∧ lk (tb_X10_put) 13 = (x_ifn 18 16 (fun x : Int32 => x = 0), false) ∧ lk (tb_X10_put) 16 = (x_c 17 (.int (-1)), false) ∧ lk (tb_X10_put) 17 = (x_rI, false) ∧ lk (tb_X10_put) 18 = (x_al 19 0, false) ∧ lk (tb_X10_put) 19 = (x_cV 10 0 P_X10_note 22, false) ∧ lk (tb_X10_put) 22 = (x_al 23 0, false) ∧ lk (tb_X10_put) 23 = (x_gR 10 4 26, false) ∧ lk (tb_X10_put) 26 = (x_il 27 1, false) ∧ lk (tb_X10_put) 27 = (x_il 28 2, false) ∧ lk (tb_X10_put) 28 = (x_cS 3 P_X10_putOn 31, false) ∧ lk (tb_X10_put) 31 = (x_al 32 0, false) ∧ lk (tb_X10_put) 32 = (x_gR 10 4 35, false) ∧ lk (tb_X10_put) 35 = (x_c 37 (.int 18), false) ∧ lk (tb_X10_put) 37 = (x_il 38 1, false) ∧ lk (tb_X10_put) 38 = (x_ii 39 (fun x y : Int32 => x + y), false) ∧ lk (tb_X10_put) 39 = (x_ia 40, false) ∧ lk (tb_X10_put) 40 = (x_il 41 2, false) ∧ lk (tb_X10_put) 41 = (x_cS 2 P_X10_has 44, false) ∧ lk (tb_X10_put) 44 = (x_if 51 47 (fun x : Int32 => x = 0), false) ∧ lk (tb_X10_put) 47 = (x_c 48 (.int 1), false) ∧ lk (tb_X10_put) 48 = (x_go 52, false) ∧ lk (tb_X10_put) 51 = (x_c 52 (.int 0), false) ∧ lk (tb_X10_put) 52 = (x_rI, false) := ⟨rfl, rfl, rfl, rfl, rfl, rfl, rfl, rfl, rfl, rfl, rfl, rfl, rfl, rfl, rfl, rfl, rfl, rfl, rfl, rfl, rfl, rfl, rfl, rfl, rfl, rfl, rfl, rfl, rfl, rfl⟩
def P_X10_put : PTT := fun as M R => match as with
  | [.ref k, .int c, .int b] => k = 108 ∧ ∃ g, MR M.1 M.2.1 M.2.2 g ∧ GOk g ∧ Anm M R (gPut g c b).1 (gPut g c b).2
  | _ => False
set_option maxRecDepth 20000 in
theorem ok_X10_put : Ok yX10_put mt_X10_put P_X10_put := by
  refine Ok.of (by decide) rfl rfl rfl rfl fun av ⟨S, I, L⟩ R hP => ?_
  unfold P_X10_put at hP
  split at hP
  case h_2 => exact hP.elim
  rename_i k c b
  obtain ⟨k, rfl⟩ : ∃ q : Nat, q = k := ⟨k, rfl⟩
  refine ⟨by simp [ent, wide, mt_X10_put], ?_⟩
  show J mt_X10_put R 0 [some (.ref k), some (.int c), some (.int b)] [] (S, I, L)
  try dsimp only at hP
  obtain ⟨rfl, g, hc, ho, hA⟩ := hP
  obtain ⟨h1, h2, h3, h4, h5, h6, h7, h8, h9⟩ := id hc
  have hm := ho.2.1.1
  refine J.of tk_X10_put 200 fun ρ hρ => ?_
  simp only [hρ, x_c, x_il, x_ll, x_al, x_is, x_as, x_ls, x_inc, x_ii, x_iq, x_i1, x_l2, x_lq, x_lh, x_i2l, x_l2i, x_lcmp, x_dup, x_dup2, x_pop, x_if, x_ifn, x_ic, x_icn, x_go, x_sw, swc, x_l01, x_mx, x_gI, x_gL, x_gR, x_pI, x_pZ, x_pL, x_pR, x_ia, x_za, x_aa, x_ias, x_zas, x_aas, x_fac, x_fa, x_slen, x_sa, x_ac, x_oi, x_new, x_na, x_cS, x_cV, x_cI, x_rI, x_rZ, x_rL, x_r0, pa, short, oc, lg, lset, lset2, wide, cond_true, cond_false, true_and, and_true, ↓reduceIte, Bool.false_eq_true, true_or, or_true, lf_X10_put, h1.f, P_X10_isBit, P_X10_isCheck, P_X10_note, P_X10_putOn, P_X10_has]
  refine ⟨aM (gA g), by omega, h3.2, ?_⟩
  simp only [bI_0, Classical.not_not]
  refine ⟨fun h => (hA.e (by rw [gPut, if_pos (fun q => h q.1)])).s hc, fun h => ⟨aN (gA g), by omega, h3.1, fun h' => ⟨g, hc, ho, fun I' hl hc' => ?_⟩, fun h' => (hA.e (by rw [gPut, if_pos (fun q => h' q.2)])).s hc⟩⟩
  have hA' := hA.e (show gPut g c b = (bB ((aV (putA (gA g) (tn c) (tn b)) (tn c)).testBit (tn b)), GA (remG g) (putA (gA g) (tn c) (tn b))) by rw [gPut, if_neg (fun q => q ⟨h, h'⟩)])
  obtain ⟨i, hi, rfl⟩ := hC.i (g := g) h ho
  obtain ⟨j, hj, rfl⟩ := hB.i (g := g) h' ho
  rw [tn_nI (n := i) (by omega), tn_nI (n := j) (by omega)] at hA'
  have hok := putA_ok (a := gA g) ho.2.1 hi hj
  have hr : RW (ptF (I' 110) i j) 0 (putA (gA g) i j) := hc'.2.2.2.1.pt ho.2.1 hi hj
  have hv := hok.v (c := i) hi
  have hn := hc'.now hr ⟨rfl, rfl⟩
  refine ⟨i, j, by omega, by omega, rfl, rfl, ?_⟩
  have e1 : (18 : Int32) + nI i = nI (18 + i) := by rw [show (18 : Int32) = nI 18 by decide, nI_add]
  rw [mS_s, e1, ncl (show 18 + i < 2 ^ 31 by omega), hr.v hi]
  have hfin : ∀ v, bB ((aV (putA (gA g) i j) i).testBit j) = v → R (some (.int v)) (S, mS I' 110 (ptF (I' 110) i j), L) := fun v hv => by
    rw [hv] at hA'
    exact hA' _ L (fun q hq => by rw [mS_n (by omega)]; exact hl q hq) (fun _ _ => rfl) hn
  refine ⟨vp_in_nI (by omega) (by omega), _, _, rfl, by omega, rfl, by omega, ?_⟩
  simp only [bB_0, Classical.not_not]
  exact ⟨fun q => hfin 0 (bB_f q), fun q => hfin 1 (bB_t q)⟩
theorem MR.nowK {S : Sh} {I I' : MI} {L : Nat → Nat → Int64} {g : GS} {a : AS} (h : MR S I L g) (hf : frK 110 I I') (hr : RW (I' 110) 0 a) (hz : sz a (gA g)) : MR S I' L (GA g a) := by
  obtain ⟨h1, h2, h3, h4, h5, h6, h7, h8, h9⟩ := h
  have e108 := hf 108 (by omega) (by omega)
  have e109 := hf 109 (by omega) (by omega)
  have e112 := hf 112 (by omega) (by omega)
  have e113 := hf 113 (by omega) (by omega)
  have e114 := hf 114 (by omega) (by omega)
  have e115 := hf 115 (by omega) (by omega)
  have e116 := hf 116 (by omega) (by omega)
  have e117 := hf 117 (by omega) (by omega)
  refine ⟨h1, ?_, ?_, hr, ?_, ?_, ?_, h8, ?_⟩
  · show NT I' g; unfold NT; rw [e108, e109]; exact h2
  · show I' 108 2 = nI (aN a) ∧ I' 108 3 = nI (aM a); rw [e108, hz.1, hz.2]; exact h3
  · show NA I' g; unfold NA; rw [e108, e112]; exact h5
  · show NK I' g; unfold NK; rw [e113, e114]; exact h6
  · show NE I' g; unfold NE; rw [e108, e115, e116]; exact h7
  · unfold OrdN; rw [e117]; exact h9
def il_X10_round : List (Nat × Instr × Nat) := [(0, .iload_n 1, 1), (1, .i2l, 1), (2, .lconst 1, 1), (3, .ldc2_w 187, 3), (6, .invokestatic 60, 3), (9, .ifCond .ne 6, 3), (12, .bipush (-2), 2), (14, .ireturn, 1), (15, .aload_n 0, 1), (16, .invokevirtual 184, 3), (19, .iconst 0, 1), (20, .istore_n 2, 1), (21, .iload_n 2, 1), (22, .iload_n 1, 1), (23, .if_icmp .ge 17, 3), (26, .aload_n 0, 1), (27, .aload_n 0, 1), (28, .getfield 13, 3), (31, .invokevirtual 133, 3), (34, .iinc 2 1, 3), (37, .goto (-16), 3), (40, .aload_n 0, 1), (41, .aload_n 0, 1), (42, .getfield 13, 3), (45, .invokevirtual 130, 3), (48, .invokestatic 114, 3), (51, .ireturn, 1)]
def mt_X10_round : Mt := (cX10_round, RX10, 3, (some .int), ({ frames := 3, cells := 0, slots := 0, locals := 72 } : Room), false, none, none)
set_option maxRecDepth 100000 in
theorem dl_X10_round : ∀ q ∈ il_X10_round, decode (mt_X10_round).1 q.1 = .ok q.2 := by decide +kernel
def tb_X10_round : Tb := [(0, x_il 1 1, false),
  (1, x_i2l 2, false),
  (2, x_c 3 (.long 1), false),
  (3, x_c 6 (.long 99), false),
  (6, x_cS 3 P_X10_in 9, false),
  (9, x_ifn 15 12 (fun x : Int32 => x = 0), false),
  (12, x_c 14 (.int (-2)), false),
  (14, x_rI, false),
  (15, x_al 16 0, false),
  (16, x_cV 10 0 P_X10_note 19, false),
  (19, x_c 20 (.int 0), false),
  (20, x_is 21 2, false),
  (21, x_il 22 2, true),
  (22, x_il 23 1, false),
  (23, x_ic 40 26 (fun x y : Int32 => y ≤ x), false),
  (26, x_al 27 0, false),
  (27, x_al 28 0, false),
  (28, x_gR 10 4 31, false),
  (31, x_cV 10 1 P_X10_goOn 34, false),
  (34, x_inc 37 2 1, false),
  (37, x_go 21, false),
  (40, x_al 41 0, false),
  (41, x_al 42 0, false),
  (42, x_gR 10 4 45, false),
  (45, x_cV 10 1 P_X10_openOf 48, false),
  (48, x_cS 1 P_X10_ones 51, false),
  (51, x_rI, false)]
set_option maxRecDepth 100000 in
theorem tk_X10_round : TbOk (mt_X10_round) (tb_X10_round) :=
  tkc (s_iload_n (at_ dl_X10_round 0 (ins := .iload_n 1) rfl)) (
  tkc (s_i2l (at_ dl_X10_round 1 (ins := .i2l) rfl)) (
  tkc (s_lconst (at_ dl_X10_round 2 (ins := .lconst 1) rfl) (by first | rfl | decide)) (
  tkc (s_ldc2 (at_ dl_X10_round 3 (ins := .ldc2_w 187) rfl) (tg 918 (by decide +kernel) (by decide +kernel))) (
  tkc (s_cS ok_X10_in (at_ dl_X10_round 4 (ins := .invokestatic 60) rfl) (tg 780 (by decide +kernel) (by decide +kernel)) (tg 781 (by decide +kernel) (by decide +kernel)) (tg 51 (by decide +kernel) (by decide +kernel)) (tg 782 (by decide +kernel) (by decide +kernel)) (⟨by decide, by decide, by decide +kernel⟩) (⟨by decide, by decide⟩) rfl rfl) (
  tkc (s_if_ne (at_ dl_X10_round 5 (ins := .ifCond .ne 6) rfl) (by decide)) (
  tkc (s_bipush (at_ dl_X10_round 6 (ins := .bipush (-2)) rfl) (by first | rfl | decide)) (
  tkc (s_rI (at_ dl_X10_round 7 (ins := .ireturn) rfl) rfl) (
  tkc (s_aload_n (at_ dl_X10_round 8 (ins := .aload_n 0) rfl)) (
  tkc (s_cV ok_X10_note (at_ dl_X10_round 9 (ins := .invokevirtual 184) rfl) (by decide) rfl (tg 906 (by decide +kernel) (by decide +kernel)) (tg 908 (by decide +kernel) (by decide +kernel)) (tg 37 (by decide +kernel) (by decide +kernel)) (tg 51 (by decide +kernel) (by decide +kernel)) (tg 909 (by decide +kernel) (by decide +kernel)) (⟨by decide, by decide, by decide +kernel⟩) (⟨by decide, by decide⟩) rfl rfl) (
  tkc (s_iconst (at_ dl_X10_round 10 (ins := .iconst 0) rfl) (by first | rfl | decide)) (
  tkc (s_istore_n (at_ dl_X10_round 11 (ins := .istore_n 2) rfl) (by decide)) (
  tkc (s_iload_n (at_ dl_X10_round 12 (ins := .iload_n 2) rfl)) (
  tkc (s_iload_n (at_ dl_X10_round 13 (ins := .iload_n 1) rfl)) (
  tkc (s_ic_ge (at_ dl_X10_round 14 (ins := .if_icmp .ge 17) rfl) (by decide)) (
  tkc (s_aload_n (at_ dl_X10_round 15 (ins := .aload_n 0) rfl)) (
  tkc (s_aload_n (at_ dl_X10_round 16 (ins := .aload_n 0) rfl)) (
  tkc (s_gR (at_ dl_X10_round 17 (ins := .getfield 13) rfl) (by decide) (by decide) (by decide) (tg 700 (by decide +kernel) (by decide +kernel))) (
  tkc (s_cV ok_X10_goOn (at_ dl_X10_round 18 (ins := .invokevirtual 133) rfl) (by decide) rfl (tg 857 (by decide +kernel) (by decide +kernel)) (tg 859 (by decide +kernel) (by decide +kernel)) (tg 30 (by decide +kernel) (by decide +kernel)) (tg 51 (by decide +kernel) (by decide +kernel)) (tg 860 (by decide +kernel) (by decide +kernel)) (⟨by decide, by decide, by decide +kernel⟩) (⟨by decide, by decide⟩) rfl rfl) (
  tkc (s_iinc (at_ dl_X10_round 19 (ins := .iinc 2 1) rfl) (by decide) (by first | rfl | decide)) (
  tkc (s_goto (at_ dl_X10_round 20 (ins := .goto (-16)) rfl) (by decide)) (
  tkc (s_aload_n (at_ dl_X10_round 21 (ins := .aload_n 0) rfl)) (
  tkc (s_aload_n (at_ dl_X10_round 22 (ins := .aload_n 0) rfl)) (
  tkc (s_gR (at_ dl_X10_round 23 (ins := .getfield 13) rfl) (by decide) (by decide) (by decide) (tg 700 (by decide +kernel) (by decide +kernel))) (
  tkc (s_cV ok_X10_openOf (at_ dl_X10_round 24 (ins := .invokevirtual 130) rfl) (by decide) rfl (tg 813 (by decide +kernel) (by decide +kernel)) (tg 815 (by decide +kernel) (by decide +kernel)) (tg 22 (by decide +kernel) (by decide +kernel)) (tg 51 (by decide +kernel) (by decide +kernel)) (tg 816 (by decide +kernel) (by decide +kernel)) (⟨by decide, by decide, by decide +kernel⟩) (⟨by decide, by decide⟩) rfl rfl) (
  tkc (s_cS ok_X10_ones (at_ dl_X10_round 25 (ins := .invokestatic 114) rfl) (tg 821 (by decide +kernel) (by decide +kernel)) (tg 822 (by decide +kernel) (by decide +kernel)) (tg 51 (by decide +kernel) (by decide +kernel)) (tg 823 (by decide +kernel) (by decide +kernel)) (⟨by decide, by decide, by decide +kernel⟩) (⟨by decide, by decide⟩) rfl rfl) (
  tkc (s_rI (at_ dl_X10_round 26 (ins := .ireturn) rfl) rfl) ( tk0)))))))))))))))))))))))))))
theorem lf_X10_round : lk (tb_X10_round) 0 = (x_il 1 1, false) ∧ lk (tb_X10_round) 1 = (x_i2l 2, false) ∧ lk (tb_X10_round) 2 = (x_c 3 (.long 1), false) ∧ lk (tb_X10_round) 3 = (x_c 6 (.long 99), false) ∧ lk (tb_X10_round) 6 = (x_cS 3 P_X10_in 9, false) ∧ lk (tb_X10_round) 9 = (x_ifn 15 12 (fun x : Int32 => x = 0), false) ∧ lk (tb_X10_round) 12 = (x_c 14 (.int (-2)), false) ∧ lk (tb_X10_round) 14 = (x_rI, false) ∧ lk (tb_X10_round) 15 = (x_al 16 0, false) ∧ lk (tb_X10_round) 16 = (x_cV 10 0 P_X10_note 19, false) ∧ lk (tb_X10_round) 19 = (x_c 20 (.int 0), false) ∧ lk (tb_X10_round) 20 = (x_is 21 2, false) ∧ lk (tb_X10_round) 21 = (x_il 22 2, true) ∧ lk (tb_X10_round) 22 = (x_il 23 1, false) ∧ lk (tb_X10_round) 23 = (x_ic 40 26 (fun x y : Int32 => y ≤ x), false) ∧ lk (tb_X10_round) 26 = (x_al 27 0, false) ∧ lk (tb_X10_round) 27 = (x_al 28 0, false) ∧ lk (tb_X10_round) 28 = (x_gR 10 4 31, false) ∧ lk (tb_X10_round) 31 = (x_cV 10 1 P_X10_goOn 34, false) ∧ lk (tb_X10_round) 34 = (x_inc 37 2 1, false) ∧ lk (tb_X10_round) 37 = (x_go 21, false) ∧ lk (tb_X10_round) 40 = (x_al 41 0, false) ∧ lk (tb_X10_round) 41 = (x_al 42 0, false) ∧ lk (tb_X10_round) 42 = (x_gR 10 4 45, false) ∧ lk (tb_X10_round) 45 = (x_cV 10 1 P_X10_openOf 48, false) ∧ lk (tb_X10_round) 48 = (x_cS 1 P_X10_ones 51, false) ∧ lk (tb_X10_round) 51 = (x_rI, false) := ⟨rfl, rfl, rfl, rfl, rfl, rfl, rfl, rfl, rfl, rfl, rfl, rfl, rfl, rfl, rfl, rfl, rfl, rfl, rfl, rfl, rfl, rfl, rfl, rfl, rfl, rfl, rfl⟩
def P_X10_round : PTT := fun as M R => match as with
  | [.ref k, .int x] => k = 108 ∧ ∃ g, MR M.1 M.2.1 M.2.2 g ∧ GOk g ∧ Anm M R (gRound g x).1 (gRound g x).2
  | _ => False
set_option maxRecDepth 20000 in
theorem ok_X10_round : Ok yX10_round mt_X10_round P_X10_round := by
  refine Ok.of (by decide) rfl rfl rfl rfl fun av ⟨S, I, L⟩ R hP => ?_
  unfold P_X10_round at hP
  split at hP
  case h_2 => exact hP.elim
  rename_i k x
  obtain ⟨k, rfl⟩ : ∃ q : Nat, q = k := ⟨k, rfl⟩
  refine ⟨by simp [ent, wide, mt_X10_round], ?_⟩
  show J mt_X10_round R 0 [some (.ref k), some (.int x), none] [] (S, I, L)
  try dsimp only at hP
  obtain ⟨rfl, g, hc, ho, hA⟩ := hP
  have h1 := hc.1
  have hm := ho.2.1.1
  have i1 : (¬ x.toInt64 < (1 : Int64) ∧ ¬ (99 : Int64) < x.toInt64) ↔ (¬ x < 1 ∧ x ≤ 99) := and_congr (loL (by decide)) (inL (by decide))
  refine J.of tk_X10_round 200 fun ρ hρ => ?_
  simp only [hρ, x_c, x_il, x_ll, x_al, x_is, x_as, x_ls, x_inc, x_ii, x_iq, x_i1, x_l2, x_lq, x_lh, x_i2l, x_l2i, x_lcmp, x_dup, x_dup2, x_pop, x_if, x_ifn, x_ic, x_icn, x_go, x_sw, swc, x_l01, x_mx, x_gI, x_gL, x_gR, x_pI, x_pZ, x_pL, x_pR, x_ia, x_za, x_aa, x_ias, x_zas, x_aas, x_fac, x_fa, x_slen, x_sa, x_ac, x_oi, x_new, x_na, x_cS, x_cV, x_cI, x_rI, x_rZ, x_rL, x_r0, pa, short, oc, lg, lset, lset2, wide, cond_true, cond_false, true_and, and_true, ↓reduceIte, Bool.false_eq_true, true_or, or_true, lf_X10_round, h1.f, P_X10_in, P_X10_note, i1, bI_0, Classical.not_not]
  refine ⟨fun h => ⟨g, hc, ho, fun I' hl hc' => ?_⟩, fun h => (hA.e (by rw [gRound, if_pos (Classical.byContradiction fun q => h ⟨fun r => q (.inl r), Classical.byContradiction fun r => q (.inr r)⟩)])).s hc⟩
  have hA' := hA.e (show gRound g x = (nI (ones9 (opA (itA (tn x) (gA g)))), GA (remG g) (itA (tn x) (gA g))) by rw [gRound, if_neg (fun q => q.elim h.1 (fun r => r h.2))])
  obtain ⟨r, hr1, hr, rfl⟩ := le99 h.1 h.2
  rw [tn_nI (n := r) (by omega)] at hA'
  refine up (P := fun i => ∀ I2, frK 110 I' I2 → RW (I2 110) 0 (itA i (gA g)) → J mt_X10_round R 21 [some (.ref 108), some (.int (nI r)), some (.int (nI i))] [] (S, I2, L)) (n := r) (fun i hi ih I2 hf hr2 => ?_) 0 (Nat.zero_le _) I' (fun _ _ _ => rfl) (by rw [itA_0]; exact hc'.2.2.2.1)
  have hc2 : MR S I2 L (GA (remG g) (itA i (gA g))) := hc'.nowK hf hr2 ⟨rfl, rfl⟩
  have hok2 : AOk (itA i (gA g)) := itA_ok ho.2.1
  by_cases hlt : i < r
  · refine J.of tk_X10_round 200 fun ρ hρ => ?_
    simp only [hρ, x_c, x_il, x_ll, x_al, x_is, x_as, x_ls, x_inc, x_ii, x_iq, x_i1, x_l2, x_lq, x_lh, x_i2l, x_l2i, x_lcmp, x_dup, x_dup2, x_pop, x_if, x_ifn, x_ic, x_icn, x_go, x_sw, swc, x_l01, x_mx, x_gI, x_gL, x_gR, x_pI, x_pZ, x_pL, x_pR, x_ia, x_za, x_aa, x_ias, x_zas, x_aas, x_fac, x_fa, x_slen, x_sa, x_ac, x_oi, x_new, x_na, x_cS, x_cV, x_cI, x_rI, x_rZ, x_rL, x_r0, pa, short, oc, lg, lset, lset2, wide, cond_true, cond_false, true_and, and_true, ↓reduceIte, Bool.false_eq_true, true_or, or_true, lf_X10_round, h1, h1.f, nI_leI (show r < 2 ^ 31 by omega) (show i < 2 ^ 31 by omega), P_X10_goOn, nI_1]
    refine ⟨fun h => absurd h (by omega), fun _ => ⟨Or.inl rfl, itA i (gA g), id, hr2, hok2, hc2.2.2.1.1, hc2.2.2.1.2, hc2.2.2.2.2.2.2.2.2.O hok2.1.2.2, fun I3 hf3 hr3 => ih hlt I3 (fun q q1 q2 => by rw [hf3 q q1 q2, hf q q1 q2]) (by rw [itA_s]; exact hr3)⟩⟩
  · have : i = r := by omega
    subst this
    have hl64 : opA (itA i (gA g)) < 64 := opB_lt ho.2.1.1.2.2
    refine J.of tk_X10_round 200 fun ρ hρ => ?_
    simp only [hρ, x_c, x_il, x_ll, x_al, x_is, x_as, x_ls, x_inc, x_ii, x_iq, x_i1, x_l2, x_lq, x_lh, x_i2l, x_l2i, x_lcmp, x_dup, x_dup2, x_pop, x_if, x_ifn, x_ic, x_icn, x_go, x_sw, swc, x_l01, x_mx, x_gI, x_gL, x_gR, x_pI, x_pZ, x_pL, x_pR, x_ia, x_za, x_aa, x_ias, x_zas, x_aas, x_fac, x_fa, x_slen, x_sa, x_ac, x_oi, x_new, x_na, x_cS, x_cV, x_cI, x_rI, x_rZ, x_rL, x_r0, pa, short, oc, lg, lset, lset2, wide, cond_true, cond_false, true_and, and_true, ↓reduceIte, Bool.false_eq_true, true_or, or_true, lf_X10_round, h1.f, nI_leI (show i < 2 ^ 31 by omega) (show i < 2 ^ 31 by omega), Nat.le_refl, true_implies, not_true_eq_false, false_implies, P_X10_openOf, P_X10_ones]
    refine ⟨itA i (gA g), MS.of h1 (Or.inl rfl) hr2 hok2 hc2.2.2.1.1 hc2.2.2.1.2, by rw [tn_nI (by omega)]; omega, ?_⟩
    rw [tn_nI (by omega)]
    exact hA' _ L (fun q hq => by rw [hf q (by omega) (by omega)]; exact hl q hq) (fun _ _ => rfl) hc2
