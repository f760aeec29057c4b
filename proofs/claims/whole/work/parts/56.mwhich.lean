/-! WHICH, TRAPS, DISTANCE of the model -/
def il_X10_isSoBy : List (Nat × Instr × Nat) := [(0, .aload_n 0, 1), (1, .getfield 13, 3), (4, .aload_n 0, 1), (5, .getfield 16, 3), (8, .invokestatic 136, 3), (11, .aload_n 0, 1), (12, .getfield 16, 3), (15, .iconst 0, 1), (16, .iload_n 1, 1), (17, .iadd, 1), (18, .aload_n 0, 1), (19, .getfield 16, 3), (22, .iconst 0, 1), (23, .iload_n 1, 1), (24, .iadd, 1), (25, .iaload, 1), (26, .ineg, 1), (27, .iastore, 1), (28, .aload_n 0, 1), (29, .getfield 16, 3), (32, .invokestatic 126, 3), (35, .iconst 0, 1), (36, .istore_n 3, 1), (37, .iload_n 3, 1), (38, .aload_n 0, 1), (39, .getfield 29, 3), (42, .iload_n 2, 1), (43, .iaload, 1), (44, .if_icmp .ge 17, 3), (47, .aload_n 0, 1), (48, .aload_n 0, 1), (49, .getfield 16, 3), (52, .invokevirtual 133, 3), (55, .iinc 3 1, 3), (58, .goto (-21), 3), (61, .aload_n 0, 1), (62, .aload_n 0, 1), (63, .getfield 16, 3), (66, .invokevirtual 130, 3), (69, .aload_n 0, 1), (70, .getfield 32, 3), (73, .iload_n 2, 1), (74, .iaload, 1), (75, .if_icmp .ne 7, 3), (78, .iconst 1, 1), (79, .goto 4, 3), (82, .iconst 0, 1), (83, .ireturn, 1)]
def mt_X10_isSoBy : Mt := (cX10_isSoBy, RX10, 4, (some .boolean), ({ frames := 3, cells := 0, slots := 0, locals := 72 } : Room), false, none, none)
set_option maxRecDepth 100000 in
theorem dl_X10_isSoBy : ∀ q ∈ il_X10_isSoBy, decode (mt_X10_isSoBy).1 q.1 = .ok q.2 := by decide +kernel
def tb_X10_isSoBy : Tb := [(0, x_al 1 0, false),
  (1, x_gR 10 4 4, false),
  (4, x_al 5 0, false),
  (5, x_gR 10 5 8, false),
  (8, x_cS 2 P_X10_copy 11, false),
  (11, x_al 12 0, false),
  (12, x_gR 10 5 15, false),
  (15, x_c 16 (.int 0), false),
  (16, x_il 17 1, false),
  (17, x_ii 18 (fun x y : Int32 => x + y), false),
  (18, x_al 19 0, false),
  (19, x_gR 10 5 22, false),
  (22, x_c 23 (.int 0), false),
  (23, x_il 24 1, false),
  (24, x_ii 25 (fun x y : Int32 => x + y), false),
  (25, x_ia 26, false),
  (26, x_i1 27 (fun x : Int32 => -x), false),
  (27, x_ias 28, false),
  (28, x_al 29 0, false),
  (29, x_gR 10 5 32, false),
  (32, x_cS 1 P_X10_beginOn 35, false),
  (35, x_c 36 (.int 0), false),
  (36, x_is 37 3, false),
  (37, x_il 38 3, true),
  (38, x_al 39 0, false),
  (39, x_gR 10 11 42, false),
  (42, x_il 43 2, false),
  (43, x_ia 44, false),
  (44, x_ic 61 47 (fun x y : Int32 => y ≤ x), false),
  (47, x_al 48 0, false),
  (48, x_al 49 0, false),
  (49, x_gR 10 5 52, false),
  (52, x_cV 10 1 P_X10_goOn 55, false),
  (55, x_inc 58 3 1, false),
  (58, x_go 37, false),
  (61, x_al 62 0, false),
  (62, x_al 63 0, false),
  (63, x_gR 10 5 66, false),
  (66, x_cV 10 1 P_X10_openOf 69, false),
  (69, x_al 70 0, false),
  (70, x_gR 10 12 73, false),
  (73, x_il 74 2, false),
  (74, x_ia 75, false),
  (75, x_icn 82 78 (fun x y : Int32 => x = y), false),
  (78, x_c 79 (.int 1), false),
  (79, x_go 83, false),
  (82, x_c 83 (.int 0), false),
  (83, x_rZ, false)]
set_option maxRecDepth 100000 in
theorem tk_X10_isSoBy : TbOk (mt_X10_isSoBy) (tb_X10_isSoBy) :=
  tkc (s_aload_n (at_ dl_X10_isSoBy 0 (ins := .aload_n 0) rfl)) (
  tkc (s_gR (at_ dl_X10_isSoBy 1 (ins := .getfield 13) rfl) (by decide) (by decide) (by decide) (tg 700 (by decide +kernel) (by decide +kernel))) (
  tkc (s_aload_n (at_ dl_X10_isSoBy 2 (ins := .aload_n 0) rfl)) (
  tkc (s_gR (at_ dl_X10_isSoBy 3 (ins := .getfield 16) rfl) (by decide) (by decide) (by decide) (tg 701 (by decide +kernel) (by decide +kernel))) (
  tkc (s_cS ok_X10_copy (at_ dl_X10_isSoBy 4 (ins := .invokestatic 136) rfl) (tg 847 (by decide +kernel) (by decide +kernel)) (tg 848 (by decide +kernel) (by decide +kernel)) (tg 51 (by decide +kernel) (by decide +kernel)) (tg 849 (by decide +kernel) (by decide +kernel)) (⟨by decide, by decide, by decide +kernel⟩) (⟨by decide, by decide⟩) rfl rfl) (
  tkc (s_aload_n (at_ dl_X10_isSoBy 5 (ins := .aload_n 0) rfl)) (
  tkc (s_gR (at_ dl_X10_isSoBy 6 (ins := .getfield 16) rfl) (by decide) (by decide) (by decide) (tg 701 (by decide +kernel) (by decide +kernel))) (
  tkc (s_iconst (at_ dl_X10_isSoBy 7 (ins := .iconst 0) rfl) (by first | rfl | decide)) (
  tkc (s_iload_n (at_ dl_X10_isSoBy 8 (ins := .iload_n 1) rfl)) (
  tkc (s_iadd (at_ dl_X10_isSoBy 9 (ins := .iadd) rfl)) (
  tkc (s_aload_n (at_ dl_X10_isSoBy 10 (ins := .aload_n 0) rfl)) (
  tkc (s_gR (at_ dl_X10_isSoBy 11 (ins := .getfield 16) rfl) (by decide) (by decide) (by decide) (tg 701 (by decide +kernel) (by decide +kernel))) (
  tkc (s_iconst (at_ dl_X10_isSoBy 12 (ins := .iconst 0) rfl) (by first | rfl | decide)) (
  tkc (s_iload_n (at_ dl_X10_isSoBy 13 (ins := .iload_n 1) rfl)) (
  tkc (s_iadd (at_ dl_X10_isSoBy 14 (ins := .iadd) rfl)) (
  tkc (s_ia (at_ dl_X10_isSoBy 15 (ins := .iaload) rfl)) (
  tkc (s_ineg (at_ dl_X10_isSoBy 16 (ins := .ineg) rfl)) (
  tkc (s_ias (at_ dl_X10_isSoBy 17 (ins := .iastore) rfl)) (
  tkc (s_aload_n (at_ dl_X10_isSoBy 18 (ins := .aload_n 0) rfl)) (
  tkc (s_gR (at_ dl_X10_isSoBy 19 (ins := .getfield 16) rfl) (by decide) (by decide) (by decide) (tg 701 (by decide +kernel) (by decide +kernel))) (
  tkc (s_cS ok_X10_beginOn (at_ dl_X10_isSoBy 20 (ins := .invokestatic 126) rfl) (tg 854 (by decide +kernel) (by decide +kernel)) (tg 855 (by decide +kernel) (by decide +kernel)) (tg 51 (by decide +kernel) (by decide +kernel)) (tg 856 (by decide +kernel) (by decide +kernel)) (⟨by decide, by decide, by decide +kernel⟩) (⟨by decide, by decide⟩) rfl rfl) (
  tkc (s_iconst (at_ dl_X10_isSoBy 21 (ins := .iconst 0) rfl) (by first | rfl | decide)) (
  tkc (s_istore_n (at_ dl_X10_isSoBy 22 (ins := .istore_n 3) rfl) (by decide)) (
  tkc (s_iload_n (at_ dl_X10_isSoBy 23 (ins := .iload_n 3) rfl)) (
  tkc (s_aload_n (at_ dl_X10_isSoBy 24 (ins := .aload_n 0) rfl)) (
  tkc (s_gR (at_ dl_X10_isSoBy 25 (ins := .getfield 29) rfl) (by decide) (by decide) (by decide) (tg 707 (by decide +kernel) (by decide +kernel))) (
  tkc (s_iload_n (at_ dl_X10_isSoBy 26 (ins := .iload_n 2) rfl)) (
  tkc (s_ia (at_ dl_X10_isSoBy 27 (ins := .iaload) rfl)) (
  tkc (s_ic_ge (at_ dl_X10_isSoBy 28 (ins := .if_icmp .ge 17) rfl) (by decide)) (
  tkc (s_aload_n (at_ dl_X10_isSoBy 29 (ins := .aload_n 0) rfl)) (
  tkc (s_aload_n (at_ dl_X10_isSoBy 30 (ins := .aload_n 0) rfl)) (
  tkc (s_gR (at_ dl_X10_isSoBy 31 (ins := .getfield 16) rfl) (by decide) (by decide) (by decide) (tg 701 (by decide +kernel) (by decide +kernel))) (
  tkc (s_cV ok_X10_goOn (at_ dl_X10_isSoBy 32 (ins := .invokevirtual 133) rfl) (by decide) rfl (tg 857 (by decide +kernel) (by decide +kernel)) (tg 859 (by decide +kernel) (by decide +kernel)) (tg 30 (by decide +kernel) (by decide +kernel)) (tg 51 (by decide +kernel) (by decide +kernel)) (tg 860 (by decide +kernel) (by decide +kernel)) (⟨by decide, by decide, by decide +kernel⟩) (⟨by decide, by decide⟩) rfl rfl) (
  tkc (s_iinc (at_ dl_X10_isSoBy 33 (ins := .iinc 3 1) rfl) (by decide) (by first | rfl | decide)) (
  tkc (s_goto (at_ dl_X10_isSoBy 34 (ins := .goto (-21)) rfl) (by decide)) (
  tkc (s_aload_n (at_ dl_X10_isSoBy 35 (ins := .aload_n 0) rfl)) (
  tkc (s_aload_n (at_ dl_X10_isSoBy 36 (ins := .aload_n 0) rfl)) (
  tkc (s_gR (at_ dl_X10_isSoBy 37 (ins := .getfield 16) rfl) (by decide) (by decide) (by decide) (tg 701 (by decide +kernel) (by decide +kernel))) (
  tkc (s_cV ok_X10_openOf (at_ dl_X10_isSoBy 38 (ins := .invokevirtual 130) rfl) (by decide) rfl (tg 813 (by decide +kernel) (by decide +kernel)) (tg 815 (by decide +kernel) (by decide +kernel)) (tg 22 (by decide +kernel) (by decide +kernel)) (tg 51 (by decide +kernel) (by decide +kernel)) (tg 816 (by decide +kernel) (by decide +kernel)) (⟨by decide, by decide, by decide +kernel⟩) (⟨by decide, by decide⟩) rfl rfl) (
  tkc (s_aload_n (at_ dl_X10_isSoBy 39 (ins := .aload_n 0) rfl)) (
  tkc (s_gR (at_ dl_X10_isSoBy 40 (ins := .getfield 32) rfl) (by decide) (by decide) (by decide) (tg 708 (by decide +kernel) (by decide +kernel))) (
  tkc (s_iload_n (at_ dl_X10_isSoBy 41 (ins := .iload_n 2) rfl)) (
  tkc (s_ia (at_ dl_X10_isSoBy 42 (ins := .iaload) rfl)) (
  tkc (s_ic_ne (at_ dl_X10_isSoBy 43 (ins := .if_icmp .ne 7) rfl) (by decide)) (
  tkc (s_iconst (at_ dl_X10_isSoBy 44 (ins := .iconst 1) rfl) (by first | rfl | decide)) (
  tkc (s_goto (at_ dl_X10_isSoBy 45 (ins := .goto 4) rfl) (by decide)) (
  tkc (s_iconst (at_ dl_X10_isSoBy 46 (ins := .iconst 0) rfl) (by first | rfl | decide)) (
  tkc (s_rZ (at_ dl_X10_isSoBy 47 (ins := .ireturn) rfl) rfl) ( tk0))))))))))))))))))))))))))))))))))))))))))))))))
theorem lf_X10_isSoBy : lk (tb_X10_isSoBy) 0 = (x_al 1 0, false) ∧ lk (tb_X10_isSoBy) 1 = (x_gR 10 4 4, false) ∧ lk (tb_X10_isSoBy) 4 = (x_al 5 0, false) ∧ lk (tb_X10_isSoBy) 5 = (x_gR 10 5 8, false) ∧ lk (tb_X10_isSoBy) 8 = (x_cS 2 P_X10_copy 11, false) ∧ lk (tb_X10_isSoBy) 11 = (x_al 12 0, false) ∧ lk (tb_X10_isSoBy) 12 = (x_gR 10 5 15, false) ∧ lk (tb_X10_isSoBy) 15 = (x_c 16 (.int 0), false) ∧ lk (tb_X10_isSoBy) 16 = (x_il 17 1, false) ∧ lk (tb_X10_isSoBy) 17 = (x_ii 18 (fun x y : Int32 => x + y), false) ∧ lk (tb_X10_isSoBy) 18 = (x_al 19 0, false) ∧ lk (tb_X10_isSoBy) 19 = (x_gR 10 5 22, false) ∧ lk (tb_X10_isSoBy) 22 = (x_c 23 (.int 0), false) ∧ lk (tb_X10_isSoBy) 23 = (x_il 24 1, false) ∧ lk (tb_X10_isSoBy) 24 = (x_ii 25 (fun x y : Int32 => x + y), false) ∧ lk (tb_X10_isSoBy) 25 = (x_ia 26, false) ∧ lk (tb_X10_isSoBy) 26 = (x_i1 27 (fun x : Int32 => -x), false) ∧ lk (tb_X10_isSoBy) 27 = (x_ias 28, false) ∧ lk (tb_X10_isSoBy) 28 = (x_al 29 0, false) ∧ lk (tb_X10_isSoBy) 29 = (x_gR 10 5 32, false) ∧ lk (tb_X10_isSoBy) 32 = (x_cS 1 P_X10_beginOn 35, false) ∧ lk (tb_X10_isSoBy) 35 = (x_c 36 (.int 0), false) ∧ lk (tb_X10_isSoBy) 36 = (x_is 37 3, false) ∧ lk (tb_X10_isSoBy) 37 = (x_il 38 3, true) ∧ lk (tb_X10_isSoBy) 38 = (x_al 39 0, false) ∧ lk (tb_X10_isSoBy) 39 = (x_gR 10 11 42, false) ∧ lk (tb_X10_isSoBy) 42 = (x_il 43 2, false) ∧ lk (tb_X10_isSoBy) 43 = (x_ia 44, false) ∧ lk (tb_X10_isSoBy) 44 = (x_ic 61 47 (fun x y : Int32 => y ≤ x), false) ∧ lk (tb_X10_isSoBy) 47 = (x_al 48 0, false) ∧ lk (tb_X10_isSoBy) 48 = (x_al 49 0, false) ∧ lk (tb_X10_isSoBy) 49 = (x_gR 10 5 52, false) ∧ lk (tb_X10_isSoBy) 52 = (x_cV 10 1 P_X10_goOn 55, false) ∧ lk (tb_X10_isSoBy) 55 = (x_inc 58 3 1, false) ∧ lk (tb_X10_isSoBy) 58 = (x_go 37, false) ∧ lk (tb_X10_isSoBy) 61 = (x_al 62 0, false) ∧ lk (tb_X10_isSoBy) 62 = (x_al 63 0, false) ∧ lk (tb_X10_isSoBy) 63 = (x_gR 10 5 66, false) ∧ lk (tb_X10_isSoBy) 66 = (x_cV 10 1 P_X10_openOf 69, false) ∧ lk (tb_X10_isSoBy) 69 = (x_al 70 0, false) ∧ lk (tb_X10_isSoBy) 70 = (x_gR 10 12 73, false) ∧ lk (tb_X10_isSoBy) 73 = (x_il 74 2, false) ∧ lk (tb_X10_isSoBy) 74 = (x_ia 75, false) ∧ lk (tb_X10_isSoBy) 75 = (x_icn 82 78 (fun x y : Int32 => x = y), false) ∧ lk (tb_X10_isSoBy) 78 = (x_c 79 (.int 1), false) ∧ lk (tb_X10_isSoBy) 79 = (x_go 83, false) ∧ lk (tb_X10_isSoBy) 82 = (x_c 83 (.int 0), false) ∧ lk (tb_X10_isSoBy) 83 = (x_rZ, false) := ⟨rfl, rfl, rfl, rfl, rfl, rfl, rfl, rfl, rfl, rfl, rfl, rfl, rfl, rfl, rfl, rfl, rfl, rfl, rfl, rfl, rfl, rfl, rfl, rfl, rfl, rfl, rfl, rfl, rfl, rfl, rfl, rfl, rfl, rfl, rfl, rfl, rfl, rfl, rfl, rfl, rfl, rfl, rfl, rfl, rfl, rfl, rfl, rfl⟩
def P_X10_isSoBy : PTT := fun as M R => match as with
  | [.ref k, .int x, .int y] => k = 108 ∧ ∃ g b i, MR M.1 M.2.1 M.2.2 g ∧ GOk g ∧ b < aN (gA g) ∧ i < gN g ∧ x = nI b ∧ y = nI i ∧ ∀ I', frK 111 M.2.1 I' → R (some (.int (bB (nI (opR (aN (gA g)) (aM (gA g)) (aO (gA g)) (aV (gA g)) id (d0A (lvA (gA g) b (-aL (gA g) b))) (tn (gB g i))) == gO g i)))) (M.1, I', M.2.2)
  | _ => False
set_option maxRecDepth 20000 in
theorem ok_X10_isSoBy : Ok yX10_isSoBy mt_X10_isSoBy P_X10_isSoBy := by
  refine Ok.of (by decide) rfl rfl rfl rfl fun av ⟨S, I, L⟩ R hP => ?_
  unfold P_X10_isSoBy at hP
  split at hP
  case h_2 => exact hP.elim
  rename_i k x y
  obtain ⟨k, rfl⟩ : ∃ q : Nat, q = k := ⟨k, rfl⟩
  refine ⟨by simp [ent, wide, mt_X10_isSoBy], ?_⟩
  show J mt_X10_isSoBy R 0 [some (.ref k), some (.int x), some (.int y), none] [] (S, I, L)
  try dsimp only at hP
  obtain ⟨rfl, g, b, i, hc, ho, hb, hi, rfl, rfl, hR⟩ := hP
  obtain ⟨h1, h2, h3, h4, h5, h6, h7, h8, h9⟩ := id hc
  have hm := ho.2.1.1
  have h20 := ho.2.2.2.2.2 i hi
  have hn6 := ho.2.2.2.2.1
  obtain ⟨r, hr20, er⟩ : ∃ r, r ≤ 20 ∧ gB g i = nI r := ⟨tn (gB g i), h20, (nI_tn _).symm⟩
  rw [er, tn_nI (n := r) (by omega)] at hR
  have hlv : AOk (lvA (gA g) b (-aL (gA g) b)) := lvA_ok ho.2.1 (inR_neg (ho.2.1.2.2.2.1 b (by omega)))
  have hbg := begA_ok hlv
  have e115 : I 115 i = nI r := by rw [(h7.2 i hi).1, er]
  have e116 : I 116 i = gO g i := (h7.2 i hi).2
  have v6 : vp_in (nI i) 6 := vp_in_nI (by omega) (by omega)
  have key := up (P := fun k => ∀ I', frK 111 I I' → RW (I' 111) 0 (itA k (begA (lvA (gA g) b (-aL (gA g) b)))) → J mt_X10_isSoBy R 37 [some (.ref 108), some (.int (nI b)), some (.int (nI i)), some (.int (nI k))] [] (S, I', L)) (n := r) (fun k hk ih I' hf hr' => ?_) 0 (Nat.zero_le _)
  · have ecp : cpy (I 110) (I 111) 80 b = aL (gA g) b := by rw [cpy_in (by omega)]; exact h4.l (by omega)
    refine J.of tk_X10_isSoBy 200 fun ρ hρ => ?_
    simp only [hρ, x_c, x_il, x_ll, x_al, x_is, x_as, x_ls, x_inc, x_ii, x_iq, x_i1, x_l2, x_lq, x_lh, x_i2l, x_l2i, x_lcmp, x_dup, x_dup2, x_pop, x_if, x_ifn, x_ic, x_icn, x_go, x_sw, swc, x_l01, x_mx, x_gI, x_gL, x_gR, x_pI, x_pZ, x_pL, x_pR, x_ia, x_za, x_aa, x_ias, x_zas, x_aas, x_fac, x_fa, x_slen, x_sa, x_ac, x_oi, x_new, x_na, x_cS, x_cV, x_cI, x_rI, x_rZ, x_rL, x_r0, pa, short, oc, lg, lset, lset2, wide, cond_true, cond_false, true_and, and_true, ↓reduceIte, Bool.false_eq_true, true_or, or_true, lf_X10_isSoBy, h1, h1.f, P_X10_copy, P_X10_beginOn, Int32.zero_add, ncl (show b < 2 ^ 31 by omega), mS_s, mS_ss, ecp]
    refine ⟨vp_in_nI (by omega) (by omega), vp_in_nI (by omega) (by omega), key _ (fun q q1 q2 => mS_n q1) ?_⟩
    rw [mS_s, itA_0]
    exact ((h4.cp hm.2.2).lv (by omega) hm.2.2).bg hm.2.2
  have e108 : I' 108 = I 108 := hf 108 (by omega) (by omega)
  have e115' : I' 115 = I 115 := hf 115 (by omega) (by omega)
  have e116' : I' 116 = I 116 := hf 116 (by omega) (by omega)
  have e117 : I' 117 = I 117 := hf 117 (by omega) (by omega)
  have hok : AOk (itA k (begA (lvA (gA g) b (-aL (gA g) b)))) := itA_ok hbg
  by_cases hlt : k < r
  · refine J.of tk_X10_isSoBy 200 fun ρ hρ => ?_
    simp only [hρ, x_c, x_il, x_ll, x_al, x_is, x_as, x_ls, x_inc, x_ii, x_iq, x_i1, x_l2, x_lq, x_lh, x_i2l, x_l2i, x_lcmp, x_dup, x_dup2, x_pop, x_if, x_ifn, x_ic, x_icn, x_go, x_sw, swc, x_l01, x_mx, x_gI, x_gL, x_gR, x_pI, x_pZ, x_pL, x_pR, x_ia, x_za, x_aa, x_ias, x_zas, x_aas, x_fac, x_fa, x_slen, x_sa, x_ac, x_oi, x_new, x_na, x_cS, x_cV, x_cI, x_rI, x_rZ, x_rL, x_r0, pa, short, oc, lg, lset, lset2, wide, cond_true, cond_false, true_and, and_true, ↓reduceIte, Bool.false_eq_true, true_or, or_true, lf_X10_isSoBy, h1, h1.f, e108, e115', e115, eq_true v6, ncl (show i < 2 ^ 31 by omega), nI_leI (show r < 2 ^ 31 by omega) (show k < 2 ^ 31 by omega), P_X10_goOn, nI_1]
    refine ⟨fun h => absurd h (by omega), fun _ => ⟨Or.inr rfl, _, id, hr', hok, h3.1, h3.2, fun j hj => by rw [e117]; exact h9.O hm.2.2 j hj, fun I2 hf2 hr2 => ih hlt I2 (hf.trans hf2) (by rw [itA_s]; exact hr2)⟩⟩
  · have : k = r := by omega
    subst this
    refine J.of tk_X10_isSoBy 200 fun ρ hρ => ?_
    simp only [hρ, x_c, x_il, x_ll, x_al, x_is, x_as, x_ls, x_inc, x_ii, x_iq, x_i1, x_l2, x_lq, x_lh, x_i2l, x_l2i, x_lcmp, x_dup, x_dup2, x_pop, x_if, x_ifn, x_ic, x_icn, x_go, x_sw, swc, x_l01, x_mx, x_gI, x_gL, x_gR, x_pI, x_pZ, x_pL, x_pR, x_ia, x_za, x_aa, x_ias, x_zas, x_aas, x_fac, x_fa, x_slen, x_sa, x_ac, x_oi, x_new, x_na, x_cS, x_cV, x_cI, x_rI, x_rZ, x_rL, x_r0, pa, short, oc, lg, lset, lset2, wide, cond_true, cond_false, true_and, and_true, ↓reduceIte, Bool.false_eq_true, true_or, or_true, lf_X10_isSoBy, h1, h1.f, e108, e115', e116', e115, e116, eq_true v6, ncl (show i < 2 ^ 31 by omega), nI_leI (show k < 2 ^ 31 by omega) (show k < 2 ^ 31 by omega), Nat.le_refl, true_implies, not_true_eq_false, false_implies, P_X10_openOf]
    refine ⟨_, MS.of h1 (Or.inr rfl) hr' hok (by rw [e108]; exact h3.1) (by rw [e108]; exact h3.2), ?_⟩
    have hfin : ∀ v, bB (nI (opA (itA k (begA (lvA (gA g) b (-aL (gA g) b))))) == gO g i) = v → R (some (.int v)) (S, I', L) := fun v hv => by
      have := hR I' hf
      rw [← hv]; exact this
    exact ⟨fun h => hfin 0 (bB_f (by simpa using h)), fun h => hfin 1 (bB_t (by simpa using h))⟩
def il_X10_which : List (Nat × Instr × Nat) := [(0, .iconst 0, 1), (1, .istore_n 1, 1), (2, .iconst 0, 1), (3, .istore_n 2, 1), (4, .iload_n 2, 1), (5, .aload_n 0, 1), (6, .getfield 53, 3), (9, .if_icmp .ge 63, 3), (12, .iconst 1, 1), (13, .istore_n 3, 1), (14, .iconst 0, 1), (15, .istore 4, 2), (17, .iload 4, 2), (19, .aload_n 0, 1), (20, .getfield 165, 3), (23, .if_icmp .ge 29, 3), (26, .iload_n 3, 1), (27, .ifCond .eq 17, 3), (30, .aload_n 0, 1), (31, .iload_n 2, 1), (32, .iload 4, 2), (34, .invokevirtual 214, 3), (37, .ifCond .eq 7, 3), (40, .iconst 1, 1), (41, .goto 4, 3), (44, .iconst 0, 1), (45, .istore_n 3, 1), (46, .iinc 4 1, 3), (49, .goto (-32), 3), (52, .iload_n 1, 1), (53, .iload_n 3, 1), (54, .ifCond .eq 9, 3), (57, .iconst 1, 1), (58, .iload_n 2, 1), (59, .ishl, 1), (60, .goto 4, 3), (63, .iconst 0, 1), (64, .ior, 1), (65, .istore_n 1, 1), (66, .iinc 2 1, 3), (69, .goto (-65), 3), (72, .iload_n 1, 1), (73, .ireturn, 1)]
def mt_X10_which : Mt := (cX10_which, RX10, 5, (some .int), ({ frames := 4, cells := 0, slots := 0, locals := 95 } : Room), false, none, none)
set_option maxRecDepth 100000 in
theorem dl_X10_which : ∀ q ∈ il_X10_which, decode (mt_X10_which).1 q.1 = .ok q.2 := by decide +kernel
def tb_X10_which : Tb := [(0, x_c 1 (.int 0), false),
  (1, x_is 2 1, false),
  (2, x_c 3 (.int 0), false),
  (3, x_is 4 2, false),
  (4, x_il 5 2, true),
  (5, x_al 6 0, false),
  (6, x_gI 10 2 9, false),
  (9, x_ic 72 12 (fun x y : Int32 => y ≤ x), false),
  (12, x_c 13 (.int 1), false),
  (13, x_is 14 3, false),
  (14, x_c 15 (.int 0), false),
  (15, x_is 17 4, false),
  (17, x_il 19 4, true),
  (19, x_al 20 0, false),
  (20, x_gI 10 13 23, false),
  (23, x_ic 52 26 (fun x y : Int32 => y ≤ x), false),
  (26, x_il 27 3, false),
  (27, x_if 44 30 (fun x : Int32 => x = 0), false),
  (30, x_al 31 0, false),
  (31, x_il 32 2, false),
  (32, x_il 34 4, false),
  (34, x_cV 10 2 P_X10_isSoBy 37, false),
  (37, x_if 44 40 (fun x : Int32 => x = 0), false),
  (40, x_c 41 (.int 1), false),
  (41, x_go 45, false),
  (44, x_c 45 (.int 0), false),
  (45, x_is 46 3, false),
  (46, x_inc 49 4 1, false),
  (49, x_go 17, false),
  (52, x_il 53 1, false),
  (53, x_il 54 3, false),
  (54, x_if 63 57 (fun x : Int32 => x = 0), false),
  (57, x_c 58 (.int 1), false),
  (58, x_il 59 2, false),
  (59, x_ii 60 (fun x y : Int32 => x <<< (y &&& 31)), false),
  (60, x_go 64, false),
  (63, x_c 64 (.int 0), true),
  (64, x_ii 65 (fun x y : Int32 => x ||| y), false),
  (65, x_is 66 1, false),
  (66, x_inc 69 2 1, false),
  (69, x_go 4, false),
  (72, x_il 73 1, false),
  (73, x_rI, false)]
set_option maxRecDepth 100000 in
theorem tk_X10_which : TbOk (mt_X10_which) (tb_X10_which) :=
  tkc (s_iconst (at_ dl_X10_which 0 (ins := .iconst 0) rfl) (by first | rfl | decide)) (
  tkc (s_istore_n (at_ dl_X10_which 1 (ins := .istore_n 1) rfl) (by decide)) (
  tkc (s_iconst (at_ dl_X10_which 2 (ins := .iconst 0) rfl) (by first | rfl | decide)) (
  tkc (s_istore_n (at_ dl_X10_which 3 (ins := .istore_n 2) rfl) (by decide)) (
  tkc (s_iload_n (at_ dl_X10_which 4 (ins := .iload_n 2) rfl)) (
  tkc (s_aload_n (at_ dl_X10_which 5 (ins := .aload_n 0) rfl)) (
  tkc (s_gI (at_ dl_X10_which 6 (ins := .getfield 53) rfl) (by decide) (by decide) (by decide) (tg 698 (by decide +kernel) (by decide +kernel))) (
  tkc (s_ic_ge (at_ dl_X10_which 7 (ins := .if_icmp .ge 63) rfl) (by decide)) (
  tkc (s_iconst (at_ dl_X10_which 8 (ins := .iconst 1) rfl) (by first | rfl | decide)) (
  tkc (s_istore_n (at_ dl_X10_which 9 (ins := .istore_n 3) rfl) (by decide)) (
  tkc (s_iconst (at_ dl_X10_which 10 (ins := .iconst 0) rfl) (by first | rfl | decide)) (
  tkc (s_istore (at_ dl_X10_which 11 (ins := .istore 4) rfl) (by decide)) (
  tkc (s_iload (at_ dl_X10_which 12 (ins := .iload 4) rfl)) (
  tkc (s_aload_n (at_ dl_X10_which 13 (ins := .aload_n 0) rfl)) (
  tkc (s_gI (at_ dl_X10_which 14 (ins := .getfield 165) rfl) (by decide) (by decide) (by decide) (tg 709 (by decide +kernel) (by decide +kernel))) (
  tkc (s_ic_ge (at_ dl_X10_which 15 (ins := .if_icmp .ge 29) rfl) (by decide)) (
  tkc (s_iload_n (at_ dl_X10_which 16 (ins := .iload_n 3) rfl)) (
  tkc (s_if_eq (at_ dl_X10_which 17 (ins := .ifCond .eq 17) rfl) (by decide)) (
  tkc (s_aload_n (at_ dl_X10_which 18 (ins := .aload_n 0) rfl)) (
  tkc (s_iload_n (at_ dl_X10_which 19 (ins := .iload_n 2) rfl)) (
  tkc (s_iload (at_ dl_X10_which 20 (ins := .iload 4) rfl)) (
  tkc (s_cV ok_X10_isSoBy (at_ dl_X10_which 21 (ins := .invokevirtual 214) rfl) (by decide) rfl (tg 978 (by decide +kernel) (by decide +kernel)) (tg 980 (by decide +kernel) (by decide +kernel)) (tg 40 (by decide +kernel) (by decide +kernel)) (tg 51 (by decide +kernel) (by decide +kernel)) (tg 981 (by decide +kernel) (by decide +kernel)) (⟨by decide, by decide, by decide +kernel⟩) (⟨by decide, by decide⟩) rfl rfl) (
  tkc (s_if_eq (at_ dl_X10_which 22 (ins := .ifCond .eq 7) rfl) (by decide)) (
  tkc (s_iconst (at_ dl_X10_which 23 (ins := .iconst 1) rfl) (by first | rfl | decide)) (
  tkc (s_goto (at_ dl_X10_which 24 (ins := .goto 4) rfl) (by decide)) (
  tkc (s_iconst (at_ dl_X10_which 25 (ins := .iconst 0) rfl) (by first | rfl | decide)) (
  tkc (s_istore_n (at_ dl_X10_which 26 (ins := .istore_n 3) rfl) (by decide)) (
  tkc (s_iinc (at_ dl_X10_which 27 (ins := .iinc 4 1) rfl) (by decide) (by first | rfl | decide)) (
  tkc (s_goto (at_ dl_X10_which 28 (ins := .goto (-32)) rfl) (by decide)) (
  tkc (s_iload_n (at_ dl_X10_which 29 (ins := .iload_n 1) rfl)) (
  tkc (s_iload_n (at_ dl_X10_which 30 (ins := .iload_n 3) rfl)) (
  tkc (s_if_eq (at_ dl_X10_which 31 (ins := .ifCond .eq 9) rfl) (by decide)) (
  tkc (s_iconst (at_ dl_X10_which 32 (ins := .iconst 1) rfl) (by first | rfl | decide)) (
  tkc (s_iload_n (at_ dl_X10_which 33 (ins := .iload_n 2) rfl)) (
  tkc (s_ishl (at_ dl_X10_which 34 (ins := .ishl) rfl)) (
  tkc (s_goto (at_ dl_X10_which 35 (ins := .goto 4) rfl) (by decide)) (
  tkc (s_iconst (at_ dl_X10_which 36 (ins := .iconst 0) rfl) (by first | rfl | decide)) (
  tkc (s_ior (at_ dl_X10_which 37 (ins := .ior) rfl)) (
  tkc (s_istore_n (at_ dl_X10_which 38 (ins := .istore_n 1) rfl) (by decide)) (
  tkc (s_iinc (at_ dl_X10_which 39 (ins := .iinc 2 1) rfl) (by decide) (by first | rfl | decide)) (
  tkc (s_goto (at_ dl_X10_which 40 (ins := .goto (-65)) rfl) (by decide)) (
  tkc (s_iload_n (at_ dl_X10_which 41 (ins := .iload_n 1) rfl)) (
  tkc (s_rI (at_ dl_X10_which 42 (ins := .ireturn) rfl) rfl) ( tk0)))))))))))))))))))))))))))))))))))))))))))
theorem lf_X10_which : lk (tb_X10_which) 0 = (x_c 1 (.int 0), false) ∧ lk (tb_X10_which) 1 = (x_is 2 1, false) ∧ lk (tb_X10_which) 2 = (x_c 3 (.int 0), false) ∧ lk (tb_X10_which) 3 = (x_is 4 2, false) ∧ lk (tb_X10_which) 4 = (x_il 5 2, true) ∧ lk (tb_X10_which) 5 = (x_al 6 0, false) ∧ lk (tb_X10_which) 6 = (x_gI 10 2 9, false) ∧ lk (tb_X10_which) 9 = (x_ic 72 12 (fun x y : Int32 => y ≤ x), false) ∧ lk (tb_X10_which) 12 = (x_c 13 (.int 1), false) ∧ lk (tb_X10_which) 13 = (x_is 14 3, false) ∧ lk (tb_X10_which) 14 = (x_c 15 (.int 0), false) ∧ lk (tb_X10_which) 15 = (x_is 17 4, false) ∧ lk (tb_X10_which) 17 = (x_il 19 4, true) ∧ lk (tb_X10_which) 19 = (x_al 20 0, false) ∧ lk (tb_X10_which) 20 = (x_gI 10 13 23, false) ∧ lk (tb_X10_which) 23 = (x_ic 52 26 (fun x y : Int32 => y ≤ x), false) ∧ lk (tb_X10_which) 26 = (x_il 27 3, false) ∧ lk (tb_X10_which) 27 = (x_if 44 30 (fun x : Int32 => x = 0), false) ∧ lk (tb_X10_which) 30 = (x_al 31 0, false) ∧ lk (tb_X10_which) 31 = (x_il 32 2, false) ∧ lk (tb_X10_which) 32 = (x_il 34 4, false) ∧ lk (tb_X10_which) 34 = (x_cV 10 2 P_X10_isSoBy 37, false) ∧ lk (tb_X10_which) 37 = (x_if 44 40 (fun x : Int32 => x = 0), false) ∧ lk (tb_X10_which) 40 = (x_c 41 (.int 1), false) ∧ lk (tb_X10_which) 41 = (x_go 45, false) ∧ lk (tb_X10_which) 44 = (x_c 45 (.int 0), false) ∧ lk (tb_X10_which) 45 = (x_is 46 3, false) ∧ lk (tb_X10_which) 46 = (x_inc 49 4 1, false) ∧ lk (tb_X10_which) 49 = (x_go 17, false) ∧ lk (tb_X10_which) 52 = (x_il 53 1, false) ∧ lk (tb_X10_which) 53 = (x_il 54 3, false) ∧ lk (tb_X10_which) 54 = (x_if 63 57 (fun x : Int32 => x = 0), false) ∧ lk (tb_X10_which) 57 = (x_c 58 (.int 1), false) ∧ lk (tb_X10_which) 58 = (x_il 59 2, false) ∧ lk (tb_X10_which) 59 = (x_ii 60 (fun x y : Int32 => x <<< (y &&& 31)), false) ∧ lk (tb_X10_which) 60 = (x_go 64, false) ∧ lk (tb_X10_which) 63 = (x_c 64 (.int 0), true) ∧ lk (tb_X10_which) 64 = (x_ii 65 (fun x y : Int32 => x ||| y), false) ∧ lk (tb_X10_which) 65 = (x_is 66 1, false) ∧ lk (tb_X10_which) 66 = (x_inc 69 2 1, false) ∧ lk (tb_X10_which) 69 = (x_go 4, false) ∧ lk (tb_X10_which) 72 = (x_il 73 1, false) ∧ lk (tb_X10_which) 73 = (x_rI, false) := ⟨rfl, rfl, rfl, rfl, rfl, rfl, rfl, rfl, rfl, rfl, rfl, rfl, rfl, rfl, rfl, rfl, rfl, rfl, rfl, rfl, rfl, rfl, rfl, rfl, rfl, rfl, rfl, rfl, rfl, rfl, rfl, rfl, rfl, rfl, rfl, rfl, rfl, rfl, rfl, rfl, rfl, rfl, rfl⟩
def P_X10_which : PTT := fun as M R => match as with
  | [.ref k] => k = 108 ∧ ∃ g, MR M.1 M.2.1 M.2.2 g ∧ GOk g ∧ Anm M R (gWhich g) g
  | _ => False
set_option maxRecDepth 20000 in
theorem ok_X10_which : Ok yX10_which mt_X10_which P_X10_which := by
  refine Ok.of (by decide) rfl rfl rfl rfl fun av ⟨S, I, L⟩ R hP => ?_
  unfold P_X10_which at hP
  split at hP
  case h_2 => exact hP.elim
  rename_i k
  obtain ⟨k, rfl⟩ : ∃ q : Nat, q = k := ⟨k, rfl⟩
  refine ⟨by simp [ent, wide, mt_X10_which], ?_⟩
  show J mt_X10_which R 0 [some (.ref k), none, none, none, none] [] (S, I, L)
  try dsimp only at hP
  obtain ⟨rfl, g, hc, ho, hA⟩ := hP
  obtain ⟨h1, h2, h3, h4, h5, h6, h7, h8, h9⟩ := id hc
  have hm := ho.2.1.1
  have hn6 := ho.2.2.2.2.1
  have key := up (P := fun b => ∀ I', frK 111 I I' → J mt_X10_which R 4 [some (.ref 108), some (.int (nI (bs (wcB g) b))), some (.int (nI b)), none, none] [] (S, I', L)) (n := aN (gA g)) (fun b hb ih I' hf => ?_) 0 (Nat.zero_le _) I (fun _ _ _ => rfl)
  · refine J.of tk_X10_which 200 fun ρ hρ => ?_
    simp only [hρ, x_c, x_il, x_ll, x_al, x_is, x_as, x_ls, x_inc, x_ii, x_iq, x_i1, x_l2, x_lq, x_lh, x_i2l, x_l2i, x_lcmp, x_dup, x_dup2, x_pop, x_if, x_ifn, x_ic, x_icn, x_go, x_sw, swc, x_l01, x_mx, x_gI, x_gL, x_gR, x_pI, x_pZ, x_pL, x_pR, x_ia, x_za, x_aa, x_ias, x_zas, x_aas, x_fac, x_fa, x_slen, x_sa, x_ac, x_oi, x_new, x_na, x_cS, x_cV, x_cI, x_rI, x_rZ, x_rL, x_r0, pa, short, oc, lg, lset, lset2, wide, cond_true, cond_false, true_and, and_true, ↓reduceIte, Bool.false_eq_true, true_or, or_true, lf_X10_which]
    exact key
  have e108 : I' 108 = I 108 := hf 108 (by omega) (by omega)
  by_cases hlt : b < aN (gA g)
  · have inner := up (P := fun i => ∀ I', frK 111 I I' → J mt_X10_which R 17 [some (.ref 108), some (.int (nI (bs (wcB g) b))), some (.int (nI b)), some (.int (bB (soB (opR (aN (gA g)) (aM (gA g)) (aO (gA g)) (aV (gA g)) id (d0A (lvA (gA g) b (-aL (gA g) b)))) (gB g) (gO g) i))), some (.int (nI i))] [] (S, I', L)) (n := gN g) (fun i hi ihi I2 hf2 => ?_) 0 (Nat.zero_le _) I' hf
    · refine J.of tk_X10_which 200 fun ρ hρ => ?_
      simp only [hρ, x_c, x_il, x_ll, x_al, x_is, x_as, x_ls, x_inc, x_ii, x_iq, x_i1, x_l2, x_lq, x_lh, x_i2l, x_l2i, x_lcmp, x_dup, x_dup2, x_pop, x_if, x_ifn, x_ic, x_icn, x_go, x_sw, swc, x_l01, x_mx, x_gI, x_gL, x_gR, x_pI, x_pZ, x_pL, x_pR, x_ia, x_za, x_aa, x_ias, x_zas, x_aas, x_fac, x_fa, x_slen, x_sa, x_ac, x_oi, x_new, x_na, x_cS, x_cV, x_cI, x_rI, x_rZ, x_rL, x_r0, pa, short, oc, lg, lset, lset2, wide, cond_true, cond_false, true_and, and_true, ↓reduceIte, Bool.false_eq_true, true_or, or_true, lf_X10_which, h1.f, e108, h3.1, nI_leI (show aN (gA g) < 2 ^ 31 by omega) (show b < 2 ^ 31 by omega)]
      exact ⟨fun h => absurd h (by omega), fun _ => inner⟩
    have e108' : I2 108 = I 108 := hf2 108 (by omega) (by omega)
    by_cases hli : i < gN g
    · have hnx : ∀ v I3, frK 111 I I3 → bB (soB (opR (aN (gA g)) (aM (gA g)) (aO (gA g)) (aV (gA g)) id (d0A (lvA (gA g) b (-aL (gA g) b)))) (gB g) (gO g) (i + 1)) = v → J mt_X10_which R 17 [some (.ref 108), some (.int (nI (bs (wcB g) b))), some (.int (nI b)), some (.int v), some (.int (nI (i + 1)))] [] (S, I3, L) := fun v I3 q1 q2 => by rw [← q2]; exact ihi hli I3 q1
      refine J.of tk_X10_which 200 fun ρ hρ => ?_
      simp only [hρ, x_c, x_il, x_ll, x_al, x_is, x_as, x_ls, x_inc, x_ii, x_iq, x_i1, x_l2, x_lq, x_lh, x_i2l, x_l2i, x_lcmp, x_dup, x_dup2, x_pop, x_if, x_ifn, x_ic, x_icn, x_go, x_sw, swc, x_l01, x_mx, x_gI, x_gL, x_gR, x_pI, x_pZ, x_pL, x_pR, x_ia, x_za, x_aa, x_ias, x_zas, x_aas, x_fac, x_fa, x_slen, x_sa, x_ac, x_oi, x_new, x_na, x_cS, x_cV, x_cI, x_rI, x_rZ, x_rL, x_r0, pa, short, oc, lg, lset, lset2, wide, cond_true, cond_false, true_and, and_true, ↓reduceIte, Bool.false_eq_true, true_or, or_true, lf_X10_which, h1.f, e108', h7.1, nI_leI (show gN g < 2 ^ 31 by omega) (show i < 2 ^ 31 by omega), bB_0, P_X10_isSoBy, nI_1, Classical.not_not]
      refine ⟨fun h => absurd h (by omega), fun _ => ⟨fun h => hnx _ _ hf2 (bB_f (by simp only [soB, Bool.and_eq_true]; exact fun q => h q.1)), fun h => ⟨g, b, i, hc.fr hf2.M, ho, hlt, hli, rfl, rfl, fun I3 hf3 => ⟨fun q => hnx _ _ (hf2.trans hf3) (bB_f (by simp only [soB, Bool.and_eq_true]; exact fun z => q z.2)), fun q => hnx _ _ (hf2.trans hf3) (bB_t (by simp only [soB, Bool.and_eq_true]; exact ⟨h, q⟩))⟩⟩⟩⟩
    · have : i = gN g := by omega
      subst this
      have ih' := ih hlt I2 hf2
      refine J.of tk_X10_which 200 fun ρ hρ => ?_
      simp only [hρ, x_c, x_il, x_ll, x_al, x_is, x_as, x_ls, x_inc, x_ii, x_iq, x_i1, x_l2, x_lq, x_lh, x_i2l, x_l2i, x_lcmp, x_dup, x_dup2, x_pop, x_if, x_ifn, x_ic, x_icn, x_go, x_sw, swc, x_l01, x_mx, x_gI, x_gL, x_gR, x_pI, x_pZ, x_pL, x_pR, x_ia, x_za, x_aa, x_ias, x_zas, x_aas, x_fac, x_fa, x_slen, x_sa, x_ac, x_oi, x_new, x_na, x_cS, x_cV, x_cI, x_rI, x_rZ, x_rL, x_r0, pa, short, oc, lg, lset, lset2, wide, cond_true, cond_false, true_and, and_true, ↓reduceIte, Bool.false_eq_true, true_or, or_true, lf_X10_which, h1.f, e108', h7.1, nI_leI (show gN g < 2 ^ 31 by omega) (show gN g < 2 ^ 31 by omega), Nat.le_refl, true_implies, not_true_eq_false, false_implies, bB_0, Classical.not_not, nI_1]
      refine ⟨fun h => ?_, fun h => ?_⟩
      · refine J.of tk_X10_which 200 fun ρ hρ => ?_
        simp only [hρ, x_c, x_il, x_ll, x_al, x_is, x_as, x_ls, x_inc, x_ii, x_iq, x_i1, x_l2, x_lq, x_lh, x_i2l, x_l2i, x_lcmp, x_dup, x_dup2, x_pop, x_if, x_ifn, x_ic, x_icn, x_go, x_sw, swc, x_l01, x_mx, x_gI, x_gL, x_gR, x_pI, x_pZ, x_pL, x_pR, x_ia, x_za, x_aa, x_ias, x_zas, x_aas, x_fac, x_fa, x_slen, x_sa, x_ac, x_oi, x_new, x_na, x_cS, x_cV, x_cI, x_rI, x_rZ, x_rL, x_r0, pa, short, oc, lg, lset, lset2, wide, cond_true, cond_false, true_and, and_true, ↓reduceIte, Bool.false_eq_true, true_or, or_true, lf_X10_which, Int32.or_zero, nI_1]
        have hw : wcB g b = false := by simpa [wcB] using h
        rw [← bs_f hw] at ih'
        exact J.weak (by simp [lsub]) ih'
      · have hw : wcB g b = true := h
        rw [← bs_t (by omega) hw] at ih'
        exact J.weak (by simp [lsub]) ih'
  · have : b = aN (gA g) := by omega
    subst this
    refine J.of tk_X10_which 200 fun ρ hρ => ?_
    simp only [hρ, x_c, x_il, x_ll, x_al, x_is, x_as, x_ls, x_inc, x_ii, x_iq, x_i1, x_l2, x_lq, x_lh, x_i2l, x_l2i, x_lcmp, x_dup, x_dup2, x_pop, x_if, x_ifn, x_ic, x_icn, x_go, x_sw, swc, x_l01, x_mx, x_gI, x_gL, x_gR, x_pI, x_pZ, x_pL, x_pR, x_ia, x_za, x_aa, x_ias, x_zas, x_aas, x_fac, x_fa, x_slen, x_sa, x_ac, x_oi, x_new, x_na, x_cS, x_cV, x_cI, x_rI, x_rZ, x_rL, x_r0, pa, short, oc, lg, lset, lset2, wide, cond_true, cond_false, true_and, and_true, ↓reduceIte, Bool.false_eq_true, true_or, or_true, lf_X10_which, h1.f, e108, h3.1, nI_leI (show aN (gA g) < 2 ^ 31 by omega) (show aN (gA g) < 2 ^ 31 by omega), Nat.le_refl, true_implies, not_true_eq_false, false_implies]
    exact hA.q hc hf.M
theorem i2l_lt {x y : Int32} : y.toInt64 < x.toInt64 ↔ y < x := by
  rw [Int64.lt_iff_toInt_lt, Int32.lt_iff_toInt_lt, Int32.toInt_toInt64, Int32.toInt_toInt64]
theorem w01 {w : Int32} : (¬ w < 0 ∧ w < 2) ↔ (w = 0 ∨ w = 1) := by
  constructor
  · rintro ⟨q1, q2⟩
    obtain ⟨i, hi, rfl⟩ := ix2 q1 q2
    rcases b2 hi with rfl | rfl
    · exact .inl rfl
    · exact .inr rfl
  · rintro (rfl | rfl) <;> decide
def il_X10_traps : List (Nat × Instr × Nat) := [(0, .iload_n 1, 1), (1, .i2l, 1), (2, .lconst 1, 1), (3, .aload_n 0, 1), (4, .getfield 53, 3), (7, .i2l, 1), (8, .invokestatic 60, 3), (11, .ifCond .eq 25, 3), (14, .iload_n 2, 1), (15, .i2l, 1), (16, .lconst 0, 1), (17, .ldc2_w 196, 3), (20, .invokestatic 60, 3), (23, .ifCond .eq 13, 3), (26, .iload_n 3, 1), (27, .i2l, 1), (28, .lconst 0, 1), (29, .lconst 1, 1), (30, .invokestatic 60, 3), (33, .ifCond .ne 6, 3), (36, .bipush (-2), 2), (38, .ireturn, 1), (39, .iconst 0, 1), (40, .istore 4, 2), (42, .bipush (-9), 2), (44, .istore 5, 2), (46, .iconst 1, 1), (47, .istore 6, 2), (49, .iload 6, 2), (51, .iconst 1, 1), (52, .aload_n 0, 1), (53, .getfield 53, 3), (56, .ishl, 1), (57, .if_icmp .ge 52, 3), (60, .iload 6, 2), (62, .invokestatic 114, 3), (65, .iload_n 1, 1), (66, .if_icmp .ne 37, 3), (69, .aload_n 0, 1), (70, .aload_n 0, 1), (71, .getfield 13, 3), (74, .iload 6, 2), (76, .invokevirtual 122, 3), (79, .invokestatic 114, 3), (82, .iload_n 2, 1), (83, .if_icmp .ne 20, 3), (86, .iload 4, 2), (88, .ifCond .ne 8, 3), (91, .iload 6, 2), (93, .goto 5, 3), (96, .iload 5, 2), (98, .istore 5, 2), (100, .iinc 4 1, 3), (103, .iinc 6 1, 3), (106, .goto (-57), 3), (109, .iload_n 3, 1), (110, .ifCond .ne 8, 3), (113, .iload 4, 2), (115, .goto 5, 3), (118, .iload 5, 2), (120, .ireturn, 1)]
def mt_X10_traps : Mt := (cX10_traps, RX10, 7, (some .int), ({ frames := 2, cells := 0, slots := 0, locals := 46 } : Room), false, none, none)
set_option maxRecDepth 100000 in
theorem dl_X10_traps : ∀ q ∈ il_X10_traps, decode (mt_X10_traps).1 q.1 = .ok q.2 := by decide +kernel
def tb_X10_traps : Tb := [(0, x_il 1 1, false),
  (1, x_i2l 2, false),
  (2, x_c 3 (.long 1), false),
  (3, x_al 4 0, false),
  (4, x_gI 10 2 7, false),
  (7, x_i2l 8, false),
  (8, x_cS 3 P_X10_in 11, false),
  (11, x_if 36 14 (fun x : Int32 => x = 0), false),
  (14, x_il 15 2, false),
  (15, x_i2l 16, false),
  (16, x_c 17 (.long 0), false),
  (17, x_c 20 (.long 6), false),
  (20, x_cS 3 P_X10_in 23, false),
  (23, x_if 36 26 (fun x : Int32 => x = 0), false),
  (26, x_il 27 3, false),
  (27, x_i2l 28, false),
  (28, x_c 29 (.long 0), false),
  (29, x_c 30 (.long 1), false),
  (30, x_cS 3 P_X10_in 33, false),
  (33, x_ifn 39 36 (fun x : Int32 => x = 0), false),
  (36, x_c 38 (.int (-2)), false),
  (38, x_rI, false),
  (39, x_c 40 (.int 0), false),
  (40, x_is 42 4, false),
  (42, x_c 44 (.int (-9)), false),
  (44, x_is 46 5, false),
  (46, x_c 47 (.int 1), false),
  (47, x_is 49 6, false),
  (49, x_il 51 6, true),
  (51, x_c 52 (.int 1), false),
  (52, x_al 53 0, false),
  (53, x_gI 10 2 56, false),
  (56, x_ii 57 (fun x y : Int32 => x <<< (y &&& 31)), false),
  (57, x_ic 109 60 (fun x y : Int32 => y ≤ x), false),
  (60, x_il 62 6, false),
  (62, x_cS 1 P_X10_ones 65, false),
  (65, x_il 66 1, false),
  (66, x_icn 103 69 (fun x y : Int32 => x = y), false),
  (69, x_al 70 0, false),
  (70, x_al 71 0, false),
  (71, x_gR 10 4 74, false),
  (74, x_il 76 6, false),
  (76, x_cV 10 2 P_X10_openBy 79, false),
  (79, x_cS 1 P_X10_ones 82, false),
  (82, x_il 83 2, false),
  (83, x_icn 103 86 (fun x y : Int32 => x = y), false),
  (86, x_il 88 4, false),
  (88, x_ifn 96 91 (fun x : Int32 => x = 0), false),
  (91, x_il 93 6, false),
  (93, x_go 98, false),
  (96, x_il 98 5, false),
  (98, x_is 100 5, false),
  (100, x_inc 103 4 1, false),
  (103, x_inc 106 6 1, false),
  (106, x_go 49, false),
  (109, x_il 110 3, false),
  (110, x_ifn 118 113 (fun x : Int32 => x = 0), false),
  (113, x_il 115 4, false),
  (115, x_go 120, false),
  (118, x_il 120 5, false),
  (120, x_rI, false)]
set_option maxRecDepth 100000 in
theorem tk_X10_traps : TbOk (mt_X10_traps) (tb_X10_traps) :=
  tkc (s_iload_n (at_ dl_X10_traps 0 (ins := .iload_n 1) rfl)) (
  tkc (s_i2l (at_ dl_X10_traps 1 (ins := .i2l) rfl)) (
  tkc (s_lconst (at_ dl_X10_traps 2 (ins := .lconst 1) rfl) (by first | rfl | decide)) (
  tkc (s_aload_n (at_ dl_X10_traps 3 (ins := .aload_n 0) rfl)) (
  tkc (s_gI (at_ dl_X10_traps 4 (ins := .getfield 53) rfl) (by decide) (by decide) (by decide) (tg 698 (by decide +kernel) (by decide +kernel))) (
  tkc (s_i2l (at_ dl_X10_traps 5 (ins := .i2l) rfl)) (
  tkc (s_cS ok_X10_in (at_ dl_X10_traps 6 (ins := .invokestatic 60) rfl) (tg 780 (by decide +kernel) (by decide +kernel)) (tg 781 (by decide +kernel) (by decide +kernel)) (tg 51 (by decide +kernel) (by decide +kernel)) (tg 782 (by decide +kernel) (by decide +kernel)) (⟨by decide, by decide, by decide +kernel⟩) (⟨by decide, by decide⟩) rfl rfl) (
  tkc (s_if_eq (at_ dl_X10_traps 7 (ins := .ifCond .eq 25) rfl) (by decide)) (
  tkc (s_iload_n (at_ dl_X10_traps 8 (ins := .iload_n 2) rfl)) (
  tkc (s_i2l (at_ dl_X10_traps 9 (ins := .i2l) rfl)) (
  tkc (s_lconst (at_ dl_X10_traps 10 (ins := .lconst 0) rfl) (by first | rfl | decide)) (
  tkc (s_ldc2 (at_ dl_X10_traps 11 (ins := .ldc2_w 196) rfl) (tg 946 (by decide +kernel) (by decide +kernel))) (
  tkc (s_cS ok_X10_in (at_ dl_X10_traps 12 (ins := .invokestatic 60) rfl) (tg 780 (by decide +kernel) (by decide +kernel)) (tg 781 (by decide +kernel) (by decide +kernel)) (tg 51 (by decide +kernel) (by decide +kernel)) (tg 782 (by decide +kernel) (by decide +kernel)) (⟨by decide, by decide, by decide +kernel⟩) (⟨by decide, by decide⟩) rfl rfl) (
  tkc (s_if_eq (at_ dl_X10_traps 13 (ins := .ifCond .eq 13) rfl) (by decide)) (
  tkc (s_iload_n (at_ dl_X10_traps 14 (ins := .iload_n 3) rfl)) (
  tkc (s_i2l (at_ dl_X10_traps 15 (ins := .i2l) rfl)) (
  tkc (s_lconst (at_ dl_X10_traps 16 (ins := .lconst 0) rfl) (by first | rfl | decide)) (
  tkc (s_lconst (at_ dl_X10_traps 17 (ins := .lconst 1) rfl) (by first | rfl | decide)) (
  tkc (s_cS ok_X10_in (at_ dl_X10_traps 18 (ins := .invokestatic 60) rfl) (tg 780 (by decide +kernel) (by decide +kernel)) (tg 781 (by decide +kernel) (by decide +kernel)) (tg 51 (by decide +kernel) (by decide +kernel)) (tg 782 (by decide +kernel) (by decide +kernel)) (⟨by decide, by decide, by decide +kernel⟩) (⟨by decide, by decide⟩) rfl rfl) (
  tkc (s_if_ne (at_ dl_X10_traps 19 (ins := .ifCond .ne 6) rfl) (by decide)) (
  tkc (s_bipush (at_ dl_X10_traps 20 (ins := .bipush (-2)) rfl) (by first | rfl | decide)) (
  tkc (s_rI (at_ dl_X10_traps 21 (ins := .ireturn) rfl) rfl) (
  tkc (s_iconst (at_ dl_X10_traps 22 (ins := .iconst 0) rfl) (by first | rfl | decide)) (
  tkc (s_istore (at_ dl_X10_traps 23 (ins := .istore 4) rfl) (by decide)) (
  tkc (s_bipush (at_ dl_X10_traps 24 (ins := .bipush (-9)) rfl) (by first | rfl | decide)) (
  tkc (s_istore (at_ dl_X10_traps 25 (ins := .istore 5) rfl) (by decide)) (
  tkc (s_iconst (at_ dl_X10_traps 26 (ins := .iconst 1) rfl) (by first | rfl | decide)) (
  tkc (s_istore (at_ dl_X10_traps 27 (ins := .istore 6) rfl) (by decide)) (
  tkc (s_iload (at_ dl_X10_traps 28 (ins := .iload 6) rfl)) (
  tkc (s_iconst (at_ dl_X10_traps 29 (ins := .iconst 1) rfl) (by first | rfl | decide)) (
  tkc (s_aload_n (at_ dl_X10_traps 30 (ins := .aload_n 0) rfl)) (
  tkc (s_gI (at_ dl_X10_traps 31 (ins := .getfield 53) rfl) (by decide) (by decide) (by decide) (tg 698 (by decide +kernel) (by decide +kernel))) (
  tkc (s_ishl (at_ dl_X10_traps 32 (ins := .ishl) rfl)) (
  tkc (s_ic_ge (at_ dl_X10_traps 33 (ins := .if_icmp .ge 52) rfl) (by decide)) (
  tkc (s_iload (at_ dl_X10_traps 34 (ins := .iload 6) rfl)) (
  tkc (s_cS ok_X10_ones (at_ dl_X10_traps 35 (ins := .invokestatic 114) rfl) (tg 821 (by decide +kernel) (by decide +kernel)) (tg 822 (by decide +kernel) (by decide +kernel)) (tg 51 (by decide +kernel) (by decide +kernel)) (tg 823 (by decide +kernel) (by decide +kernel)) (⟨by decide, by decide, by decide +kernel⟩) (⟨by decide, by decide⟩) rfl rfl) (
  tkc (s_iload_n (at_ dl_X10_traps 36 (ins := .iload_n 1) rfl)) (
  tkc (s_ic_ne (at_ dl_X10_traps 37 (ins := .if_icmp .ne 37) rfl) (by decide)) (
  tkc (s_aload_n (at_ dl_X10_traps 38 (ins := .aload_n 0) rfl)) (
  tkc (s_aload_n (at_ dl_X10_traps 39 (ins := .aload_n 0) rfl)) (
  tkc (s_gR (at_ dl_X10_traps 40 (ins := .getfield 13) rfl) (by decide) (by decide) (by decide) (tg 700 (by decide +kernel) (by decide +kernel))) (
  tkc (s_iload (at_ dl_X10_traps 41 (ins := .iload 6) rfl)) (
  tkc (s_cV ok_X10_openBy (at_ dl_X10_traps 42 (ins := .invokevirtual 122) rfl) (by decide) rfl (tg 817 (by decide +kernel) (by decide +kernel)) (tg 819 (by decide +kernel) (by decide +kernel)) (tg 23 (by decide +kernel) (by decide +kernel)) (tg 51 (by decide +kernel) (by decide +kernel)) (tg 820 (by decide +kernel) (by decide +kernel)) (⟨by decide, by decide, by decide +kernel⟩) (⟨by decide, by decide⟩) rfl rfl) (
  tkc (s_cS ok_X10_ones (at_ dl_X10_traps 43 (ins := .invokestatic 114) rfl) (tg 821 (by decide +kernel) (by decide +kernel)) (tg 822 (by decide +kernel) (by decide +kernel)) (tg 51 (by decide +kernel) (by decide +kernel)) (tg 823 (by decide +kernel) (by decide +kernel)) (⟨by decide, by decide, by decide +kernel⟩) (⟨by decide, by decide⟩) rfl rfl) (
  tkc (s_iload_n (at_ dl_X10_traps 44 (ins := .iload_n 2) rfl)) (
  tkc (s_ic_ne (at_ dl_X10_traps 45 (ins := .if_icmp .ne 20) rfl) (by decide)) (
  tkc (s_iload (at_ dl_X10_traps 46 (ins := .iload 4) rfl)) (
  tkc (s_if_ne (at_ dl_X10_traps 47 (ins := .ifCond .ne 8) rfl) (by decide)) (
  tkc (s_iload (at_ dl_X10_traps 48 (ins := .iload 6) rfl)) (
  tkc (s_goto (at_ dl_X10_traps 49 (ins := .goto 5) rfl) (by decide)) (
  tkc (s_iload (at_ dl_X10_traps 50 (ins := .iload 5) rfl)) (
  tkc (s_istore (at_ dl_X10_traps 51 (ins := .istore 5) rfl) (by decide)) (
  tkc (s_iinc (at_ dl_X10_traps 52 (ins := .iinc 4 1) rfl) (by decide) (by first | rfl | decide)) (
  tkc (s_iinc (at_ dl_X10_traps 53 (ins := .iinc 6 1) rfl) (by decide) (by first | rfl | decide)) (
  tkc (s_goto (at_ dl_X10_traps 54 (ins := .goto (-57)) rfl) (by decide)) (
  tkc (s_iload_n (at_ dl_X10_traps 55 (ins := .iload_n 3) rfl)) (
  tkc (s_if_ne (at_ dl_X10_traps 56 (ins := .ifCond .ne 8) rfl) (by decide)) (
  tkc (s_iload (at_ dl_X10_traps 57 (ins := .iload 4) rfl)) (
  tkc (s_goto (at_ dl_X10_traps 58 (ins := .goto 5) rfl) (by decide)) (
  tkc (s_iload (at_ dl_X10_traps 59 (ins := .iload 5) rfl)) (
  tkc (s_rI (at_ dl_X10_traps 60 (ins := .ireturn) rfl) rfl) ( tk0)))))))))))))))))))))))))))))))))))))))))))))))))))))))))))))
theorem lf_X10_traps : lk (tb_X10_traps) 0 = (x_il 1 1, false) ∧ lk (tb_X10_traps) 1 = (x_i2l 2, false) ∧ lk (tb_X10_traps) 2 = (x_c 3 (.long 1), false) ∧ lk (tb_X10_traps) 3 = (x_al 4 0, false) ∧ lk (tb_X10_traps) 4 = (x_gI 10 2 7, false) ∧ lk (tb_X10_traps) 7 = (x_i2l 8, false) ∧ lk (tb_X10_traps) 8 = (x_cS 3 P_X10_in 11, false) ∧ lk (tb_X10_traps) 11 = (x_if 36 14 (fun x : Int32 => x = 0), false) ∧ lk (tb_X10_traps) 14 = (x_il 15 2, false) ∧ lk (tb_X10_traps) 15 = (x_i2l 16, false) ∧ lk (tb_X10_traps) 16 = (x_c 17 (.long 0), false) ∧ lk (tb_X10_traps) 17 = (x_c 20 (.long 6), false) ∧ lk (tb_X10_traps) 20 = (x_cS 3 P_X10_in 23, false) ∧ lk (tb_X10_traps) 23 = (x_if 36 26 (fun x : Int32 => x = 0), false) ∧ lk (tb_X10_traps) 26 = (x_il 27 3, false) ∧ lk (tb_X10_traps) 27 = (x_i2l 28, false) ∧ lk (tb_X10_traps) 28 = (x_c 29 (.long 0), false) ∧ lk (tb_X10_traps) 29 = (x_c 30 (.long 1), false) ∧ lk (tb_X10_traps) 30 = (x_cS 3 P_X10_in 33, false) ∧ lk (tb_X10_traps) 33 = (x_ifn 39 36 (fun x : Int32 => x = 0), false) ∧ lk (tb_X10_traps) 36 = (x_c 38 (.int (-2)), false) ∧ lk (tb_X10_traps) 38 = (x_rI, false) ∧ lk (tb_X10_traps) 39 = (x_c 40 (.int 0), false) ∧ lk (tb_X10_traps) 40 = (x_is 42 4, false) ∧ lk (tb_X10_traps) 42 = (x_c 44 (.int (-9)), false) ∧ lk (tb_X10_traps) 44 = (x_is 46 5, false) ∧ lk (tb_X10_traps) 46 = (x_c 47 (.int 1), false) ∧ lk (tb_X10_traps) 47 = (x_is 49 6, false) ∧ lk (tb_X10_traps) 49 = (x_il 51 6, true) ∧ lk (tb_X10_traps) 51 = (x_c 52 (.int 1), false) ∧ lk (tb_X10_traps) 52 = (x_al 53 0, false) ∧ lk (tb_X10_traps) 53 = (x_gI 10 2 56, false) ∧ lk (tb_X10_traps) 56 = (x_ii 57 (fun x y : Int32 => x <<< (y &&& 31)), false) ∧ lk (tb_X10_traps) 57 = (x_ic 109 60 (fun x y : Int32 => y ≤ x), false) ∧ lk (tb_X10_traps) 60 = (x_il 62 6, false) ∧ lk (tb_X10_traps) 62 = (x_cS 1 P_X10_ones 65, false) ∧ lk (tb_X10_traps) 65 = (x_il 66 1, false) ∧ lk (tb_X10_traps) 66 = (x_icn 103 69 (fun x y : Int32 => x = y), false) ∧ lk (tb_X10_traps) 69 = (x_al 70 0, false) ∧ lk (tb_X10_traps) 70 = (x_al 71 0, false) ∧ lk (tb_X10_traps) 71 = (x_gR 10 4 74, false) ∧ lk (tb_X10_traps) 74 = (x_il 76 6, false) ∧ lk (tb_X10_traps) 76 = (x_cV 10 2 P_X10_openBy 79, false) ∧ lk (tb_X10_traps) 79 = (x_cS 1 P_X10_ones 82, false) ∧ lk (tb_X10_traps) 82 = (x_il 83 2, false) ∧ lk (tb_X10_traps) 83 = (x_icn 103 86 (fun x y : Int32 => x = y), false) ∧ lk (tb_X10_traps) 86 = (x_il 88 4, false) ∧ lk (tb_X10_traps) 88 = (x_ifn 96 91 (fun x : Int32 => x = 0), false) ∧ lk (tb_X10_traps) 91 = (x_il 93 6, false) ∧ lk (tb_X10_traps) 93 = (x_go 98, false) ∧ lk (tb_X10_traps) 96 = (x_il 98 5, false) ∧ lk (tb_X10_traps) 98 = (x_is 100 5, false) ∧ lk (tb_X10_traps) 100 = (x_inc 103 4 1, false) ∧ lk (tb_X10_traps) 103 = (x_inc 106 6 1, false) ∧ lk (tb_X10_traps) 106 = (x_go 49, false) ∧ lk (tb_X10_traps) 109 = (x_il 110 3, false) ∧ lk (tb_X10_traps) 110 = (x_ifn 118 113 (fun x : Int32 => x = 0), false) ∧ lk (tb_X10_traps) 113 = (x_il 115 4, false) ∧ lk (tb_X10_traps) 115 = (x_go 120, false) ∧ lk (tb_X10_traps) 118 = (x_il 120 5, false) ∧ lk (tb_X10_traps) 120 = (x_rI, false) := ⟨rfl, rfl, rfl, rfl, rfl, rfl, rfl, rfl, rfl, rfl, rfl, rfl, rfl, rfl, rfl, rfl, rfl, rfl, rfl, rfl, rfl, rfl, rfl, rfl, rfl, rfl, rfl, rfl, rfl, rfl, rfl, rfl, rfl, rfl, rfl, rfl, rfl, rfl, rfl, rfl, rfl, rfl, rfl, rfl, rfl, rfl, rfl, rfl, rfl, rfl, rfl, rfl, rfl, rfl, rfl, rfl, rfl, rfl, rfl, rfl, rfl⟩
def P_X10_traps : PTT := fun as M R => match as with
  | [.ref k, .int x, .int y, .int w] => k = 108 ∧ ∃ g, MR M.1 M.2.1 M.2.2 g ∧ GOk g ∧ Anm M R (gTraps g x y w) g
  | _ => False
set_option maxRecDepth 20000 in
theorem ok_X10_traps : Ok yX10_traps mt_X10_traps P_X10_traps := by
  refine Ok.of (by decide) rfl rfl rfl rfl fun av ⟨S, I, L⟩ R hP => ?_
  unfold P_X10_traps at hP
  split at hP
  case h_2 => exact hP.elim
  rename_i k x y w
  obtain ⟨k, rfl⟩ : ∃ q : Nat, q = k := ⟨k, rfl⟩
  refine ⟨by simp [ent, wide, mt_X10_traps], ?_⟩
  show J mt_X10_traps R 0 [some (.ref k), some (.int x), some (.int y), some (.int w), none, none, none] [] (S, I, L)
  try dsimp only at hP
  obtain ⟨rfl, g, hc, ho, hA⟩ := hP
  obtain ⟨h1, h2, h3, h4, h5, h6, h7, h8, h9⟩ := id hc
  have hm := ho.2.1.1
  have hp := pow9 hm.2.1
  have i1 : (¬ x.toInt64 < (1 : Int64) ∧ ¬ (nI (aN (gA g))).toInt64 < x.toInt64) ↔ (¬ x < 1 ∧ ¬ nI (aN (gA g)) < x) := and_congr (loL (by decide)) (not_congr i2l_lt)
  have i2 : (¬ y.toInt64 < (0 : Int64) ∧ ¬ (6 : Int64) < y.toInt64) ↔ (¬ y < 0 ∧ y ≤ 6) := and_congr i2l_0 (inL (by decide))
  have i3 : (¬ w.toInt64 < (0 : Int64) ∧ ¬ (1 : Int64) < w.toInt64) ↔ (w = 0 ∨ w = 1) := (and_congr i2l_0 ((inL (b := 1) (by decide)).trans le1)).trans w01
  have hfin : ∀ v, gTraps g x y w = v → R (some (.int v)) (S, I, L) := fun v hv => (hv ▸ hA).s hc
  refine J.of tk_X10_traps 200 fun ρ hρ => ?_
  simp only [hρ, x_c, x_il, x_ll, x_al, x_is, x_as, x_ls, x_inc, x_ii, x_iq, x_i1, x_l2, x_lq, x_lh, x_i2l, x_l2i, x_lcmp, x_dup, x_dup2, x_pop, x_if, x_ifn, x_ic, x_icn, x_go, x_sw, swc, x_l01, x_mx, x_gI, x_gL, x_gR, x_pI, x_pZ, x_pL, x_pR, x_ia, x_za, x_aa, x_ias, x_zas, x_aas, x_fac, x_fa, x_slen, x_sa, x_ac, x_oi, x_new, x_na, x_cS, x_cV, x_cI, x_rI, x_rZ, x_rL, x_r0, pa, short, oc, lg, lset, lset2, wide, cond_true, cond_false, true_and, and_true, ↓reduceIte, Bool.false_eq_true, true_or, or_true, lf_X10_traps, h1.f, h3.1, P_X10_in, i1, i2, i3, bI_0, Classical.not_not]
  refine ⟨fun h => hfin _ (by rw [gTraps, if_pos (.inl (Classical.byContradiction fun q => h ⟨fun r => q (.inl r), fun r => q (.inr r)⟩))]), fun h => ⟨fun h' => hfin _ (by rw [gTraps, if_pos (.inr (Classical.byContradiction fun q => h' ⟨fun r => q (.inl r), Classical.byContradiction fun r => q (.inr r)⟩))]), fun h' => ?_⟩⟩
  have hno : ¬ ((x < 1 ∨ nI (aN (gA g)) < x) ∨ y < 0 ∨ ¬ y ≤ 6) := fun q => q.elim (fun q => q.elim h.1 h.2) (fun q => q.elim h'.1 (fun r => r h'.2))
  refine ⟨fun hw => ?_, fun hw => hfin _ (by rw [gTraps, if_neg hno, if_neg (fun q => hw (.inl q)), if_neg (fun q => hw (.inr q))])⟩
  have ho1 := one_le (aN (gA g))
  refine up (P := fun s => 1 ≤ s → J mt_X10_traps R 49 [some (.ref 108), some (.int x), some (.int y), some (.int w), some (.int (nI (cnB (tpB (aV (gA g)) (aM (gA g)) x y) s))), some (.int (lsB (tpB (aV (gA g)) (aM (gA g)) x y) s)), some (.int (nI s))] [] (S, I, L)) (n := 2 ^ aN (gA g)) (fun s hs ih hs1 => ?_) 1 ho1 (Nat.le_refl 1)
  by_cases hlt : s < 2 ^ aN (gA g)
  · have et : tn (nI s) = s := tn_nI (by omega)
    have hob := opB_lt (ov := aV (gA g)) (w := s) hm.2.2
    have eo : tn (nI (opB (aV (gA g)) (aM (gA g)) s)) = opB (aV (gA g)) (aM (gA g)) s := tn_nI (by omega)
    have hcn := cnB_le (tpB (aV (gA g)) (aM (gA g)) x y) s
    have hnx : ∀ u v, cnB (tpB (aV (gA g)) (aM (gA g)) x y) (s + 1) = u → lsB (tpB (aV (gA g)) (aM (gA g)) x y) (s + 1) = v → J mt_X10_traps R 49 [some (.ref 108), some (.int x), some (.int y), some (.int w), some (.int (nI u)), some (.int v), some (.int (nI (s + 1)))] [] (S, I, L) := fun u v q1 q2 => by rw [← q1, ← q2]; exact ih hlt (by omega)
    have hno : ¬ tpB (aV (gA g)) (aM (gA g)) x y s = true → J mt_X10_traps R 49 [some (.ref 108), some (.int x), some (.int y), some (.int w), some (.int (nI (cnB (tpB (aV (gA g)) (aM (gA g)) x y) s))), some (.int (lsB (tpB (aV (gA g)) (aM (gA g)) x y) s)), some (.int (nI (s + 1)))] [] (S, I, L) := fun q => hnx _ _ (by rw [cnB, if_neg (fun z => q z.2)]; rfl) (by rw [lsB, if_neg (fun z => q z.2.1)])
    refine J.of tk_X10_traps 200 fun ρ hρ => ?_
    simp only [hρ, x_c, x_il, x_ll, x_al, x_is, x_as, x_ls, x_inc, x_ii, x_iq, x_i1, x_l2, x_lq, x_lh, x_i2l, x_l2i, x_lcmp, x_dup, x_dup2, x_pop, x_if, x_ifn, x_ic, x_icn, x_go, x_sw, swc, x_l01, x_mx, x_gI, x_gL, x_gR, x_pI, x_pZ, x_pL, x_pR, x_ia, x_za, x_aa, x_ias, x_zas, x_aas, x_fac, x_fa, x_slen, x_sa, x_ac, x_oi, x_new, x_na, x_cS, x_cV, x_cI, x_rI, x_rZ, x_rL, x_r0, pa, short, oc, lg, lset, lset2, wide, cond_true, cond_false, true_and, and_true, ↓reduceIte, Bool.false_eq_true, true_or, or_true, lf_X10_traps, h1.f, h3.1, shl1 (show aN (gA g) < 31 by omega), nI_leI (show 2 ^ aN (gA g) < 2 ^ 31 by omega) (show s < 2 ^ 31 by omega), P_X10_ones, P_X10_openBy, et, eo, eq_true (show s < 512 by omega), eq_true (show opB (aV (gA g)) (aM (gA g)) s < 512 by omega), nI_z (show cnB (tpB (aV (gA g)) (aM (gA g)) x y) s < 2 ^ 31 by omega), nI_1, Classical.not_not]
    refine ⟨fun h => absurd h (by omega), fun _ => ⟨fun q => hno (by simp [tpB, q]), fun q => ⟨gA g, hc.ms ho, ?_⟩⟩⟩
    rw [eo]
    refine ⟨by omega, fun q2 => hno (by simp [tpB, q2]), fun q2 => ?_⟩
    have ht : tpB (aV (gA g)) (aM (gA g)) x y s = true := by simp [tpB, q, q2]
    exact ⟨fun q3 => hnx _ _ (by rw [cnB, if_pos ⟨by omega, ht⟩]) (by rw [lsB, if_neg (fun z => q3 z.2.2)]), fun q3 => hnx _ _ (by rw [cnB, if_pos ⟨by omega, ht⟩]) (by rw [lsB, if_pos ⟨by omega, ht, q3⟩])⟩
  · have : s = 2 ^ aN (gA g) := by omega
    subst this
    refine J.of tk_X10_traps 200 fun ρ hρ => ?_
    simp only [hρ, x_c, x_il, x_ll, x_al, x_is, x_as, x_ls, x_inc, x_ii, x_iq, x_i1, x_l2, x_lq, x_lh, x_i2l, x_l2i, x_lcmp, x_dup, x_dup2, x_pop, x_if, x_ifn, x_ic, x_icn, x_go, x_sw, swc, x_l01, x_mx, x_gI, x_gL, x_gR, x_pI, x_pZ, x_pL, x_pR, x_ia, x_za, x_aa, x_ias, x_zas, x_aas, x_fac, x_fa, x_slen, x_sa, x_ac, x_oi, x_new, x_na, x_cS, x_cV, x_cI, x_rI, x_rZ, x_rL, x_r0, pa, short, oc, lg, lset, lset2, wide, cond_true, cond_false, true_and, and_true, ↓reduceIte, Bool.false_eq_true, true_or, or_true, lf_X10_traps, h1.f, h3.1, shl1 (show aN (gA g) < 31 by omega), nI_leI (show 2 ^ aN (gA g) < 2 ^ 31 by omega) (show 2 ^ aN (gA g) < 2 ^ 31 by omega), Nat.le_refl, true_implies, not_true_eq_false, false_implies]
    exact ⟨fun q => hfin _ (by rw [gTraps, if_neg hno, if_neg q, if_pos (hw.resolve_left q)]), fun q => hfin _ (by rw [gTraps, if_neg hno, if_pos q])⟩
def il_X10_distance : List (Nat × Instr × Nat) := [(0, .bipush 99, 2), (2, .istore_n 1, 1), (3, .iconst 1, 1), (4, .istore_n 2, 1), (5, .iload_n 2, 1), (6, .iconst 1, 1), (7, .aload_n 0, 1), (8, .getfield 53, 3), (11, .ishl, 1), (12, .if_icmp .ge 34, 3), (15, .aload_n 0, 1), (16, .aload_n 0, 1), (17, .getfield 13, 3), (20, .iload_n 2, 1), (21, .invokevirtual 122, 3), (24, .ifCond .ne 16, 3), (27, .iload_n 2, 1), (28, .invokestatic 114, 3), (31, .iload_n 1, 1), (32, .if_icmp .ge 8, 3), (35, .iload_n 2, 1), (36, .invokestatic 114, 3), (39, .istore_n 1, 1), (40, .iinc 2 1, 3), (43, .goto (-38), 3), (46, .iload_n 1, 1), (47, .bipush 99, 2), (49, .if_icmp .ge 7, 3), (52, .iload_n 1, 1), (53, .goto 5, 3), (56, .bipush (-9), 2), (58, .ireturn, 1)]
def mt_X10_distance : Mt := (cX10_distance, RX10, 3, (some .int), ({ frames := 2, cells := 0, slots := 0, locals := 46 } : Room), false, none, none)
set_option maxRecDepth 100000 in
theorem dl_X10_distance : ∀ q ∈ il_X10_distance, decode (mt_X10_distance).1 q.1 = .ok q.2 := by decide +kernel
def tb_X10_distance : Tb := [(0, x_c 2 (.int 99), false),
  (2, x_is 3 1, false),
  (3, x_c 4 (.int 1), false),
  (4, x_is 5 2, false),
  (5, x_il 6 2, true),
  (6, x_c 7 (.int 1), false),
  (7, x_al 8 0, false),
  (8, x_gI 10 2 11, false),
  (11, x_ii 12 (fun x y : Int32 => x <<< (y &&& 31)), false),
  (12, x_ic 46 15 (fun x y : Int32 => y ≤ x), false),
  (15, x_al 16 0, false),
  (16, x_al 17 0, false),
  (17, x_gR 10 4 20, false),
  (20, x_il 21 2, false),
  (21, x_cV 10 2 P_X10_openBy 24, false),
  (24, x_ifn 40 27 (fun x : Int32 => x = 0), false),
  (27, x_il 28 2, false),
  (28, x_cS 1 P_X10_ones 31, false),
  (31, x_il 32 1, false),
  (32, x_ic 40 35 (fun x y : Int32 => y ≤ x), false),
  (35, x_il 36 2, false),
  (36, x_cS 1 P_X10_ones 39, false),
  (39, x_is 40 1, false),
  (40, x_inc 43 2 1, false),
  (43, x_go 5, false),
  (46, x_il 47 1, false),
  (47, x_c 49 (.int 99), false),
  (49, x_ic 56 52 (fun x y : Int32 => y ≤ x), false),
  (52, x_il 53 1, false),
  (53, x_go 58, false),
  (56, x_c 58 (.int (-9)), false),
  (58, x_rI, false)]
set_option maxRecDepth 100000 in
theorem tk_X10_distance : TbOk (mt_X10_distance) (tb_X10_distance) :=
  tkc (s_bipush (at_ dl_X10_distance 0 (ins := .bipush 99) rfl) (by first | rfl | decide)) (
  tkc (s_istore_n (at_ dl_X10_distance 1 (ins := .istore_n 1) rfl) (by decide)) (
  tkc (s_iconst (at_ dl_X10_distance 2 (ins := .iconst 1) rfl) (by first | rfl | decide)) (
  tkc (s_istore_n (at_ dl_X10_distance 3 (ins := .istore_n 2) rfl) (by decide)) (
  tkc (s_iload_n (at_ dl_X10_distance 4 (ins := .iload_n 2) rfl)) (
  tkc (s_iconst (at_ dl_X10_distance 5 (ins := .iconst 1) rfl) (by first | rfl | decide)) (
  tkc (s_aload_n (at_ dl_X10_distance 6 (ins := .aload_n 0) rfl)) (
  tkc (s_gI (at_ dl_X10_distance 7 (ins := .getfield 53) rfl) (by decide) (by decide) (by decide) (tg 698 (by decide +kernel) (by decide +kernel))) (
  tkc (s_ishl (at_ dl_X10_distance 8 (ins := .ishl) rfl)) (
  tkc (s_ic_ge (at_ dl_X10_distance 9 (ins := .if_icmp .ge 34) rfl) (by decide)) (
  tkc (s_aload_n (at_ dl_X10_distance 10 (ins := .aload_n 0) rfl)) (
  tkc (s_aload_n (at_ dl_X10_distance 11 (ins := .aload_n 0) rfl)) (
  tkc (s_gR (at_ dl_X10_distance 12 (ins := .getfield 13) rfl) (by decide) (by decide) (by decide) (tg 700 (by decide +kernel) (by decide +kernel))) (
  tkc (s_iload_n (at_ dl_X10_distance 13 (ins := .iload_n 2) rfl)) (
  tkc (s_cV ok_X10_openBy (at_ dl_X10_distance 14 (ins := .invokevirtual 122) rfl) (by decide) rfl (tg 817 (by decide +kernel) (by decide +kernel)) (tg 819 (by decide +kernel) (by decide +kernel)) (tg 23 (by decide +kernel) (by decide +kernel)) (tg 51 (by decide +kernel) (by decide +kernel)) (tg 820 (by decide +kernel) (by decide +kernel)) (⟨by decide, by decide, by decide +kernel⟩) (⟨by decide, by decide⟩) rfl rfl) (
  tkc (s_if_ne (at_ dl_X10_distance 15 (ins := .ifCond .ne 16) rfl) (by decide)) (
  tkc (s_iload_n (at_ dl_X10_distance 16 (ins := .iload_n 2) rfl)) (
  tkc (s_cS ok_X10_ones (at_ dl_X10_distance 17 (ins := .invokestatic 114) rfl) (tg 821 (by decide +kernel) (by decide +kernel)) (tg 822 (by decide +kernel) (by decide +kernel)) (tg 51 (by decide +kernel) (by decide +kernel)) (tg 823 (by decide +kernel) (by decide +kernel)) (⟨by decide, by decide, by decide +kernel⟩) (⟨by decide, by decide⟩) rfl rfl) (
  tkc (s_iload_n (at_ dl_X10_distance 18 (ins := .iload_n 1) rfl)) (
  tkc (s_ic_ge (at_ dl_X10_distance 19 (ins := .if_icmp .ge 8) rfl) (by decide)) (
  tkc (s_iload_n (at_ dl_X10_distance 20 (ins := .iload_n 2) rfl)) (
  tkc (s_cS ok_X10_ones (at_ dl_X10_distance 21 (ins := .invokestatic 114) rfl) (tg 821 (by decide +kernel) (by decide +kernel)) (tg 822 (by decide +kernel) (by decide +kernel)) (tg 51 (by decide +kernel) (by decide +kernel)) (tg 823 (by decide +kernel) (by decide +kernel)) (⟨by decide, by decide, by decide +kernel⟩) (⟨by decide, by decide⟩) rfl rfl) (
  tkc (s_istore_n (at_ dl_X10_distance 22 (ins := .istore_n 1) rfl) (by decide)) (
  tkc (s_iinc (at_ dl_X10_distance 23 (ins := .iinc 2 1) rfl) (by decide) (by first | rfl | decide)) (
  tkc (s_goto (at_ dl_X10_distance 24 (ins := .goto (-38)) rfl) (by decide)) (
  tkc (s_iload_n (at_ dl_X10_distance 25 (ins := .iload_n 1) rfl)) (
  tkc (s_bipush (at_ dl_X10_distance 26 (ins := .bipush 99) rfl) (by first | rfl | decide)) (
  tkc (s_ic_ge (at_ dl_X10_distance 27 (ins := .if_icmp .ge 7) rfl) (by decide)) (
  tkc (s_iload_n (at_ dl_X10_distance 28 (ins := .iload_n 1) rfl)) (
  tkc (s_goto (at_ dl_X10_distance 29 (ins := .goto 5) rfl) (by decide)) (
  tkc (s_bipush (at_ dl_X10_distance 30 (ins := .bipush (-9)) rfl) (by first | rfl | decide)) (
  tkc (s_rI (at_ dl_X10_distance 31 (ins := .ireturn) rfl) rfl) ( tk0))))))))))))))))))))))))))))))))
theorem lf_X10_distance : lk (tb_X10_distance) 0 = (x_c 2 (.int 99), false) ∧ lk (tb_X10_distance) 2 = (x_is 3 1, false) ∧ lk (tb_X10_distance) 3 = (x_c 4 (.int 1), false) ∧ lk (tb_X10_distance) 4 = (x_is 5 2, false) ∧ lk (tb_X10_distance) 5 = (x_il 6 2, true) ∧ lk (tb_X10_distance) 6 = (x_c 7 (.int 1), false) ∧ lk (tb_X10_distance) 7 = (x_al 8 0, false) ∧ lk (tb_X10_distance) 8 = (x_gI 10 2 11, false) ∧ lk (tb_X10_distance) 11 = (x_ii 12 (fun x y : Int32 => x <<< (y &&& 31)), false) ∧ lk (tb_X10_distance) 12 = (x_ic 46 15 (fun x y : Int32 => y ≤ x), false) ∧ lk (tb_X10_distance) 15 = (x_al 16 0, false) ∧ lk (tb_X10_distance) 16 = (x_al 17 0, false) ∧ lk (tb_X10_distance) 17 = (x_gR 10 4 20, false) ∧ lk (tb_X10_distance) 20 = (x_il 21 2, false) ∧ lk (tb_X10_distance) 21 = (x_cV 10 2 P_X10_openBy 24, false) ∧ lk (tb_X10_distance) 24 = (x_ifn 40 27 (fun x : Int32 => x = 0), false) ∧ lk (tb_X10_distance) 27 = (x_il 28 2, false) ∧ lk (tb_X10_distance) 28 = (x_cS 1 P_X10_ones 31, false) ∧ lk (tb_X10_distance) 31 = (x_il 32 1, false) ∧ lk (tb_X10_distance) 32 = (x_ic 40 35 (fun x y : Int32 => y ≤ x), false) ∧ lk (tb_X10_distance) 35 = (x_il 36 2, false) ∧ lk (tb_X10_distance) 36 = (x_cS 1 P_X10_ones 39, false) ∧ lk (tb_X10_distance) 39 = (x_is 40 1, false) ∧ lk (tb_X10_distance) 40 = (x_inc 43 2 1, false) ∧ lk (tb_X10_distance) 43 = (x_go 5, false) ∧ lk (tb_X10_distance) 46 = (x_il 47 1, false) ∧ lk (tb_X10_distance) 47 = (x_c 49 (.int 99), false) ∧ lk (tb_X10_distance) 49 = (x_ic 56 52 (fun x y : Int32 => y ≤ x), false) ∧ lk (tb_X10_distance) 52 = (x_il 53 1, false) ∧ lk (tb_X10_distance) 53 = (x_go 58, false) ∧ lk (tb_X10_distance) 56 = (x_c 58 (.int (-9)), false) ∧ lk (tb_X10_distance) 58 = (x_rI, false) := ⟨rfl, rfl, rfl, rfl, rfl, rfl, rfl, rfl, rfl, rfl, rfl, rfl, rfl, rfl, rfl, rfl, rfl, rfl, rfl, rfl, rfl, rfl, rfl, rfl, rfl, rfl, rfl, rfl, rfl, rfl, rfl, rfl⟩
def P_X10_distance : PTT := fun as M R => match as with
  | [.ref k] => k = 108 ∧ IsMo M.1 ∧ ∃ a, MS M.1 M.2.1 110 a ∧ R (some (.int (nn (dsF (aV a) (aM a) (2 ^ aN a))))) M
  | _ => False
set_option maxRecDepth 20000 in
theorem ok_X10_distance : Ok yX10_distance mt_X10_distance P_X10_distance := by
  refine Ok.of (by decide) rfl rfl rfl rfl fun av ⟨S, I, L⟩ R hP => ?_
  unfold P_X10_distance at hP
  split at hP
  case h_2 => exact hP.elim
  rename_i k
  obtain ⟨k, rfl⟩ : ∃ q : Nat, q = k := ⟨k, rfl⟩
  refine ⟨by simp [ent, wide, mt_X10_distance], ?_⟩
  show J mt_X10_distance R 0 [some (.ref k), none, none] [] (S, I, L)
  try dsimp only at hP
  obtain ⟨rfl, h1, a, hms, hR⟩ := hP
  obtain ⟨m1, m2, ha, en, em⟩ := id hms
  have hm := ha.1
  have hp := pow9 hm.2.1
  have key := up (P := fun s => 1 ≤ s → J mt_X10_distance R 5 [some (.ref 108), some (.int (nI (dsF (aV a) (aM a) s))), some (.int (nI s))] [] (S, I, L)) (n := 2 ^ aN a) (fun s hs ih hs1 => ?_) 1 (one_le _) (Nat.le_refl 1)
  · refine J.of tk_X10_distance 200 fun ρ hρ => ?_
    simp only [hρ, x_c, x_il, x_ll, x_al, x_is, x_as, x_ls, x_inc, x_ii, x_iq, x_i1, x_l2, x_lq, x_lh, x_i2l, x_l2i, x_lcmp, x_dup, x_dup2, x_pop, x_if, x_ifn, x_ic, x_icn, x_go, x_sw, swc, x_l01, x_mx, x_gI, x_gL, x_gR, x_pI, x_pZ, x_pL, x_pR, x_ia, x_za, x_aa, x_ias, x_zas, x_aas, x_fac, x_fa, x_slen, x_sa, x_ac, x_oi, x_new, x_na, x_cS, x_cV, x_cI, x_rI, x_rZ, x_rL, x_r0, pa, short, oc, lg, lset, lset2, wide, cond_true, cond_false, true_and, and_true, ↓reduceIte, Bool.false_eq_true, true_or, or_true, lf_X10_distance]
    exact key
  by_cases hlt : s < 2 ^ aN a
  · have et : tn (nI s) = s := tn_nI (by omega)
    have hob := opB_lt (ov := aV a) (w := s) hm.2.2
    have hd := dsF_le (aV a) (aM a) s
    have hs9 := ones9_le s
    have hnx : ∀ u, dsF (aV a) (aM a) (s + 1) = u → J mt_X10_distance R 5 [some (.ref 108), some (.int (nI u)), some (.int (nI (s + 1)))] [] (S, I, L) := fun u q => by rw [← q]; exact ih hlt (by omega)
    refine J.of tk_X10_distance 200 fun ρ hρ => ?_
    simp only [hρ, x_c, x_il, x_ll, x_al, x_is, x_as, x_ls, x_inc, x_ii, x_iq, x_i1, x_l2, x_lq, x_lh, x_i2l, x_l2i, x_lcmp, x_dup, x_dup2, x_pop, x_if, x_ifn, x_ic, x_icn, x_go, x_sw, swc, x_l01, x_mx, x_gI, x_gL, x_gR, x_pI, x_pZ, x_pL, x_pR, x_ia, x_za, x_aa, x_ias, x_zas, x_aas, x_fac, x_fa, x_slen, x_sa, x_ac, x_oi, x_new, x_na, x_cS, x_cV, x_cI, x_rI, x_rZ, x_rL, x_r0, pa, short, oc, lg, lset, lset2, wide, cond_true, cond_false, true_and, and_true, ↓reduceIte, Bool.false_eq_true, true_or, or_true, lf_X10_distance, h1.f, en, shl1 (show aN a < 31 by omega), nI_leI (show 2 ^ aN a < 2 ^ 31 by omega) (show s < 2 ^ 31 by omega), P_X10_ones, P_X10_openBy, et, eq_true (show s < 512 by omega), nI_leI (show dsF (aV a) (aM a) s < 2 ^ 31 by omega) (show ones9 s < 2 ^ 31 by omega), nI_1, Classical.not_not]
    refine ⟨fun h => absurd h (by omega), fun _ => ⟨a, hms, ?_⟩⟩
    rw [nI_z (by omega)]
    exact ⟨fun q => hnx _ (by rw [dsF, if_neg (fun z => q z.2.1)]), fun q => ⟨fun q2 => hnx _ (by rw [dsF, if_neg (fun z => by omega)]), fun q2 => hnx _ (by rw [dsF, if_pos ⟨by omega, q, by omega⟩])⟩⟩
  · have : s = 2 ^ aN a := by omega
    subst this
    have hd := dsF_le (aV a) (aM a) (2 ^ aN a)
    refine J.of tk_X10_distance 200 fun ρ hρ => ?_
    simp only [hρ, x_c, x_il, x_ll, x_al, x_is, x_as, x_ls, x_inc, x_ii, x_iq, x_i1, x_l2, x_lq, x_lh, x_i2l, x_l2i, x_lcmp, x_dup, x_dup2, x_pop, x_if, x_ifn, x_ic, x_icn, x_go, x_sw, swc, x_l01, x_mx, x_gI, x_gL, x_gR, x_pI, x_pZ, x_pL, x_pR, x_ia, x_za, x_aa, x_ias, x_zas, x_aas, x_fac, x_fa, x_slen, x_sa, x_ac, x_oi, x_new, x_na, x_cS, x_cV, x_cI, x_rI, x_rZ, x_rL, x_r0, pa, short, oc, lg, lset, lset2, wide, cond_true, cond_false, true_and, and_true, ↓reduceIte, Bool.false_eq_true, true_or, or_true, lf_X10_distance, h1.f, en, shl1 (show aN a < 31 by omega), nI_leI (show 2 ^ aN a < 2 ^ 31 by omega) (show 2 ^ aN a < 2 ^ 31 by omega), Nat.le_refl, true_implies, not_true_eq_false, false_implies, show (99 : Int32) = nI 99 by decide, nI_leI (show 99 < 2 ^ 31 by omega) (show dsF (aV a) (aM a) (2 ^ aN a) < 2 ^ 31 by omega)]
    refine ⟨fun q => ?_, fun q => ?_⟩
    · rwa [nn, if_pos (by omega)] at hR
    · rwa [nn, if_neg (by omega)] at hR
