/-! SEEN of the model -/
theorem inL {x : Int32} {a : Int64} {b : Int32} (h : a.toInt = b.toInt) : ¬ a < x.toInt64 ↔ x ≤ b := by
  rw [Int64.lt_iff_toInt_lt, Int32.le_iff_toInt_le, Int32.toInt_toInt64, h]
  omega
def il_X10_see : List (Nat × Instr × Nat) := [(0, .iload_n 1, 1), (1, .i2l, 1), (2, .lconst 0, 1), (3, .ldc2_w 210, 3), (6, .invokestatic 60, 3), (9, .ifCond .eq 15, 3), (12, .iload_n 2, 1), (13, .i2l, 1), (14, .lconst 0, 1), (15, .ldc2_w 212, 3), (18, .invokestatic 60, 3), (21, .ifCond .ne 6, 3), (24, .bipush (-2), 2), (26, .ireturn, 1), (27, .aload_n 0, 1), (28, .getfield 165, 3), (31, .bipush 6, 2), (33, .if_icmp .ne 6, 3), (36, .bipush (-4), 2), (38, .ireturn, 1), (39, .aload_n 0, 1), (40, .getfield 29, 3), (43, .aload_n 0, 1), (44, .getfield 165, 3), (47, .iload_n 1, 1), (48, .iastore, 1), (49, .aload_n 0, 1), (50, .getfield 32, 3), (53, .aload_n 0, 1), (54, .getfield 165, 3), (57, .iload_n 2, 1), (58, .iastore, 1), (59, .aload_n 0, 1), (60, .dup, 1), (61, .getfield 165, 3), (64, .iconst 1, 1), (65, .iadd, 1), (66, .putfield 165, 3), (69, .aload_n 0, 1), (70, .getfield 165, 3), (73, .ireturn, 1)]
def mt_X10_see : Mt := (cX10_see, RX10, 3, (some .int), ({ frames := 1, cells := 0, slots := 0, locals := 25 } : Room), false, none, none)
set_option maxRecDepth 100000 in
theorem dl_X10_see : ∀ q ∈ il_X10_see, decode (mt_X10_see).1 q.1 = .ok q.2 := by decide +kernel
def tb_X10_see : Tb := [(0, x_il 1 1, false),
  (1, x_i2l 2, false),
  (2, x_c 3 (.long 0), false),
  (3, x_c 6 (.long 20), false),
  (6, x_cS 3 P_X10_in 9, false),
  (9, x_if 24 12 (fun x : Int32 => x = 0), false),
  (12, x_il 13 2, false),
  (13, x_i2l 14, false),
  (14, x_c 15 (.long 0), false),
  (15, x_c 18 (.long 63), false),
  (18, x_cS 3 P_X10_in 21, false),
  (21, x_ifn 27 24 (fun x : Int32 => x = 0), false),
  (24, x_c 26 (.int (-2)), false),
  (26, x_rI, false),
  (27, x_al 28 0, false),
  (28, x_gI 10 13 31, false),
  (31, x_c 33 (.int 6), false),
  (33, x_icn 39 36 (fun x y : Int32 => x = y), false),
  (36, x_c 38 (.int (-4)), false),
  (38, x_rI, false),
  (39, x_al 40 0, false),
  (40, x_gR 10 11 43, false),
  (43, x_al 44 0, false),
  (44, x_gI 10 13 47, false),
  (47, x_il 48 1, false),
  (48, x_ias 49, false),
  (49, x_al 50 0, false),
  (50, x_gR 10 12 53, false),
  (53, x_al 54 0, false),
  (54, x_gI 10 13 57, false),
  (57, x_il 58 2, false),
  (58, x_ias 59, false),
  (59, x_al 60 0, false),
  (60, x_dup 61, false),
  (61, x_gI 10 13 64, false),
  (64, x_c 65 (.int 1), false),
  (65, x_ii 66 (fun x y : Int32 => x + y), false),
  (66, x_pI 10 13 69, false),
  (69, x_al 70 0, false),
  (70, x_gI 10 13 73, false),
  (73, x_rI, false)]
set_option maxRecDepth 100000 in
theorem tk_X10_see : TbOk (mt_X10_see) (tb_X10_see) :=
  tkc (s_iload_n (at_ dl_X10_see 0 (ins := .iload_n 1) rfl)) (
  tkc (s_i2l (at_ dl_X10_see 1 (ins := .i2l) rfl)) (
  tkc (s_lconst (at_ dl_X10_see 2 (ins := .lconst 0) rfl) (by first | rfl | decide)) (
  tkc (s_ldc2 (at_ dl_X10_see 3 (ins := .ldc2_w 210) rfl) (tg 968 (by decide +kernel) (by decide +kernel))) (
  tkc (s_cS ok_X10_in (at_ dl_X10_see 4 (ins := .invokestatic 60) rfl) (tg 780 (by decide +kernel) (by decide +kernel)) (tg 781 (by decide +kernel) (by decide +kernel)) (tg 51 (by decide +kernel) (by decide +kernel)) (tg 782 (by decide +kernel) (by decide +kernel)) (⟨by decide, by decide, by decide +kernel⟩) (⟨by decide, by decide⟩) rfl rfl) (
  tkc (s_if_eq (at_ dl_X10_see 5 (ins := .ifCond .eq 15) rfl) (by decide)) (
  tkc (s_iload_n (at_ dl_X10_see 6 (ins := .iload_n 2) rfl)) (
  tkc (s_i2l (at_ dl_X10_see 7 (ins := .i2l) rfl)) (
  tkc (s_lconst (at_ dl_X10_see 8 (ins := .lconst 0) rfl) (by first | rfl | decide)) (
  tkc (s_ldc2 (at_ dl_X10_see 9 (ins := .ldc2_w 212) rfl) (tg 969 (by decide +kernel) (by decide +kernel))) (
  tkc (s_cS ok_X10_in (at_ dl_X10_see 10 (ins := .invokestatic 60) rfl) (tg 780 (by decide +kernel) (by decide +kernel)) (tg 781 (by decide +kernel) (by decide +kernel)) (tg 51 (by decide +kernel) (by decide +kernel)) (tg 782 (by decide +kernel) (by decide +kernel)) (⟨by decide, by decide, by decide +kernel⟩) (⟨by decide, by decide⟩) rfl rfl) (
  tkc (s_if_ne (at_ dl_X10_see 11 (ins := .ifCond .ne 6) rfl) (by decide)) (
  tkc (s_bipush (at_ dl_X10_see 12 (ins := .bipush (-2)) rfl) (by first | rfl | decide)) (
  tkc (s_rI (at_ dl_X10_see 13 (ins := .ireturn) rfl) rfl) (
  tkc (s_aload_n (at_ dl_X10_see 14 (ins := .aload_n 0) rfl)) (
  tkc (s_gI (at_ dl_X10_see 15 (ins := .getfield 165) rfl) (by decide) (by decide) (by decide) (tg 709 (by decide +kernel) (by decide +kernel))) (
  tkc (s_bipush (at_ dl_X10_see 16 (ins := .bipush 6) rfl) (by first | rfl | decide)) (
  tkc (s_ic_ne (at_ dl_X10_see 17 (ins := .if_icmp .ne 6) rfl) (by decide)) (
  tkc (s_bipush (at_ dl_X10_see 18 (ins := .bipush (-4)) rfl) (by first | rfl | decide)) (
  tkc (s_rI (at_ dl_X10_see 19 (ins := .ireturn) rfl) rfl) (
  tkc (s_aload_n (at_ dl_X10_see 20 (ins := .aload_n 0) rfl)) (
  tkc (s_gR (at_ dl_X10_see 21 (ins := .getfield 29) rfl) (by decide) (by decide) (by decide) (tg 707 (by decide +kernel) (by decide +kernel))) (
  tkc (s_aload_n (at_ dl_X10_see 22 (ins := .aload_n 0) rfl)) (
  tkc (s_gI (at_ dl_X10_see 23 (ins := .getfield 165) rfl) (by decide) (by decide) (by decide) (tg 709 (by decide +kernel) (by decide +kernel))) (
  tkc (s_iload_n (at_ dl_X10_see 24 (ins := .iload_n 1) rfl)) (
  tkc (s_ias (at_ dl_X10_see 25 (ins := .iastore) rfl)) (
  tkc (s_aload_n (at_ dl_X10_see 26 (ins := .aload_n 0) rfl)) (
  tkc (s_gR (at_ dl_X10_see 27 (ins := .getfield 32) rfl) (by decide) (by decide) (by decide) (tg 708 (by decide +kernel) (by decide +kernel))) (
  tkc (s_aload_n (at_ dl_X10_see 28 (ins := .aload_n 0) rfl)) (
  tkc (s_gI (at_ dl_X10_see 29 (ins := .getfield 165) rfl) (by decide) (by decide) (by decide) (tg 709 (by decide +kernel) (by decide +kernel))) (
  tkc (s_iload_n (at_ dl_X10_see 30 (ins := .iload_n 2) rfl)) (
  tkc (s_ias (at_ dl_X10_see 31 (ins := .iastore) rfl)) (
  tkc (s_aload_n (at_ dl_X10_see 32 (ins := .aload_n 0) rfl)) (
  tkc (s_dup (at_ dl_X10_see 33 (ins := .dup) rfl)) (
  tkc (s_gI (at_ dl_X10_see 34 (ins := .getfield 165) rfl) (by decide) (by decide) (by decide) (tg 709 (by decide +kernel) (by decide +kernel))) (
  tkc (s_iconst (at_ dl_X10_see 35 (ins := .iconst 1) rfl) (by first | rfl | decide)) (
  tkc (s_iadd (at_ dl_X10_see 36 (ins := .iadd) rfl)) (
  tkc (s_pI (at_ dl_X10_see 37 (ins := .putfield 165) rfl) (by decide) (by decide) (by decide) (by decide) (tg 709 (by decide +kernel) (by decide +kernel))) (
  tkc (s_aload_n (at_ dl_X10_see 38 (ins := .aload_n 0) rfl)) (
  tkc (s_gI (at_ dl_X10_see 39 (ins := .getfield 165) rfl) (by decide) (by decide) (by decide) (tg 709 (by decide +kernel) (by decide +kernel))) (
  tkc (s_rI (at_ dl_X10_see 40 (ins := .ireturn) rfl) rfl) ( tk0)))))))))))))))))))))))))))))))))))))))))
theorem lf_X10_see : lk (tb_X10_see) 0 = (x_il 1 1, false) ∧ lk (tb_X10_see) 1 = (x_i2l 2, false) ∧ lk (tb_X10_see) 2 = (x_c 3 (.long 0), false) ∧ lk (tb_X10_see) 3 = (x_c 6 (.long 20), false) ∧ lk (tb_X10_see) 6 = (x_cS 3 P_X10_in 9, false) ∧ lk (tb_X10_see) 9 = (x_if 24 12 (fun x : Int32 => x = 0), false) ∧ lk (tb_X10_see) 12 = (x_il 13 2, false) ∧ lk (tb_X10_see) 13 = (x_i2l 14, false) ∧ lk (tb_X10_see) 14 = (x_c 15 (.long 0), false) ∧ lk (tb_X10_see) 15 = (x_c 18 (.long 63), false) ∧ lk (tb_X10_see) 18 = (x_cS 3 P_X10_in 21, false) ∧ lk (tb_X10_see) 21 = (x_ifn 27 24 (fun x : Int32 => x = 0), false) ∧ lk (tb_X10_see) 24 = (x_c 26 (.int (-2)), false) ∧ lk (tb_X10_see) 26 = (x_rI, false) ∧ lk (tb_X10_see) 27 = (x_al 28 0, false) ∧ lk (tb_X10_see) 28 = (x_gI 10 13 31, false) ∧ lk (tb_X10_see) 31 = (x_c 33 (.int 6), false) ∧ lk (tb_X10_see) 33 = (x_icn 39 36 (fun x y : Int32 => x = y), false) ∧ lk (tb_X10_see) 36 = (x_c 38 (.int (-4)), false) ∧ lk (tb_X10_see) 38 = (x_rI, false) ∧ lk (tb_X10_see) 39 = (x_al 40 0, false) ∧ lk (tb_X10_see) 40 = (x_gR 10 11 43, false) ∧ lk (tb_X10_see) 43 = (x_al 44 0, false) ∧ lk (tb_X10_see) 44 = (x_gI 10 13 47, false) ∧ lk (tb_X10_see) 47 = (x_il 48 1, false) ∧ lk (tb_X10_see) 48 = (x_ias 49, false) ∧ lk (tb_X10_see) 49 = (x_al 50 0, false) ∧ lk (tb_X10_see) 50 = (x_gR 10 12 53, false) ∧ lk (tb_X10_see) 53 = (x_al 54 0, false) ∧ lk (tb_X10_see) 54 = (x_gI 10 13 57, false) ∧ lk (tb_X10_see) 57 = (x_il 58 2, false) ∧ lk (tb_X10_see) 58 = (x_ias 59, false) ∧ lk (tb_X10_see) 59 = (x_al 60 0, false) ∧ lk (tb_X10_see) 60 = (x_dup 61, false) ∧ lk (tb_X10_see) 61 = (x_gI 10 13 64, false) ∧ lk (tb_X10_see) 64 = (x_c 65 (.int 1), false) ∧ lk (tb_X10_see) 65 = (x_ii 66 (fun x y : Int32 => x + y), false) ∧ lk (tb_X10_see) 66 = (x_pI 10 13 69, false) ∧ lk (tb_X10_see) 69 = (x_al 70 0, false) ∧ lk (tb_X10_see) 70 = (x_gI 10 13 73, false) ∧ lk (tb_X10_see) 73 = (x_rI, false) := ⟨rfl, rfl, rfl, rfl, rfl, rfl, rfl, rfl, rfl, rfl, rfl, rfl, rfl, rfl, rfl, rfl, rfl, rfl, rfl, rfl, rfl, rfl, rfl, rfl, rfl, rfl, rfl, rfl, rfl, rfl, rfl, rfl, rfl, rfl, rfl, rfl, rfl, rfl, rfl, rfl, rfl⟩
def P_X10_see : PTT := fun as M R => match as with
  | [.ref k, .int n, .int v] => k = 108 ∧ ∃ g, MR M.1 M.2.1 M.2.2 g ∧ GOk g ∧ Anm M R (gSee g n v).1 (gSee g n v).2
  | _ => False
set_option maxRecDepth 20000 in
theorem ok_X10_see : Ok yX10_see mt_X10_see P_X10_see := by
  refine Ok.of (by decide) rfl rfl rfl rfl fun av ⟨S, I, L⟩ R hP => ?_
  unfold P_X10_see at hP
  split at hP
  case h_2 => exact hP.elim
  rename_i k n v
  obtain ⟨k, rfl⟩ : ∃ q : Nat, q = k := ⟨k, rfl⟩
  refine ⟨by simp [ent, wide, mt_X10_see], ?_⟩
  show J mt_X10_see R 0 [some (.ref k), some (.int n), some (.int v)] [] (S, I, L)
  try dsimp only at hP
  obtain ⟨rfl, g, hc, ho, hA⟩ := hP
  obtain ⟨h1, h2, h3, h4, h5, h6, h7, h8, h9⟩ := id hc
  have hl := ho.2.2.2.2.1
  have i1 : (¬ n.toInt64 < (0 : Int64) ∧ ¬ (20 : Int64) < n.toInt64) ↔ (¬ n < 0 ∧ n ≤ 20) := and_congr i2l_0 (inL (by decide))
  have i2 : (¬ v.toInt64 < (0 : Int64) ∧ ¬ (63 : Int64) < v.toInt64) ↔ (¬ v < 0 ∧ v ≤ 63) := and_congr i2l_0 (inL (by decide))
  have e1 : ∀ f, mS I 115 f 108 = I 108 := fun f => mS_n (by omega)
  have e2 : ∀ f h, mS (mS I 115 f) 116 h 108 = I 108 := fun f h => by rw [mS_n (by omega), mS_n (by omega)]
  have e3 : ∀ f, mS I 115 f 116 = I 116 := fun f => mS_n (by omega)
  have hbad : ((n < 0 ∨ 20 < n) ∨ v < 0 ∨ ¬ v ≤ 63) → R (some (.int (-2))) (S, I, L) := fun h => (hA.e (by rw [gSee, if_pos h])).s hc
  refine J.of tk_X10_see 200 fun ρ hρ => ?_
  simp only [hρ, x_c, x_il, x_ll, x_al, x_is, x_as, x_ls, x_inc, x_ii, x_iq, x_i1, x_l2, x_lq, x_lh, x_i2l, x_l2i, x_lcmp, x_dup, x_dup2, x_pop, x_if, x_ifn, x_ic, x_icn, x_go, x_sw, swc, x_l01, x_mx, x_gI, x_gL, x_gR, x_pI, x_pZ, x_pL, x_pR, x_ia, x_za, x_aa, x_ias, x_zas, x_aas, x_fac, x_fa, x_slen, x_sa, x_ac, x_oi, x_new, x_na, x_cS, x_cV, x_cI, x_rI, x_rZ, x_rL, x_r0, pa, short, oc, lg, lset, lset2, wide, cond_true, cond_false, true_and, and_true, ↓reduceIte, Bool.false_eq_true, true_or, or_true, lf_X10_see, h1.f, P_X10_in, h7.1, e1, e2, e3, nI6, nI_eq (show gN g < 2 ^ 31 by omega) (show 6 < 2 ^ 31 by omega), ncl (show gN g < 2 ^ 31 by omega), nI_1, bI_0, i1, i2, Classical.not_not, mS_s, upd_s]
  refine ⟨fun h => hbad ?_, fun h => ⟨fun h' => ?_, fun h' => hbad ?_⟩⟩
  · by_cases q : n < 0
    · exact .inl (.inl q)
    · exact .inl (.inr (Int32.not_le.mp (fun r => h ⟨q, r⟩)))
  · have hno : ¬ ((n < 0 ∨ 20 < n) ∨ v < 0 ∨ ¬ v ≤ 63) := fun q => q.elim (fun q => q.elim h.1 (Int32.not_lt.mpr h.2)) (fun q => q.elim h'.1 (fun r => r h'.2))
    refine ⟨fun h0 => ?_, fun h0 => (hA.e (by rw [gSee, if_neg hno, if_pos h0])).s hc⟩
    have hv : vp_in (nI (gN g)) 6 := vp_in_nI (by omega) (by omega)
    refine ⟨hv, hv, (hA.e (show gSee g n v = (nI (gN g + 1), GE g (gN g + 1) (upd (gB g) (gN g) n) (upd (gO g) (gN g) v)) by rw [gSee, if_neg hno, if_neg h0])) _ L (fun q hq => by rw [mS_n (by omega), mS_n (by omega), mS_n (by omega)]) (fun _ _ => rfl) ⟨h1, h2, h3, h4, h5, h6, ⟨by rw [mS_s, upd_s]; rfl, fun j hj => ?_⟩, h8, h9⟩⟩
    replace hj : j < gN g + 1 := hj
    show upd (I 115) (gN g) n j = upd (gB g) (gN g) n j ∧ upd (I 116) (gN g) v j = upd (gO g) (gN g) v j
    simp only [upd_app]
    split
    · exact ⟨rfl, rfl⟩
    · exact h7.2 j (by omega)
  · by_cases q : v < 0
    · exact .inr (.inl q)
    · exact .inr (.inr (fun r => h' ⟨q, r⟩))
