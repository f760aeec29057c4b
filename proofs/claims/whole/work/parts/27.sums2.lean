/-! SUMS, the rest -/
/-- 99 stands for none -/
def nn (x : Nat) : Int32 := if x = 99 then -9 else nI x
theorem nn_9 {x : Nat} (h : x < 2 ^ 31) : nn x = -9 ↔ x = 99 := by
  unfold nn
  split
  · next h1 => exact ⟨fun _ => h1, fun _ => rfl⟩
  · next h1 =>
    refine ⟨fun h2 => ?_, fun h2 => absurd h2 h1⟩
    have : tn (nI x) = tn (-9) := by rw [h2]
    rw [tn_nI (by omega), show tn (-9) = 4294967287 by decide] at this
    omega
/-- the fewest bits of a word that opens no check, of the sets below s -/
def dsF (ov : Nat → Nat) (m : Nat) : Nat → Nat
  | 0 => 99
  | s + 1 => if s ≠ 0 ∧ opB ov m s = 0 ∧ ones9 s < dsF ov m s then ones9 s else dsF ov m s
theorem dsF_le (ov : Nat → Nat) (m : Nat) : ∀ s, dsF ov m s ≤ 9 ∨ dsF ov m s = 99
  | 0 => .inr rfl
  | s + 1 => by
    simp only [dsF]
    split
    · exact .inl (ones9_le s)
    · exact dsF_le ov m s
theorem lt9 {n s : Nat} (h : n ≤ 9) (hs : s < 2 ^ n) : s < 512 := Nat.lt_of_lt_of_le hs (pow9 h)
/-- what is asked of the checks' sets alone -/
theorem SR.ovq {I : MI} {k : Nat} {a : AS} (h : SR I k a) (ho : AOk a) : ∃ m, m ≤ 6 ∧ I k 5 = nI m ∧ ∀ c, c < m → ovS I k c < 512 := ⟨aM a, ho.1.2.2, h.2.1, fun c hc => by rw [h.ov ho c hc]; exact ho.v hc⟩
theorem SR.opw {I : MI} {k : Nat} {a : AS} (h : SR I k a) (ho : AOk a) (w : Nat) : opB (ovS I k) (tn (I k 5)) w = opB (aV a) (aM a) w := by
  rw [h.2.1, tn_nI (n := aM a) (by have := ho.1; omega)]
  exact opB_congr (h.ov ho)
theorem two_le {n : Nat} (h : n ≤ 9) : (2 : Nat) ^ n < 2 ^ 31 := by have := pow9 h; omega
theorem one_le (n : Nat) : 1 ≤ (2 : Nat) ^ n := Nat.pow_pos (by omega)
def il_X6_distance : List (Nat × Instr × Nat) := [(0, .bipush (-9), 2), (2, .istore_n 1, 1), (3, .iconst 1, 1), (4, .istore_n 2, 1), (5, .iload_n 2, 1), (6, .iconst 1, 1), (7, .aload_n 0, 1), (8, .getfield 9, 3), (11, .getfield 32, 3), (14, .ishl, 1), (15, .if_icmp .ge 38, 3), (18, .iload_n 2, 1), (19, .invokestatic 43, 3), (22, .istore_n 3, 1), (23, .iload_n 1, 1), (24, .bipush (-9), 2), (26, .if_icmp .eq 8, 3), (29, .iload_n 3, 1), (30, .iload_n 1, 1), (31, .if_icmp .ge 16, 3), (34, .aload_n 0, 1), (35, .getfield 9, 3), (38, .iload_n 2, 1), (39, .invokevirtual 48, 3), (42, .ifCond .ne 5, 3), (45, .iload_n 3, 1), (46, .istore_n 1, 1), (47, .iinc 2 1, 3), (50, .goto (-45), 3), (53, .iload_n 1, 1), (54, .ireturn, 1)]
def mt_X6_distance : Mt := (cX6_distance, RX6, 4, (some .int), ({ frames := 2, cells := 0, slots := 0, locals := 43 } : Room), false, none, none)
set_option maxRecDepth 100000 in
theorem dl_X6_distance : ∀ q ∈ il_X6_distance, decode (mt_X6_distance).1 q.1 = .ok q.2 := by decide +kernel
def tb_X6_distance : Tb := [(0, x_c 2 (.int (-9)), false),
  (2, x_is 3 1, false),
  (3, x_c 4 (.int 1), false),
  (4, x_is 5 2, false),
  (5, x_il 6 2, true),
  (6, x_c 7 (.int 1), false),
  (7, x_al 8 0, false),
  (8, x_gR 6 0 11, false),
  (11, x_gI 5 4 14, false),
  (14, x_ii 15 (fun x y : Int32 => x <<< (y &&& 31)), false),
  (15, x_ic 53 18 (fun x y : Int32 => y ≤ x), false),
  (18, x_il 19 2, false),
  (19, x_cS 1 P_J6_bitCount_0f7a4 22, false),
  (22, x_is 23 3, false),
  (23, x_il 24 1, false),
  (24, x_c 26 (.int (-9)), false),
  (26, x_ic 34 29 (fun x y : Int32 => x = y), false),
  (29, x_il 30 3, false),
  (30, x_il 31 1, false),
  (31, x_ic 47 34 (fun x y : Int32 => y ≤ x), false),
  (34, x_al 35 0, false),
  (35, x_gR 6 0 38, false),
  (38, x_il 39 2, false),
  (39, x_cV 5 1 P_X5_openBy 42, false),
  (42, x_ifn 47 45 (fun x : Int32 => x = 0), false),
  (45, x_il 46 3, false),
  (46, x_is 47 1, false),
  (47, x_inc 50 2 1, false),
  (50, x_go 5, false),
  (53, x_il 54 1, false),
  (54, x_rI, false)]
set_option maxRecDepth 100000 in
theorem tk_X6_distance : TbOk (mt_X6_distance) (tb_X6_distance) :=
  tkc (s_bipush (at_ dl_X6_distance 0 (ins := .bipush (-9)) rfl) (by first | rfl | decide)) (
  tkc (s_istore_n (at_ dl_X6_distance 1 (ins := .istore_n 1) rfl) (by decide)) (
  tkc (s_iconst (at_ dl_X6_distance 2 (ins := .iconst 1) rfl) (by first | rfl | decide)) (
  tkc (s_istore_n (at_ dl_X6_distance 3 (ins := .istore_n 2) rfl) (by decide)) (
  tkc (s_iload_n (at_ dl_X6_distance 4 (ins := .iload_n 2) rfl)) (
  tkc (s_iconst (at_ dl_X6_distance 5 (ins := .iconst 1) rfl) (by first | rfl | decide)) (
  tkc (s_aload_n (at_ dl_X6_distance 6 (ins := .aload_n 0) rfl)) (
  tkc (s_gR (at_ dl_X6_distance 7 (ins := .getfield 9) rfl) (by decide) (by decide) (by decide) (tg 210 (by decide +kernel) (by decide +kernel))) (
  tkc (s_gI (at_ dl_X6_distance 8 (ins := .getfield 32) rfl) (by decide) (by decide) (by decide) (tg 136 (by decide +kernel) (by decide +kernel))) (
  tkc (s_ishl (at_ dl_X6_distance 9 (ins := .ishl) rfl)) (
  tkc (s_ic_ge (at_ dl_X6_distance 10 (ins := .if_icmp .ge 38) rfl) (by decide)) (
  tkc (s_iload_n (at_ dl_X6_distance 11 (ins := .iload_n 2) rfl)) (
  tkc (s_cS ok_J6_bitCount_0f7a4 (at_ dl_X6_distance 12 (ins := .invokestatic 43) rfl) (tg 437 (by decide +kernel) (by decide +kernel)) (tg 374 (by decide +kernel) (by decide +kernel)) (tg 53 (by decide +kernel) (by decide +kernel)) (tg 375 (by decide +kernel) (by decide +kernel)) (⟨by decide, by decide, by decide +kernel⟩) (⟨by decide, by decide⟩) rfl rfl) (
  tkc (s_istore_n (at_ dl_X6_distance 13 (ins := .istore_n 3) rfl) (by decide)) (
  tkc (s_iload_n (at_ dl_X6_distance 14 (ins := .iload_n 1) rfl)) (
  tkc (s_bipush (at_ dl_X6_distance 15 (ins := .bipush (-9)) rfl) (by first | rfl | decide)) (
  tkc (s_ic_eq (at_ dl_X6_distance 16 (ins := .if_icmp .eq 8) rfl) (by decide)) (
  tkc (s_iload_n (at_ dl_X6_distance 17 (ins := .iload_n 3) rfl)) (
  tkc (s_iload_n (at_ dl_X6_distance 18 (ins := .iload_n 1) rfl)) (
  tkc (s_ic_ge (at_ dl_X6_distance 19 (ins := .if_icmp .ge 16) rfl) (by decide)) (
  tkc (s_aload_n (at_ dl_X6_distance 20 (ins := .aload_n 0) rfl)) (
  tkc (s_gR (at_ dl_X6_distance 21 (ins := .getfield 9) rfl) (by decide) (by decide) (by decide) (tg 210 (by decide +kernel) (by decide +kernel))) (
  tkc (s_iload_n (at_ dl_X6_distance 22 (ins := .iload_n 2) rfl)) (
  tkc (s_cV ok_X5_openBy (at_ dl_X6_distance 23 (ins := .invokevirtual 48) rfl) (by decide) rfl (tg 438 (by decide +kernel) (by decide +kernel)) (tg 370 (by decide +kernel) (by decide +kernel)) (tg 371 (by decide +kernel) (by decide +kernel)) (tg 45 (by decide +kernel) (by decide +kernel)) (tg 372 (by decide +kernel) (by decide +kernel)) (⟨by decide, by decide, by decide +kernel⟩) (⟨by decide, by decide⟩) rfl rfl) (
  tkc (s_if_ne (at_ dl_X6_distance 24 (ins := .ifCond .ne 5) rfl) (by decide)) (
  tkc (s_iload_n (at_ dl_X6_distance 25 (ins := .iload_n 3) rfl)) (
  tkc (s_istore_n (at_ dl_X6_distance 26 (ins := .istore_n 1) rfl) (by decide)) (
  tkc (s_iinc (at_ dl_X6_distance 27 (ins := .iinc 2 1) rfl) (by decide) (by first | rfl | decide)) (
  tkc (s_goto (at_ dl_X6_distance 28 (ins := .goto (-45)) rfl) (by decide)) (
  tkc (s_iload_n (at_ dl_X6_distance 29 (ins := .iload_n 1) rfl)) (
  tkc (s_rI (at_ dl_X6_distance 30 (ins := .ireturn) rfl) rfl) ( tk0)))))))))))))))))))))))))))))))
theorem lf_X6_distance : lk (tb_X6_distance) 0 = (x_c 2 (.int (-9)), false) ∧ lk (tb_X6_distance) 2 = (x_is 3 1, false) ∧ lk (tb_X6_distance) 3 = (x_c 4 (.int 1), false) ∧ lk (tb_X6_distance) 4 = (x_is 5 2, false) ∧ lk (tb_X6_distance) 5 = (x_il 6 2, true) ∧ lk (tb_X6_distance) 6 = (x_c 7 (.int 1), false) ∧ lk (tb_X6_distance) 7 = (x_al 8 0, false) ∧ lk (tb_X6_distance) 8 = (x_gR 6 0 11, false) ∧ lk (tb_X6_distance) 11 = (x_gI 5 4 14, false) ∧ lk (tb_X6_distance) 14 = (x_ii 15 (fun x y : Int32 => x <<< (y &&& 31)), false) ∧ lk (tb_X6_distance) 15 = (x_ic 53 18 (fun x y : Int32 => y ≤ x), false) ∧ lk (tb_X6_distance) 18 = (x_il 19 2, false) ∧ lk (tb_X6_distance) 19 = (x_cS 1 P_J6_bitCount_0f7a4 22, false) ∧ lk (tb_X6_distance) 22 = (x_is 23 3, false) ∧ lk (tb_X6_distance) 23 = (x_il 24 1, false) ∧ lk (tb_X6_distance) 24 = (x_c 26 (.int (-9)), false) ∧ lk (tb_X6_distance) 26 = (x_ic 34 29 (fun x y : Int32 => x = y), false) ∧ lk (tb_X6_distance) 29 = (x_il 30 3, false) ∧ lk (tb_X6_distance) 30 = (x_il 31 1, false) ∧ lk (tb_X6_distance) 31 = (x_ic 47 34 (fun x y : Int32 => y ≤ x), false) ∧ lk (tb_X6_distance) 34 = (x_al 35 0, false) ∧ lk (tb_X6_distance) 35 = (x_gR 6 0 38, false) ∧ lk (tb_X6_distance) 38 = (x_il 39 2, false) ∧ lk (tb_X6_distance) 39 = (x_cV 5 1 P_X5_openBy 42, false) ∧ lk (tb_X6_distance) 42 = (x_ifn 47 45 (fun x : Int32 => x = 0), false) ∧ lk (tb_X6_distance) 45 = (x_il 46 3, false) ∧ lk (tb_X6_distance) 46 = (x_is 47 1, false) ∧ lk (tb_X6_distance) 47 = (x_inc 50 2 1, false) ∧ lk (tb_X6_distance) 50 = (x_go 5, false) ∧ lk (tb_X6_distance) 53 = (x_il 54 1, false) ∧ lk (tb_X6_distance) 54 = (x_rI, false) := ⟨rfl, rfl, rfl, rfl, rfl, rfl, rfl, rfl, rfl, rfl, rfl, rfl, rfl, rfl, rfl, rfl, rfl, rfl, rfl, rfl, rfl, rfl, rfl, rfl, rfl, rfl, rfl, rfl, rfl, rfl, rfl⟩
def P_X6_distance : PTT := fun as M R => match as with
  | [.ref k] => k = 19 ∧ IsSu M.1 ∧ IsSt M.1 5 ∧ ∃ a, SR M.2.1 5 a ∧ AOk a ∧ R (some (.int (nn (dsF (aV a) (aM a) (2 ^ aN a))))) M
  | _ => False
set_option maxRecDepth 20000 in
theorem ok_X6_distance : Ok yX6_distance mt_X6_distance P_X6_distance := by
  refine Ok.of (by decide) rfl rfl rfl rfl fun av ⟨S, I, L⟩ R hP => ?_
  unfold P_X6_distance at hP
  split at hP
  case h_2 => exact hP.elim
  rename_i k
  obtain ⟨k, rfl⟩ : ∃ q : Nat, q = k := ⟨k, rfl⟩
  refine ⟨by simp [ent, wide, mt_X6_distance], ?_⟩
  show J mt_X6_distance R 0 [some (.ref k), none, none, none] [] (S, I, L)
  try dsimp only at hP
  obtain ⟨rfl, hk, h5, a, hsr, ha, hR⟩ := hP
  have en : I 5 4 = nI (aN a) := hsr.1
  have h9 := ha.1
  have hp := pow9 h9.2.1
  have key := up (P := fun s => 1 ≤ s → J mt_X6_distance R 5 [some (.ref 19), some (.int (nn (dsF (aV a) (aM a) s))), some (.int (nI s)), none] [] (S, I, L)) (n := 2 ^ aN a) (fun s hs ih h1 => ?_) 1 (one_le _) (Nat.le_refl 1)
  · refine J.of tk_X6_distance 200 fun ρ hρ => ?_
    simp only [hρ, x_c, x_il, x_ll, x_al, x_is, x_as, x_ls, x_inc, x_ii, x_iq, x_i1, x_l2, x_lq, x_lh, x_i2l, x_l2i, x_lcmp, x_dup, x_dup2, x_pop, x_if, x_ifn, x_ic, x_icn, x_go, x_sw, swc, x_l01, x_mx, x_gI, x_gL, x_gR, x_pI, x_pZ, x_pL, x_pR, x_ia, x_za, x_aa, x_ias, x_zas, x_aas, x_fac, x_fa, x_slen, x_sa, x_ac, x_oi, x_new, x_na, x_cS, x_cV, x_cI, x_rI, x_rZ, x_rL, x_r0, pa, short, oc, lg, lset, lset2, wide, cond_true, cond_false, true_and, and_true, ↓reduceIte, Bool.false_eq_true, true_or, or_true, lf_X6_distance]
    exact key
  have hq := hsr.ovq ha
  by_cases hlt : s < 2 ^ aN a
  · have et : tn (nI s) = s := tn_nI (by omega)
    have hd := dsF_le (aV a) (aM a) s
    have ho := opB_lt (ov := aV a) (w := s) h9.2.2
    have hs9 := ones9_le s
    have e9 := nn_9 (x := dsF (aV a) (aM a) s) (by omega)
    refine J.of tk_X6_distance 200 fun ρ hρ => ?_
    simp only [hρ, x_c, x_il, x_ll, x_al, x_is, x_as, x_ls, x_inc, x_ii, x_iq, x_i1, x_l2, x_lq, x_lh, x_i2l, x_l2i, x_lcmp, x_dup, x_dup2, x_pop, x_if, x_ifn, x_ic, x_icn, x_go, x_sw, swc, x_l01, x_mx, x_gI, x_gL, x_gR, x_pI, x_pZ, x_pL, x_pR, x_ia, x_za, x_aa, x_ias, x_zas, x_aas, x_fac, x_fa, x_slen, x_sa, x_ac, x_oi, x_new, x_na, x_cS, x_cV, x_cI, x_rI, x_rZ, x_rL, x_r0, pa, short, oc, lg, lset, lset2, wide, cond_true, cond_false, true_and, and_true, ↓reduceIte, Bool.false_eq_true, true_or, or_true, lf_X6_distance, hk, hk.f, h5, h5.f, en, shl1 (show aN a < 31 by omega), nI_leI (show 2 ^ aN a < 2 ^ 31 by omega) (show s < 2 ^ 31 by omega), nI_1, P_J6_bitCount_0f7a4, P_X5_openBy, et, hsr.opw ha, eq_true hq, nI_z (show opB (aV a) (aM a) s < 2 ^ 31 by omega), e9, true_and]
    refine ⟨fun h => absurd h (by omega), fun _ => ⟨by omega, ?_⟩⟩
    have hr : ∀ x, dsF (aV a) (aM a) (s + 1) = x → J mt_X6_distance R 5 [some (.ref 19), some (.int (nn x)), some (.int (nI (s + 1))), none] [] (S, I, L) := fun x hx => hx ▸ ih hlt (by omega)
    have ht : opB (aV a) (aM a) s = 0 → ones9 s < dsF (aV a) (aM a) s → J mt_X6_distance R 5 [some (.ref 19), some (.int (nI (ones9 s))), some (.int (nI (s + 1))), none] [] (S, I, L) := fun h2 h3 => by
      have := hr (ones9 s) (by rw [dsF, if_pos ⟨by omega, h2, h3⟩])
      rwa [nn, if_neg (by omega)] at this
    have hf : ¬ (opB (aV a) (aM a) s = 0 ∧ ones9 s < dsF (aV a) (aM a) s) → J mt_X6_distance R 5 [some (.ref 19), some (.int (nn (dsF (aV a) (aM a) s))), some (.int (nI (s + 1))), none] [] (S, I, L) := fun h2 => hr _ (by rw [dsF, if_neg (fun q => h2 q.2)])
    refine ⟨fun h99 => ⟨by omega, fun h => J.weak (by simp [lsub]) (hf (fun q => h q.1)), fun h => J.weak (by simp [lsub]) (ht h (by omega))⟩, fun h99 => ?_⟩
    rw [show nn (dsF (aV a) (aM a) s) = nI (dsF (aV a) (aM a) s) from if_neg h99] at hf ⊢
    rw [nI_leI (by omega) (by omega)]
    exact ⟨fun h => J.weak (by simp [lsub]) (hf (fun q => by omega)), fun h => ⟨by omega, fun h2 => J.weak (by simp [lsub]) (hf (fun q => h2 q.1)), fun h2 => J.weak (by simp [lsub]) (ht h2 (by omega))⟩⟩
  · have : s = 2 ^ aN a := by omega
    subst this
    refine J.of tk_X6_distance 200 fun ρ hρ => ?_
    simp only [hρ, x_c, x_il, x_ll, x_al, x_is, x_as, x_ls, x_inc, x_ii, x_iq, x_i1, x_l2, x_lq, x_lh, x_i2l, x_l2i, x_lcmp, x_dup, x_dup2, x_pop, x_if, x_ifn, x_ic, x_icn, x_go, x_sw, swc, x_l01, x_mx, x_gI, x_gL, x_gR, x_pI, x_pZ, x_pL, x_pR, x_ia, x_za, x_aa, x_ias, x_zas, x_aas, x_fac, x_fa, x_slen, x_sa, x_ac, x_oi, x_new, x_na, x_cS, x_cV, x_cI, x_rI, x_rZ, x_rL, x_r0, pa, short, oc, lg, lset, lset2, wide, cond_true, cond_false, true_and, and_true, ↓reduceIte, Bool.false_eq_true, true_or, or_true, lf_X6_distance, hk, hk.f, h5, h5.f, en, shl1 (show aN a < 31 by omega), nI_leI (show 2 ^ aN a < 2 ^ 31 by omega) (show 2 ^ aN a < 2 ^ 31 by omega), Nat.le_refl, true_implies, not_true_eq_false, false_implies]
    exact hR
def il_X6_isTrap : List (Nat × Instr × Nat) := [(0, .iload_n 1, 1), (1, .invokestatic 43, 3), (4, .iload_n 2, 1), (5, .if_icmp .ne 22, 3), (8, .aload_n 0, 1), (9, .getfield 9, 3), (12, .iload_n 1, 1), (13, .invokevirtual 48, 3), (16, .invokestatic 43, 3), (19, .iload_n 3, 1), (20, .if_icmp .ne 7, 3), (23, .iconst 1, 1), (24, .goto 4, 3), (27, .iconst 0, 1), (28, .ireturn, 1)]
def mt_X6_isTrap : Mt := (cX6_isTrap, RX6, 4, (some .boolean), ({ frames := 2, cells := 0, slots := 0, locals := 43 } : Room), false, none, none)
set_option maxRecDepth 100000 in
theorem dl_X6_isTrap : ∀ q ∈ il_X6_isTrap, decode (mt_X6_isTrap).1 q.1 = .ok q.2 := by decide +kernel
def tb_X6_isTrap : Tb := [(0, x_il 1 1, false),
  (1, x_cS 1 P_J6_bitCount_0f7a4 4, false),
  (4, x_il 5 2, false),
  (5, x_icn 27 8 (fun x y : Int32 => x = y), false),
  (8, x_al 9 0, false),
  (9, x_gR 6 0 12, false),
  (12, x_il 13 1, false),
  (13, x_cV 5 1 P_X5_openBy 16, false),
  (16, x_cS 1 P_J6_bitCount_0f7a4 19, false),
  (19, x_il 20 3, false),
  (20, x_icn 27 23 (fun x y : Int32 => x = y), false),
  (23, x_c 24 (.int 1), false),
  (24, x_go 28, false),
  (27, x_c 28 (.int 0), false),
  (28, x_rZ, false)]
set_option maxRecDepth 100000 in
theorem tk_X6_isTrap : TbOk (mt_X6_isTrap) (tb_X6_isTrap) :=
  tkc (s_iload_n (at_ dl_X6_isTrap 0 (ins := .iload_n 1) rfl)) (
  tkc (s_cS ok_J6_bitCount_0f7a4 (at_ dl_X6_isTrap 1 (ins := .invokestatic 43) rfl) (tg 437 (by decide +kernel) (by decide +kernel)) (tg 374 (by decide +kernel) (by decide +kernel)) (tg 53 (by decide +kernel) (by decide +kernel)) (tg 375 (by decide +kernel) (by decide +kernel)) (⟨by decide, by decide, by decide +kernel⟩) (⟨by decide, by decide⟩) rfl rfl) (
  tkc (s_iload_n (at_ dl_X6_isTrap 2 (ins := .iload_n 2) rfl)) (
  tkc (s_ic_ne (at_ dl_X6_isTrap 3 (ins := .if_icmp .ne 22) rfl) (by decide)) (
  tkc (s_aload_n (at_ dl_X6_isTrap 4 (ins := .aload_n 0) rfl)) (
  tkc (s_gR (at_ dl_X6_isTrap 5 (ins := .getfield 9) rfl) (by decide) (by decide) (by decide) (tg 210 (by decide +kernel) (by decide +kernel))) (
  tkc (s_iload_n (at_ dl_X6_isTrap 6 (ins := .iload_n 1) rfl)) (
  tkc (s_cV ok_X5_openBy (at_ dl_X6_isTrap 7 (ins := .invokevirtual 48) rfl) (by decide) rfl (tg 438 (by decide +kernel) (by decide +kernel)) (tg 370 (by decide +kernel) (by decide +kernel)) (tg 371 (by decide +kernel) (by decide +kernel)) (tg 45 (by decide +kernel) (by decide +kernel)) (tg 372 (by decide +kernel) (by decide +kernel)) (⟨by decide, by decide, by decide +kernel⟩) (⟨by decide, by decide⟩) rfl rfl) (
  tkc (s_cS ok_J6_bitCount_0f7a4 (at_ dl_X6_isTrap 8 (ins := .invokestatic 43) rfl) (tg 437 (by decide +kernel) (by decide +kernel)) (tg 374 (by decide +kernel) (by decide +kernel)) (tg 53 (by decide +kernel) (by decide +kernel)) (tg 375 (by decide +kernel) (by decide +kernel)) (⟨by decide, by decide, by decide +kernel⟩) (⟨by decide, by decide⟩) rfl rfl) (
  tkc (s_iload_n (at_ dl_X6_isTrap 9 (ins := .iload_n 3) rfl)) (
  tkc (s_ic_ne (at_ dl_X6_isTrap 10 (ins := .if_icmp .ne 7) rfl) (by decide)) (
  tkc (s_iconst (at_ dl_X6_isTrap 11 (ins := .iconst 1) rfl) (by first | rfl | decide)) (
  tkc (s_goto (at_ dl_X6_isTrap 12 (ins := .goto 4) rfl) (by decide)) (
  tkc (s_iconst (at_ dl_X6_isTrap 13 (ins := .iconst 0) rfl) (by first | rfl | decide)) (
  tkc (s_rZ (at_ dl_X6_isTrap 14 (ins := .ireturn) rfl) rfl) ( tk0)))))))))))))))
theorem lf_X6_isTrap : lk (tb_X6_isTrap) 0 = (x_il 1 1, false) ∧ lk (tb_X6_isTrap) 1 = (x_cS 1 P_J6_bitCount_0f7a4 4, false) ∧ lk (tb_X6_isTrap) 4 = (x_il 5 2, false) ∧ lk (tb_X6_isTrap) 5 = (x_icn 27 8 (fun x y : Int32 => x = y), false) ∧ lk (tb_X6_isTrap) 8 = (x_al 9 0, false) ∧ lk (tb_X6_isTrap) 9 = (x_gR 6 0 12, false) ∧ lk (tb_X6_isTrap) 12 = (x_il 13 1, false) ∧ lk (tb_X6_isTrap) 13 = (x_cV 5 1 P_X5_openBy 16, false) ∧ lk (tb_X6_isTrap) 16 = (x_cS 1 P_J6_bitCount_0f7a4 19, false) ∧ lk (tb_X6_isTrap) 19 = (x_il 20 3, false) ∧ lk (tb_X6_isTrap) 20 = (x_icn 27 23 (fun x y : Int32 => x = y), false) ∧ lk (tb_X6_isTrap) 23 = (x_c 24 (.int 1), false) ∧ lk (tb_X6_isTrap) 24 = (x_go 28, false) ∧ lk (tb_X6_isTrap) 27 = (x_c 28 (.int 0), false) ∧ lk (tb_X6_isTrap) 28 = (x_rZ, false) := ⟨rfl, rfl, rfl, rfl, rfl, rfl, rfl, rfl, rfl, rfl, rfl, rfl, rfl, rfl, rfl⟩
/-- a trap of so many bits that opens so many checks -/
def tpB (ov : Nat → Nat) (m : Nat) (x y : Int32) (s : Nat) : Bool := (nI (ones9 s) == x) && (nI (ones9 (opB ov m s)) == y)
def P_X6_isTrap : PTT := fun as M R => match as with
  | [.ref k, .int s, .int x, .int y] => k = 19 ∧ IsSu M.1 ∧ IsSt M.1 5 ∧ tn s < 512 ∧ ∃ a, SR M.2.1 5 a ∧ AOk a ∧ R (some (.int (bB (tpB (aV a) (aM a) x y (tn s))))) M
  | _ => False
set_option maxRecDepth 20000 in
theorem ok_X6_isTrap : Ok yX6_isTrap mt_X6_isTrap P_X6_isTrap := by
  refine Ok.of (by decide) rfl rfl rfl rfl fun av ⟨S, I, L⟩ R hP => ?_
  unfold P_X6_isTrap at hP
  split at hP
  case h_2 => exact hP.elim
  rename_i k s x y
  obtain ⟨k, rfl⟩ : ∃ q : Nat, q = k := ⟨k, rfl⟩
  refine ⟨by simp [ent, wide, mt_X6_isTrap], ?_⟩
  show J mt_X6_isTrap R 0 [some (.ref k), some (.int s), some (.int x), some (.int y)] [] (S, I, L)
  try dsimp only at hP
  obtain ⟨rfl, hk, h5, hs, a, hsr, ha, hR⟩ := hP
  obtain ⟨w, hw, rfl⟩ := tn_ex hs
  have et : tn (nI w) = w := tn_nI (by omega)
  have hq := hsr.ovq ha
  have ho := opB_lt (ov := aV a) (w := w) ha.1.2.2
  have eo : tn (nI (opB (aV a) (aM a) w)) = opB (aV a) (aM a) w := tn_nI (by omega)
  rw [et] at hR
  refine J.of tk_X6_isTrap 200 fun ρ hρ => ?_
  simp only [hρ, x_c, x_il, x_ll, x_al, x_is, x_as, x_ls, x_inc, x_ii, x_iq, x_i1, x_l2, x_lq, x_lh, x_i2l, x_l2i, x_lcmp, x_dup, x_dup2, x_pop, x_if, x_ifn, x_ic, x_icn, x_go, x_sw, swc, x_l01, x_mx, x_gI, x_gL, x_gR, x_pI, x_pZ, x_pL, x_pR, x_ia, x_za, x_aa, x_ias, x_zas, x_aas, x_fac, x_fa, x_slen, x_sa, x_ac, x_oi, x_new, x_na, x_cS, x_cV, x_cI, x_rI, x_rZ, x_rL, x_r0, pa, short, oc, lg, lset, lset2, wide, cond_true, cond_false, true_and, and_true, ↓reduceIte, Bool.false_eq_true, true_or, or_true, lf_X6_isTrap, hk, hk.f, h5, h5.f, P_J6_bitCount_0f7a4, P_X5_openBy, et, eo, hsr.opw ha, eq_true hq, eq_true hw, eq_true (show opB (aV a) (aM a) w < 512 by omega), true_and, Classical.not_not]
  have h1 : ∀ v, bB (tpB (aV a) (aM a) x y w) = v → R (some (.int v)) (S, I, L) := fun v hv => hv ▸ hR
  refine ⟨fun h => h1 0 (bB_f (by simp [tpB, h])), fun h => ⟨fun h2 => h1 0 (bB_f (by simp [tpB, h2])), fun h2 => h1 1 (bB_t (by simp [tpB, h, h2]))⟩⟩
/-- how many from 1 to below s -/
def cnB (f : Nat → Bool) : Nat → Nat
  | 0 => 0
  | s + 1 => cnB f s + (if s ≠ 0 ∧ f s = true then 1 else 0)
/-- the least from 1 to below s -/
def lsB (f : Nat → Bool) : Nat → Int32
  | 0 => -9
  | s + 1 => if s ≠ 0 ∧ f s = true ∧ cnB f s = 0 then nI s else lsB f s
theorem cnB_mono {f : Nat → Bool} {s : Nat} : ∀ {t : Nat}, s ≤ t → cnB f s ≤ cnB f t
  | 0, h => by have : s = 0 := by omega
               subst this; exact Nat.le_refl _
  | t + 1, h => by
    by_cases h1 : s = t + 1
    · subst h1; exact Nat.le_refl _
    · exact Nat.le_trans (cnB_mono (show s ≤ t by omega)) (by simp only [cnB]; omega)
theorem lsB_none {f : Nat → Bool} : ∀ {s : Nat}, cnB f s = 0 → lsB f s = -9
  | 0, _ => rfl
  | s + 1, h => by
    simp only [cnB] at h
    have h1 : cnB f s = 0 := by omega
    rw [lsB, if_neg (fun q => by rw [if_pos ⟨q.1, q.2.1⟩] at h; omega), lsB_none h1]
theorem lsB_stay {f : Nat → Bool} {s : Nat} (h : cnB f s ≠ 0) : ∀ {t : Nat}, s ≤ t → lsB f t = lsB f s
  | 0, h1 => by have : s = 0 := by omega
                subst this; rfl
  | t + 1, h1 => by
    by_cases h2 : s = t + 1
    · subst h2; rfl
    · have h3 : s ≤ t := by omega
      have := cnB_mono (f := f) h3
      rw [lsB, if_neg (fun q => by omega), lsB_stay h h3]
theorem cnB_le (f : Nat → Bool) : ∀ s, cnB f s ≤ s
  | 0 => Nat.le_refl _
  | s + 1 => by have := cnB_le f s; simp only [cnB]; split <;> omega
def il_X6_howManyTraps : List (Nat × Instr × Nat) := [(0, .iconst 0, 1), (1, .istore_n 3, 1), (2, .iconst 1, 1), (3, .istore 4, 2), (5, .iload 4, 2), (7, .iconst 1, 1), (8, .aload_n 0, 1), (9, .getfield 9, 3), (12, .getfield 32, 3), (15, .ishl, 1), (16, .if_icmp .ge 23, 3), (19, .aload_n 0, 1), (20, .iload 4, 2), (22, .iload_n 1, 1), (23, .iload_n 2, 1), (24, .invokevirtual 51, 3), (27, .ifCond .eq 6, 3), (30, .iinc 3 1, 3), (33, .iinc 4 1, 3), (36, .goto (-31), 3), (39, .iload_n 3, 1), (40, .ireturn, 1)]
def mt_X6_howManyTraps : Mt := (cX6_howManyTraps, RX6, 5, (some .int), ({ frames := 3, cells := 0, slots := 0, locals := 66 } : Room), false, none, none)
set_option maxRecDepth 100000 in
theorem dl_X6_howManyTraps : ∀ q ∈ il_X6_howManyTraps, decode (mt_X6_howManyTraps).1 q.1 = .ok q.2 := by decide +kernel
def tb_X6_howManyTraps : Tb := [(0, x_c 1 (.int 0), false),
  (1, x_is 2 3, false),
  (2, x_c 3 (.int 1), false),
  (3, x_is 5 4, false),
  (5, x_il 7 4, true),
  (7, x_c 8 (.int 1), false),
  (8, x_al 9 0, false),
  (9, x_gR 6 0 12, false),
  (12, x_gI 5 4 15, false),
  (15, x_ii 16 (fun x y : Int32 => x <<< (y &&& 31)), false),
  (16, x_ic 39 19 (fun x y : Int32 => y ≤ x), false),
  (19, x_al 20 0, false),
  (20, x_il 22 4, false),
  (22, x_il 23 1, false),
  (23, x_il 24 2, false),
  (24, x_cV 6 3 P_X6_isTrap 27, false),
  (27, x_if 33 30 (fun x : Int32 => x = 0), false),
  (30, x_inc 33 3 1, false),
  (33, x_inc 36 4 1, false),
  (36, x_go 5, false),
  (39, x_il 40 3, false),
  (40, x_rI, false)]
set_option maxRecDepth 100000 in
theorem tk_X6_howManyTraps : TbOk (mt_X6_howManyTraps) (tb_X6_howManyTraps) :=
  tkc (s_iconst (at_ dl_X6_howManyTraps 0 (ins := .iconst 0) rfl) (by first | rfl | decide)) (
  tkc (s_istore_n (at_ dl_X6_howManyTraps 1 (ins := .istore_n 3) rfl) (by decide)) (
  tkc (s_iconst (at_ dl_X6_howManyTraps 2 (ins := .iconst 1) rfl) (by first | rfl | decide)) (
  tkc (s_istore (at_ dl_X6_howManyTraps 3 (ins := .istore 4) rfl) (by decide)) (
  tkc (s_iload (at_ dl_X6_howManyTraps 4 (ins := .iload 4) rfl)) (
  tkc (s_iconst (at_ dl_X6_howManyTraps 5 (ins := .iconst 1) rfl) (by first | rfl | decide)) (
  tkc (s_aload_n (at_ dl_X6_howManyTraps 6 (ins := .aload_n 0) rfl)) (
  tkc (s_gR (at_ dl_X6_howManyTraps 7 (ins := .getfield 9) rfl) (by decide) (by decide) (by decide) (tg 210 (by decide +kernel) (by decide +kernel))) (
  tkc (s_gI (at_ dl_X6_howManyTraps 8 (ins := .getfield 32) rfl) (by decide) (by decide) (by decide) (tg 136 (by decide +kernel) (by decide +kernel))) (
  tkc (s_ishl (at_ dl_X6_howManyTraps 9 (ins := .ishl) rfl)) (
  tkc (s_ic_ge (at_ dl_X6_howManyTraps 10 (ins := .if_icmp .ge 23) rfl) (by decide)) (
  tkc (s_aload_n (at_ dl_X6_howManyTraps 11 (ins := .aload_n 0) rfl)) (
  tkc (s_iload (at_ dl_X6_howManyTraps 12 (ins := .iload 4) rfl)) (
  tkc (s_iload_n (at_ dl_X6_howManyTraps 13 (ins := .iload_n 1) rfl)) (
  tkc (s_iload_n (at_ dl_X6_howManyTraps 14 (ins := .iload_n 2) rfl)) (
  tkc (s_cV ok_X6_isTrap (at_ dl_X6_howManyTraps 15 (ins := .invokevirtual 51) rfl) (by decide) rfl (tg 557 (by decide +kernel) (by decide +kernel)) (tg 559 (by decide +kernel) (by decide +kernel)) (tg 14 (by decide +kernel) (by decide +kernel)) (tg 48 (by decide +kernel) (by decide +kernel)) (tg 560 (by decide +kernel) (by decide +kernel)) (⟨by decide, by decide, by decide +kernel⟩) (⟨by decide, by decide⟩) rfl rfl) (
  tkc (s_if_eq (at_ dl_X6_howManyTraps 16 (ins := .ifCond .eq 6) rfl) (by decide)) (
  tkc (s_iinc (at_ dl_X6_howManyTraps 17 (ins := .iinc 3 1) rfl) (by decide) (by first | rfl | decide)) (
  tkc (s_iinc (at_ dl_X6_howManyTraps 18 (ins := .iinc 4 1) rfl) (by decide) (by first | rfl | decide)) (
  tkc (s_goto (at_ dl_X6_howManyTraps 19 (ins := .goto (-31)) rfl) (by decide)) (
  tkc (s_iload_n (at_ dl_X6_howManyTraps 20 (ins := .iload_n 3) rfl)) (
  tkc (s_rI (at_ dl_X6_howManyTraps 21 (ins := .ireturn) rfl) rfl) ( tk0))))))))))))))))))))))
theorem lf_X6_howManyTraps : lk (tb_X6_howManyTraps) 0 = (x_c 1 (.int 0), false) ∧ lk (tb_X6_howManyTraps) 1 = (x_is 2 3, false) ∧ lk (tb_X6_howManyTraps) 2 = (x_c 3 (.int 1), false) ∧ lk (tb_X6_howManyTraps) 3 = (x_is 5 4, false) ∧ lk (tb_X6_howManyTraps) 5 = (x_il 7 4, true) ∧ lk (tb_X6_howManyTraps) 7 = (x_c 8 (.int 1), false) ∧ lk (tb_X6_howManyTraps) 8 = (x_al 9 0, false) ∧ lk (tb_X6_howManyTraps) 9 = (x_gR 6 0 12, false) ∧ lk (tb_X6_howManyTraps) 12 = (x_gI 5 4 15, false) ∧ lk (tb_X6_howManyTraps) 15 = (x_ii 16 (fun x y : Int32 => x <<< (y &&& 31)), false) ∧ lk (tb_X6_howManyTraps) 16 = (x_ic 39 19 (fun x y : Int32 => y ≤ x), false) ∧ lk (tb_X6_howManyTraps) 19 = (x_al 20 0, false) ∧ lk (tb_X6_howManyTraps) 20 = (x_il 22 4, false) ∧ lk (tb_X6_howManyTraps) 22 = (x_il 23 1, false) ∧ lk (tb_X6_howManyTraps) 23 = (x_il 24 2, false) ∧ lk (tb_X6_howManyTraps) 24 = (x_cV 6 3 P_X6_isTrap 27, false) ∧ lk (tb_X6_howManyTraps) 27 = (x_if 33 30 (fun x : Int32 => x = 0), false) ∧ lk (tb_X6_howManyTraps) 30 = (x_inc 33 3 1, false) ∧ lk (tb_X6_howManyTraps) 33 = (x_inc 36 4 1, false) ∧ lk (tb_X6_howManyTraps) 36 = (x_go 5, false) ∧ lk (tb_X6_howManyTraps) 39 = (x_il 40 3, false) ∧ lk (tb_X6_howManyTraps) 40 = (x_rI, false) := ⟨rfl, rfl, rfl, rfl, rfl, rfl, rfl, rfl, rfl, rfl, rfl, rfl, rfl, rfl, rfl, rfl, rfl, rfl, rfl, rfl, rfl, rfl⟩
def P_X6_howManyTraps : PTT := fun as M R => match as with
  | [.ref k, .int x, .int y] => k = 19 ∧ IsSu M.1 ∧ IsSt M.1 5 ∧ ∃ a, SR M.2.1 5 a ∧ AOk a ∧ R (some (.int (nI (cnB (tpB (aV a) (aM a) x y) (2 ^ aN a))))) M
  | _ => False
set_option maxRecDepth 20000 in
theorem ok_X6_howManyTraps : Ok yX6_howManyTraps mt_X6_howManyTraps P_X6_howManyTraps := by
  refine Ok.of (by decide) rfl rfl rfl rfl fun av ⟨S, I, L⟩ R hP => ?_
  unfold P_X6_howManyTraps at hP
  split at hP
  case h_2 => exact hP.elim
  rename_i k x y
  obtain ⟨k, rfl⟩ : ∃ q : Nat, q = k := ⟨k, rfl⟩
  refine ⟨by simp [ent, wide, mt_X6_howManyTraps], ?_⟩
  show J mt_X6_howManyTraps R 0 [some (.ref k), some (.int x), some (.int y), none, none] [] (S, I, L)
  try dsimp only at hP
  obtain ⟨rfl, hk, h5, a, hsr, ha, hR⟩ := hP
  have en : I 5 4 = nI (aN a) := hsr.1
  have h9 := ha.1
  have hp := pow9 h9.2.1
  have key := up (P := fun s => 1 ≤ s → J mt_X6_howManyTraps R 5 [some (.ref 19), some (.int x), some (.int y), some (.int (nI (cnB (tpB (aV a) (aM a) x y) s))), some (.int (nI s))] [] (S, I, L)) (n := 2 ^ aN a) (fun s hs ih h1 => ?_) 1 (one_le _) (Nat.le_refl 1)
  · refine J.of tk_X6_howManyTraps 200 fun ρ hρ => ?_
    simp only [hρ, x_c, x_il, x_ll, x_al, x_is, x_as, x_ls, x_inc, x_ii, x_iq, x_i1, x_l2, x_lq, x_lh, x_i2l, x_l2i, x_lcmp, x_dup, x_dup2, x_pop, x_if, x_ifn, x_ic, x_icn, x_go, x_sw, swc, x_l01, x_mx, x_gI, x_gL, x_gR, x_pI, x_pZ, x_pL, x_pR, x_ia, x_za, x_aa, x_ias, x_zas, x_aas, x_fac, x_fa, x_slen, x_sa, x_ac, x_oi, x_new, x_na, x_cS, x_cV, x_cI, x_rI, x_rZ, x_rL, x_r0, pa, short, oc, lg, lset, lset2, wide, cond_true, cond_false, true_and, and_true, ↓reduceIte, Bool.false_eq_true, true_or, or_true, lf_X6_howManyTraps]
    exact key
  by_cases hlt : s < 2 ^ aN a
  · have et : tn (nI s) = s := tn_nI (by omega)
    refine J.of tk_X6_howManyTraps 200 fun ρ hρ => ?_
    simp only [hρ, x_c, x_il, x_ll, x_al, x_is, x_as, x_ls, x_inc, x_ii, x_iq, x_i1, x_l2, x_lq, x_lh, x_i2l, x_l2i, x_lcmp, x_dup, x_dup2, x_pop, x_if, x_ifn, x_ic, x_icn, x_go, x_sw, swc, x_l01, x_mx, x_gI, x_gL, x_gR, x_pI, x_pZ, x_pL, x_pR, x_ia, x_za, x_aa, x_ias, x_zas, x_aas, x_fac, x_fa, x_slen, x_sa, x_ac, x_oi, x_new, x_na, x_cS, x_cV, x_cI, x_rI, x_rZ, x_rL, x_r0, pa, short, oc, lg, lset, lset2, wide, cond_true, cond_false, true_and, and_true, ↓reduceIte, Bool.false_eq_true, true_or, or_true, lf_X6_howManyTraps, hk, hk.f, h5, h5.f, en, shl1 (show aN a < 31 by omega), nI_leI (show 2 ^ aN a < 2 ^ 31 by omega) (show s < 2 ^ 31 by omega), nI_1, P_X6_isTrap, et, bB_0, Classical.not_not, eq_true (show s < 512 by omega), true_and]
    refine ⟨fun h => absurd h (by omega), fun _ => ⟨a, hsr, ha, fun h => ?_, fun h => ?_⟩⟩
    · have := ih hlt (by omega)
      rwa [cnB, if_neg (fun q => h q.2)] at this
    · have := ih hlt (by omega)
      rwa [cnB, if_pos ⟨by omega, h⟩] at this
  · have : s = 2 ^ aN a := by omega
    subst this
    refine J.of tk_X6_howManyTraps 200 fun ρ hρ => ?_
    simp only [hρ, x_c, x_il, x_ll, x_al, x_is, x_as, x_ls, x_inc, x_ii, x_iq, x_i1, x_l2, x_lq, x_lh, x_i2l, x_l2i, x_lcmp, x_dup, x_dup2, x_pop, x_if, x_ifn, x_ic, x_icn, x_go, x_sw, swc, x_l01, x_mx, x_gI, x_gL, x_gR, x_pI, x_pZ, x_pL, x_pR, x_ia, x_za, x_aa, x_ias, x_zas, x_aas, x_fac, x_fa, x_slen, x_sa, x_ac, x_oi, x_new, x_na, x_cS, x_cV, x_cI, x_rI, x_rZ, x_rL, x_r0, pa, short, oc, lg, lset, lset2, wide, cond_true, cond_false, true_and, and_true, ↓reduceIte, Bool.false_eq_true, true_or, or_true, lf_X6_howManyTraps, hk, hk.f, h5, h5.f, en, shl1 (show aN a < 31 by omega), nI_leI (show 2 ^ aN a < 2 ^ 31 by omega) (show 2 ^ aN a < 2 ^ 31 by omega), Nat.le_refl, true_implies, not_true_eq_false, false_implies]
    exact hR
def il_X6_leastTrap : List (Nat × Instr × Nat) := [(0, .iconst 1, 1), (1, .istore_n 3, 1), (2, .iload_n 3, 1), (3, .iconst 1, 1), (4, .aload_n 0, 1), (5, .getfield 9, 3), (8, .getfield 32, 3), (11, .ishl, 1), (12, .if_icmp .ge 21, 3), (15, .aload_n 0, 1), (16, .iload_n 3, 1), (17, .iload_n 1, 1), (18, .iload_n 2, 1), (19, .invokevirtual 51, 3), (22, .ifCond .eq 5, 3), (25, .iload_n 3, 1), (26, .ireturn, 1), (27, .iinc 3 1, 3), (30, .goto (-28), 3), (33, .bipush (-9), 2), (35, .ireturn, 1)]
def mt_X6_leastTrap : Mt := (cX6_leastTrap, RX6, 4, (some .int), ({ frames := 3, cells := 0, slots := 0, locals := 66 } : Room), false, none, none)
set_option maxRecDepth 100000 in
theorem dl_X6_leastTrap : ∀ q ∈ il_X6_leastTrap, decode (mt_X6_leastTrap).1 q.1 = .ok q.2 := by decide +kernel
def tb_X6_leastTrap : Tb := [(0, x_c 1 (.int 1), false),
  (1, x_is 2 3, false),
  (2, x_il 3 3, true),
  (3, x_c 4 (.int 1), false),
  (4, x_al 5 0, false),
  (5, x_gR 6 0 8, false),
  (8, x_gI 5 4 11, false),
  (11, x_ii 12 (fun x y : Int32 => x <<< (y &&& 31)), false),
  (12, x_ic 33 15 (fun x y : Int32 => y ≤ x), false),
  (15, x_al 16 0, false),
  (16, x_il 17 3, false),
  (17, x_il 18 1, false),
  (18, x_il 19 2, false),
  (19, x_cV 6 3 P_X6_isTrap 22, false),
  (22, x_if 27 25 (fun x : Int32 => x = 0), false),
  (25, x_il 26 3, false),
  (26, x_rI, false),
  (27, x_inc 30 3 1, false),
  (30, x_go 2, false),
  (33, x_c 35 (.int (-9)), false),
  (35, x_rI, false)]
set_option maxRecDepth 100000 in
theorem tk_X6_leastTrap : TbOk (mt_X6_leastTrap) (tb_X6_leastTrap) :=
  tkc (s_iconst (at_ dl_X6_leastTrap 0 (ins := .iconst 1) rfl) (by first | rfl | decide)) (
  tkc (s_istore_n (at_ dl_X6_leastTrap 1 (ins := .istore_n 3) rfl) (by decide)) (
  tkc (s_iload_n (at_ dl_X6_leastTrap 2 (ins := .iload_n 3) rfl)) (
  tkc (s_iconst (at_ dl_X6_leastTrap 3 (ins := .iconst 1) rfl) (by first | rfl | decide)) (
  tkc (s_aload_n (at_ dl_X6_leastTrap 4 (ins := .aload_n 0) rfl)) (
  tkc (s_gR (at_ dl_X6_leastTrap 5 (ins := .getfield 9) rfl) (by decide) (by decide) (by decide) (tg 210 (by decide +kernel) (by decide +kernel))) (
  tkc (s_gI (at_ dl_X6_leastTrap 6 (ins := .getfield 32) rfl) (by decide) (by decide) (by decide) (tg 136 (by decide +kernel) (by decide +kernel))) (
  tkc (s_ishl (at_ dl_X6_leastTrap 7 (ins := .ishl) rfl)) (
  tkc (s_ic_ge (at_ dl_X6_leastTrap 8 (ins := .if_icmp .ge 21) rfl) (by decide)) (
  tkc (s_aload_n (at_ dl_X6_leastTrap 9 (ins := .aload_n 0) rfl)) (
  tkc (s_iload_n (at_ dl_X6_leastTrap 10 (ins := .iload_n 3) rfl)) (
  tkc (s_iload_n (at_ dl_X6_leastTrap 11 (ins := .iload_n 1) rfl)) (
  tkc (s_iload_n (at_ dl_X6_leastTrap 12 (ins := .iload_n 2) rfl)) (
  tkc (s_cV ok_X6_isTrap (at_ dl_X6_leastTrap 13 (ins := .invokevirtual 51) rfl) (by decide) rfl (tg 557 (by decide +kernel) (by decide +kernel)) (tg 559 (by decide +kernel) (by decide +kernel)) (tg 14 (by decide +kernel) (by decide +kernel)) (tg 48 (by decide +kernel) (by decide +kernel)) (tg 560 (by decide +kernel) (by decide +kernel)) (⟨by decide, by decide, by decide +kernel⟩) (⟨by decide, by decide⟩) rfl rfl) (
  tkc (s_if_eq (at_ dl_X6_leastTrap 14 (ins := .ifCond .eq 5) rfl) (by decide)) (
  tkc (s_iload_n (at_ dl_X6_leastTrap 15 (ins := .iload_n 3) rfl)) (
  tkc (s_rI (at_ dl_X6_leastTrap 16 (ins := .ireturn) rfl) rfl) (
  tkc (s_iinc (at_ dl_X6_leastTrap 17 (ins := .iinc 3 1) rfl) (by decide) (by first | rfl | decide)) (
  tkc (s_goto (at_ dl_X6_leastTrap 18 (ins := .goto (-28)) rfl) (by decide)) (
  tkc (s_bipush (at_ dl_X6_leastTrap 19 (ins := .bipush (-9)) rfl) (by first | rfl | decide)) (
  tkc (s_rI (at_ dl_X6_leastTrap 20 (ins := .ireturn) rfl) rfl) ( tk0)))))))))))))))))))))
theorem lf_X6_leastTrap : lk (tb_X6_leastTrap) 0 = (x_c 1 (.int 1), false) ∧ lk (tb_X6_leastTrap) 1 = (x_is 2 3, false) ∧ lk (tb_X6_leastTrap) 2 = (x_il 3 3, true) ∧ lk (tb_X6_leastTrap) 3 = (x_c 4 (.int 1), false) ∧ lk (tb_X6_leastTrap) 4 = (x_al 5 0, false) ∧ lk (tb_X6_leastTrap) 5 = (x_gR 6 0 8, false) ∧ lk (tb_X6_leastTrap) 8 = (x_gI 5 4 11, false) ∧ lk (tb_X6_leastTrap) 11 = (x_ii 12 (fun x y : Int32 => x <<< (y &&& 31)), false) ∧ lk (tb_X6_leastTrap) 12 = (x_ic 33 15 (fun x y : Int32 => y ≤ x), false) ∧ lk (tb_X6_leastTrap) 15 = (x_al 16 0, false) ∧ lk (tb_X6_leastTrap) 16 = (x_il 17 3, false) ∧ lk (tb_X6_leastTrap) 17 = (x_il 18 1, false) ∧ lk (tb_X6_leastTrap) 18 = (x_il 19 2, false) ∧ lk (tb_X6_leastTrap) 19 = (x_cV 6 3 P_X6_isTrap 22, false) ∧ lk (tb_X6_leastTrap) 22 = (x_if 27 25 (fun x : Int32 => x = 0), false) ∧ lk (tb_X6_leastTrap) 25 = (x_il 26 3, false) ∧ lk (tb_X6_leastTrap) 26 = (x_rI, false) ∧ lk (tb_X6_leastTrap) 27 = (x_inc 30 3 1, false) ∧ lk (tb_X6_leastTrap) 30 = (x_go 2, false) ∧ lk (tb_X6_leastTrap) 33 = (x_c 35 (.int (-9)), false) ∧ lk (tb_X6_leastTrap) 35 = (x_rI, false) := ⟨rfl, rfl, rfl, rfl, rfl, rfl, rfl, rfl, rfl, rfl, rfl, rfl, rfl, rfl, rfl, rfl, rfl, rfl, rfl, rfl, rfl⟩
def P_X6_leastTrap : PTT := fun as M R => match as with
  | [.ref k, .int x, .int y] => k = 19 ∧ IsSu M.1 ∧ IsSt M.1 5 ∧ ∃ a, SR M.2.1 5 a ∧ AOk a ∧ R (some (.int (lsB (tpB (aV a) (aM a) x y) (2 ^ aN a)))) M
  | _ => False
set_option maxRecDepth 20000 in
theorem ok_X6_leastTrap : Ok yX6_leastTrap mt_X6_leastTrap P_X6_leastTrap := by
  refine Ok.of (by decide) rfl rfl rfl rfl fun av ⟨S, I, L⟩ R hP => ?_
  unfold P_X6_leastTrap at hP
  split at hP
  case h_2 => exact hP.elim
  rename_i k x y
  obtain ⟨k, rfl⟩ : ∃ q : Nat, q = k := ⟨k, rfl⟩
  refine ⟨by simp [ent, wide, mt_X6_leastTrap], ?_⟩
  show J mt_X6_leastTrap R 0 [some (.ref k), some (.int x), some (.int y), none] [] (S, I, L)
  try dsimp only at hP
  obtain ⟨rfl, hk, h5, a, hsr, ha, hR⟩ := hP
  have en : I 5 4 = nI (aN a) := hsr.1
  have h9 := ha.1
  have hp := pow9 h9.2.1
  have key := up (P := fun s => 1 ≤ s → cnB (tpB (aV a) (aM a) x y) s = 0 → J mt_X6_leastTrap R 2 [some (.ref 19), some (.int x), some (.int y), some (.int (nI s))] [] (S, I, L)) (n := 2 ^ aN a) (fun s hs ih h1 h0 => ?_) 1 (one_le _) (Nat.le_refl 1) (by simp [cnB])
  · refine J.of tk_X6_leastTrap 200 fun ρ hρ => ?_
    simp only [hρ, x_c, x_il, x_ll, x_al, x_is, x_as, x_ls, x_inc, x_ii, x_iq, x_i1, x_l2, x_lq, x_lh, x_i2l, x_l2i, x_lcmp, x_dup, x_dup2, x_pop, x_if, x_ifn, x_ic, x_icn, x_go, x_sw, swc, x_l01, x_mx, x_gI, x_gL, x_gR, x_pI, x_pZ, x_pL, x_pR, x_ia, x_za, x_aa, x_ias, x_zas, x_aas, x_fac, x_fa, x_slen, x_sa, x_ac, x_oi, x_new, x_na, x_cS, x_cV, x_cI, x_rI, x_rZ, x_rL, x_r0, pa, short, oc, lg, lset, lset2, wide, cond_true, cond_false, true_and, and_true, ↓reduceIte, Bool.false_eq_true, true_or, or_true, lf_X6_leastTrap]
    exact key
  by_cases hlt : s < 2 ^ aN a
  · have et : tn (nI s) = s := tn_nI (by omega)
    refine J.of tk_X6_leastTrap 200 fun ρ hρ => ?_
    simp only [hρ, x_c, x_il, x_ll, x_al, x_is, x_as, x_ls, x_inc, x_ii, x_iq, x_i1, x_l2, x_lq, x_lh, x_i2l, x_l2i, x_lcmp, x_dup, x_dup2, x_pop, x_if, x_ifn, x_ic, x_icn, x_go, x_sw, swc, x_l01, x_mx, x_gI, x_gL, x_gR, x_pI, x_pZ, x_pL, x_pR, x_ia, x_za, x_aa, x_ias, x_zas, x_aas, x_fac, x_fa, x_slen, x_sa, x_ac, x_oi, x_new, x_na, x_cS, x_cV, x_cI, x_rI, x_rZ, x_rL, x_r0, pa, short, oc, lg, lset, lset2, wide, cond_true, cond_false, true_and, and_true, ↓reduceIte, Bool.false_eq_true, true_or, or_true, lf_X6_leastTrap, hk, hk.f, h5, h5.f, en, shl1 (show aN a < 31 by omega), nI_leI (show 2 ^ aN a < 2 ^ 31 by omega) (show s < 2 ^ 31 by omega), nI_1, P_X6_isTrap, et, bB_0, Classical.not_not, eq_true (show s < 512 by omega), true_and]
    refine ⟨fun h => absurd h (by omega), fun _ => ⟨a, hsr, ha, fun h => ?_, fun h => ?_⟩⟩
    · exact ih hlt (by omega) (by rw [cnB, if_neg (fun q => h q.2)]; omega)
    · have e1 : cnB (tpB (aV a) (aM a) x y) (s + 1) ≠ 0 := by rw [cnB, if_pos ⟨by omega, h⟩]; omega
      rw [lsB_stay e1 (show s + 1 ≤ 2 ^ aN a by omega), lsB, if_pos ⟨by omega, h, h0⟩] at hR
      exact hR
  · have : s = 2 ^ aN a := by omega
    subst this
    refine J.of tk_X6_leastTrap 200 fun ρ hρ => ?_
    simp only [hρ, x_c, x_il, x_ll, x_al, x_is, x_as, x_ls, x_inc, x_ii, x_iq, x_i1, x_l2, x_lq, x_lh, x_i2l, x_l2i, x_lcmp, x_dup, x_dup2, x_pop, x_if, x_ifn, x_ic, x_icn, x_go, x_sw, swc, x_l01, x_mx, x_gI, x_gL, x_gR, x_pI, x_pZ, x_pL, x_pR, x_ia, x_za, x_aa, x_ias, x_zas, x_aas, x_fac, x_fa, x_slen, x_sa, x_ac, x_oi, x_new, x_na, x_cS, x_cV, x_cI, x_rI, x_rZ, x_rL, x_r0, pa, short, oc, lg, lset, lset2, wide, cond_true, cond_false, true_and, and_true, ↓reduceIte, Bool.false_eq_true, true_or, or_true, lf_X6_leastTrap, hk, hk.f, h5, h5.f, en, shl1 (show aN a < 31 by omega), nI_leI (show 2 ^ aN a < 2 ^ 31 by omega) (show 2 ^ aN a < 2 ^ 31 by omega), Nat.le_refl, true_implies, not_true_eq_false, false_implies]
    rwa [lsB_none h0] at hR

/-- orders in which the rank grows by c, of the sets ahead below s -/
def facN : Nat → Nat := fun j => ([1, 1, 2, 6, 24, 120, 720] : List Nat).getD j 0
theorem facI_N : ∀ j, j < 7 → facI j = nI (facN j) := by decide +kernel
theorem facN_le : ∀ j, facN j ≤ 720
  | 0 | 1 | 2 | 3 | 4 | 5 | 6 => by decide
  | j + 7 => by simp [facN]
def shS (a : AS) (c : Nat) : Nat → Nat
  | 0 => 0
  | s + 1 => shS a c s + (if ¬ s.testBit c = true ∧ rkA a s < rkA a (s ||| 2 ^ c) then facN (ones9 s) * facN (aM a - 1 - ones9 s) else 0)
theorem ones_m : ∀ m, m < 7 → ∀ c, c < m → ∀ s, s < 2 ^ m → ¬ s.testBit c = true → ones9 s < m := by decide +kernel
theorem rkA_le (a : AS) (s : Nat) : rkA a s ≤ aM a := rkS_le _ _ _
theorem nI_sub {a b : Nat} (h : b ≤ a) : nI a - nI b = nI (a - b) := by
  obtain ⟨d, rfl⟩ : ∃ d, a = b + d := ⟨a - b, by omega⟩
  rw [← nI_add, Int32.add_comm, Int32.add_sub_cancel, show b + d - b = d by omega]
def il_X6_ordersInWhichRankGrows : List (Nat × Instr × Nat) := [(0, .iconst 0, 1), (1, .istore_n 2, 1), (2, .iconst 0, 1), (3, .istore_n 3, 1), (4, .iload_n 3, 1), (5, .aload_n 0, 1), (6, .getfield 9, 3), (9, .invokevirtual 35, 3), (12, .if_icmp .gt 66, 3), (15, .iload_n 3, 1), (16, .iload_n 1, 1), (17, .ishr, 1), (18, .iconst 1, 1), (19, .iand, 1), (20, .ifCond .ne 52, 3), (23, .aload_n 0, 1), (24, .iload_n 3, 1), (25, .iconst 1, 1), (26, .iload_n 1, 1), (27, .ishl, 1), (28, .ior, 1), (29, .invokevirtual 39, 3), (32, .aload_n 0, 1), (33, .iload_n 3, 1), (34, .invokevirtual 39, 3), (37, .if_icmp .le 35, 3), (40, .iload_n 3, 1), (41, .invokestatic 43, 3), (44, .istore 4, 2), (46, .iload_n 2, 1), (47, .getstatic 55, 3), (50, .iload 4, 2), (52, .iaload, 1), (53, .getstatic 55, 3), (56, .aload_n 0, 1), (57, .getfield 9, 3), (60, .getfield 19, 3), (63, .iconst 1, 1), (64, .isub, 1), (65, .iload 4, 2), (67, .isub, 1), (68, .iaload, 1), (69, .imul, 1), (70, .iadd, 1), (71, .istore_n 2, 1), (72, .iinc 3 1, 3), (75, .goto (-71), 3), (78, .iload_n 2, 1), (79, .ireturn, 1)]
def mt_X6_ordersInWhichRankGrows : Mt := (cX6_ordersInWhichRankGrows, RX6, 5, (some .int), ({ frames := 2, cells := 0, slots := 0, locals := 46 } : Room), false, none, none)
set_option maxRecDepth 100000 in
theorem dl_X6_ordersInWhichRankGrows : ∀ q ∈ il_X6_ordersInWhichRankGrows, decode (mt_X6_ordersInWhichRankGrows).1 q.1 = .ok q.2 := by decide +kernel
def tb_X6_ordersInWhichRankGrows : Tb := [(0, x_c 1 (.int 0), false),
  (1, x_is 2 2, false),
  (2, x_c 3 (.int 0), false),
  (3, x_is 4 3, false),
  (4, x_il 5 3, true),
  (5, x_al 6 0, false),
  (6, x_gR 6 0 9, false),
  (9, x_cV 5 0 P_X5_allChecks 12, false),
  (12, x_ic 78 15 (fun x y : Int32 => y < x), false),
  (15, x_il 16 3, false),
  (16, x_il 17 1, false),
  (17, x_ii 18 (fun x y : Int32 => x >>> (y &&& 31)), false),
  (18, x_c 19 (.int 1), false),
  (19, x_ii 20 (fun x y : Int32 => x &&& y), false),
  (20, x_ifn 72 23 (fun x : Int32 => x = 0), false),
  (23, x_al 24 0, false),
  (24, x_il 25 3, false),
  (25, x_c 26 (.int 1), false),
  (26, x_il 27 1, false),
  (27, x_ii 28 (fun x y : Int32 => x <<< (y &&& 31)), false),
  (28, x_ii 29 (fun x y : Int32 => x ||| y), false),
  (29, x_cV 6 1 P_X6_rankOf 32, false),
  (32, x_al 33 0, false),
  (33, x_il 34 3, false),
  (34, x_cV 6 1 P_X6_rankOf 37, false),
  (37, x_ic 72 40 (fun x y : Int32 => x ≤ y), false),
  (40, x_il 41 3, false),
  (41, x_cS 1 P_J6_bitCount_0f7a4 44, false),
  (44, x_is 46 4, false),
  (46, x_il 47 2, false),
  (47, x_fac 50, false),
  (50, x_il 52 4, false),
  (52, x_fa 53, false),
  (53, x_fac 56, false),
  (56, x_al 57 0, false),
  (57, x_gR 6 0 60, false),
  (60, x_gI 5 5 63, false),
  (63, x_c 64 (.int 1), false),
  (64, x_ii 65 (fun x y : Int32 => x - y), false),
  (65, x_il 67 4, false),
  (67, x_ii 68 (fun x y : Int32 => x - y), false),
  (68, x_fa 69, false),
  (69, x_ii 70 (fun x y : Int32 => x * y), false),
  (70, x_ii 71 (fun x y : Int32 => x + y), false),
  (71, x_is 72 2, false),
  (72, x_inc 75 3 1, false),
  (75, x_go 4, false),
  (78, x_il 79 2, false),
  (79, x_rI, false)]
set_option maxRecDepth 100000 in
theorem tk_X6_ordersInWhichRankGrows : TbOk (mt_X6_ordersInWhichRankGrows) (tb_X6_ordersInWhichRankGrows) :=
  tkc (s_iconst (at_ dl_X6_ordersInWhichRankGrows 0 (ins := .iconst 0) rfl) (by first | rfl | decide)) (
  tkc (s_istore_n (at_ dl_X6_ordersInWhichRankGrows 1 (ins := .istore_n 2) rfl) (by decide)) (
  tkc (s_iconst (at_ dl_X6_ordersInWhichRankGrows 2 (ins := .iconst 0) rfl) (by first | rfl | decide)) (
  tkc (s_istore_n (at_ dl_X6_ordersInWhichRankGrows 3 (ins := .istore_n 3) rfl) (by decide)) (
  tkc (s_iload_n (at_ dl_X6_ordersInWhichRankGrows 4 (ins := .iload_n 3) rfl)) (
  tkc (s_aload_n (at_ dl_X6_ordersInWhichRankGrows 5 (ins := .aload_n 0) rfl)) (
  tkc (s_gR (at_ dl_X6_ordersInWhichRankGrows 6 (ins := .getfield 9) rfl) (by decide) (by decide) (by decide) (tg 210 (by decide +kernel) (by decide +kernel))) (
  tkc (s_cV ok_X5_allChecks (at_ dl_X6_ordersInWhichRankGrows 7 (ins := .invokevirtual 35) rfl) (by decide) rfl (tg 431 (by decide +kernel) (by decide +kernel)) (tg 416 (by decide +kernel) (by decide +kernel)) (tg 417 (by decide +kernel) (by decide +kernel)) (tg 45 (by decide +kernel) (by decide +kernel)) (tg 418 (by decide +kernel) (by decide +kernel)) (⟨by decide, by decide, by decide +kernel⟩) (⟨by decide, by decide⟩) rfl rfl) (
  tkc (s_ic_gt (at_ dl_X6_ordersInWhichRankGrows 8 (ins := .if_icmp .gt 66) rfl) (by decide)) (
  tkc (s_iload_n (at_ dl_X6_ordersInWhichRankGrows 9 (ins := .iload_n 3) rfl)) (
  tkc (s_iload_n (at_ dl_X6_ordersInWhichRankGrows 10 (ins := .iload_n 1) rfl)) (
  tkc (s_ishr (at_ dl_X6_ordersInWhichRankGrows 11 (ins := .ishr) rfl)) (
  tkc (s_iconst (at_ dl_X6_ordersInWhichRankGrows 12 (ins := .iconst 1) rfl) (by first | rfl | decide)) (
  tkc (s_iand (at_ dl_X6_ordersInWhichRankGrows 13 (ins := .iand) rfl)) (
  tkc (s_if_ne (at_ dl_X6_ordersInWhichRankGrows 14 (ins := .ifCond .ne 52) rfl) (by decide)) (
  tkc (s_aload_n (at_ dl_X6_ordersInWhichRankGrows 15 (ins := .aload_n 0) rfl)) (
  tkc (s_iload_n (at_ dl_X6_ordersInWhichRankGrows 16 (ins := .iload_n 3) rfl)) (
  tkc (s_iconst (at_ dl_X6_ordersInWhichRankGrows 17 (ins := .iconst 1) rfl) (by first | rfl | decide)) (
  tkc (s_iload_n (at_ dl_X6_ordersInWhichRankGrows 18 (ins := .iload_n 1) rfl)) (
  tkc (s_ishl (at_ dl_X6_ordersInWhichRankGrows 19 (ins := .ishl) rfl)) (
  tkc (s_ior (at_ dl_X6_ordersInWhichRankGrows 20 (ins := .ior) rfl)) (
  tkc (s_cV ok_X6_rankOf (at_ dl_X6_ordersInWhichRankGrows 21 (ins := .invokevirtual 39) rfl) (by decide) rfl (tg 432 (by decide +kernel) (by decide +kernel)) (tg 420 (by decide +kernel) (by decide +kernel)) (tg 421 (by decide +kernel) (by decide +kernel)) (tg 48 (by decide +kernel) (by decide +kernel)) (tg 422 (by decide +kernel) (by decide +kernel)) (⟨by decide, by decide, by decide +kernel⟩) (⟨by decide, by decide⟩) rfl rfl) (
  tkc (s_aload_n (at_ dl_X6_ordersInWhichRankGrows 22 (ins := .aload_n 0) rfl)) (
  tkc (s_iload_n (at_ dl_X6_ordersInWhichRankGrows 23 (ins := .iload_n 3) rfl)) (
  tkc (s_cV ok_X6_rankOf (at_ dl_X6_ordersInWhichRankGrows 24 (ins := .invokevirtual 39) rfl) (by decide) rfl (tg 432 (by decide +kernel) (by decide +kernel)) (tg 420 (by decide +kernel) (by decide +kernel)) (tg 421 (by decide +kernel) (by decide +kernel)) (tg 48 (by decide +kernel) (by decide +kernel)) (tg 422 (by decide +kernel) (by decide +kernel)) (⟨by decide, by decide, by decide +kernel⟩) (⟨by decide, by decide⟩) rfl rfl) (
  tkc (s_ic_le (at_ dl_X6_ordersInWhichRankGrows 25 (ins := .if_icmp .le 35) rfl) (by decide)) (
  tkc (s_iload_n (at_ dl_X6_ordersInWhichRankGrows 26 (ins := .iload_n 3) rfl)) (
  tkc (s_cS ok_J6_bitCount_0f7a4 (at_ dl_X6_ordersInWhichRankGrows 27 (ins := .invokestatic 43) rfl) (tg 437 (by decide +kernel) (by decide +kernel)) (tg 374 (by decide +kernel) (by decide +kernel)) (tg 53 (by decide +kernel) (by decide +kernel)) (tg 375 (by decide +kernel) (by decide +kernel)) (⟨by decide, by decide, by decide +kernel⟩) (⟨by decide, by decide⟩) rfl rfl) (
  tkc (s_istore (at_ dl_X6_ordersInWhichRankGrows 28 (ins := .istore 4) rfl) (by decide)) (
  tkc (s_iload_n (at_ dl_X6_ordersInWhichRankGrows 29 (ins := .iload_n 2) rfl)) (
  tkc (s_facN (at_ dl_X6_ordersInWhichRankGrows 30 (ins := .getstatic 55) rfl) rfl) (
  tkc (s_iload (at_ dl_X6_ordersInWhichRankGrows 31 (ins := .iload 4) rfl)) (
  tkc (s_fa (at_ dl_X6_ordersInWhichRankGrows 32 (ins := .iaload) rfl)) (
  tkc (s_facN (at_ dl_X6_ordersInWhichRankGrows 33 (ins := .getstatic 55) rfl) rfl) (
  tkc (s_aload_n (at_ dl_X6_ordersInWhichRankGrows 34 (ins := .aload_n 0) rfl)) (
  tkc (s_gR (at_ dl_X6_ordersInWhichRankGrows 35 (ins := .getfield 9) rfl) (by decide) (by decide) (by decide) (tg 210 (by decide +kernel) (by decide +kernel))) (
  tkc (s_gI (at_ dl_X6_ordersInWhichRankGrows 36 (ins := .getfield 19) rfl) (by decide) (by decide) (by decide) (tg 141 (by decide +kernel) (by decide +kernel))) (
  tkc (s_iconst (at_ dl_X6_ordersInWhichRankGrows 37 (ins := .iconst 1) rfl) (by first | rfl | decide)) (
  tkc (s_isub (at_ dl_X6_ordersInWhichRankGrows 38 (ins := .isub) rfl)) (
  tkc (s_iload (at_ dl_X6_ordersInWhichRankGrows 39 (ins := .iload 4) rfl)) (
  tkc (s_isub (at_ dl_X6_ordersInWhichRankGrows 40 (ins := .isub) rfl)) (
  tkc (s_fa (at_ dl_X6_ordersInWhichRankGrows 41 (ins := .iaload) rfl)) (
  tkc (s_imul (at_ dl_X6_ordersInWhichRankGrows 42 (ins := .imul) rfl)) (
  tkc (s_iadd (at_ dl_X6_ordersInWhichRankGrows 43 (ins := .iadd) rfl)) (
  tkc (s_istore_n (at_ dl_X6_ordersInWhichRankGrows 44 (ins := .istore_n 2) rfl) (by decide)) (
  tkc (s_iinc (at_ dl_X6_ordersInWhichRankGrows 45 (ins := .iinc 3 1) rfl) (by decide) (by first | rfl | decide)) (
  tkc (s_goto (at_ dl_X6_ordersInWhichRankGrows 46 (ins := .goto (-71)) rfl) (by decide)) (
  tkc (s_iload_n (at_ dl_X6_ordersInWhichRankGrows 47 (ins := .iload_n 2) rfl)) (
  tkc (s_rI (at_ dl_X6_ordersInWhichRankGrows 48 (ins := .ireturn) rfl) rfl) ( tk0)))))))))))))))))))))))))))))))))))))))))))))))))
theorem lf_X6_ordersInWhichRankGrows : lk (tb_X6_ordersInWhichRankGrows) 0 = (x_c 1 (.int 0), false) ∧ lk (tb_X6_ordersInWhichRankGrows) 1 = (x_is 2 2, false) ∧ lk (tb_X6_ordersInWhichRankGrows) 2 = (x_c 3 (.int 0), false) ∧ lk (tb_X6_ordersInWhichRankGrows) 3 = (x_is 4 3, false) ∧ lk (tb_X6_ordersInWhichRankGrows) 4 = (x_il 5 3, true) ∧ lk (tb_X6_ordersInWhichRankGrows) 5 = (x_al 6 0, false) ∧ lk (tb_X6_ordersInWhichRankGrows) 6 = (x_gR 6 0 9, false) ∧ lk (tb_X6_ordersInWhichRankGrows) 9 = (x_cV 5 0 P_X5_allChecks 12, false) ∧ lk (tb_X6_ordersInWhichRankGrows) 12 = (x_ic 78 15 (fun x y : Int32 => y < x), false) ∧ lk (tb_X6_ordersInWhichRankGrows) 15 = (x_il 16 3, false) ∧ lk (tb_X6_ordersInWhichRankGrows) 16 = (x_il 17 1, false) ∧ lk (tb_X6_ordersInWhichRankGrows) 17 = (x_ii 18 (fun x y : Int32 => x >>> (y &&& 31)), false) ∧ lk (tb_X6_ordersInWhichRankGrows) 18 = (x_c 19 (.int 1), false) ∧ lk (tb_X6_ordersInWhichRankGrows) 19 = (x_ii 20 (fun x y : Int32 => x &&& y), false) ∧ lk (tb_X6_ordersInWhichRankGrows) 20 = (x_ifn 72 23 (fun x : Int32 => x = 0), false) ∧ lk (tb_X6_ordersInWhichRankGrows) 23 = (x_al 24 0, false) ∧ lk (tb_X6_ordersInWhichRankGrows) 24 = (x_il 25 3, false) ∧ lk (tb_X6_ordersInWhichRankGrows) 25 = (x_c 26 (.int 1), false) ∧ lk (tb_X6_ordersInWhichRankGrows) 26 = (x_il 27 1, false) ∧ lk (tb_X6_ordersInWhichRankGrows) 27 = (x_ii 28 (fun x y : Int32 => x <<< (y &&& 31)), false) ∧ lk (tb_X6_ordersInWhichRankGrows) 28 = (x_ii 29 (fun x y : Int32 => x ||| y), false) ∧ lk (tb_X6_ordersInWhichRankGrows) 29 = (x_cV 6 1 P_X6_rankOf 32, false) ∧ lk (tb_X6_ordersInWhichRankGrows) 32 = (x_al 33 0, false) ∧ lk (tb_X6_ordersInWhichRankGrows) 33 = (x_il 34 3, false) ∧ lk (tb_X6_ordersInWhichRankGrows) 34 = (x_cV 6 1 P_X6_rankOf 37, false) ∧ lk (tb_X6_ordersInWhichRankGrows) 37 = (x_ic 72 40 (fun x y : Int32 => x ≤ y), false) ∧ lk (tb_X6_ordersInWhichRankGrows) 40 = (x_il 41 3, false) ∧ lk (tb_X6_ordersInWhichRankGrows) 41 = (x_cS 1 P_J6_bitCount_0f7a4 44, false) ∧ lk (tb_X6_ordersInWhichRankGrows) 44 = (x_is 46 4, false) ∧ lk (tb_X6_ordersInWhichRankGrows) 46 = (x_il 47 2, false) ∧ lk (tb_X6_ordersInWhichRankGrows) 47 = (x_fac 50, false) ∧ lk (tb_X6_ordersInWhichRankGrows) 50 = (x_il 52 4, false) ∧ lk (tb_X6_ordersInWhichRankGrows) 52 = (x_fa 53, false) ∧ lk (tb_X6_ordersInWhichRankGrows) 53 = (x_fac 56, false) ∧ lk (tb_X6_ordersInWhichRankGrows) 56 = (x_al 57 0, false) ∧ lk (tb_X6_ordersInWhichRankGrows) 57 = (x_gR 6 0 60, false) ∧ lk (tb_X6_ordersInWhichRankGrows) 60 = (x_gI 5 5 63, false) ∧ lk (tb_X6_ordersInWhichRankGrows) 63 = (x_c 64 (.int 1), false) ∧ lk (tb_X6_ordersInWhichRankGrows) 64 = (x_ii 65 (fun x y : Int32 => x - y), false) ∧ lk (tb_X6_ordersInWhichRankGrows) 65 = (x_il 67 4, false) ∧ lk (tb_X6_ordersInWhichRankGrows) 67 = (x_ii 68 (fun x y : Int32 => x - y), false) ∧ lk (tb_X6_ordersInWhichRankGrows) 68 = (x_fa 69, false) ∧ lk (tb_X6_ordersInWhichRankGrows) 69 = (x_ii 70 (fun x y : Int32 => x * y), false) ∧ lk (tb_X6_ordersInWhichRankGrows) 70 = (x_ii 71 (fun x y : Int32 => x + y), false) ∧ lk (tb_X6_ordersInWhichRankGrows) 71 = (x_is 72 2, false) ∧ lk (tb_X6_ordersInWhichRankGrows) 72 = (x_inc 75 3 1, false) ∧ lk (tb_X6_ordersInWhichRankGrows) 75 = (x_go 4, false) ∧ lk (tb_X6_ordersInWhichRankGrows) 78 = (x_il 79 2, false) ∧ lk (tb_X6_ordersInWhichRankGrows) 79 = (x_rI, false) := ⟨rfl, rfl, rfl, rfl, rfl, rfl, rfl, rfl, rfl, rfl, rfl, rfl, rfl, rfl, rfl, rfl, rfl, rfl, rfl, rfl, rfl, rfl, rfl, rfl, rfl, rfl, rfl, rfl, rfl, rfl, rfl, rfl, rfl, rfl, rfl, rfl, rfl, rfl, rfl, rfl, rfl, rfl, rfl, rfl, rfl, rfl, rfl, rfl, rfl⟩
def P_X6_ordersInWhichRankGrows : PTT := fun as M R => match as with
  | [.ref k, .int c] => k = 19 ∧ IsSu M.1 ∧ IsSt M.1 5 ∧ ∃ a, SR M.2.1 5 a ∧ AOk a ∧ tn c < aM a ∧ ∀ I', (∀ q, q ≠ 20 → I' q = M.2.1 q) → R (some (.int (nI (shS a (tn c) (2 ^ aM a))))) (M.1, I', M.2.2)
  | _ => False
theorem pow_m {c m : Nat} (h : c < m) (hm : m ≤ 6) : 2 ^ c < 64 := by
  have : 2 ^ c < 2 ^ m := Nat.pow_lt_pow_right (by omega) h
  have := pow6 hm
  omega
set_option maxRecDepth 20000 in
theorem ok_X6_ordersInWhichRankGrows : Ok yX6_ordersInWhichRankGrows mt_X6_ordersInWhichRankGrows P_X6_ordersInWhichRankGrows := by
  refine Ok.of (by decide) rfl rfl rfl rfl fun av ⟨S, I, L⟩ R hP => ?_
  unfold P_X6_ordersInWhichRankGrows at hP
  split at hP
  case h_2 => exact hP.elim
  rename_i k c
  obtain ⟨k, rfl⟩ : ∃ q : Nat, q = k := ⟨k, rfl⟩
  refine ⟨by simp [ent, wide, mt_X6_ordersInWhichRankGrows], ?_⟩
  show J mt_X6_ordersInWhichRankGrows R 0 [some (.ref k), some (.int c), none, none, none] [] (S, I, L)
  try dsimp only at hP
  obtain ⟨rfl, hk, h5, a, hsr, ha, hc, hR⟩ := hP
  have h9 := ha.1
  obtain ⟨j, hj, rfl⟩ := tn_ex (Nat.lt_trans hc (show aM a < 512 by omega))
  rw [tn_nI (n := j) (by omega)] at hR hc
  have hp := pow6 h9.2.2
  have key := up (P := fun s => ∀ I', (∀ q, q ≠ 20 → I' q = I q) → J mt_X6_ordersInWhichRankGrows R 4 [some (.ref 19), some (.int (nI j)), some (.int (nI (shS a j s))), some (.int (nI s)), none] [] (S, I', L)) (n := 2 ^ aM a) (fun s hs ih I' hf => ?_) 0 (Nat.zero_le _) I (fun _ _ => rfl)
  · refine J.of tk_X6_ordersInWhichRankGrows 200 fun ρ hρ => ?_
    simp only [hρ, x_c, x_il, x_ll, x_al, x_is, x_as, x_ls, x_inc, x_ii, x_iq, x_i1, x_l2, x_lq, x_lh, x_i2l, x_l2i, x_lcmp, x_dup, x_dup2, x_pop, x_if, x_ifn, x_ic, x_icn, x_go, x_sw, swc, x_l01, x_mx, x_gI, x_gL, x_gR, x_pI, x_pZ, x_pL, x_pR, x_ia, x_za, x_aa, x_ias, x_zas, x_aas, x_fac, x_fa, x_slen, x_sa, x_ac, x_oi, x_new, x_na, x_cS, x_cV, x_cI, x_rI, x_rZ, x_rL, x_r0, pa, short, oc, lg, lset, lset2, wide, cond_true, cond_false, true_and, and_true, ↓reduceIte, Bool.false_eq_true, true_or, or_true, lf_X6_ordersInWhichRankGrows]
    exact key
  have hsr' : SR I' 5 a := hsr.fr (fun q h1 h2 => hf q (by omega))
  have em : I' 5 5 = nI (aM a) := hsr'.2.1
  have ho := one_le (aM a)
  by_cases hlt : s < 2 ^ aM a
  · have et : tn (nI s) = s := tn_nI (by omega)
    have hpm := pow_m hc h9.2.2
    have hor : s ||| 2 ^ j < 64 := Nat.or_lt_two_pow (n := 6) (by omega) (by omega)
    have et2 : tn (nI (s ||| 2 ^ j)) = s ||| 2 ^ j := tn_nI (by omega)
    have r1 := rkA_le a s
    have r2 := rkA_le a (s ||| 2 ^ j)
    have hn : ¬ s > 2 ^ aM a - 1 := by omega
    refine J.of tk_X6_ordersInWhichRankGrows 200 fun ρ hρ => ?_
    simp only [hρ, x_c, x_il, x_ll, x_al, x_is, x_as, x_ls, x_inc, x_ii, x_iq, x_i1, x_l2, x_lq, x_lh, x_i2l, x_l2i, x_lcmp, x_dup, x_dup2, x_pop, x_if, x_ifn, x_ic, x_icn, x_go, x_sw, swc, x_l01, x_mx, x_gI, x_gL, x_gR, x_pI, x_pZ, x_pL, x_pR, x_ia, x_za, x_aa, x_ias, x_zas, x_aas, x_fac, x_fa, x_slen, x_sa, x_ac, x_oi, x_new, x_na, x_cS, x_cV, x_cI, x_rI, x_rZ, x_rL, x_r0, pa, short, oc, lg, lset, lset2, wide, cond_true, cond_false, true_and, and_true, ↓reduceIte, Bool.false_eq_true, true_or, or_true, lf_X6_ordersInWhichRankGrows, hk, hk.f, h5, h5.f, em, allC h9.2.2, nI_ltI (show 2 ^ aM a - 1 < 2 ^ 31 by omega) (show s < 2 ^ 31 by omega), nI_1, P_X6_rankOf, P_X5_allChecks, P_J6_bitCount_0f7a4, et, et2, shl1 (show j < 31 by omega), nI_or, bit_c (show s < 2 ^ 31 by omega) (show j < 31 by omega), Classical.not_not, eq_true (show s < 512 by omega), eq_true (show s ||| 2 ^ j < 512 by omega), true_and]
    refine ⟨fun h => absurd h (by omega), fun _ => ⟨fun h => ?_, fun h => ⟨a, hsr', ha, fun I2 hf2 => ⟨a, hsr'.fr (fun q h1 h2 => hf2 q (by omega)), ha, fun I3 hf3 => ?_⟩⟩⟩⟩
    · have := ih hlt I' hf
      rwa [shS, if_neg (fun q => q.1 h)] at this
    · have hf' : ∀ q, q ≠ 20 → I3 q = I q := fun q hq => by rw [hf3 q hq, hf2 q hq, hf q hq]
      have := ih hlt I3 hf'
      have e5 : I3 5 5 = nI (aM a) := (hsr.fr (fun q h1 h2 => hf' q (by omega))).2.1
      have ho9 := ones_m (aM a) (by omega) j hc s hlt h
      have es : nI (aM a) - 1 - nI (ones9 s) = nI (aM a - 1 - ones9 s) := by rw [nI_m1 (by omega), nI_sub (by omega)]
      rw [show (rkS (aV a) (s ||| 2 ^ j) (aM a)).1 = rkA a (s ||| 2 ^ j) from rfl, show (rkS (aV a) s (aM a)).1 = rkA a s from rfl, nI_leI (by omega) (by omega), e5, es, ncl (by omega), ncl (by omega), facI_N _ (by omega), facI_N _ (by omega), pk_mul, nI_add]
      refine ⟨fun h2 => ?_, fun h2 => ⟨vp_in_nI (by omega) (by omega), vp_in_nI (by omega) (by omega), ?_⟩⟩
      · rwa [shS, if_neg (fun q => by omega)] at this
      · rw [shS, if_pos ⟨h, by omega⟩] at this
        exact J.weak (by simp [lsub]) this
  · have : s = 2 ^ aM a := by omega
    subst this
    have hn : nI (2 ^ aM a - 1) < nI (2 ^ aM a) ↔ True := by rw [nI_ltI (by omega) (by omega)]; exact ⟨fun _ => trivial, fun _ => by omega⟩
    refine J.of tk_X6_ordersInWhichRankGrows 200 fun ρ hρ => ?_
    simp only [hρ, x_c, x_il, x_ll, x_al, x_is, x_as, x_ls, x_inc, x_ii, x_iq, x_i1, x_l2, x_lq, x_lh, x_i2l, x_l2i, x_lcmp, x_dup, x_dup2, x_pop, x_if, x_ifn, x_ic, x_icn, x_go, x_sw, swc, x_l01, x_mx, x_gI, x_gL, x_gR, x_pI, x_pZ, x_pL, x_pR, x_ia, x_za, x_aa, x_ias, x_zas, x_aas, x_fac, x_fa, x_slen, x_sa, x_ac, x_oi, x_new, x_na, x_cS, x_cV, x_cI, x_rI, x_rZ, x_rL, x_r0, pa, short, oc, lg, lset, lset2, wide, cond_true, cond_false, true_and, and_true, ↓reduceIte, Bool.false_eq_true, true_or, or_true, lf_X6_ordersInWhichRankGrows, hk, hk.f, h5, h5.f, em, allC h9.2.2, P_X5_allChecks, hn, true_implies, not_true_eq_false, false_implies]
    exact hR I' hf
