/-! RING of the model -/
theorem wy_rg {f : Nat → Bool} : ∀ {l s : Nat}, s + l ≤ 7 → (wyS f s l = 99 ∧ rgS f s l = 99) ∨ (wyS f s l + 1 = rgS f s l ∧ rgS f s l ≤ 14)
  | 0, _, _ => .inl ⟨rfl, rfl⟩
  | l + 1, s, h => by
    simp only [wyS, rgS]
    split
    · exact .inr ⟨by omega, by omega⟩
    · exact wy_rg (by omega)
theorem wo_bit {ov : Nat → Nat} {c b c' b' : Nat} : (wo ov c b c').testBit b' = true ↔ ((ov c').testBit b' = true ∧ ¬ (c' = c ∧ b' = b)) := by
  by_cases q : c' = c
  · subst q
    rw [wo_s, df_t, pow_bit]
    exact ⟨fun h => ⟨h.1, fun z => h.2 z.2⟩, fun h => ⟨h.1, fun z => h.2 ⟨rfl, z⟩⟩⟩
  · rw [wo_n q]
    exact ⟨fun h => ⟨h, fun z => q z.1⟩, fun h => h.1⟩
theorem ring_0 {ov : Nat → Nat} {m c b : Nat} : ¬ (cW (wo ov c b) m b 0).2.testBit c = true := fun h => by
  rw [cW, oS_bit, wo_s] at h
  obtain ⟨-, x, h1, h2⟩ := h
  rw [df_t] at h1
  exact h1.2 h2
theorem wy_ring {a : AS} {c b : Nat} : (wyW (wo (aV a) c b) (aM a) b c = 99 ∧ rgA a c b = 99) ∨ (wyW (wo (aV a) c b) (aM a) b c + 1 = rgA a c b ∧ rgA a c b ≤ 14) := by
  have e : wyW (wo (aV a) c b) (aM a) b c = wyS (fun t => (cW (wo (aV a) c b) (aM a) b t).2.testBit c) 1 6 := by
    unfold wyW
    rw [wyS, if_neg ring_0]
  rw [e]
  exact wy_rg (by omega)
def il_X10_ring : List (Nat × Instr × Nat) := [(0, .bipush 99, 2), (2, .istore_n 1, 1), (3, .iconst 0, 1), (4, .istore_n 2, 1), (5, .iload_n 2, 1), (6, .aload_n 0, 1), (7, .getfield 64, 3), (10, .if_icmp .ge 78, 3), (13, .iconst 0, 1), (14, .istore_n 3, 1), (15, .iload_n 3, 1), (16, .aload_n 0, 1), (17, .getfield 53, 3), (20, .if_icmp .ge 62, 3), (23, .aload_n 0, 1), (24, .getfield 13, 3), (27, .bipush 18, 2), (29, .iload_n 2, 1), (30, .iadd, 1), (31, .iaload, 1), (32, .iload_n 3, 1), (33, .invokestatic 102, 3), (36, .ifCond .eq 40, 3), (39, .aload_n 0, 1), (40, .aload_n 0, 1), (41, .getfield 13, 3), (44, .iload_n 3, 1), (45, .iload_n 2, 1), (46, .iload_n 3, 1), (47, .invokevirtual 143, 3), (50, .aload_n 0, 1), (51, .getfield 47, 3), (54, .bipush 9, 2), (56, .iload_n 2, 1), (57, .iadd, 1), (58, .iaload, 1), (59, .iconst 1, 1), (60, .iadd, 1), (61, .istore 4, 2), (63, .iload 4, 2), (65, .iload_n 1, 1), (66, .if_icmp .ge 8, 3), (69, .iload 4, 2), (71, .goto 4, 3), (74, .iload_n 1, 1), (75, .istore_n 1, 1), (76, .iinc 3 1, 3), (79, .goto (-64), 3), (82, .iinc 2 1, 3), (85, .goto (-80), 3), (88, .iload_n 1, 1), (89, .bipush 99, 2), (91, .if_icmp .ge 7, 3), (94, .iload_n 1, 1), (95, .goto 5, 3), (98, .bipush (-9), 2), (100, .ireturn, 1)]
def mt_X10_ring : Mt := (cX10_ring, RX10, 5, (some .int), ({ frames := 2, cells := 0, slots := 0, locals := 49 } : Room), false, none, none)
set_option maxRecDepth 100000 in
theorem dl_X10_ring : ∀ q ∈ il_X10_ring, decode (mt_X10_ring).1 q.1 = .ok q.2 := by decide +kernel
def tb_X10_ring : Tb := [(0, x_c 2 (.int 99), false),
  (2, x_is 3 1, false),
  (3, x_c 4 (.int 0), false),
  (4, x_is 5 2, false),
  (5, x_il 6 2, true),
  (6, x_al 7 0, false),
  (7, x_gI 10 3 10, false),
  (10, x_ic 88 13 (fun x y : Int32 => y ≤ x), false),
  (13, x_c 14 (.int 0), false),
  (14, x_is 15 3, false),
  (15, x_il 16 3, true),
  (16, x_al 17 0, false),
  (17, x_gI 10 2 20, false),
  (20, x_ic 82 23 (fun x y : Int32 => y ≤ x), false),
  (23, x_al 24 0, false),
  (24, x_gR 10 4 27, false),
  (27, x_c 29 (.int 18), false),
  (29, x_il 30 2, false),
  (30, x_ii 31 (fun x y : Int32 => x + y), false),
  (31, x_ia 32, false),
  (32, x_il 33 3, false),
  (33, x_cS 2 P_X10_has 36, false),
  (36, x_if 76 39 (fun x : Int32 => x = 0), false),
  (39, x_al 40 0, false),
  (40, x_al 41 0, false),
  (41, x_gR 10 4 44, false),
  (44, x_il 45 3, false),
  (45, x_il 46 2, false),
  (46, x_il 47 3, false),
  (47, x_cV 10 4 P_X10_layWays 50, false),
  (50, x_al 51 0, false),
  (51, x_gR 10 19 54, false),
  (54, x_c 56 (.int 9), false),
  (56, x_il 57 2, false),
  (57, x_ii 58 (fun x y : Int32 => x + y), false),
  (58, x_ia 59, false),
  (59, x_c 60 (.int 1), false),
  (60, x_ii 61 (fun x y : Int32 => x + y), false),
  (61, x_is 63 4, false),
  (63, x_il 65 4, false),
  (65, x_il 66 1, false),
  (66, x_ic 74 69 (fun x y : Int32 => y ≤ x), false),
  (69, x_il 71 4, false),
  (71, x_go 75, false),
  (74, x_il 75 1, false),
  (75, x_is 76 1, false),
  (76, x_inc 79 3 1, false),
  (79, x_go 15, false),
  (82, x_inc 85 2 1, false),
  (85, x_go 5, false),
  (88, x_il 89 1, false),
  (89, x_c 91 (.int 99), false),
  (91, x_ic 98 94 (fun x y : Int32 => y ≤ x), false),
  (94, x_il 95 1, false),
  (95, x_go 100, false),
  (98, x_c 100 (.int (-9)), false),
  (100, x_rI, false)]
set_option maxRecDepth 100000 in
theorem tk_X10_ring : TbOk (mt_X10_ring) (tb_X10_ring) :=
  tkc (s_bipush (at_ dl_X10_ring 0 (ins := .bipush 99) rfl) (by first | rfl | decide)) (
  tkc (s_istore_n (at_ dl_X10_ring 1 (ins := .istore_n 1) rfl) (by decide)) (
  tkc (s_iconst (at_ dl_X10_ring 2 (ins := .iconst 0) rfl) (by first | rfl | decide)) (
  tkc (s_istore_n (at_ dl_X10_ring 3 (ins := .istore_n 2) rfl) (by decide)) (
  tkc (s_iload_n (at_ dl_X10_ring 4 (ins := .iload_n 2) rfl)) (
  tkc (s_aload_n (at_ dl_X10_ring 5 (ins := .aload_n 0) rfl)) (
  tkc (s_gI (at_ dl_X10_ring 6 (ins := .getfield 64) rfl) (by decide) (by decide) (by decide) (tg 699 (by decide +kernel) (by decide +kernel))) (
  tkc (s_ic_ge (at_ dl_X10_ring 7 (ins := .if_icmp .ge 78) rfl) (by decide)) (
  tkc (s_iconst (at_ dl_X10_ring 8 (ins := .iconst 0) rfl) (by first | rfl | decide)) (
  tkc (s_istore_n (at_ dl_X10_ring 9 (ins := .istore_n 3) rfl) (by decide)) (
  tkc (s_iload_n (at_ dl_X10_ring 10 (ins := .iload_n 3) rfl)) (
  tkc (s_aload_n (at_ dl_X10_ring 11 (ins := .aload_n 0) rfl)) (
  tkc (s_gI (at_ dl_X10_ring 12 (ins := .getfield 53) rfl) (by decide) (by decide) (by decide) (tg 698 (by decide +kernel) (by decide +kernel))) (
  tkc (s_ic_ge (at_ dl_X10_ring 13 (ins := .if_icmp .ge 62) rfl) (by decide)) (
  tkc (s_aload_n (at_ dl_X10_ring 14 (ins := .aload_n 0) rfl)) (
  tkc (s_gR (at_ dl_X10_ring 15 (ins := .getfield 13) rfl) (by decide) (by decide) (by decide) (tg 700 (by decide +kernel) (by decide +kernel))) (
  tkc (s_bipush (at_ dl_X10_ring 16 (ins := .bipush 18) rfl) (by first | rfl | decide)) (
  tkc (s_iload_n (at_ dl_X10_ring 17 (ins := .iload_n 2) rfl)) (
  tkc (s_iadd (at_ dl_X10_ring 18 (ins := .iadd) rfl)) (
  tkc (s_ia (at_ dl_X10_ring 19 (ins := .iaload) rfl)) (
  tkc (s_iload_n (at_ dl_X10_ring 20 (ins := .iload_n 3) rfl)) (
  tkc (s_cS ok_X10_has (at_ dl_X10_ring 21 (ins := .invokestatic 102) rfl) (tg 828 (by decide +kernel) (by decide +kernel)) (tg 829 (by decide +kernel) (by decide +kernel)) (tg 51 (by decide +kernel) (by decide +kernel)) (tg 830 (by decide +kernel) (by decide +kernel)) (⟨by decide, by decide, by decide +kernel⟩) (⟨by decide, by decide⟩) rfl rfl) (
  tkc (s_if_eq (at_ dl_X10_ring 22 (ins := .ifCond .eq 40) rfl) (by decide)) (
  tkc (s_aload_n (at_ dl_X10_ring 23 (ins := .aload_n 0) rfl)) (
  tkc (s_aload_n (at_ dl_X10_ring 24 (ins := .aload_n 0) rfl)) (
  tkc (s_gR (at_ dl_X10_ring 25 (ins := .getfield 13) rfl) (by decide) (by decide) (by decide) (tg 700 (by decide +kernel) (by decide +kernel))) (
  tkc (s_iload_n (at_ dl_X10_ring 26 (ins := .iload_n 3) rfl)) (
  tkc (s_iload_n (at_ dl_X10_ring 27 (ins := .iload_n 2) rfl)) (
  tkc (s_iload_n (at_ dl_X10_ring 28 (ins := .iload_n 3) rfl)) (
  tkc (s_cV ok_X10_layWays (at_ dl_X10_ring 29 (ins := .invokevirtual 143) rfl) (by decide) rfl (tg 831 (by decide +kernel) (by decide +kernel)) (tg 833 (by decide +kernel) (by decide +kernel)) (tg 25 (by decide +kernel) (by decide +kernel)) (tg 51 (by decide +kernel) (by decide +kernel)) (tg 834 (by decide +kernel) (by decide +kernel)) (⟨by decide, by decide, by decide +kernel⟩) (⟨by decide, by decide⟩) rfl rfl) (
  tkc (s_aload_n (at_ dl_X10_ring 30 (ins := .aload_n 0) rfl)) (
  tkc (s_gR (at_ dl_X10_ring 31 (ins := .getfield 47) rfl) (by decide) (by decide) (by decide) (tg 715 (by decide +kernel) (by decide +kernel))) (
  tkc (s_bipush (at_ dl_X10_ring 32 (ins := .bipush 9) rfl) (by first | rfl | decide)) (
  tkc (s_iload_n (at_ dl_X10_ring 33 (ins := .iload_n 2) rfl)) (
  tkc (s_iadd (at_ dl_X10_ring 34 (ins := .iadd) rfl)) (
  tkc (s_ia (at_ dl_X10_ring 35 (ins := .iaload) rfl)) (
  tkc (s_iconst (at_ dl_X10_ring 36 (ins := .iconst 1) rfl) (by first | rfl | decide)) (
  tkc (s_iadd (at_ dl_X10_ring 37 (ins := .iadd) rfl)) (
  tkc (s_istore (at_ dl_X10_ring 38 (ins := .istore 4) rfl) (by decide)) (
  tkc (s_iload (at_ dl_X10_ring 39 (ins := .iload 4) rfl)) (
  tkc (s_iload_n (at_ dl_X10_ring 40 (ins := .iload_n 1) rfl)) (
  tkc (s_ic_ge (at_ dl_X10_ring 41 (ins := .if_icmp .ge 8) rfl) (by decide)) (
  tkc (s_iload (at_ dl_X10_ring 42 (ins := .iload 4) rfl)) (
  tkc (s_goto (at_ dl_X10_ring 43 (ins := .goto 4) rfl) (by decide)) (
  tkc (s_iload_n (at_ dl_X10_ring 44 (ins := .iload_n 1) rfl)) (
  tkc (s_istore_n (at_ dl_X10_ring 45 (ins := .istore_n 1) rfl) (by decide)) (
  tkc (s_iinc (at_ dl_X10_ring 46 (ins := .iinc 3 1) rfl) (by decide) (by first | rfl | decide)) (
  tkc (s_goto (at_ dl_X10_ring 47 (ins := .goto (-64)) rfl) (by decide)) (
  tkc (s_iinc (at_ dl_X10_ring 48 (ins := .iinc 2 1) rfl) (by decide) (by first | rfl | decide)) (
  tkc (s_goto (at_ dl_X10_ring 49 (ins := .goto (-80)) rfl) (by decide)) (
  tkc (s_iload_n (at_ dl_X10_ring 50 (ins := .iload_n 1) rfl)) (
  tkc (s_bipush (at_ dl_X10_ring 51 (ins := .bipush 99) rfl) (by first | rfl | decide)) (
  tkc (s_ic_ge (at_ dl_X10_ring 52 (ins := .if_icmp .ge 7) rfl) (by decide)) (
  tkc (s_iload_n (at_ dl_X10_ring 53 (ins := .iload_n 1) rfl)) (
  tkc (s_goto (at_ dl_X10_ring 54 (ins := .goto 5) rfl) (by decide)) (
  tkc (s_bipush (at_ dl_X10_ring 55 (ins := .bipush (-9)) rfl) (by first | rfl | decide)) (
  tkc (s_rI (at_ dl_X10_ring 56 (ins := .ireturn) rfl) rfl) ( tk0)))))))))))))))))))))))))))))))))))))))))))))))))))))))))
theorem lf_X10_ring : lk (tb_X10_ring) 0 = (x_c 2 (.int 99), false) ∧ lk (tb_X10_ring) 2 = (x_is 3 1, false) ∧ lk (tb_X10_ring) 3 = (x_c 4 (.int 0), false) ∧ lk (tb_X10_ring) 4 = (x_is 5 2, false) ∧ lk (tb_X10_ring) 5 = (x_il 6 2, true) ∧ lk (tb_X10_ring) 6 = (x_al 7 0, false) ∧ lk (tb_X10_ring) 7 = (x_gI 10 3 10, false) ∧ lk (tb_X10_ring) 10 = (x_ic 88 13 (fun x y : Int32 => y ≤ x), false) ∧ lk (tb_X10_ring) 13 = (x_c 14 (.int 0), false) ∧ lk (tb_X10_ring) 14 = (x_is 15 3, false) ∧ lk (tb_X10_ring) 15 = (x_il 16 3, true) ∧ lk (tb_X10_ring) 16 = (x_al 17 0, false) ∧ lk (tb_X10_ring) 17 = (x_gI 10 2 20, false) ∧ lk (tb_X10_ring) 20 = (x_ic 82 23 (fun x y : Int32 => y ≤ x), false) ∧ lk (tb_X10_ring) 23 = (x_al 24 0, false) ∧ lk (tb_X10_ring) 24 = (x_gR 10 4 27, false) ∧ lk (tb_X10_ring) 27 = (x_c 29 (.int 18), false) ∧ lk (tb_X10_ring) 29 = (x_il 30 2, false) ∧ lk (tb_X10_ring) 30 = (x_ii 31 (fun x y : Int32 => x + y), false) ∧ lk (tb_X10_ring) 31 = (x_ia 32, false) ∧ lk (tb_X10_ring) 32 = (x_il 33 3, false) ∧ lk (tb_X10_ring) 33 = (x_cS 2 P_X10_has 36, false) ∧ lk (tb_X10_ring) 36 = (x_if 76 39 (fun x : Int32 => x = 0), false) ∧ lk (tb_X10_ring) 39 = (x_al 40 0, false) ∧ lk (tb_X10_ring) 40 = (x_al 41 0, false) ∧ lk (tb_X10_ring) 41 = (x_gR 10 4 44, false) ∧ lk (tb_X10_ring) 44 = (x_il 45 3, false) ∧ lk (tb_X10_ring) 45 = (x_il 46 2, false) ∧ lk (tb_X10_ring) 46 = (x_il 47 3, false) ∧ lk (tb_X10_ring) 47 = (x_cV 10 4 P_X10_layWays 50, false) ∧ lk (tb_X10_ring) 50 = (x_al 51 0, false) ∧ lk (tb_X10_ring) 51 = (x_gR 10 19 54, false) ∧ lk (tb_X10_ring) 54 = (x_c 56 (.int 9), false) ∧ lk (tb_X10_ring) 56 = (x_il 57 2, false) ∧ lk (tb_X10_ring) 57 = (x_ii 58 (fun x y : Int32 => x + y), false) ∧ lk (tb_X10_ring) 58 = (x_ia 59, false) ∧ lk (tb_X10_ring) 59 = (x_c 60 (.int 1), false) ∧ lk (tb_X10_ring) 60 = (x_ii 61 (fun x y : Int32 => x + y), false) ∧ lk (tb_X10_ring) 61 = (x_is 63 4, false) ∧ lk (tb_X10_ring) 63 = (x_il 65 4, false) ∧ lk (tb_X10_ring) 65 = (x_il 66 1, false) ∧ lk (tb_X10_ring) 66 = (x_ic 74 69 (fun x y : Int32 => y ≤ x), false) ∧ lk (tb_X10_ring) 69 = (x_il 71 4, false) ∧ lk (tb_X10_ring) 71 = (x_go 75, false) ∧ lk (tb_X10_ring) 74 = (x_il 75 1, false) ∧ lk (tb_X10_ring) 75 = (x_is 76 1, false) ∧ lk (tb_X10_ring) 76 = (x_inc 79 3 1, false) ∧ lk (tb_X10_ring) 79 = (x_go 15, false) ∧ lk (tb_X10_ring) 82 = (x_inc 85 2 1, false) ∧ lk (tb_X10_ring) 85 = (x_go 5, false) ∧ lk (tb_X10_ring) 88 = (x_il 89 1, false) ∧ lk (tb_X10_ring) 89 = (x_c 91 (.int 99), false) ∧ lk (tb_X10_ring) 91 = (x_ic 98 94 (fun x y : Int32 => y ≤ x), false) ∧ lk (tb_X10_ring) 94 = (x_il 95 1, false) ∧ lk (tb_X10_ring) 95 = (x_go 100, false) ∧ lk (tb_X10_ring) 98 = (x_c 100 (.int (-9)), false) ∧ lk (tb_X10_ring) 100 = (x_rI, false) := ⟨rfl, rfl, rfl, rfl, rfl, rfl, rfl, rfl, rfl, rfl, rfl, rfl, rfl, rfl, rfl, rfl, rfl, rfl, rfl, rfl, rfl, rfl, rfl, rfl, rfl, rfl, rfl, rfl, rfl, rfl, rfl, rfl, rfl, rfl, rfl, rfl, rfl, rfl, rfl, rfl, rfl, rfl, rfl, rfl, rfl, rfl, rfl, rfl, rfl, rfl, rfl, rfl, rfl, rfl, rfl, rfl, rfl⟩
def P_X10_ring : PTT := fun as M R => match as with
  | [.ref k] => k = 108 ∧ IsMo M.1 ∧ ∃ a, MS M.1 M.2.1 110 a ∧ ∀ I', (∀ q, q ≠ 121 → I' q = M.2.1 q) → R (some (.int (nn (rcA a (aM a))))) (M.1, I', M.2.2)
  | _ => False
set_option maxRecDepth 20000 in
theorem ok_X10_ring : Ok yX10_ring mt_X10_ring P_X10_ring := by
  refine Ok.of (by decide) rfl rfl rfl rfl fun av ⟨S, I, L⟩ R hP => ?_
  unfold P_X10_ring at hP
  split at hP
  case h_2 => exact hP.elim
  rename_i k
  obtain ⟨k, rfl⟩ : ∃ q : Nat, q = k := ⟨k, rfl⟩
  refine ⟨by simp [ent, wide, mt_X10_ring], ?_⟩
  show J mt_X10_ring R 0 [some (.ref k), none, none, none, none] [] (S, I, L)
  try dsimp only at hP
  obtain ⟨rfl, h1, a, hms, hR⟩ := hP
  obtain ⟨m1, hr, ha, en, em⟩ := id hms
  have hm := ha.1
  have key := up (P := fun c => ∀ I', (∀ q, q ≠ 121 → I' q = I q) → J mt_X10_ring R 5 [some (.ref 108), some (.int (nI (rcA a c))), some (.int (nI c)), none, none] [] (S, I', L)) (n := aM a) (fun c hc ih I' hf => ?_) 0 (Nat.zero_le _) I (fun _ _ => rfl)
  · refine J.of tk_X10_ring 200 fun ρ hρ => ?_
    simp only [hρ, x_c, x_il, x_ll, x_al, x_is, x_as, x_ls, x_inc, x_ii, x_iq, x_i1, x_l2, x_lq, x_lh, x_i2l, x_l2i, x_lcmp, x_dup, x_dup2, x_pop, x_if, x_ifn, x_ic, x_icn, x_go, x_sw, swc, x_l01, x_mx, x_gI, x_gL, x_gR, x_pI, x_pZ, x_pL, x_pR, x_ia, x_za, x_aa, x_ias, x_zas, x_aas, x_fac, x_fa, x_slen, x_sa, x_ac, x_oi, x_new, x_na, x_cS, x_cV, x_cI, x_rI, x_rZ, x_rL, x_r0, pa, short, oc, lg, lset, lset2, wide, cond_true, cond_false, true_and, and_true, ↓reduceIte, Bool.false_eq_true, true_or, or_true, lf_X10_ring]
    exact key
  have e108 : I' 108 = I 108 := hf 108 (by omega)
  by_cases hlt : c < aM a
  · have key2 := up (P := fun b => ∀ I', (∀ q, q ≠ 121 → I' q = I q) → J mt_X10_ring R 15 [some (.ref 108), some (.int (nI (rbA a c b (rcA a c)))), some (.int (nI c)), some (.int (nI b)), none] [] (S, I', L)) (n := aN a) (fun b hb ih2 I' hf => ?_) 0 (Nat.zero_le _) I' hf
    · refine J.of tk_X10_ring 200 fun ρ hρ => ?_
      simp only [hρ, x_c, x_il, x_ll, x_al, x_is, x_as, x_ls, x_inc, x_ii, x_iq, x_i1, x_l2, x_lq, x_lh, x_i2l, x_l2i, x_lcmp, x_dup, x_dup2, x_pop, x_if, x_ifn, x_ic, x_icn, x_go, x_sw, swc, x_l01, x_mx, x_gI, x_gL, x_gR, x_pI, x_pZ, x_pL, x_pR, x_ia, x_za, x_aa, x_ias, x_zas, x_aas, x_fac, x_fa, x_slen, x_sa, x_ac, x_oi, x_new, x_na, x_cS, x_cV, x_cI, x_rI, x_rZ, x_rL, x_r0, pa, short, oc, lg, lset, lset2, wide, cond_true, cond_false, true_and, and_true, ↓reduceIte, Bool.false_eq_true, true_or, or_true, lf_X10_ring, h1.f, e108, em, nI_leI (show aM a < 2 ^ 31 by omega) (show c < 2 ^ 31 by omega)]
      exact ⟨fun h => absurd h (by omega), fun _ => key2⟩
    have e108 : I' 108 = I 108 := hf 108 (by omega)
    have e110 : I' 110 = I 110 := hf 110 (by omega)
    by_cases hbl : b < aN a
    · have hv := ha.v hlt
      have r2 := rbA_le a c (b := b) (rcA_le a c)
      have hms' : MS S I' 110 a := ⟨m1, by rw [e110]; exact hr, ha, by rw [e108]; exact en, by rw [e108]; exact em⟩
      have hnx : ∀ x I2, (∀ q, q ≠ 121 → I2 q = I q) → rbA a c (b + 1) (rcA a c) = x → ∀ w, J mt_X10_ring R 15 [some (.ref 108), some (.int (nI x)), some (.int (nI c)), some (.int (nI (b + 1))), w] [] (S, I2, L) := fun x I2 h hx w => by
        rw [← hx]
        exact J.weak (by simp [lsub]) (ih2 hbl I2 h)
      refine J.of tk_X10_ring 200 fun ρ hρ => ?_
      simp only [hρ, x_c, x_il, x_ll, x_al, x_is, x_as, x_ls, x_inc, x_ii, x_iq, x_i1, x_l2, x_lq, x_lh, x_i2l, x_l2i, x_lcmp, x_dup, x_dup2, x_pop, x_if, x_ifn, x_ic, x_icn, x_go, x_sw, swc, x_l01, x_mx, x_gI, x_gL, x_gR, x_pI, x_pZ, x_pL, x_pR, x_ia, x_za, x_aa, x_ias, x_zas, x_aas, x_fac, x_fa, x_slen, x_sa, x_ac, x_oi, x_new, x_na, x_cS, x_cV, x_cI, x_rI, x_rZ, x_rL, x_r0, pa, short, oc, lg, lset, lset2, wide, cond_true, cond_false, true_and, and_true, ↓reduceIte, Bool.false_eq_true, true_or, or_true, lf_X10_ring, h1, h1.f, e108, e110, en, nI_leI (show aN a < 2 ^ 31 by omega) (show b < 2 ^ 31 by omega), show (18 : Int32) = nI 18 by decide, nI9, nI_add, ncl (show 18 + c < 2 ^ 31 by omega), ncl (show 9 + c < 2 ^ 31 by omega), hr.v hlt, P_X10_has, P_X10_layWays, bB_0, nI_1, Classical.not_not]
      refine ⟨fun h => absurd h (by omega), fun _ => ⟨vp_in_nI (by omega) (by omega), _, _, rfl, by omega, rfl, by omega, fun q => hnx _ _ hf (by rw [rbA, if_neg q, mnR, if_neg (by omega)]) _, fun q => ⟨a, wo (aV a) c b, b, hms', rfl, hbl, fun c' hc' b' hb' => ?_, wo_lt ha.2.1, fun I2 hf2 hw => ⟨vp_in_nI (by omega) (by omega), ?_⟩⟩⟩⟩
      · rw [wo_bit, nI_eq (by omega) (by omega), nI_eq (by omega) (by omega)]
      · have hf' : ∀ q, q ≠ 121 → I2 q = I q := fun q hq => by rw [hf2 q hq, hf q hq]
        have hwy := wy_ring (a := a) (c := c) (b := b)
        have hw' := hw c hlt
        rw [hw', nI_1, nI_leI (by omega) (by omega)]
        exact ⟨fun z => hnx _ _ hf' (by rw [rbA, if_pos q, mnR, if_neg (by omega)]) _, fun z => hnx _ _ hf' (by rw [rbA, if_pos q, mnR, if_pos (by omega)]; omega) _⟩
    · have : b = aN a := by omega
      subst this
      refine J.of tk_X10_ring 200 fun ρ hρ => ?_
      simp only [hρ, x_c, x_il, x_ll, x_al, x_is, x_as, x_ls, x_inc, x_ii, x_iq, x_i1, x_l2, x_lq, x_lh, x_i2l, x_l2i, x_lcmp, x_dup, x_dup2, x_pop, x_if, x_ifn, x_ic, x_icn, x_go, x_sw, swc, x_l01, x_mx, x_gI, x_gL, x_gR, x_pI, x_pZ, x_pL, x_pR, x_ia, x_za, x_aa, x_ias, x_zas, x_aas, x_fac, x_fa, x_slen, x_sa, x_ac, x_oi, x_new, x_na, x_cS, x_cV, x_cI, x_rI, x_rZ, x_rL, x_r0, pa, short, oc, lg, lset, lset2, wide, cond_true, cond_false, true_and, and_true, ↓reduceIte, Bool.false_eq_true, true_or, or_true, lf_X10_ring, h1.f, e108, en, nI_leI (show aN a < 2 ^ 31 by omega) (show aN a < 2 ^ 31 by omega), Nat.le_refl, true_implies, not_true_eq_false, false_implies, nI_1]
      exact J.weak (by simp [lsub, rcA]) (ih hlt I' hf)
  · have : c = aM a := by omega
    subst this
    have r2 := rcA_le a (aM a)
    have hR' := hR I' hf
    refine J.of tk_X10_ring 200 fun ρ hρ => ?_
    simp only [hρ, x_c, x_il, x_ll, x_al, x_is, x_as, x_ls, x_inc, x_ii, x_iq, x_i1, x_l2, x_lq, x_lh, x_i2l, x_l2i, x_lcmp, x_dup, x_dup2, x_pop, x_if, x_ifn, x_ic, x_icn, x_go, x_sw, swc, x_l01, x_mx, x_gI, x_gL, x_gR, x_pI, x_pZ, x_pL, x_pR, x_ia, x_za, x_aa, x_ias, x_zas, x_aas, x_fac, x_fa, x_slen, x_sa, x_ac, x_oi, x_new, x_na, x_cS, x_cV, x_cI, x_rI, x_rZ, x_rL, x_r0, pa, short, oc, lg, lset, lset2, wide, cond_true, cond_false, true_and, and_true, ↓reduceIte, Bool.false_eq_true, true_or, or_true, lf_X10_ring, h1.f, e108, em, nI_leI (show aM a < 2 ^ 31 by omega) (show aM a < 2 ^ 31 by omega), Nat.le_refl, true_implies, not_true_eq_false, false_implies, show (99 : Int32) = nI 99 by decide, nI_leI (show 99 < 2 ^ 31 by omega) (show rcA a (aM a) < 2 ^ 31 by omega)]
    refine ⟨fun q => ?_, fun q => ?_⟩
    · rwa [nn, if_pos (by omega)] at hR'
    · rwa [nn, if_neg (by omega)] at hR'
def il_X10_isBefore : List (Nat × Instr × Nat) := [(0, .aload_n 0, 1), (1, .getfield 47, 3), (4, .bipush 9, 2), (6, .iload_n 1, 1), (7, .iadd, 1), (8, .iaload, 1), (9, .istore_n 3, 1), (10, .aload_n 0, 1), (11, .getfield 47, 3), (14, .bipush 9, 2), (16, .iload_n 2, 1), (17, .iadd, 1), (18, .iaload, 1), (19, .istore 4, 2), (21, .iload_n 3, 1), (22, .iload 4, 2), (24, .if_icmp .eq 15, 3), (27, .iload_n 3, 1), (28, .iload 4, 2), (30, .if_icmp .le 7, 3), (33, .iconst 1, 1), (34, .goto 4, 3), (37, .iconst 0, 1), (38, .ireturn, 1), (39, .aload_n 0, 1), (40, .getfield 13, 3), (43, .bipush 18, 2), (45, .iload_n 1, 1), (46, .iadd, 1), (47, .iaload, 1), (48, .invokestatic 114, 3), (51, .aload_n 0, 1), (52, .getfield 13, 3), (55, .bipush 18, 2), (57, .iload_n 2, 1), (58, .iadd, 1), (59, .iaload, 1), (60, .invokestatic 114, 3), (63, .if_icmp .ge 7, 3), (66, .iconst 1, 1), (67, .goto 4, 3), (70, .iconst 0, 1), (71, .ireturn, 1)]
def mt_X10_isBefore : Mt := (cX10_isBefore, RX10, 5, (some .boolean), ({ frames := 1, cells := 0, slots := 0, locals := 22 } : Room), false, none, none)
set_option maxRecDepth 100000 in
theorem dl_X10_isBefore : ∀ q ∈ il_X10_isBefore, decode (mt_X10_isBefore).1 q.1 = .ok q.2 := by decide +kernel
def tb_X10_isBefore : Tb := [(0, x_al 1 0, false),
  (1, x_gR 10 19 4, false),
  (4, x_c 6 (.int 9), false),
  (6, x_il 7 1, false),
  (7, x_ii 8 (fun x y : Int32 => x + y), false),
  (8, x_ia 9, false),
  (9, x_is 10 3, false),
  (10, x_al 11 0, false),
  (11, x_gR 10 19 14, false),
  (14, x_c 16 (.int 9), false),
  (16, x_il 17 2, false),
  (17, x_ii 18 (fun x y : Int32 => x + y), false),
  (18, x_ia 19, false),
  (19, x_is 21 4, false),
  (21, x_il 22 3, false),
  (22, x_il 24 4, false),
  (24, x_ic 39 27 (fun x y : Int32 => x = y), false),
  (27, x_il 28 3, false),
  (28, x_il 30 4, false),
  (30, x_ic 37 33 (fun x y : Int32 => x ≤ y), false),
  (33, x_c 34 (.int 1), false),
  (34, x_go 38, false),
  (37, x_c 38 (.int 0), false),
  (38, x_rZ, false),
  (39, x_al 40 0, false),
  (40, x_gR 10 4 43, false),
  (43, x_c 45 (.int 18), false),
  (45, x_il 46 1, false),
  (46, x_ii 47 (fun x y : Int32 => x + y), false),
  (47, x_ia 48, false),
  (48, x_cS 1 P_X10_ones 51, false),
  (51, x_al 52 0, false),
  (52, x_gR 10 4 55, false),
  (55, x_c 57 (.int 18), false),
  (57, x_il 58 2, false),
  (58, x_ii 59 (fun x y : Int32 => x + y), false),
  (59, x_ia 60, false),
  (60, x_cS 1 P_X10_ones 63, false),
  (63, x_ic 70 66 (fun x y : Int32 => y ≤ x), false),
  (66, x_c 67 (.int 1), false),
  (67, x_go 71, false),
  (70, x_c 71 (.int 0), false),
  (71, x_rZ, false)]
set_option maxRecDepth 100000 in
theorem tk_X10_isBefore : TbOk (mt_X10_isBefore) (tb_X10_isBefore) :=
  tkc (s_aload_n (at_ dl_X10_isBefore 0 (ins := .aload_n 0) rfl)) (
  tkc (s_gR (at_ dl_X10_isBefore 1 (ins := .getfield 47) rfl) (by decide) (by decide) (by decide) (tg 715 (by decide +kernel) (by decide +kernel))) (
  tkc (s_bipush (at_ dl_X10_isBefore 2 (ins := .bipush 9) rfl) (by first | rfl | decide)) (
  tkc (s_iload_n (at_ dl_X10_isBefore 3 (ins := .iload_n 1) rfl)) (
  tkc (s_iadd (at_ dl_X10_isBefore 4 (ins := .iadd) rfl)) (
  tkc (s_ia (at_ dl_X10_isBefore 5 (ins := .iaload) rfl)) (
  tkc (s_istore_n (at_ dl_X10_isBefore 6 (ins := .istore_n 3) rfl) (by decide)) (
  tkc (s_aload_n (at_ dl_X10_isBefore 7 (ins := .aload_n 0) rfl)) (
  tkc (s_gR (at_ dl_X10_isBefore 8 (ins := .getfield 47) rfl) (by decide) (by decide) (by decide) (tg 715 (by decide +kernel) (by decide +kernel))) (
  tkc (s_bipush (at_ dl_X10_isBefore 9 (ins := .bipush 9) rfl) (by first | rfl | decide)) (
  tkc (s_iload_n (at_ dl_X10_isBefore 10 (ins := .iload_n 2) rfl)) (
  tkc (s_iadd (at_ dl_X10_isBefore 11 (ins := .iadd) rfl)) (
  tkc (s_ia (at_ dl_X10_isBefore 12 (ins := .iaload) rfl)) (
  tkc (s_istore (at_ dl_X10_isBefore 13 (ins := .istore 4) rfl) (by decide)) (
  tkc (s_iload_n (at_ dl_X10_isBefore 14 (ins := .iload_n 3) rfl)) (
  tkc (s_iload (at_ dl_X10_isBefore 15 (ins := .iload 4) rfl)) (
  tkc (s_ic_eq (at_ dl_X10_isBefore 16 (ins := .if_icmp .eq 15) rfl) (by decide)) (
  tkc (s_iload_n (at_ dl_X10_isBefore 17 (ins := .iload_n 3) rfl)) (
  tkc (s_iload (at_ dl_X10_isBefore 18 (ins := .iload 4) rfl)) (
  tkc (s_ic_le (at_ dl_X10_isBefore 19 (ins := .if_icmp .le 7) rfl) (by decide)) (
  tkc (s_iconst (at_ dl_X10_isBefore 20 (ins := .iconst 1) rfl) (by first | rfl | decide)) (
  tkc (s_goto (at_ dl_X10_isBefore 21 (ins := .goto 4) rfl) (by decide)) (
  tkc (s_iconst (at_ dl_X10_isBefore 22 (ins := .iconst 0) rfl) (by first | rfl | decide)) (
  tkc (s_rZ (at_ dl_X10_isBefore 23 (ins := .ireturn) rfl) rfl) (
  tkc (s_aload_n (at_ dl_X10_isBefore 24 (ins := .aload_n 0) rfl)) (
  tkc (s_gR (at_ dl_X10_isBefore 25 (ins := .getfield 13) rfl) (by decide) (by decide) (by decide) (tg 700 (by decide +kernel) (by decide +kernel))) (
  tkc (s_bipush (at_ dl_X10_isBefore 26 (ins := .bipush 18) rfl) (by first | rfl | decide)) (
  tkc (s_iload_n (at_ dl_X10_isBefore 27 (ins := .iload_n 1) rfl)) (
  tkc (s_iadd (at_ dl_X10_isBefore 28 (ins := .iadd) rfl)) (
  tkc (s_ia (at_ dl_X10_isBefore 29 (ins := .iaload) rfl)) (
  tkc (s_cS ok_X10_ones (at_ dl_X10_isBefore 30 (ins := .invokestatic 114) rfl) (tg 821 (by decide +kernel) (by decide +kernel)) (tg 822 (by decide +kernel) (by decide +kernel)) (tg 51 (by decide +kernel) (by decide +kernel)) (tg 823 (by decide +kernel) (by decide +kernel)) (⟨by decide, by decide, by decide +kernel⟩) (⟨by decide, by decide⟩) rfl rfl) (
  tkc (s_aload_n (at_ dl_X10_isBefore 31 (ins := .aload_n 0) rfl)) (
  tkc (s_gR (at_ dl_X10_isBefore 32 (ins := .getfield 13) rfl) (by decide) (by decide) (by decide) (tg 700 (by decide +kernel) (by decide +kernel))) (
  tkc (s_bipush (at_ dl_X10_isBefore 33 (ins := .bipush 18) rfl) (by first | rfl | decide)) (
  tkc (s_iload_n (at_ dl_X10_isBefore 34 (ins := .iload_n 2) rfl)) (
  tkc (s_iadd (at_ dl_X10_isBefore 35 (ins := .iadd) rfl)) (
  tkc (s_ia (at_ dl_X10_isBefore 36 (ins := .iaload) rfl)) (
  tkc (s_cS ok_X10_ones (at_ dl_X10_isBefore 37 (ins := .invokestatic 114) rfl) (tg 821 (by decide +kernel) (by decide +kernel)) (tg 822 (by decide +kernel) (by decide +kernel)) (tg 51 (by decide +kernel) (by decide +kernel)) (tg 823 (by decide +kernel) (by decide +kernel)) (⟨by decide, by decide, by decide +kernel⟩) (⟨by decide, by decide⟩) rfl rfl) (
  tkc (s_ic_ge (at_ dl_X10_isBefore 38 (ins := .if_icmp .ge 7) rfl) (by decide)) (
  tkc (s_iconst (at_ dl_X10_isBefore 39 (ins := .iconst 1) rfl) (by first | rfl | decide)) (
  tkc (s_goto (at_ dl_X10_isBefore 40 (ins := .goto 4) rfl) (by decide)) (
  tkc (s_iconst (at_ dl_X10_isBefore 41 (ins := .iconst 0) rfl) (by first | rfl | decide)) (
  tkc (s_rZ (at_ dl_X10_isBefore 42 (ins := .ireturn) rfl) rfl) ( tk0)))))))))))))))))))))))))))))))))))))))))))
theorem lf_X10_isBefore : lk (tb_X10_isBefore) 0 = (x_al 1 0, false) ∧ lk (tb_X10_isBefore) 1 = (x_gR 10 19 4, false) ∧ lk (tb_X10_isBefore) 4 = (x_c 6 (.int 9), false) ∧ lk (tb_X10_isBefore) 6 = (x_il 7 1, false) ∧ lk (tb_X10_isBefore) 7 = (x_ii 8 (fun x y : Int32 => x + y), false) ∧ lk (tb_X10_isBefore) 8 = (x_ia 9, false) ∧ lk (tb_X10_isBefore) 9 = (x_is 10 3, false) ∧ lk (tb_X10_isBefore) 10 = (x_al 11 0, false) ∧ lk (tb_X10_isBefore) 11 = (x_gR 10 19 14, false) ∧ lk (tb_X10_isBefore) 14 = (x_c 16 (.int 9), false) ∧ lk (tb_X10_isBefore) 16 = (x_il 17 2, false) ∧ lk (tb_X10_isBefore) 17 = (x_ii 18 (fun x y : Int32 => x + y), false) ∧ lk (tb_X10_isBefore) 18 = (x_ia 19, false) ∧ lk (tb_X10_isBefore) 19 = (x_is 21 4, false) ∧ lk (tb_X10_isBefore) 21 = (x_il 22 3, false) ∧ lk (tb_X10_isBefore) 22 = (x_il 24 4, false) ∧ lk (tb_X10_isBefore) 24 = (x_ic 39 27 (fun x y : Int32 => x = y), false) ∧ lk (tb_X10_isBefore) 27 = (x_il 28 3, false) ∧ lk (tb_X10_isBefore) 28 = (x_il 30 4, false) ∧ lk (tb_X10_isBefore) 30 = (x_ic 37 33 (fun x y : Int32 => x ≤ y), false) ∧ lk (tb_X10_isBefore) 33 = (x_c 34 (.int 1), false) ∧ lk (tb_X10_isBefore) 34 = (x_go 38, false) ∧ lk (tb_X10_isBefore) 37 = (x_c 38 (.int 0), false) ∧ lk (tb_X10_isBefore) 38 = (x_rZ, false) ∧ lk (tb_X10_isBefore) 39 = (x_al 40 0, false) ∧ lk (tb_X10_isBefore) 40 = (x_gR 10 4 43, false) ∧ lk (tb_X10_isBefore) 43 = (x_c 45 (.int 18), false) ∧ lk (tb_X10_isBefore) 45 = (x_il 46 1, false) ∧ lk (tb_X10_isBefore) 46 = (x_ii 47 (fun x y : Int32 => x + y), false) ∧ lk (tb_X10_isBefore) 47 = (x_ia 48, false) ∧ lk (tb_X10_isBefore) 48 = (x_cS 1 P_X10_ones 51, false) ∧ lk (tb_X10_isBefore) 51 = (x_al 52 0, false) ∧ lk (tb_X10_isBefore) 52 = (x_gR 10 4 55, false) ∧ lk (tb_X10_isBefore) 55 = (x_c 57 (.int 18), false) ∧ lk (tb_X10_isBefore) 57 = (x_il 58 2, false) ∧ lk (tb_X10_isBefore) 58 = (x_ii 59 (fun x y : Int32 => x + y), false) ∧ lk (tb_X10_isBefore) 59 = (x_ia 60, false) ∧ lk (tb_X10_isBefore) 60 = (x_cS 1 P_X10_ones 63, false) ∧ lk (tb_X10_isBefore) 63 = (x_ic 70 66 (fun x y : Int32 => y ≤ x), false) ∧ lk (tb_X10_isBefore) 66 = (x_c 67 (.int 1), false) ∧ lk (tb_X10_isBefore) 67 = (x_go 71, false) ∧ lk (tb_X10_isBefore) 70 = (x_c 71 (.int 0), false) ∧ lk (tb_X10_isBefore) 71 = (x_rZ, false) := ⟨rfl, rfl, rfl, rfl, rfl, rfl, rfl, rfl, rfl, rfl, rfl, rfl, rfl, rfl, rfl, rfl, rfl, rfl, rfl, rfl, rfl, rfl, rfl, rfl, rfl, rfl, rfl, rfl, rfl, rfl, rfl, rfl, rfl, rfl, rfl, rfl, rfl, rfl, rfl, rfl, rfl, rfl, rfl⟩
def P_X10_isBefore : PTT := fun as M R => match as with
  | [.ref k, .int x, .int y] => k = 108 ∧ IsMo M.1 ∧ ∃ a c e u v, MS M.1 M.2.1 110 a ∧ x = nI c ∧ y = nI e ∧ c < aM a ∧ e < aM a ∧ u ≤ 99 ∧ v ≤ 99 ∧ M.2.1 121 (9 + c) = nI u ∧ M.2.1 121 (9 + e) = nI v ∧ R (some (.int (bB (decide (v < u ∨ (u = v ∧ ones9 (aV a c) < ones9 (aV a e))))))) M
  | _ => False
set_option maxRecDepth 20000 in
theorem ok_X10_isBefore : Ok yX10_isBefore mt_X10_isBefore P_X10_isBefore := by
  refine Ok.of (by decide) rfl rfl rfl rfl fun av ⟨S, I, L⟩ R hP => ?_
  unfold P_X10_isBefore at hP
  split at hP
  case h_2 => exact hP.elim
  rename_i k x y
  obtain ⟨k, rfl⟩ : ∃ q : Nat, q = k := ⟨k, rfl⟩
  refine ⟨by simp [ent, wide, mt_X10_isBefore], ?_⟩
  show J mt_X10_isBefore R 0 [some (.ref k), some (.int x), some (.int y), none, none] [] (S, I, L)
  try dsimp only at hP
  obtain ⟨rfl, h1, a, c, e, u, v, ⟨m1, hr, ha, en, em⟩, rfl, rfl, hc, he, hu, hv, eu, ev, hR⟩ := hP
  have hm := ha.1
  have vc := ha.v hc
  have ve := ha.v he
  have o1 := ones9_le (aV a c)
  have o2 := ones9_le (aV a e)
  have t1 : tn (nI (aV a c)) = aV a c := tn_nI (by omega)
  have t2 : tn (nI (aV a e)) = aV a e := tn_nI (by omega)
  have hfin : ∀ w, bB (decide (v < u ∨ (u = v ∧ ones9 (aV a c) < ones9 (aV a e)))) = w → R (some (.int w)) (S, I, L) := fun w hw => by rw [← hw]; exact hR
  have bd : ∀ (q : Prop) [Decidable q], ¬ q → bB (decide q) = 0 := fun q _ h => by rw [decide_eq_false h]; rfl
  have bt : ∀ (q : Prop) [Decidable q], q → bB (decide q) = 1 := fun q _ h => by rw [decide_eq_true h]; rfl
  refine J.of tk_X10_isBefore 200 fun ρ hρ => ?_
  simp only [hρ, x_c, x_il, x_ll, x_al, x_is, x_as, x_ls, x_inc, x_ii, x_iq, x_i1, x_l2, x_lq, x_lh, x_i2l, x_l2i, x_lcmp, x_dup, x_dup2, x_pop, x_if, x_ifn, x_ic, x_icn, x_go, x_sw, swc, x_l01, x_mx, x_gI, x_gL, x_gR, x_pI, x_pZ, x_pL, x_pR, x_ia, x_za, x_aa, x_ias, x_zas, x_aas, x_fac, x_fa, x_slen, x_sa, x_ac, x_oi, x_new, x_na, x_cS, x_cV, x_cI, x_rI, x_rZ, x_rL, x_r0, pa, short, oc, lg, lset, lset2, wide, cond_true, cond_false, true_and, and_true, ↓reduceIte, Bool.false_eq_true, true_or, or_true, lf_X10_isBefore, h1.f, show (18 : Int32) = nI 18 by decide, nI9, nI_add, ncl (show 18 + c < 2 ^ 31 by omega), ncl (show 9 + c < 2 ^ 31 by omega), ncl (show 18 + e < 2 ^ 31 by omega), ncl (show 9 + e < 2 ^ 31 by omega), hr.v hc, hr.v he, eu, ev, P_X10_ones, t1, t2, eq_true vc, eq_true ve, nI_eq (show u < 2 ^ 31 by omega) (show v < 2 ^ 31 by omega), nI_leI (show u < 2 ^ 31 by omega) (show v < 2 ^ 31 by omega), nI_leI (show ones9 (aV a e) < 2 ^ 31 by omega) (show ones9 (aV a c) < 2 ^ 31 by omega)]
  refine ⟨vp_in_nI (by omega) (by omega), vp_in_nI (by omega) (by omega), fun q => ⟨vp_in_nI (by omega) (by omega), vp_in_nI (by omega) (by omega), fun q2 => hfin _ (bd _ (by omega)), fun q2 => hfin _ (bt _ (by omega))⟩, fun q => ⟨fun q2 => hfin _ (bd _ (by omega)), fun q2 => hfin _ (bt _ (by omega))⟩⟩
