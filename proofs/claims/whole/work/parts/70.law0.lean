/-! THE LAW, case by case -/
theorem MR.f8 {S : Sh} {I I' : MI} {L L' : Nat → Nat → Int64} {g : GS} (h : MR S I L g) (hI : fr8 I I') (hL : ∀ q, q ≠ 0 → L' q = L q) : MR S I' L' g := by
  obtain ⟨h1, h2, h3, h4, h5, h6, h7, h8, h9⟩ := h
  have e : ∀ q, 108 ≤ q → I' q = I q := hI
  refine ⟨h1, ?_, ?_, ?_, ?_, ?_, ?_, by rw [hL 108 (by omega)]; exact h8, ?_⟩
  · unfold NT; rw [e 108 (by omega), e 109 (by omega)]; exact h2
  · unfold NZ; rw [e 108 (by omega)]; exact h3
  · rw [e 110 (by omega)]; exact h4
  · unfold NA; rw [e 108 (by omega), e 112 (by omega)]; exact h5
  · unfold NK; rw [e 113 (by omega), e 114 (by omega)]; exact h6
  · unfold NE; rw [e 108 (by omega), e 115 (by omega), e 116 (by omega)]; exact h7
  · unfold OrdN; rw [e 117 (by omega)]; exact h9
theorem CR.i {S : Sh} {I I' : MI} {L L' : Nat → Nat → Int64} {g : GS} (h : CR S I L g) (hI : lo8 I I') (hL : L' 0 = L 0) : CR S I' L' g := h.gr ⟨Nat.le_of_lt_succ (Nat.succ_lt_succ (h.1.2.2.2.2.2.2.2.2.2.2.1.2.2.2.2.1.1)), fun _ _ => ⟨rfl, fun _ => rfl⟩⟩ hI hL
def mt_L_law (sq : Nat × (Nat → Int32)) : Mt := (cL_law, RL, 4, (some .boolean), room_1, false, some sq, some (0, 0))
def il_L0 : List (Nat × Instr × Nat) := [(156, .aload_n 1, 1), (157, .aload_n 0, 1), (158, .iload_n 3, 1), (159, .iconst 1, 1), (160, .iadd, 1), (161, .iaload, 1), (162, .invokevirtual 13, 3), (165, .aload_n 2, 1), (166, .aload_n 0, 1), (167, .iload_n 3, 1), (168, .iconst 1, 1), (169, .iadd, 1), (170, .iaload, 1), (171, .invokevirtual 17, 3), (174, .if_icmp .eq 746, 3), (177, .iconst 0, 1), (178, .ireturn, 1), (920, .iinc 3 4, 3)]
set_option maxRecDepth 100000 in
theorem dl_L0 (sq : Nat × (Nat → Int32)) : ∀ q ∈ il_L0, decode (mt_L_law sq).1 q.1 = .ok q.2 := (by decide +kernel : ∀ q ∈ il_L0, decode cL_law q.1 = .ok q.2)
def tb_L0 (sq : Nat × (Nat → Int32)) : Tb := [(156, x_al 157 1, false),
  (157, x_al 158 0, false),
  (158, x_il 159 3, false),
  (159, x_c 160 (.int 1), false),
  (160, x_ii 161 (fun x y : Int32 => x + y), false),
  (161, x_sa 162 sq, false),
  (162, x_cV 9 1 P_X9_write 165, false),
  (165, x_al 166 2, false),
  (166, x_al 167 0, false),
  (167, x_il 168 3, false),
  (168, x_c 169 (.int 1), false),
  (169, x_ii 170 (fun x y : Int32 => x + y), false),
  (170, x_sa 171 sq, false),
  (171, x_cV 10 1 P_X10_write 174, false),
  (174, x_ic 920 177 (fun x y : Int32 => x = y), false),
  (177, x_c 178 (.int 0), false),
  (178, x_rZ, false),
  (920, x_inc 923 3 4, true)]
set_option maxRecDepth 100000 in
theorem tk_L0 (sq : Nat × (Nat → Int32)) : TbOk (mt_L_law sq) (tb_L0 sq) :=
  tkc (s_aload_n (at_ (dl_L0 sq) 0 (ins := .aload_n 1) rfl)) (
  tkc (s_aload_n (at_ (dl_L0 sq) 1 (ins := .aload_n 0) rfl)) (
  tkc (s_iload_n (at_ (dl_L0 sq) 2 (ins := .iload_n 3) rfl)) (
  tkc (s_iconst (at_ (dl_L0 sq) 3 (ins := .iconst 1) rfl) (by first | rfl | decide)) (
  tkc (s_iadd (at_ (dl_L0 sq) 4 (ins := .iadd) rfl)) (
  tkc (s_sa (at_ (dl_L0 sq) 5 (ins := .iaload) rfl) rfl) (
  tkc (s_cV ok_X9_write (at_ (dl_L0 sq) 6 (ins := .invokevirtual 13) rfl) (by decide) rfl (show Cond.methodLink RL 13 yX9_write ∈ tblG from (tg 289 (by decide +kernel) (by decide +kernel))) (tg 290 (by decide +kernel) (by decide +kernel)) (tg 291 (by decide +kernel) (by decide +kernel)) (tg 42 (by decide +kernel) (by decide +kernel)) (tg 292 (by decide +kernel) (by decide +kernel)) (⟨by decide, by decide, by decide +kernel⟩) (⟨(Nat.le_of_ble_eq_true rfl), (Nat.le_of_ble_eq_true rfl)⟩) rfl rfl) (
  tkc (s_aload_n (at_ (dl_L0 sq) 7 (ins := .aload_n 2) rfl)) (
  tkc (s_aload_n (at_ (dl_L0 sq) 8 (ins := .aload_n 0) rfl)) (
  tkc (s_iload_n (at_ (dl_L0 sq) 9 (ins := .iload_n 3) rfl)) (
  tkc (s_iconst (at_ (dl_L0 sq) 10 (ins := .iconst 1) rfl) (by first | rfl | decide)) (
  tkc (s_iadd (at_ (dl_L0 sq) 11 (ins := .iadd) rfl)) (
  tkc (s_sa (at_ (dl_L0 sq) 12 (ins := .iaload) rfl) rfl) (
  tkc (s_cV ok_X10_write (at_ (dl_L0 sq) 13 (ins := .invokevirtual 17) rfl) (by decide) rfl (show Cond.methodLink RL 17 yX10_write ∈ tblG from (tg 775 (by decide +kernel) (by decide +kernel))) (tg 776 (by decide +kernel) (by decide +kernel)) (tg 777 (by decide +kernel) (by decide +kernel)) (tg 51 (by decide +kernel) (by decide +kernel)) (tg 778 (by decide +kernel) (by decide +kernel)) (⟨by decide, by decide, by decide +kernel⟩) (⟨(Nat.le_of_ble_eq_true rfl), (Nat.le_of_ble_eq_true rfl)⟩) rfl rfl) (
  tkc (s_ic_eq (at_ (dl_L0 sq) 14 (ins := .if_icmp .eq 746) rfl) (by decide)) (
  tkc (s_iconst (at_ (dl_L0 sq) 15 (ins := .iconst 0) rfl) (by first | rfl | decide)) (
  tkc (s_rZ (at_ (dl_L0 sq) 16 (ins := .ireturn) rfl) rfl) (
  tkc (s_iinc (at_ (dl_L0 sq) 17 (ins := .iinc 3 4) rfl) (Nat.le_of_ble_eq_true rfl) (by first | rfl | decide)) ( tk0))))))))))))))))))
theorem lf_L0 (sq : Nat × (Nat → Int32)) : lk (tb_L0 sq) 156 = (x_al 157 1, false) ∧ lk (tb_L0 sq) 157 = (x_al 158 0, false) ∧ lk (tb_L0 sq) 158 = (x_il 159 3, false) ∧ lk (tb_L0 sq) 159 = (x_c 160 (.int 1), false) ∧ lk (tb_L0 sq) 160 = (x_ii 161 (fun x y : Int32 => x + y), false) ∧ lk (tb_L0 sq) 161 = (x_sa 162 sq, false) ∧ lk (tb_L0 sq) 162 = (x_cV 9 1 P_X9_write 165, false) ∧ lk (tb_L0 sq) 165 = (x_al 166 2, false) ∧ lk (tb_L0 sq) 166 = (x_al 167 0, false) ∧ lk (tb_L0 sq) 167 = (x_il 168 3, false) ∧ lk (tb_L0 sq) 168 = (x_c 169 (.int 1), false) ∧ lk (tb_L0 sq) 169 = (x_ii 170 (fun x y : Int32 => x + y), false) ∧ lk (tb_L0 sq) 170 = (x_sa 171 sq, false) ∧ lk (tb_L0 sq) 171 = (x_cV 10 1 P_X10_write 174, false) ∧ lk (tb_L0 sq) 174 = (x_ic 920 177 (fun x y : Int32 => x = y), false) ∧ lk (tb_L0 sq) 177 = (x_c 178 (.int 0), false) ∧ lk (tb_L0 sq) 178 = (x_rZ, false) ∧ lk (tb_L0 sq) 920 = (x_inc 923 3 4, true) := ⟨rfl, rfl, rfl, rfl, rfl, rfl, rfl, rfl, rfl, rfl, rfl, rfl, rfl, rfl, rfl, rfl, rfl, rfl⟩
set_option maxRecDepth 20000 in
theorem lc_0 {sq : Nat × (Nat → Int32)} {R : Option Value → Mem → Prop} {S : Sh} {I : MI} {L : Nat → Nat → Int64} {g : GS} {i : Nat} (h4 : i + 4 ≤ sq.1) (h2 : sq.1 ≤ 2048) (hC : CR S I L g) (hM : MR S I L g) (hO : GOk g) (hnx : ∀ I' L' g', CR S I' L' g' → MR S I' L' g' → GOk g' → J (mt_L_law sq) R 920 [some (.ref 9002), some (.ref 0), some (.ref 108), some (.int (nI i))] [] (S, I', L')) : J (mt_L_law sq) R 156 [some (.ref 9002), some (.ref 0), some (.ref 108), some (.int (nI i))] [] (S, I, L) := by
  have t0 : tO S 0 9 := hC.1.1.1
  have t8 : tO S 108 10 := hM.1.1
  have v1 : vp_in (nI (i + 1)) sq.1 := vp_in_nI (by omega) (by omega)
  have v2 : vp_in (nI (i + 2)) sq.1 := vp_in_nI (by omega) (by omega)
  have v3 : vp_in (nI (i + 3)) sq.1 := vp_in_nI (by omega) (by omega)
  refine J.of (tk_L0 sq) 200 fun ρ hρ => ?_
  simp only [hρ, x_c, x_il, x_ll, x_al, x_is, x_as, x_ls, x_inc, x_ii, x_iq, x_i1, x_l2, x_lq, x_lh, x_i2l, x_l2i, x_lcmp, x_dup, x_dup2, x_pop, x_if, x_ifn, x_ic, x_icn, x_go, x_sw, swc, x_l01, x_mx, x_gI, x_gL, x_gR, x_pI, x_pZ, x_pL, x_pR, x_ia, x_za, x_aa, x_ias, x_zas, x_aas, x_fac, x_fa, x_slen, x_sa, x_ac, x_oi, x_new, x_na, x_cS, x_cV, x_cI, x_rI, x_rZ, x_rL, x_r0, pa, short, oc, lg, lset, lset2, wide, cond_true, cond_false, true_and, and_true, ↓reduceIte, Bool.false_eq_true, true_or, or_true, lf_L0, t0, t8, P_X9_write, P_X10_write, Ans, Anm, nI_1, show (2 : Int32) = nI 2 by decide, show (3 : Int32) = nI 3 by decide, nI_add, eq_true v1, eq_true v2, eq_true v3, ncl (show i + 1 < 2 ^ 31 by omega), ncl (show i + 2 < 2 ^ 31 by omega), ncl (show i + 3 < 2 ^ 31 by omega), lg_cmp_eq, true_implies, not_true_eq_false, false_implies, not_false_eq_true]
  exact ⟨g, hC, hO, fun I1 L1 f1 l1 c1 => ⟨g, hM.f8 f1 l1, hO, fun I2 L2 f2 l2 c2 => ⟨fun _ => hnx I2 L2 _ (c1.i f2 (l2 0 (by omega))) c2 (kWrite hO), fun h => absurd rfl h⟩⟩⟩
def il_L1 : List (Nat × Instr × Nat) := [(179, .aload_n 1, 1), (180, .invokevirtual 18, 3), (183, .aload_n 2, 1), (184, .invokevirtual 22, 3), (187, .if_icmp .eq 733, 3), (190, .iconst 0, 1), (191, .ireturn, 1), (920, .iinc 3 4, 3)]
set_option maxRecDepth 100000 in
theorem dl_L1 (sq : Nat × (Nat → Int32)) : ∀ q ∈ il_L1, decode (mt_L_law sq).1 q.1 = .ok q.2 := (by decide +kernel : ∀ q ∈ il_L1, decode cL_law q.1 = .ok q.2)
def tb_L1 (sq : Nat × (Nat → Int32)) : Tb := [(179, x_al 180 1, false),
  (180, x_cV 9 0 P_X9_wipe 183, false),
  (183, x_al 184 2, false),
  (184, x_cV 10 0 P_X10_wipe 187, false),
  (187, x_ic 920 190 (fun x y : Int32 => x = y), false),
  (190, x_c 191 (.int 0), false),
  (191, x_rZ, false),
  (920, x_inc 923 3 4, true)]
set_option maxRecDepth 100000 in
theorem tk_L1 (sq : Nat × (Nat → Int32)) : TbOk (mt_L_law sq) (tb_L1 sq) :=
  tkc (s_aload_n (at_ (dl_L1 sq) 0 (ins := .aload_n 1) rfl)) (
  tkc (s_cV ok_X9_wipe (at_ (dl_L1 sq) 1 (ins := .invokevirtual 18) rfl) (by decide) rfl (show Cond.methodLink RL 18 yX9_wipe ∈ tblG from (tg 297 (by decide +kernel) (by decide +kernel))) (tg 298 (by decide +kernel) (by decide +kernel)) (tg 299 (by decide +kernel) (by decide +kernel)) (tg 42 (by decide +kernel) (by decide +kernel)) (tg 300 (by decide +kernel) (by decide +kernel)) (⟨by decide, by decide, by decide +kernel⟩) (⟨(Nat.le_of_ble_eq_true rfl), (Nat.le_of_ble_eq_true rfl)⟩) rfl rfl) (
  tkc (s_aload_n (at_ (dl_L1 sq) 2 (ins := .aload_n 2) rfl)) (
  tkc (s_cV ok_X10_wipe (at_ (dl_L1 sq) 3 (ins := .invokevirtual 22) rfl) (by decide) rfl (show Cond.methodLink RL 22 yX10_wipe ∈ tblG from (tg 783 (by decide +kernel) (by decide +kernel))) (tg 784 (by decide +kernel) (by decide +kernel)) (tg 785 (by decide +kernel) (by decide +kernel)) (tg 51 (by decide +kernel) (by decide +kernel)) (tg 786 (by decide +kernel) (by decide +kernel)) (⟨by decide, by decide, by decide +kernel⟩) (⟨(Nat.le_of_ble_eq_true rfl), (Nat.le_of_ble_eq_true rfl)⟩) rfl rfl) (
  tkc (s_ic_eq (at_ (dl_L1 sq) 4 (ins := .if_icmp .eq 733) rfl) (by decide)) (
  tkc (s_iconst (at_ (dl_L1 sq) 5 (ins := .iconst 0) rfl) (by first | rfl | decide)) (
  tkc (s_rZ (at_ (dl_L1 sq) 6 (ins := .ireturn) rfl) rfl) (
  tkc (s_iinc (at_ (dl_L1 sq) 7 (ins := .iinc 3 4) rfl) (Nat.le_of_ble_eq_true rfl) (by first | rfl | decide)) ( tk0))))))))
theorem lf_L1 (sq : Nat × (Nat → Int32)) : lk (tb_L1 sq) 179 = (x_al 180 1, false) ∧ lk (tb_L1 sq) 180 = (x_cV 9 0 P_X9_wipe 183, false) ∧ lk (tb_L1 sq) 183 = (x_al 184 2, false) ∧ lk (tb_L1 sq) 184 = (x_cV 10 0 P_X10_wipe 187, false) ∧ lk (tb_L1 sq) 187 = (x_ic 920 190 (fun x y : Int32 => x = y), false) ∧ lk (tb_L1 sq) 190 = (x_c 191 (.int 0), false) ∧ lk (tb_L1 sq) 191 = (x_rZ, false) ∧ lk (tb_L1 sq) 920 = (x_inc 923 3 4, true) := ⟨rfl, rfl, rfl, rfl, rfl, rfl, rfl, rfl⟩
set_option maxRecDepth 20000 in
theorem lc_1 {sq : Nat × (Nat → Int32)} {R : Option Value → Mem → Prop} {S : Sh} {I : MI} {L : Nat → Nat → Int64} {g : GS} {i : Nat} (h4 : i + 4 ≤ sq.1) (h2 : sq.1 ≤ 2048) (hC : CR S I L g) (hM : MR S I L g) (hO : GOk g) (hnx : ∀ I' L' g', CR S I' L' g' → MR S I' L' g' → GOk g' → J (mt_L_law sq) R 920 [some (.ref 9002), some (.ref 0), some (.ref 108), some (.int (nI i))] [] (S, I', L')) : J (mt_L_law sq) R 179 [some (.ref 9002), some (.ref 0), some (.ref 108), some (.int (nI i))] [] (S, I, L) := by
  have t0 : tO S 0 9 := hC.1.1.1
  have t8 : tO S 108 10 := hM.1.1
  have v1 : vp_in (nI (i + 1)) sq.1 := vp_in_nI (by omega) (by omega)
  have v2 : vp_in (nI (i + 2)) sq.1 := vp_in_nI (by omega) (by omega)
  have v3 : vp_in (nI (i + 3)) sq.1 := vp_in_nI (by omega) (by omega)
  refine J.of (tk_L1 sq) 200 fun ρ hρ => ?_
  simp only [hρ, x_c, x_il, x_ll, x_al, x_is, x_as, x_ls, x_inc, x_ii, x_iq, x_i1, x_l2, x_lq, x_lh, x_i2l, x_l2i, x_lcmp, x_dup, x_dup2, x_pop, x_if, x_ifn, x_ic, x_icn, x_go, x_sw, swc, x_l01, x_mx, x_gI, x_gL, x_gR, x_pI, x_pZ, x_pL, x_pR, x_ia, x_za, x_aa, x_ias, x_zas, x_aas, x_fac, x_fa, x_slen, x_sa, x_ac, x_oi, x_new, x_na, x_cS, x_cV, x_cI, x_rI, x_rZ, x_rL, x_r0, pa, short, oc, lg, lset, lset2, wide, cond_true, cond_false, true_and, and_true, ↓reduceIte, Bool.false_eq_true, true_or, or_true, lf_L1, t0, t8, P_X9_wipe, P_X10_wipe, Ans, Anm, nI_1, show (2 : Int32) = nI 2 by decide, show (3 : Int32) = nI 3 by decide, nI_add, eq_true v1, eq_true v2, eq_true v3, ncl (show i + 1 < 2 ^ 31 by omega), ncl (show i + 2 < 2 ^ 31 by omega), ncl (show i + 3 < 2 ^ 31 by omega), lg_cmp_eq, true_implies, not_true_eq_false, false_implies, not_false_eq_true]
  exact ⟨g, hC, hO, fun I1 L1 f1 l1 c1 => ⟨g, hM.f8 f1 l1, hO, fun I2 L2 f2 l2 c2 => ⟨fun _ => hnx I2 L2 _ (c1.i f2 (l2 0 (by omega))) c2 (kWipe hO), fun h => absurd rfl h⟩⟩⟩
def il_L2 : List (Nat × Instr × Nat) := [(192, .aload_n 1, 1), (193, .invokevirtual 23, 3), (196, .aload_n 2, 1), (197, .invokevirtual 26, 3), (200, .if_icmp .eq 720, 3), (203, .iconst 0, 1), (204, .ireturn, 1), (920, .iinc 3 4, 3)]
set_option maxRecDepth 100000 in
theorem dl_L2 (sq : Nat × (Nat → Int32)) : ∀ q ∈ il_L2, decode (mt_L_law sq).1 q.1 = .ok q.2 := (by decide +kernel : ∀ q ∈ il_L2, decode cL_law q.1 = .ok q.2)
def tb_L2 (sq : Nat × (Nat → Int32)) : Tb := [(192, x_al 193 1, false),
  (193, x_cV 9 0 P_X9_fault 196, false),
  (196, x_al 197 2, false),
  (197, x_cV 10 0 P_X10_fault 200, false),
  (200, x_ic 920 203 (fun x y : Int32 => x = y), false),
  (203, x_c 204 (.int 0), false),
  (204, x_rZ, false),
  (920, x_inc 923 3 4, true)]
set_option maxRecDepth 100000 in
theorem tk_L2 (sq : Nat × (Nat → Int32)) : TbOk (mt_L_law sq) (tb_L2 sq) :=
  tkc (s_aload_n (at_ (dl_L2 sq) 0 (ins := .aload_n 1) rfl)) (
  tkc (s_cV ok_X9_fault (at_ (dl_L2 sq) 1 (ins := .invokevirtual 23) rfl) (by decide) rfl (show Cond.methodLink RL 23 yX9_fault ∈ tblG from (tg 301 (by decide +kernel) (by decide +kernel))) (tg 302 (by decide +kernel) (by decide +kernel)) (tg 303 (by decide +kernel) (by decide +kernel)) (tg 42 (by decide +kernel) (by decide +kernel)) (tg 304 (by decide +kernel) (by decide +kernel)) (⟨by decide, by decide, by decide +kernel⟩) (⟨(Nat.le_of_ble_eq_true rfl), (Nat.le_of_ble_eq_true rfl)⟩) rfl rfl) (
  tkc (s_aload_n (at_ (dl_L2 sq) 2 (ins := .aload_n 2) rfl)) (
  tkc (s_cV ok_X10_fault (at_ (dl_L2 sq) 3 (ins := .invokevirtual 26) rfl) (by decide) rfl (show Cond.methodLink RL 26 yX10_fault ∈ tblG from (tg 787 (by decide +kernel) (by decide +kernel))) (tg 788 (by decide +kernel) (by decide +kernel)) (tg 789 (by decide +kernel) (by decide +kernel)) (tg 51 (by decide +kernel) (by decide +kernel)) (tg 790 (by decide +kernel) (by decide +kernel)) (⟨by decide, by decide, by decide +kernel⟩) (⟨(Nat.le_of_ble_eq_true rfl), (Nat.le_of_ble_eq_true rfl)⟩) rfl rfl) (
  tkc (s_ic_eq (at_ (dl_L2 sq) 4 (ins := .if_icmp .eq 720) rfl) (by decide)) (
  tkc (s_iconst (at_ (dl_L2 sq) 5 (ins := .iconst 0) rfl) (by first | rfl | decide)) (
  tkc (s_rZ (at_ (dl_L2 sq) 6 (ins := .ireturn) rfl) rfl) (
  tkc (s_iinc (at_ (dl_L2 sq) 7 (ins := .iinc 3 4) rfl) (Nat.le_of_ble_eq_true rfl) (by first | rfl | decide)) ( tk0))))))))
theorem lf_L2 (sq : Nat × (Nat → Int32)) : lk (tb_L2 sq) 192 = (x_al 193 1, false) ∧ lk (tb_L2 sq) 193 = (x_cV 9 0 P_X9_fault 196, false) ∧ lk (tb_L2 sq) 196 = (x_al 197 2, false) ∧ lk (tb_L2 sq) 197 = (x_cV 10 0 P_X10_fault 200, false) ∧ lk (tb_L2 sq) 200 = (x_ic 920 203 (fun x y : Int32 => x = y), false) ∧ lk (tb_L2 sq) 203 = (x_c 204 (.int 0), false) ∧ lk (tb_L2 sq) 204 = (x_rZ, false) ∧ lk (tb_L2 sq) 920 = (x_inc 923 3 4, true) := ⟨rfl, rfl, rfl, rfl, rfl, rfl, rfl, rfl⟩
set_option maxRecDepth 20000 in
theorem lc_2 {sq : Nat × (Nat → Int32)} {R : Option Value → Mem → Prop} {S : Sh} {I : MI} {L : Nat → Nat → Int64} {g : GS} {i : Nat} (h4 : i + 4 ≤ sq.1) (h2 : sq.1 ≤ 2048) (hC : CR S I L g) (hM : MR S I L g) (hO : GOk g) (hnx : ∀ I' L' g', CR S I' L' g' → MR S I' L' g' → GOk g' → J (mt_L_law sq) R 920 [some (.ref 9002), some (.ref 0), some (.ref 108), some (.int (nI i))] [] (S, I', L')) : J (mt_L_law sq) R 192 [some (.ref 9002), some (.ref 0), some (.ref 108), some (.int (nI i))] [] (S, I, L) := by
  have t0 : tO S 0 9 := hC.1.1.1
  have t8 : tO S 108 10 := hM.1.1
  have v1 : vp_in (nI (i + 1)) sq.1 := vp_in_nI (by omega) (by omega)
  have v2 : vp_in (nI (i + 2)) sq.1 := vp_in_nI (by omega) (by omega)
  have v3 : vp_in (nI (i + 3)) sq.1 := vp_in_nI (by omega) (by omega)
  refine J.of (tk_L2 sq) 200 fun ρ hρ => ?_
  simp only [hρ, x_c, x_il, x_ll, x_al, x_is, x_as, x_ls, x_inc, x_ii, x_iq, x_i1, x_l2, x_lq, x_lh, x_i2l, x_l2i, x_lcmp, x_dup, x_dup2, x_pop, x_if, x_ifn, x_ic, x_icn, x_go, x_sw, swc, x_l01, x_mx, x_gI, x_gL, x_gR, x_pI, x_pZ, x_pL, x_pR, x_ia, x_za, x_aa, x_ias, x_zas, x_aas, x_fac, x_fa, x_slen, x_sa, x_ac, x_oi, x_new, x_na, x_cS, x_cV, x_cI, x_rI, x_rZ, x_rL, x_r0, pa, short, oc, lg, lset, lset2, wide, cond_true, cond_false, true_and, and_true, ↓reduceIte, Bool.false_eq_true, true_or, or_true, lf_L2, t0, t8, P_X9_fault, P_X10_fault, Ans, Anm, nI_1, show (2 : Int32) = nI 2 by decide, show (3 : Int32) = nI 3 by decide, nI_add, eq_true v1, eq_true v2, eq_true v3, ncl (show i + 1 < 2 ^ 31 by omega), ncl (show i + 2 < 2 ^ 31 by omega), ncl (show i + 3 < 2 ^ 31 by omega), lg_cmp_eq, true_implies, not_true_eq_false, false_implies, not_false_eq_true]
  exact ⟨g, hC, hO, fun I1 L1 f1 l1 c1 => ⟨g, hM.f8 f1 l1, hO, fun I2 L2 f2 l2 c2 => ⟨fun _ => hnx I2 L2 _ (c1.i f2 (l2 0 (by omega))) c2 hO, fun h => absurd rfl h⟩⟩⟩
def il_L3 : List (Nat × Instr × Nat) := [(205, .aload_n 1, 1), (206, .invokevirtual 27, 3), (209, .aload_n 2, 1), (210, .invokevirtual 30, 3), (213, .if_icmp .eq 707, 3), (216, .iconst 0, 1), (217, .ireturn, 1), (920, .iinc 3 4, 3)]
set_option maxRecDepth 100000 in
theorem dl_L3 (sq : Nat × (Nat → Int32)) : ∀ q ∈ il_L3, decode (mt_L_law sq).1 q.1 = .ok q.2 := (by decide +kernel : ∀ q ∈ il_L3, decode cL_law q.1 = .ok q.2)
def tb_L3 (sq : Nat × (Nat → Int32)) : Tb := [(205, x_al 206 1, false),
  (206, x_cV 9 0 P_X9_code 209, false),
  (209, x_al 210 2, false),
  (210, x_cV 10 0 P_X10_code 213, false),
  (213, x_ic 920 216 (fun x y : Int32 => x = y), false),
  (216, x_c 217 (.int 0), false),
  (217, x_rZ, false),
  (920, x_inc 923 3 4, true)]
set_option maxRecDepth 100000 in
theorem tk_L3 (sq : Nat × (Nat → Int32)) : TbOk (mt_L_law sq) (tb_L3 sq) :=
  tkc (s_aload_n (at_ (dl_L3 sq) 0 (ins := .aload_n 1) rfl)) (
  tkc (s_cV ok_X9_code (at_ (dl_L3 sq) 1 (ins := .invokevirtual 27) rfl) (by decide) rfl (show Cond.methodLink RL 27 yX9_code ∈ tblG from (tg 337 (by decide +kernel) (by decide +kernel))) (tg 338 (by decide +kernel) (by decide +kernel)) (tg 339 (by decide +kernel) (by decide +kernel)) (tg 42 (by decide +kernel) (by decide +kernel)) (tg 340 (by decide +kernel) (by decide +kernel)) (⟨by decide, by decide, by decide +kernel⟩) (⟨(Nat.le_of_ble_eq_true rfl), (Nat.le_of_ble_eq_true rfl)⟩) rfl rfl) (
  tkc (s_aload_n (at_ (dl_L3 sq) 2 (ins := .aload_n 2) rfl)) (
  tkc (s_cV ok_X10_code (at_ (dl_L3 sq) 3 (ins := .invokevirtual 30) rfl) (by decide) rfl (show Cond.methodLink RL 30 yX10_code ∈ tblG from (tg 801 (by decide +kernel) (by decide +kernel))) (tg 802 (by decide +kernel) (by decide +kernel)) (tg 803 (by decide +kernel) (by decide +kernel)) (tg 51 (by decide +kernel) (by decide +kernel)) (tg 804 (by decide +kernel) (by decide +kernel)) (⟨by decide, by decide, by decide +kernel⟩) (⟨(Nat.le_of_ble_eq_true rfl), (Nat.le_of_ble_eq_true rfl)⟩) rfl rfl) (
  tkc (s_ic_eq (at_ (dl_L3 sq) 4 (ins := .if_icmp .eq 707) rfl) (by decide)) (
  tkc (s_iconst (at_ (dl_L3 sq) 5 (ins := .iconst 0) rfl) (by first | rfl | decide)) (
  tkc (s_rZ (at_ (dl_L3 sq) 6 (ins := .ireturn) rfl) rfl) (
  tkc (s_iinc (at_ (dl_L3 sq) 7 (ins := .iinc 3 4) rfl) (Nat.le_of_ble_eq_true rfl) (by first | rfl | decide)) ( tk0))))))))
theorem lf_L3 (sq : Nat × (Nat → Int32)) : lk (tb_L3 sq) 205 = (x_al 206 1, false) ∧ lk (tb_L3 sq) 206 = (x_cV 9 0 P_X9_code 209, false) ∧ lk (tb_L3 sq) 209 = (x_al 210 2, false) ∧ lk (tb_L3 sq) 210 = (x_cV 10 0 P_X10_code 213, false) ∧ lk (tb_L3 sq) 213 = (x_ic 920 216 (fun x y : Int32 => x = y), false) ∧ lk (tb_L3 sq) 216 = (x_c 217 (.int 0), false) ∧ lk (tb_L3 sq) 217 = (x_rZ, false) ∧ lk (tb_L3 sq) 920 = (x_inc 923 3 4, true) := ⟨rfl, rfl, rfl, rfl, rfl, rfl, rfl, rfl⟩
set_option maxRecDepth 20000 in
theorem lc_3 {sq : Nat × (Nat → Int32)} {R : Option Value → Mem → Prop} {S : Sh} {I : MI} {L : Nat → Nat → Int64} {g : GS} {i : Nat} (h4 : i + 4 ≤ sq.1) (h2 : sq.1 ≤ 2048) (hC : CR S I L g) (hM : MR S I L g) (hO : GOk g) (hnx : ∀ I' L' g', CR S I' L' g' → MR S I' L' g' → GOk g' → J (mt_L_law sq) R 920 [some (.ref 9002), some (.ref 0), some (.ref 108), some (.int (nI i))] [] (S, I', L')) : J (mt_L_law sq) R 205 [some (.ref 9002), some (.ref 0), some (.ref 108), some (.int (nI i))] [] (S, I, L) := by
  have t0 : tO S 0 9 := hC.1.1.1
  have t8 : tO S 108 10 := hM.1.1
  have v1 : vp_in (nI (i + 1)) sq.1 := vp_in_nI (by omega) (by omega)
  have v2 : vp_in (nI (i + 2)) sq.1 := vp_in_nI (by omega) (by omega)
  have v3 : vp_in (nI (i + 3)) sq.1 := vp_in_nI (by omega) (by omega)
  refine J.of (tk_L3 sq) 200 fun ρ hρ => ?_
  simp only [hρ, x_c, x_il, x_ll, x_al, x_is, x_as, x_ls, x_inc, x_ii, x_iq, x_i1, x_l2, x_lq, x_lh, x_i2l, x_l2i, x_lcmp, x_dup, x_dup2, x_pop, x_if, x_ifn, x_ic, x_icn, x_go, x_sw, swc, x_l01, x_mx, x_gI, x_gL, x_gR, x_pI, x_pZ, x_pL, x_pR, x_ia, x_za, x_aa, x_ias, x_zas, x_aas, x_fac, x_fa, x_slen, x_sa, x_ac, x_oi, x_new, x_na, x_cS, x_cV, x_cI, x_rI, x_rZ, x_rL, x_r0, pa, short, oc, lg, lset, lset2, wide, cond_true, cond_false, true_and, and_true, ↓reduceIte, Bool.false_eq_true, true_or, or_true, lf_L3, t0, t8, P_X9_code, P_X10_code, Ans, Anm, nI_1, show (2 : Int32) = nI 2 by decide, show (3 : Int32) = nI 3 by decide, nI_add, eq_true v1, eq_true v2, eq_true v3, ncl (show i + 1 < 2 ^ 31 by omega), ncl (show i + 2 < 2 ^ 31 by omega), ncl (show i + 3 < 2 ^ 31 by omega), lg_cmp_eq, true_implies, not_true_eq_false, false_implies, not_false_eq_true]
  exact ⟨g, hC, hO, fun I1 L1 f1 l1 c1 => ⟨g, hM.f8 f1 l1, hO, fun I2 L2 f2 l2 c2 => ⟨fun _ => hnx I2 L2 _ (c1.i f2 (l2 0 (by omega))) c2 (kCode hO), fun h => absurd rfl h⟩⟩⟩
def il_L4 : List (Nat × Instr × Nat) := [(218, .aload_n 1, 1), (219, .aload_n 0, 1), (220, .iload_n 3, 1), (221, .iconst 1, 1), (222, .iadd, 1), (223, .iaload, 1), (224, .invokevirtual 31, 3), (227, .aload_n 2, 1), (228, .aload_n 0, 1), (229, .iload_n 3, 1), (230, .iconst 1, 1), (231, .iadd, 1), (232, .iaload, 1), (233, .invokevirtual 34, 3), (236, .if_icmp .eq 684, 3), (239, .iconst 0, 1), (240, .ireturn, 1), (920, .iinc 3 4, 3)]
set_option maxRecDepth 100000 in
theorem dl_L4 (sq : Nat × (Nat → Int32)) : ∀ q ∈ il_L4, decode (mt_L_law sq).1 q.1 = .ok q.2 := (by decide +kernel : ∀ q ∈ il_L4, decode cL_law q.1 = .ok q.2)
def tb_L4 (sq : Nat × (Nat → Int32)) : Tb := [(218, x_al 219 1, false),
  (219, x_al 220 0, false),
  (220, x_il 221 3, false),
  (221, x_c 222 (.int 1), false),
  (222, x_ii 223 (fun x y : Int32 => x + y), false),
  (223, x_sa 224 sq, false),
  (224, x_cV 9 1 P_X9_about 227, false),
  (227, x_al 228 2, false),
  (228, x_al 229 0, false),
  (229, x_il 230 3, false),
  (230, x_c 231 (.int 1), false),
  (231, x_ii 232 (fun x y : Int32 => x + y), false),
  (232, x_sa 233 sq, false),
  (233, x_cV 10 1 P_X10_about 236, false),
  (236, x_ic 920 239 (fun x y : Int32 => x = y), false),
  (239, x_c 240 (.int 0), false),
  (240, x_rZ, false),
  (920, x_inc 923 3 4, true)]
set_option maxRecDepth 100000 in
theorem tk_L4 (sq : Nat × (Nat → Int32)) : TbOk (mt_L_law sq) (tb_L4 sq) :=
  tkc (s_aload_n (at_ (dl_L4 sq) 0 (ins := .aload_n 1) rfl)) (
  tkc (s_aload_n (at_ (dl_L4 sq) 1 (ins := .aload_n 0) rfl)) (
  tkc (s_iload_n (at_ (dl_L4 sq) 2 (ins := .iload_n 3) rfl)) (
  tkc (s_iconst (at_ (dl_L4 sq) 3 (ins := .iconst 1) rfl) (by first | rfl | decide)) (
  tkc (s_iadd (at_ (dl_L4 sq) 4 (ins := .iadd) rfl)) (
  tkc (s_sa (at_ (dl_L4 sq) 5 (ins := .iaload) rfl) rfl) (
  tkc (s_cV ok_X9_about (at_ (dl_L4 sq) 6 (ins := .invokevirtual 31) rfl) (by decide) rfl (show Cond.methodLink RL 31 yX9_about ∈ tblG from (tg 356 (by decide +kernel) (by decide +kernel))) (tg 357 (by decide +kernel) (by decide +kernel)) (tg 358 (by decide +kernel) (by decide +kernel)) (tg 42 (by decide +kernel) (by decide +kernel)) (tg 359 (by decide +kernel) (by decide +kernel)) (⟨by decide, by decide, by decide +kernel⟩) (⟨(Nat.le_of_ble_eq_true rfl), (Nat.le_of_ble_eq_true rfl)⟩) rfl rfl) (
  tkc (s_aload_n (at_ (dl_L4 sq) 7 (ins := .aload_n 2) rfl)) (
  tkc (s_aload_n (at_ (dl_L4 sq) 8 (ins := .aload_n 0) rfl)) (
  tkc (s_iload_n (at_ (dl_L4 sq) 9 (ins := .iload_n 3) rfl)) (
  tkc (s_iconst (at_ (dl_L4 sq) 10 (ins := .iconst 1) rfl) (by first | rfl | decide)) (
  tkc (s_iadd (at_ (dl_L4 sq) 11 (ins := .iadd) rfl)) (
  tkc (s_sa (at_ (dl_L4 sq) 12 (ins := .iaload) rfl) rfl) (
  tkc (s_cV ok_X10_about (at_ (dl_L4 sq) 13 (ins := .invokevirtual 34) rfl) (by decide) rfl (show Cond.methodLink RL 34 yX10_about ∈ tblG from (tg 805 (by decide +kernel) (by decide +kernel))) (tg 806 (by decide +kernel) (by decide +kernel)) (tg 807 (by decide +kernel) (by decide +kernel)) (tg 51 (by decide +kernel) (by decide +kernel)) (tg 808 (by decide +kernel) (by decide +kernel)) (⟨by decide, by decide, by decide +kernel⟩) (⟨(Nat.le_of_ble_eq_true rfl), (Nat.le_of_ble_eq_true rfl)⟩) rfl rfl) (
  tkc (s_ic_eq (at_ (dl_L4 sq) 14 (ins := .if_icmp .eq 684) rfl) (by decide)) (
  tkc (s_iconst (at_ (dl_L4 sq) 15 (ins := .iconst 0) rfl) (by first | rfl | decide)) (
  tkc (s_rZ (at_ (dl_L4 sq) 16 (ins := .ireturn) rfl) rfl) (
  tkc (s_iinc (at_ (dl_L4 sq) 17 (ins := .iinc 3 4) rfl) (Nat.le_of_ble_eq_true rfl) (by first | rfl | decide)) ( tk0))))))))))))))))))
theorem lf_L4 (sq : Nat × (Nat → Int32)) : lk (tb_L4 sq) 218 = (x_al 219 1, false) ∧ lk (tb_L4 sq) 219 = (x_al 220 0, false) ∧ lk (tb_L4 sq) 220 = (x_il 221 3, false) ∧ lk (tb_L4 sq) 221 = (x_c 222 (.int 1), false) ∧ lk (tb_L4 sq) 222 = (x_ii 223 (fun x y : Int32 => x + y), false) ∧ lk (tb_L4 sq) 223 = (x_sa 224 sq, false) ∧ lk (tb_L4 sq) 224 = (x_cV 9 1 P_X9_about 227, false) ∧ lk (tb_L4 sq) 227 = (x_al 228 2, false) ∧ lk (tb_L4 sq) 228 = (x_al 229 0, false) ∧ lk (tb_L4 sq) 229 = (x_il 230 3, false) ∧ lk (tb_L4 sq) 230 = (x_c 231 (.int 1), false) ∧ lk (tb_L4 sq) 231 = (x_ii 232 (fun x y : Int32 => x + y), false) ∧ lk (tb_L4 sq) 232 = (x_sa 233 sq, false) ∧ lk (tb_L4 sq) 233 = (x_cV 10 1 P_X10_about 236, false) ∧ lk (tb_L4 sq) 236 = (x_ic 920 239 (fun x y : Int32 => x = y), false) ∧ lk (tb_L4 sq) 239 = (x_c 240 (.int 0), false) ∧ lk (tb_L4 sq) 240 = (x_rZ, false) ∧ lk (tb_L4 sq) 920 = (x_inc 923 3 4, true) := ⟨rfl, rfl, rfl, rfl, rfl, rfl, rfl, rfl, rfl, rfl, rfl, rfl, rfl, rfl, rfl, rfl, rfl, rfl⟩
set_option maxRecDepth 20000 in
theorem lc_4 {sq : Nat × (Nat → Int32)} {R : Option Value → Mem → Prop} {S : Sh} {I : MI} {L : Nat → Nat → Int64} {g : GS} {i : Nat} (h4 : i + 4 ≤ sq.1) (h2 : sq.1 ≤ 2048) (hC : CR S I L g) (hM : MR S I L g) (hO : GOk g) (hnx : ∀ I' L' g', CR S I' L' g' → MR S I' L' g' → GOk g' → J (mt_L_law sq) R 920 [some (.ref 9002), some (.ref 0), some (.ref 108), some (.int (nI i))] [] (S, I', L')) : J (mt_L_law sq) R 218 [some (.ref 9002), some (.ref 0), some (.ref 108), some (.int (nI i))] [] (S, I, L) := by
  have t0 : tO S 0 9 := hC.1.1.1
  have t8 : tO S 108 10 := hM.1.1
  have v1 : vp_in (nI (i + 1)) sq.1 := vp_in_nI (by omega) (by omega)
  have v2 : vp_in (nI (i + 2)) sq.1 := vp_in_nI (by omega) (by omega)
  have v3 : vp_in (nI (i + 3)) sq.1 := vp_in_nI (by omega) (by omega)
  refine J.of (tk_L4 sq) 200 fun ρ hρ => ?_
  simp only [hρ, x_c, x_il, x_ll, x_al, x_is, x_as, x_ls, x_inc, x_ii, x_iq, x_i1, x_l2, x_lq, x_lh, x_i2l, x_l2i, x_lcmp, x_dup, x_dup2, x_pop, x_if, x_ifn, x_ic, x_icn, x_go, x_sw, swc, x_l01, x_mx, x_gI, x_gL, x_gR, x_pI, x_pZ, x_pL, x_pR, x_ia, x_za, x_aa, x_ias, x_zas, x_aas, x_fac, x_fa, x_slen, x_sa, x_ac, x_oi, x_new, x_na, x_cS, x_cV, x_cI, x_rI, x_rZ, x_rL, x_r0, pa, short, oc, lg, lset, lset2, wide, cond_true, cond_false, true_and, and_true, ↓reduceIte, Bool.false_eq_true, true_or, or_true, lf_L4, t0, t8, P_X9_about, P_X10_about, Ans, Anm, nI_1, show (2 : Int32) = nI 2 by decide, show (3 : Int32) = nI 3 by decide, nI_add, eq_true v1, eq_true v2, eq_true v3, ncl (show i + 1 < 2 ^ 31 by omega), ncl (show i + 2 < 2 ^ 31 by omega), ncl (show i + 3 < 2 ^ 31 by omega), lg_cmp_eq, true_implies, not_true_eq_false, false_implies, not_false_eq_true]
  exact ⟨g, hC, hO, fun I1 L1 f1 l1 c1 => ⟨g, hM.f8 f1 l1, hO, fun I2 L2 f2 l2 c2 => ⟨fun _ => hnx I2 L2 _ (c1.i f2 (l2 0 (by omega))) c2 hO, fun h => absurd rfl h⟩⟩⟩
def il_L5 : List (Nat × Instr × Nat) := [(241, .aload_n 1, 1), (242, .aload_n 0, 1), (243, .iload_n 3, 1), (244, .iconst 1, 1), (245, .iadd, 1), (246, .iaload, 1), (247, .aload_n 0, 1), (248, .iload_n 3, 1), (249, .iconst 2, 1), (250, .iadd, 1), (251, .iaload, 1), (252, .invokevirtual 35, 3), (255, .aload_n 2, 1), (256, .aload_n 0, 1), (257, .iload_n 3, 1), (258, .iconst 1, 1), (259, .iadd, 1), (260, .iaload, 1), (261, .aload_n 0, 1), (262, .iload_n 3, 1), (263, .iconst 2, 1), (264, .iadd, 1), (265, .iaload, 1), (266, .invokevirtual 39, 3), (269, .if_icmp .eq 651, 3), (272, .iconst 0, 1), (273, .ireturn, 1), (920, .iinc 3 4, 3)]
set_option maxRecDepth 100000 in
theorem dl_L5 (sq : Nat × (Nat → Int32)) : ∀ q ∈ il_L5, decode (mt_L_law sq).1 q.1 = .ok q.2 := (by decide +kernel : ∀ q ∈ il_L5, decode cL_law q.1 = .ok q.2)
def tb_L5 (sq : Nat × (Nat → Int32)) : Tb := [(241, x_al 242 1, false),
  (242, x_al 243 0, false),
  (243, x_il 244 3, false),
  (244, x_c 245 (.int 1), false),
  (245, x_ii 246 (fun x y : Int32 => x + y), false),
  (246, x_sa 247 sq, false),
  (247, x_al 248 0, false),
  (248, x_il 249 3, false),
  (249, x_c 250 (.int 2), false),
  (250, x_ii 251 (fun x y : Int32 => x + y), false),
  (251, x_sa 252 sq, false),
  (252, x_cV 9 2 P_X9_bit 255, false),
  (255, x_al 256 2, false),
  (256, x_al 257 0, false),
  (257, x_il 258 3, false),
  (258, x_c 259 (.int 1), false),
  (259, x_ii 260 (fun x y : Int32 => x + y), false),
  (260, x_sa 261 sq, false),
  (261, x_al 262 0, false),
  (262, x_il 263 3, false),
  (263, x_c 264 (.int 2), false),
  (264, x_ii 265 (fun x y : Int32 => x + y), false),
  (265, x_sa 266 sq, false),
  (266, x_cV 10 2 P_X10_bit 269, false),
  (269, x_ic 920 272 (fun x y : Int32 => x = y), false),
  (272, x_c 273 (.int 0), false),
  (273, x_rZ, false),
  (920, x_inc 923 3 4, true)]
set_option maxRecDepth 100000 in
theorem tk_L5 (sq : Nat × (Nat → Int32)) : TbOk (mt_L_law sq) (tb_L5 sq) :=
  tkc (s_aload_n (at_ (dl_L5 sq) 0 (ins := .aload_n 1) rfl)) (
  tkc (s_aload_n (at_ (dl_L5 sq) 1 (ins := .aload_n 0) rfl)) (
  tkc (s_iload_n (at_ (dl_L5 sq) 2 (ins := .iload_n 3) rfl)) (
  tkc (s_iconst (at_ (dl_L5 sq) 3 (ins := .iconst 1) rfl) (by first | rfl | decide)) (
  tkc (s_iadd (at_ (dl_L5 sq) 4 (ins := .iadd) rfl)) (
  tkc (s_sa (at_ (dl_L5 sq) 5 (ins := .iaload) rfl) rfl) (
  tkc (s_aload_n (at_ (dl_L5 sq) 6 (ins := .aload_n 0) rfl)) (
  tkc (s_iload_n (at_ (dl_L5 sq) 7 (ins := .iload_n 3) rfl)) (
  tkc (s_iconst (at_ (dl_L5 sq) 8 (ins := .iconst 2) rfl) (by first | rfl | decide)) (
  tkc (s_iadd (at_ (dl_L5 sq) 9 (ins := .iadd) rfl)) (
  tkc (s_sa (at_ (dl_L5 sq) 10 (ins := .iaload) rfl) rfl) (
  tkc (s_cV ok_X9_bit (at_ (dl_L5 sq) 11 (ins := .invokevirtual 35) rfl) (by decide) rfl (show Cond.methodLink RL 35 yX9_bit ∈ tblG from (tg 476 (by decide +kernel) (by decide +kernel))) (tg 477 (by decide +kernel) (by decide +kernel)) (tg 478 (by decide +kernel) (by decide +kernel)) (tg 42 (by decide +kernel) (by decide +kernel)) (tg 479 (by decide +kernel) (by decide +kernel)) (⟨by decide, by decide, by decide +kernel⟩) (⟨(Nat.le_of_ble_eq_true rfl), (Nat.le_of_ble_eq_true rfl)⟩) rfl rfl) (
  tkc (s_aload_n (at_ (dl_L5 sq) 12 (ins := .aload_n 2) rfl)) (
  tkc (s_aload_n (at_ (dl_L5 sq) 13 (ins := .aload_n 0) rfl)) (
  tkc (s_iload_n (at_ (dl_L5 sq) 14 (ins := .iload_n 3) rfl)) (
  tkc (s_iconst (at_ (dl_L5 sq) 15 (ins := .iconst 1) rfl) (by first | rfl | decide)) (
  tkc (s_iadd (at_ (dl_L5 sq) 16 (ins := .iadd) rfl)) (
  tkc (s_sa (at_ (dl_L5 sq) 17 (ins := .iaload) rfl) rfl) (
  tkc (s_aload_n (at_ (dl_L5 sq) 18 (ins := .aload_n 0) rfl)) (
  tkc (s_iload_n (at_ (dl_L5 sq) 19 (ins := .iload_n 3) rfl)) (
  tkc (s_iconst (at_ (dl_L5 sq) 20 (ins := .iconst 2) rfl) (by first | rfl | decide)) (
  tkc (s_iadd (at_ (dl_L5 sq) 21 (ins := .iadd) rfl)) (
  tkc (s_sa (at_ (dl_L5 sq) 22 (ins := .iaload) rfl) rfl) (
  tkc (s_cV ok_X10_bit (at_ (dl_L5 sq) 23 (ins := .invokevirtual 39) rfl) (by decide) rfl (show Cond.methodLink RL 39 yX10_bit ∈ tblG from (tg 876 (by decide +kernel) (by decide +kernel))) (tg 877 (by decide +kernel) (by decide +kernel)) (tg 878 (by decide +kernel) (by decide +kernel)) (tg 51 (by decide +kernel) (by decide +kernel)) (tg 879 (by decide +kernel) (by decide +kernel)) (⟨by decide, by decide, by decide +kernel⟩) (⟨(Nat.le_of_ble_eq_true rfl), (Nat.le_of_ble_eq_true rfl)⟩) rfl rfl) (
  tkc (s_ic_eq (at_ (dl_L5 sq) 24 (ins := .if_icmp .eq 651) rfl) (by decide)) (
  tkc (s_iconst (at_ (dl_L5 sq) 25 (ins := .iconst 0) rfl) (by first | rfl | decide)) (
  tkc (s_rZ (at_ (dl_L5 sq) 26 (ins := .ireturn) rfl) rfl) (
  tkc (s_iinc (at_ (dl_L5 sq) 27 (ins := .iinc 3 4) rfl) (Nat.le_of_ble_eq_true rfl) (by first | rfl | decide)) ( tk0))))))))))))))))))))))))))))
theorem lf_L5 (sq : Nat × (Nat → Int32)) : lk (tb_L5 sq) 241 = (x_al 242 1, false) ∧ lk (tb_L5 sq) 242 = (x_al 243 0, false) ∧ lk (tb_L5 sq) 243 = (x_il 244 3, false) ∧ lk (tb_L5 sq) 244 = (x_c 245 (.int 1), false) ∧ lk (tb_L5 sq) 245 = (x_ii 246 (fun x y : Int32 => x + y), false) ∧ lk (tb_L5 sq) 246 = (x_sa 247 sq, false) ∧ lk (tb_L5 sq) 247 = (x_al 248 0, false) ∧ lk (tb_L5 sq) 248 = (x_il 249 3, false) ∧ lk (tb_L5 sq) 249 = (x_c 250 (.int 2), false) ∧ lk (tb_L5 sq) 250 = (x_ii 251 (fun x y : Int32 => x + y), false) ∧ lk (tb_L5 sq) 251 = (x_sa 252 sq, false) ∧ lk (tb_L5 sq) 252 = (x_cV 9 2 P_X9_bit 255, false) ∧ lk (tb_L5 sq) 255 = (x_al 256 2, false) ∧ lk (tb_L5 sq) 256 = (x_al 257 0, false) ∧ lk (tb_L5 sq) 257 = (x_il 258 3, false) ∧ lk (tb_L5 sq) 258 = (x_c 259 (.int 1), false) ∧ lk (tb_L5 sq) 259 = (x_ii 260 (fun x y : Int32 => x + y), false) ∧ lk (tb_L5 sq) 260 = (x_sa 261 sq, false) ∧ lk (tb_L5 sq) 261 = (x_al 262 0, false) ∧ lk (tb_L5 sq) 262 = (x_il 263 3, false) ∧ lk (tb_L5 sq) 263 = (x_c 264 (.int 2), false) ∧ lk (tb_L5 sq) 264 = (x_ii 265 (fun x y : Int32 => x + y), false) ∧ lk (tb_L5 sq) 265 = (x_sa 266 sq, false) ∧ lk (tb_L5 sq) 266 = (x_cV 10 2 P_X10_bit 269, false) ∧ lk (tb_L5 sq) 269 = (x_ic 920 272 (fun x y : Int32 => x = y), false) ∧ lk (tb_L5 sq) 272 = (x_c 273 (.int 0), false) ∧ lk (tb_L5 sq) 273 = (x_rZ, false) ∧ lk (tb_L5 sq) 920 = (x_inc 923 3 4, true) := ⟨rfl, rfl, rfl, rfl, rfl, rfl, rfl, rfl, rfl, rfl, rfl, rfl, rfl, rfl, rfl, rfl, rfl, rfl, rfl, rfl, rfl, rfl, rfl, rfl, rfl, rfl, rfl, rfl⟩
set_option maxRecDepth 20000 in
theorem lc_5 {sq : Nat × (Nat → Int32)} {R : Option Value → Mem → Prop} {S : Sh} {I : MI} {L : Nat → Nat → Int64} {g : GS} {i : Nat} (h4 : i + 4 ≤ sq.1) (h2 : sq.1 ≤ 2048) (hC : CR S I L g) (hM : MR S I L g) (hO : GOk g) (hnx : ∀ I' L' g', CR S I' L' g' → MR S I' L' g' → GOk g' → J (mt_L_law sq) R 920 [some (.ref 9002), some (.ref 0), some (.ref 108), some (.int (nI i))] [] (S, I', L')) : J (mt_L_law sq) R 241 [some (.ref 9002), some (.ref 0), some (.ref 108), some (.int (nI i))] [] (S, I, L) := by
  have t0 : tO S 0 9 := hC.1.1.1
  have t8 : tO S 108 10 := hM.1.1
  have v1 : vp_in (nI (i + 1)) sq.1 := vp_in_nI (by omega) (by omega)
  have v2 : vp_in (nI (i + 2)) sq.1 := vp_in_nI (by omega) (by omega)
  have v3 : vp_in (nI (i + 3)) sq.1 := vp_in_nI (by omega) (by omega)
  refine J.of (tk_L5 sq) 200 fun ρ hρ => ?_
  simp only [hρ, x_c, x_il, x_ll, x_al, x_is, x_as, x_ls, x_inc, x_ii, x_iq, x_i1, x_l2, x_lq, x_lh, x_i2l, x_l2i, x_lcmp, x_dup, x_dup2, x_pop, x_if, x_ifn, x_ic, x_icn, x_go, x_sw, swc, x_l01, x_mx, x_gI, x_gL, x_gR, x_pI, x_pZ, x_pL, x_pR, x_ia, x_za, x_aa, x_ias, x_zas, x_aas, x_fac, x_fa, x_slen, x_sa, x_ac, x_oi, x_new, x_na, x_cS, x_cV, x_cI, x_rI, x_rZ, x_rL, x_r0, pa, short, oc, lg, lset, lset2, wide, cond_true, cond_false, true_and, and_true, ↓reduceIte, Bool.false_eq_true, true_or, or_true, lf_L5, t0, t8, P_X9_bit, P_X10_bit, Ans, Anm, nI_1, show (2 : Int32) = nI 2 by decide, show (3 : Int32) = nI 3 by decide, nI_add, eq_true v1, eq_true v2, eq_true v3, ncl (show i + 1 < 2 ^ 31 by omega), ncl (show i + 2 < 2 ^ 31 by omega), ncl (show i + 3 < 2 ^ 31 by omega), lg_cmp_eq, true_implies, not_true_eq_false, false_implies, not_false_eq_true]
  exact ⟨g, hC, hO, fun I1 L1 f1 l1 c1 => ⟨g, hM.f8 f1 l1, hO, fun I2 L2 f2 l2 c2 => ⟨fun _ => hnx I2 L2 _ (c1.i f2 (l2 0 (by omega))) c2 hO, fun h => absurd rfl h⟩⟩⟩
def il_L6 : List (Nat × Instr × Nat) := [(274, .aload_n 1, 1), (275, .aload_n 0, 1), (276, .iload_n 3, 1), (277, .iconst 1, 1), (278, .iadd, 1), (279, .iaload, 1), (280, .invokevirtual 40, 3), (283, .aload_n 2, 1), (284, .aload_n 0, 1), (285, .iload_n 3, 1), (286, .iconst 1, 1), (287, .iadd, 1), (288, .iaload, 1), (289, .invokevirtual 43, 3), (292, .if_icmp .eq 628, 3), (295, .iconst 0, 1), (296, .ireturn, 1), (920, .iinc 3 4, 3)]
set_option maxRecDepth 100000 in
theorem dl_L6 (sq : Nat × (Nat → Int32)) : ∀ q ∈ il_L6, decode (mt_L_law sq).1 q.1 = .ok q.2 := (by decide +kernel : ∀ q ∈ il_L6, decode cL_law q.1 = .ok q.2)
def tb_L6 (sq : Nat × (Nat → Int32)) : Tb := [(274, x_al 275 1, false),
  (275, x_al 276 0, false),
  (276, x_il 277 3, false),
  (277, x_c 278 (.int 1), false),
  (278, x_ii 279 (fun x y : Int32 => x + y), false),
  (279, x_sa 280 sq, false),
  (280, x_cV 9 1 P_X9_check 283, false),
  (283, x_al 284 2, false),
  (284, x_al 285 0, false),
  (285, x_il 286 3, false),
  (286, x_c 287 (.int 1), false),
  (287, x_ii 288 (fun x y : Int32 => x + y), false),
  (288, x_sa 289 sq, false),
  (289, x_cV 10 1 P_X10_check 292, false),
  (292, x_ic 920 295 (fun x y : Int32 => x = y), false),
  (295, x_c 296 (.int 0), false),
  (296, x_rZ, false),
  (920, x_inc 923 3 4, true)]
set_option maxRecDepth 100000 in
theorem tk_L6 (sq : Nat × (Nat → Int32)) : TbOk (mt_L_law sq) (tb_L6 sq) :=
  tkc (s_aload_n (at_ (dl_L6 sq) 0 (ins := .aload_n 1) rfl)) (
  tkc (s_aload_n (at_ (dl_L6 sq) 1 (ins := .aload_n 0) rfl)) (
  tkc (s_iload_n (at_ (dl_L6 sq) 2 (ins := .iload_n 3) rfl)) (
  tkc (s_iconst (at_ (dl_L6 sq) 3 (ins := .iconst 1) rfl) (by first | rfl | decide)) (
  tkc (s_iadd (at_ (dl_L6 sq) 4 (ins := .iadd) rfl)) (
  tkc (s_sa (at_ (dl_L6 sq) 5 (ins := .iaload) rfl) rfl) (
  tkc (s_cV ok_X9_check (at_ (dl_L6 sq) 6 (ins := .invokevirtual 40) rfl) (by decide) rfl (show Cond.methodLink RL 40 yX9_check ∈ tblG from (tg 482 (by decide +kernel) (by decide +kernel))) (tg 483 (by decide +kernel) (by decide +kernel)) (tg 484 (by decide +kernel) (by decide +kernel)) (tg 42 (by decide +kernel) (by decide +kernel)) (tg 485 (by decide +kernel) (by decide +kernel)) (⟨by decide, by decide, by decide +kernel⟩) (⟨(Nat.le_of_ble_eq_true rfl), (Nat.le_of_ble_eq_true rfl)⟩) rfl rfl) (
  tkc (s_aload_n (at_ (dl_L6 sq) 7 (ins := .aload_n 2) rfl)) (
  tkc (s_aload_n (at_ (dl_L6 sq) 8 (ins := .aload_n 0) rfl)) (
  tkc (s_iload_n (at_ (dl_L6 sq) 9 (ins := .iload_n 3) rfl)) (
  tkc (s_iconst (at_ (dl_L6 sq) 10 (ins := .iconst 1) rfl) (by first | rfl | decide)) (
  tkc (s_iadd (at_ (dl_L6 sq) 11 (ins := .iadd) rfl)) (
  tkc (s_sa (at_ (dl_L6 sq) 12 (ins := .iaload) rfl) rfl) (
  tkc (s_cV ok_X10_check (at_ (dl_L6 sq) 13 (ins := .invokevirtual 43) rfl) (by decide) rfl (show Cond.methodLink RL 43 yX10_check ∈ tblG from (tg 888 (by decide +kernel) (by decide +kernel))) (tg 889 (by decide +kernel) (by decide +kernel)) (tg 890 (by decide +kernel) (by decide +kernel)) (tg 51 (by decide +kernel) (by decide +kernel)) (tg 891 (by decide +kernel) (by decide +kernel)) (⟨by decide, by decide, by decide +kernel⟩) (⟨(Nat.le_of_ble_eq_true rfl), (Nat.le_of_ble_eq_true rfl)⟩) rfl rfl) (
  tkc (s_ic_eq (at_ (dl_L6 sq) 14 (ins := .if_icmp .eq 628) rfl) (by decide)) (
  tkc (s_iconst (at_ (dl_L6 sq) 15 (ins := .iconst 0) rfl) (by first | rfl | decide)) (
  tkc (s_rZ (at_ (dl_L6 sq) 16 (ins := .ireturn) rfl) rfl) (
  tkc (s_iinc (at_ (dl_L6 sq) 17 (ins := .iinc 3 4) rfl) (Nat.le_of_ble_eq_true rfl) (by first | rfl | decide)) ( tk0))))))))))))))))))
theorem lf_L6 (sq : Nat × (Nat → Int32)) : lk (tb_L6 sq) 274 = (x_al 275 1, false) ∧ lk (tb_L6 sq) 275 = (x_al 276 0, false) ∧ lk (tb_L6 sq) 276 = (x_il 277 3, false) ∧ lk (tb_L6 sq) 277 = (x_c 278 (.int 1), false) ∧ lk (tb_L6 sq) 278 = (x_ii 279 (fun x y : Int32 => x + y), false) ∧ lk (tb_L6 sq) 279 = (x_sa 280 sq, false) ∧ lk (tb_L6 sq) 280 = (x_cV 9 1 P_X9_check 283, false) ∧ lk (tb_L6 sq) 283 = (x_al 284 2, false) ∧ lk (tb_L6 sq) 284 = (x_al 285 0, false) ∧ lk (tb_L6 sq) 285 = (x_il 286 3, false) ∧ lk (tb_L6 sq) 286 = (x_c 287 (.int 1), false) ∧ lk (tb_L6 sq) 287 = (x_ii 288 (fun x y : Int32 => x + y), false) ∧ lk (tb_L6 sq) 288 = (x_sa 289 sq, false) ∧ lk (tb_L6 sq) 289 = (x_cV 10 1 P_X10_check 292, false) ∧ lk (tb_L6 sq) 292 = (x_ic 920 295 (fun x y : Int32 => x = y), false) ∧ lk (tb_L6 sq) 295 = (x_c 296 (.int 0), false) ∧ lk (tb_L6 sq) 296 = (x_rZ, false) ∧ lk (tb_L6 sq) 920 = (x_inc 923 3 4, true) := ⟨rfl, rfl, rfl, rfl, rfl, rfl, rfl, rfl, rfl, rfl, rfl, rfl, rfl, rfl, rfl, rfl, rfl, rfl⟩
set_option maxRecDepth 20000 in
theorem lc_6 {sq : Nat × (Nat → Int32)} {R : Option Value → Mem → Prop} {S : Sh} {I : MI} {L : Nat → Nat → Int64} {g : GS} {i : Nat} (h4 : i + 4 ≤ sq.1) (h2 : sq.1 ≤ 2048) (hC : CR S I L g) (hM : MR S I L g) (hO : GOk g) (hnx : ∀ I' L' g', CR S I' L' g' → MR S I' L' g' → GOk g' → J (mt_L_law sq) R 920 [some (.ref 9002), some (.ref 0), some (.ref 108), some (.int (nI i))] [] (S, I', L')) : J (mt_L_law sq) R 274 [some (.ref 9002), some (.ref 0), some (.ref 108), some (.int (nI i))] [] (S, I, L) := by
  have t0 : tO S 0 9 := hC.1.1.1
  have t8 : tO S 108 10 := hM.1.1
  have v1 : vp_in (nI (i + 1)) sq.1 := vp_in_nI (by omega) (by omega)
  have v2 : vp_in (nI (i + 2)) sq.1 := vp_in_nI (by omega) (by omega)
  have v3 : vp_in (nI (i + 3)) sq.1 := vp_in_nI (by omega) (by omega)
  refine J.of (tk_L6 sq) 200 fun ρ hρ => ?_
  simp only [hρ, x_c, x_il, x_ll, x_al, x_is, x_as, x_ls, x_inc, x_ii, x_iq, x_i1, x_l2, x_lq, x_lh, x_i2l, x_l2i, x_lcmp, x_dup, x_dup2, x_pop, x_if, x_ifn, x_ic, x_icn, x_go, x_sw, swc, x_l01, x_mx, x_gI, x_gL, x_gR, x_pI, x_pZ, x_pL, x_pR, x_ia, x_za, x_aa, x_ias, x_zas, x_aas, x_fac, x_fa, x_slen, x_sa, x_ac, x_oi, x_new, x_na, x_cS, x_cV, x_cI, x_rI, x_rZ, x_rL, x_r0, pa, short, oc, lg, lset, lset2, wide, cond_true, cond_false, true_and, and_true, ↓reduceIte, Bool.false_eq_true, true_or, or_true, lf_L6, t0, t8, P_X9_check, P_X10_check, Ans, Anm, nI_1, show (2 : Int32) = nI 2 by decide, show (3 : Int32) = nI 3 by decide, nI_add, eq_true v1, eq_true v2, eq_true v3, ncl (show i + 1 < 2 ^ 31 by omega), ncl (show i + 2 < 2 ^ 31 by omega), ncl (show i + 3 < 2 ^ 31 by omega), lg_cmp_eq, true_implies, not_true_eq_false, false_implies, not_false_eq_true]
  exact ⟨g, hC, hO, fun I1 L1 f1 l1 c1 => ⟨g, hM.f8 f1 l1, hO, fun I2 L2 f2 l2 c2 => ⟨fun _ => hnx I2 L2 _ (c1.i f2 (l2 0 (by omega))) c2 hO, fun h => absurd rfl h⟩⟩⟩
def il_L7 : List (Nat × Instr × Nat) := [(297, .aload_n 1, 1), (298, .aload_n 0, 1), (299, .iload_n 3, 1), (300, .iconst 1, 1), (301, .iadd, 1), (302, .iaload, 1), (303, .aload_n 0, 1), (304, .iload_n 3, 1), (305, .iconst 2, 1), (306, .iadd, 1), (307, .iaload, 1), (308, .invokevirtual 44, 3), (311, .aload_n 2, 1), (312, .aload_n 0, 1), (313, .iload_n 3, 1), (314, .iconst 1, 1), (315, .iadd, 1), (316, .iaload, 1), (317, .aload_n 0, 1), (318, .iload_n 3, 1), (319, .iconst 2, 1), (320, .iadd, 1), (321, .iaload, 1), (322, .invokevirtual 47, 3), (325, .if_icmp .eq 595, 3), (328, .iconst 0, 1), (329, .ireturn, 1), (920, .iinc 3 4, 3)]
set_option maxRecDepth 100000 in
theorem dl_L7 (sq : Nat × (Nat → Int32)) : ∀ q ∈ il_L7, decode (mt_L_law sq).1 q.1 = .ok q.2 := (by decide +kernel : ∀ q ∈ il_L7, decode cL_law q.1 = .ok q.2)
def tb_L7 (sq : Nat × (Nat → Int32)) : Tb := [(297, x_al 298 1, false),
  (298, x_al 299 0, false),
  (299, x_il 300 3, false),
  (300, x_c 301 (.int 1), false),
  (301, x_ii 302 (fun x y : Int32 => x + y), false),
  (302, x_sa 303 sq, false),
  (303, x_al 304 0, false),
  (304, x_il 305 3, false),
  (305, x_c 306 (.int 2), false),
  (306, x_ii 307 (fun x y : Int32 => x + y), false),
  (307, x_sa 308 sq, false),
  (308, x_cV 9 2 P_X9_message 311, false),
  (311, x_al 312 2, false),
  (312, x_al 313 0, false),
  (313, x_il 314 3, false),
  (314, x_c 315 (.int 1), false),
  (315, x_ii 316 (fun x y : Int32 => x + y), false),
  (316, x_sa 317 sq, false),
  (317, x_al 318 0, false),
  (318, x_il 319 3, false),
  (319, x_c 320 (.int 2), false),
  (320, x_ii 321 (fun x y : Int32 => x + y), false),
  (321, x_sa 322 sq, false),
  (322, x_cV 10 2 P_X10_message 325, false),
  (325, x_ic 920 328 (fun x y : Int32 => x = y), false),
  (328, x_c 329 (.int 0), false),
  (329, x_rZ, false),
  (920, x_inc 923 3 4, true)]
set_option maxRecDepth 100000 in
theorem tk_L7 (sq : Nat × (Nat → Int32)) : TbOk (mt_L_law sq) (tb_L7 sq) :=
  tkc (s_aload_n (at_ (dl_L7 sq) 0 (ins := .aload_n 1) rfl)) (
  tkc (s_aload_n (at_ (dl_L7 sq) 1 (ins := .aload_n 0) rfl)) (
  tkc (s_iload_n (at_ (dl_L7 sq) 2 (ins := .iload_n 3) rfl)) (
  tkc (s_iconst (at_ (dl_L7 sq) 3 (ins := .iconst 1) rfl) (by first | rfl | decide)) (
  tkc (s_iadd (at_ (dl_L7 sq) 4 (ins := .iadd) rfl)) (
  tkc (s_sa (at_ (dl_L7 sq) 5 (ins := .iaload) rfl) rfl) (
  tkc (s_aload_n (at_ (dl_L7 sq) 6 (ins := .aload_n 0) rfl)) (
  tkc (s_iload_n (at_ (dl_L7 sq) 7 (ins := .iload_n 3) rfl)) (
  tkc (s_iconst (at_ (dl_L7 sq) 8 (ins := .iconst 2) rfl) (by first | rfl | decide)) (
  tkc (s_iadd (at_ (dl_L7 sq) 9 (ins := .iadd) rfl)) (
  tkc (s_sa (at_ (dl_L7 sq) 10 (ins := .iaload) rfl) rfl) (
  tkc (s_cV ok_X9_message (at_ (dl_L7 sq) 11 (ins := .invokevirtual 44) rfl) (by decide) rfl (show Cond.methodLink RL 44 yX9_message ∈ tblG from (tg 487 (by decide +kernel) (by decide +kernel))) (tg 488 (by decide +kernel) (by decide +kernel)) (tg 489 (by decide +kernel) (by decide +kernel)) (tg 42 (by decide +kernel) (by decide +kernel)) (tg 490 (by decide +kernel) (by decide +kernel)) (⟨by decide, by decide, by decide +kernel⟩) (⟨(Nat.le_of_ble_eq_true rfl), (Nat.le_of_ble_eq_true rfl)⟩) rfl rfl) (
  tkc (s_aload_n (at_ (dl_L7 sq) 12 (ins := .aload_n 2) rfl)) (
  tkc (s_aload_n (at_ (dl_L7 sq) 13 (ins := .aload_n 0) rfl)) (
  tkc (s_iload_n (at_ (dl_L7 sq) 14 (ins := .iload_n 3) rfl)) (
  tkc (s_iconst (at_ (dl_L7 sq) 15 (ins := .iconst 1) rfl) (by first | rfl | decide)) (
  tkc (s_iadd (at_ (dl_L7 sq) 16 (ins := .iadd) rfl)) (
  tkc (s_sa (at_ (dl_L7 sq) 17 (ins := .iaload) rfl) rfl) (
  tkc (s_aload_n (at_ (dl_L7 sq) 18 (ins := .aload_n 0) rfl)) (
  tkc (s_iload_n (at_ (dl_L7 sq) 19 (ins := .iload_n 3) rfl)) (
  tkc (s_iconst (at_ (dl_L7 sq) 20 (ins := .iconst 2) rfl) (by first | rfl | decide)) (
  tkc (s_iadd (at_ (dl_L7 sq) 21 (ins := .iadd) rfl)) (
  tkc (s_sa (at_ (dl_L7 sq) 22 (ins := .iaload) rfl) rfl) (
  tkc (s_cV ok_X10_message (at_ (dl_L7 sq) 23 (ins := .invokevirtual 47) rfl) (by decide) rfl (show Cond.methodLink RL 47 yX10_message ∈ tblG from (tg 896 (by decide +kernel) (by decide +kernel))) (tg 897 (by decide +kernel) (by decide +kernel)) (tg 898 (by decide +kernel) (by decide +kernel)) (tg 51 (by decide +kernel) (by decide +kernel)) (tg 899 (by decide +kernel) (by decide +kernel)) (⟨by decide, by decide, by decide +kernel⟩) (⟨(Nat.le_of_ble_eq_true rfl), (Nat.le_of_ble_eq_true rfl)⟩) rfl rfl) (
  tkc (s_ic_eq (at_ (dl_L7 sq) 24 (ins := .if_icmp .eq 595) rfl) (by decide)) (
  tkc (s_iconst (at_ (dl_L7 sq) 25 (ins := .iconst 0) rfl) (by first | rfl | decide)) (
  tkc (s_rZ (at_ (dl_L7 sq) 26 (ins := .ireturn) rfl) rfl) (
  tkc (s_iinc (at_ (dl_L7 sq) 27 (ins := .iinc 3 4) rfl) (Nat.le_of_ble_eq_true rfl) (by first | rfl | decide)) ( tk0))))))))))))))))))))))))))))
theorem lf_L7 (sq : Nat × (Nat → Int32)) : lk (tb_L7 sq) 297 = (x_al 298 1, false) ∧ lk (tb_L7 sq) 298 = (x_al 299 0, false) ∧ lk (tb_L7 sq) 299 = (x_il 300 3, false) ∧ lk (tb_L7 sq) 300 = (x_c 301 (.int 1), false) ∧ lk (tb_L7 sq) 301 = (x_ii 302 (fun x y : Int32 => x + y), false) ∧ lk (tb_L7 sq) 302 = (x_sa 303 sq, false) ∧ lk (tb_L7 sq) 303 = (x_al 304 0, false) ∧ lk (tb_L7 sq) 304 = (x_il 305 3, false) ∧ lk (tb_L7 sq) 305 = (x_c 306 (.int 2), false) ∧ lk (tb_L7 sq) 306 = (x_ii 307 (fun x y : Int32 => x + y), false) ∧ lk (tb_L7 sq) 307 = (x_sa 308 sq, false) ∧ lk (tb_L7 sq) 308 = (x_cV 9 2 P_X9_message 311, false) ∧ lk (tb_L7 sq) 311 = (x_al 312 2, false) ∧ lk (tb_L7 sq) 312 = (x_al 313 0, false) ∧ lk (tb_L7 sq) 313 = (x_il 314 3, false) ∧ lk (tb_L7 sq) 314 = (x_c 315 (.int 1), false) ∧ lk (tb_L7 sq) 315 = (x_ii 316 (fun x y : Int32 => x + y), false) ∧ lk (tb_L7 sq) 316 = (x_sa 317 sq, false) ∧ lk (tb_L7 sq) 317 = (x_al 318 0, false) ∧ lk (tb_L7 sq) 318 = (x_il 319 3, false) ∧ lk (tb_L7 sq) 319 = (x_c 320 (.int 2), false) ∧ lk (tb_L7 sq) 320 = (x_ii 321 (fun x y : Int32 => x + y), false) ∧ lk (tb_L7 sq) 321 = (x_sa 322 sq, false) ∧ lk (tb_L7 sq) 322 = (x_cV 10 2 P_X10_message 325, false) ∧ lk (tb_L7 sq) 325 = (x_ic 920 328 (fun x y : Int32 => x = y), false) ∧ lk (tb_L7 sq) 328 = (x_c 329 (.int 0), false) ∧ lk (tb_L7 sq) 329 = (x_rZ, false) ∧ lk (tb_L7 sq) 920 = (x_inc 923 3 4, true) := ⟨rfl, rfl, rfl, rfl, rfl, rfl, rfl, rfl, rfl, rfl, rfl, rfl, rfl, rfl, rfl, rfl, rfl, rfl, rfl, rfl, rfl, rfl, rfl, rfl, rfl, rfl, rfl, rfl⟩
set_option maxRecDepth 20000 in
theorem lc_7 {sq : Nat × (Nat → Int32)} {R : Option Value → Mem → Prop} {S : Sh} {I : MI} {L : Nat → Nat → Int64} {g : GS} {i : Nat} (h4 : i + 4 ≤ sq.1) (h2 : sq.1 ≤ 2048) (hC : CR S I L g) (hM : MR S I L g) (hO : GOk g) (hnx : ∀ I' L' g', CR S I' L' g' → MR S I' L' g' → GOk g' → J (mt_L_law sq) R 920 [some (.ref 9002), some (.ref 0), some (.ref 108), some (.int (nI i))] [] (S, I', L')) : J (mt_L_law sq) R 297 [some (.ref 9002), some (.ref 0), some (.ref 108), some (.int (nI i))] [] (S, I, L) := by
  have t0 : tO S 0 9 := hC.1.1.1
  have t8 : tO S 108 10 := hM.1.1
  have v1 : vp_in (nI (i + 1)) sq.1 := vp_in_nI (by omega) (by omega)
  have v2 : vp_in (nI (i + 2)) sq.1 := vp_in_nI (by omega) (by omega)
  have v3 : vp_in (nI (i + 3)) sq.1 := vp_in_nI (by omega) (by omega)
  refine J.of (tk_L7 sq) 200 fun ρ hρ => ?_
  simp only [hρ, x_c, x_il, x_ll, x_al, x_is, x_as, x_ls, x_inc, x_ii, x_iq, x_i1, x_l2, x_lq, x_lh, x_i2l, x_l2i, x_lcmp, x_dup, x_dup2, x_pop, x_if, x_ifn, x_ic, x_icn, x_go, x_sw, swc, x_l01, x_mx, x_gI, x_gL, x_gR, x_pI, x_pZ, x_pL, x_pR, x_ia, x_za, x_aa, x_ias, x_zas, x_aas, x_fac, x_fa, x_slen, x_sa, x_ac, x_oi, x_new, x_na, x_cS, x_cV, x_cI, x_rI, x_rZ, x_rL, x_r0, pa, short, oc, lg, lset, lset2, wide, cond_true, cond_false, true_and, and_true, ↓reduceIte, Bool.false_eq_true, true_or, or_true, lf_L7, t0, t8, P_X9_message, P_X10_message, Ans, Anm, nI_1, show (2 : Int32) = nI 2 by decide, show (3 : Int32) = nI 3 by decide, nI_add, eq_true v1, eq_true v2, eq_true v3, ncl (show i + 1 < 2 ^ 31 by omega), ncl (show i + 2 < 2 ^ 31 by omega), ncl (show i + 3 < 2 ^ 31 by omega), lg_cmp_eq, true_implies, not_true_eq_false, false_implies, not_false_eq_true]
  exact ⟨g, hC, hO, fun I1 L1 f1 l1 c1 => ⟨g, hM.f8 f1 l1, hO, fun I2 L2 f2 l2 c2 => ⟨fun _ => hnx I2 L2 _ (c1.i f2 (l2 0 (by omega))) c2 hO, fun h => absurd rfl h⟩⟩⟩
