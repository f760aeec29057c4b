/-! TEXT, at 1 and 2; its reading at 3 and 4 -/
def IsTx (S : Sh) : Prop := tO S 1 7 ∧ sR S 1 0 = 2 ∧ sR S 1 1 = 3 ∧ tA S 2 1 ∧ ln S 2 = 70
theorem IsTx.f {S : Sh} (h : IsTx S) : tO S 1 7 ∧ sR S 1 0 = 2 ∧ sR S 1 1 = 3 ∧ tA S 2 1 ∧ ln S 2 = 70 := h
/-- the text at hand: its length, its letters -/
def TxV (I : MI) (len : Nat) : Prop := len ≤ 70 ∧ I 1 2 = nI len ∧ ∀ j, j < len → tn (I 2 j) < 256
def il_X7_append : List (Nat × Instr × Nat) := [(0, .aload_n 0, 1), (1, .getfield 22, 3), (4, .bipush 70, 2), (6, .if_icmp .ge 23, 3), (9, .aload_n 0, 1), (10, .getfield 9, 3), (13, .aload_n 0, 1), (14, .getfield 22, 3), (17, .iload_n 1, 1), (18, .iastore, 1), (19, .aload_n 0, 1), (20, .dup, 1), (21, .getfield 22, 3), (24, .iconst 1, 1), (25, .iadd, 1), (26, .putfield 22, 3), (29, .aload_n 0, 1), (30, .getfield 22, 3), (33, .ireturn, 1)]
def mt_X7_append : Mt := (cX7_append, RX7, 2, (some .int), ({ frames := 0, cells := 0, slots := 0, locals := 0 } : Room), false, none, none)
set_option maxRecDepth 100000 in
theorem dl_X7_append : ∀ q ∈ il_X7_append, decode (mt_X7_append).1 q.1 = .ok q.2 := by decide +kernel
def tb_X7_append : Tb := [(0, x_al 1 0, false),
  (1, x_gI 7 2 4, false),
  (4, x_c 6 (.int 70), false),
  (6, x_ic 29 9 (fun x y : Int32 => y ≤ x), false),
  (9, x_al 10 0, false),
  (10, x_gR 7 0 13, false),
  (13, x_al 14 0, false),
  (14, x_gI 7 2 17, false),
  (17, x_il 18 1, false),
  (18, x_ias 19, false),
  (19, x_al 20 0, false),
  (20, x_dup 21, false),
  (21, x_gI 7 2 24, false),
  (24, x_c 25 (.int 1), false),
  (25, x_ii 26 (fun x y : Int32 => x + y), false),
  (26, x_pI 7 2 29, false),
  (29, x_al 30 0, false),
  (30, x_gI 7 2 33, false),
  (33, x_rI, false)]
set_option maxRecDepth 100000 in
theorem tk_X7_append : TbOk (mt_X7_append) (tb_X7_append) :=
  tkc (s_aload_n (at_ dl_X7_append 0 (ins := .aload_n 0) rfl)) (
  tkc (s_gI (at_ dl_X7_append 1 (ins := .getfield 22) rfl) (by decide) (by decide) (by decide) (tg 106 (by decide +kernel) (by decide +kernel))) (
  tkc (s_bipush (at_ dl_X7_append 2 (ins := .bipush 70) rfl) (by first | rfl | decide)) (
  tkc (s_ic_ge (at_ dl_X7_append 3 (ins := .if_icmp .ge 23) rfl) (by decide)) (
  tkc (s_aload_n (at_ dl_X7_append 4 (ins := .aload_n 0) rfl)) (
  tkc (s_gR (at_ dl_X7_append 5 (ins := .getfield 9) rfl) (by decide) (by decide) (by decide) (tg 103 (by decide +kernel) (by decide +kernel))) (
  tkc (s_aload_n (at_ dl_X7_append 6 (ins := .aload_n 0) rfl)) (
  tkc (s_gI (at_ dl_X7_append 7 (ins := .getfield 22) rfl) (by decide) (by decide) (by decide) (tg 106 (by decide +kernel) (by decide +kernel))) (
  tkc (s_iload_n (at_ dl_X7_append 8 (ins := .iload_n 1) rfl)) (
  tkc (s_ias (at_ dl_X7_append 9 (ins := .iastore) rfl)) (
  tkc (s_aload_n (at_ dl_X7_append 10 (ins := .aload_n 0) rfl)) (
  tkc (s_dup (at_ dl_X7_append 11 (ins := .dup) rfl)) (
  tkc (s_gI (at_ dl_X7_append 12 (ins := .getfield 22) rfl) (by decide) (by decide) (by decide) (tg 106 (by decide +kernel) (by decide +kernel))) (
  tkc (s_iconst (at_ dl_X7_append 13 (ins := .iconst 1) rfl) (by first | rfl | decide)) (
  tkc (s_iadd (at_ dl_X7_append 14 (ins := .iadd) rfl)) (
  tkc (s_pI (at_ dl_X7_append 15 (ins := .putfield 22) rfl) (by decide) (by decide) (by decide) (by decide) (tg 106 (by decide +kernel) (by decide +kernel))) (
  tkc (s_aload_n (at_ dl_X7_append 16 (ins := .aload_n 0) rfl)) (
  tkc (s_gI (at_ dl_X7_append 17 (ins := .getfield 22) rfl) (by decide) (by decide) (by decide) (tg 106 (by decide +kernel) (by decide +kernel))) (
  tkc (s_rI (at_ dl_X7_append 18 (ins := .ireturn) rfl) rfl) ( tk0)))))))))))))))))))
theorem lf_X7_append : lk (tb_X7_append) 0 = (x_al 1 0, false) ∧ lk (tb_X7_append) 1 = (x_gI 7 2 4, false) ∧ lk (tb_X7_append) 4 = (x_c 6 (.int 70), false) ∧ lk (tb_X7_append) 6 = (x_ic 29 9 (fun x y : Int32 => y ≤ x), false) ∧ lk (tb_X7_append) 9 = (x_al 10 0, false) ∧ lk (tb_X7_append) 10 = (x_gR 7 0 13, false) ∧ lk (tb_X7_append) 13 = (x_al 14 0, false) ∧ lk (tb_X7_append) 14 = (x_gI 7 2 17, false) ∧ lk (tb_X7_append) 17 = (x_il 18 1, false) ∧ lk (tb_X7_append) 18 = (x_ias 19, false) ∧ lk (tb_X7_append) 19 = (x_al 20 0, false) ∧ lk (tb_X7_append) 20 = (x_dup 21, false) ∧ lk (tb_X7_append) 21 = (x_gI 7 2 24, false) ∧ lk (tb_X7_append) 24 = (x_c 25 (.int 1), false) ∧ lk (tb_X7_append) 25 = (x_ii 26 (fun x y : Int32 => x + y), false) ∧ lk (tb_X7_append) 26 = (x_pI 7 2 29, false) ∧ lk (tb_X7_append) 29 = (x_al 30 0, false) ∧ lk (tb_X7_append) 30 = (x_gI 7 2 33, false) ∧ lk (tb_X7_append) 33 = (x_rI, false) := ⟨rfl, rfl, rfl, rfl, rfl, rfl, rfl, rfl, rfl, rfl, rfl, rfl, rfl, rfl, rfl, rfl, rfl, rfl, rfl⟩
def P_X7_append : PTT := fun as M R => match as with
  | [.ref k, .int x] => k = 1 ∧ IsTx M.1 ∧ ∃ len, len < 70 ∧ M.2.1 1 2 = nI len ∧ R (some (.int (nI (len + 1)))) (M.1, mS (mS M.2.1 2 (upd (M.2.1 2) len x)) 1 (upd (M.2.1 1) 2 (nI (len + 1))), M.2.2)
  | _ => False
theorem nI70 : (70 : Int32) = nI 70 := by decide
set_option maxRecDepth 20000 in
theorem ok_X7_append : Ok yX7_append mt_X7_append P_X7_append := by
  refine Ok.of (by decide) rfl rfl rfl rfl fun av ⟨S, I, L⟩ R hP => ?_
  unfold P_X7_append at hP
  split at hP
  case h_2 => exact hP.elim
  rename_i k x
  obtain ⟨k, rfl⟩ : ∃ q : Nat, q = k := ⟨k, rfl⟩
  refine ⟨by simp [ent, wide, mt_X7_append], ?_⟩
  show J mt_X7_append R 0 [some (.ref k), some (.int x)] [] (S, I, L)
  try dsimp only at hP
  obtain ⟨rfl, hk, len, h7, hl, hR⟩ := hP
  refine J.of tk_X7_append 200 fun ρ hρ => ?_
  simp only [hρ, x_c, x_il, x_ll, x_al, x_is, x_as, x_ls, x_inc, x_ii, x_iq, x_i1, x_l2, x_lq, x_lh, x_i2l, x_l2i, x_lcmp, x_dup, x_dup2, x_pop, x_if, x_ifn, x_ic, x_icn, x_go, x_sw, swc, x_l01, x_mx, x_gI, x_gL, x_gR, x_pI, x_pZ, x_pL, x_pR, x_ia, x_za, x_aa, x_ias, x_zas, x_aas, x_fac, x_fa, x_slen, x_sa, x_ac, x_oi, x_new, x_na, x_cS, x_cV, x_cI, x_rI, x_rZ, x_rL, x_r0, pa, short, oc, lg, lset, lset2, wide, cond_true, cond_false, true_and, and_true, ↓reduceIte, Bool.false_eq_true, true_or, or_true, lf_X7_append, hk.f, hl, nI70, nI_leI (show 70 < 2 ^ 31 by omega) (show len < 2 ^ 31 by omega), ncl (show len < 2 ^ 31 by omega), nI_1, mS_app, Nat.reduceEqDiff, upd_s]
  refine ⟨fun h => absurd h (by omega), fun h => ⟨vp_in_nI (by omega) (by omega), hR⟩⟩
/-- what the text's reading comes to: the fault (-9: none), and what was read by then -/
def fltR (txt : Nat → Nat) (len : Nat) : Nat → Nat → TS → Int32 × TS
  | 0, _, s => (if s.1 = 3 then -9 else nI len, s)
  | d + 1, i, s => match stpT s (txt i) with
    | none => (nI i, s)
    | some s' => fltR txt len d (i + 1) s'
def flt (txt : Nat → Nat) (len : Nat) : Int32 × TS := fltR txt len len 0 TS0
theorem fltR_congr {t t' : Nat → Nat} {len : Nat} : ∀ {d i : Nat} {s : TS}, (∀ j, j < i + d → t j = t' j) → fltR t len d i s = fltR t' len d i s
  | 0, i, s, _ => rfl
  | d + 1, i, s, h => by
    simp only [fltR]
    rw [h i (by omega)]
    cases stpT s (t' i) with
    | none => rfl
    | some s' => exact fltR_congr (fun j hj => h j (by omega))
theorem fltR_ok {t : Nat → Nat} {len : Nat} (hl : len ≤ 70) : ∀ {d i : Nat} {s : TS}, i + d = len → TSok s → (fltR t len d i s).1 = -9 → TSok (fltR t len d i s).2 ∧ (fltR t len d i s).2.1 = 3
  | 0, i, s, _, hs, h => by
    simp only [fltR] at h ⊢
    by_cases h3 : s.1 = 3
    · exact ⟨hs, h3⟩
    · rw [if_neg h3] at h
      exact absurd h (by
        intro e
        have := congrArg Int32.toInt e
        rw [nI_toInt (by omega)] at this
        have h9 : (-9 : Int32).toInt = -9 := by decide
        omega)
  | d + 1, i, s, hi, hs, h => by
    simp only [fltR] at h ⊢
    cases e : stpT s (t i) with
    | none =>
      rw [e] at h
      simp only at h
      have := congrArg Int32.toInt h
      rw [nI_toInt (by omega)] at this
      have h9 : (-9 : Int32).toInt = -9 := by decide
      omega
    | some s' =>
      rw [e] at h
      exact fltR_ok hl (by omega) (TSok_s hs e) h
def RdF (I : MI) (s : TS) : Prop := I 3 2 = nI s.2.1 ∧ I 3 3 = nI s.2.2.1 ∧ I 3 4 = nI s.2.2.2.1 ∧ ∀ c, c < s.2.2.2.1 → I 4 c = nI (s.2.2.2.2.2 c)
theorem RdR.F {I : MI} {i : Nat} {s : TS} (h : RdR I i s) (h3 : s.1 = 3) : RdF I s := by
  obtain ⟨r0, r1, r2, r3, r4, r5, r6, r7, r8⟩ := h
  refine ⟨r3 (by omega), r4 (by omega), ?_, fun c hc => ?_⟩
  · simpa [h3] using r6
  · exact r8 c (by simpa [h3] using hc)
def il_X7_firstFault : List (Nat × Instr × Nat) := [(0, .aload_n 0, 1), (1, .getfield 18, 3), (4, .invokevirtual 26, 3), (7, .iconst 0, 1), (8, .istore_n 1, 1), (9, .iload_n 1, 1), (10, .aload_n 0, 1), (11, .getfield 22, 3), (14, .if_icmp .ge 27, 3), (17, .aload_n 0, 1), (18, .getfield 18, 3), (21, .aload_n 0, 1), (22, .getfield 9, 3), (25, .iload_n 1, 1), (26, .iaload, 1), (27, .invokevirtual 29, 3), (30, .ifCond .ne 5, 3), (33, .iload_n 1, 1), (34, .ireturn, 1), (35, .iinc 1 1, 3), (38, .goto (-29), 3), (41, .aload_n 0, 1), (42, .getfield 18, 3), (45, .invokevirtual 33, 3), (48, .ifCond .eq 8, 3), (51, .bipush (-9), 2), (53, .goto 7, 3), (56, .aload_n 0, 1), (57, .getfield 22, 3), (60, .ireturn, 1)]
def mt_X7_firstFault : Mt := (cX7_firstFault, RX7, 2, (some .int), ({ frames := 2, cells := 0, slots := 0, locals := 44 } : Room), false, none, none)
set_option maxRecDepth 100000 in
theorem dl_X7_firstFault : ∀ q ∈ il_X7_firstFault, decode (mt_X7_firstFault).1 q.1 = .ok q.2 := by decide +kernel
def tb_X7_firstFault : Tb := [(0, x_al 1 0, false),
  (1, x_gR 7 1 4, false),
  (4, x_cV 3 0 P_X3_startAnew 7, false),
  (7, x_c 8 (.int 0), false),
  (8, x_is 9 1, false),
  (9, x_il 10 1, true),
  (10, x_al 11 0, false),
  (11, x_gI 7 2 14, false),
  (14, x_ic 41 17 (fun x y : Int32 => y ≤ x), false),
  (17, x_al 18 0, false),
  (18, x_gR 7 1 21, false),
  (21, x_al 22 0, false),
  (22, x_gR 7 0 25, false),
  (25, x_il 26 1, false),
  (26, x_ia 27, false),
  (27, x_cV 3 1 P_X3_takes 30, false),
  (30, x_ifn 35 33 (fun x : Int32 => x = 0), false),
  (33, x_il 34 1, false),
  (34, x_rI, false),
  (35, x_inc 38 1 1, false),
  (38, x_go 9, false),
  (41, x_al 42 0, false),
  (42, x_gR 7 1 45, false),
  (45, x_cV 3 0 P_X3_mayEnd 48, false),
  (48, x_if 56 51 (fun x : Int32 => x = 0), false),
  (51, x_c 53 (.int (-9)), false),
  (53, x_go 60, false),
  (56, x_al 57 0, false),
  (57, x_gI 7 2 60, false),
  (60, x_rI, false)]
set_option maxRecDepth 100000 in
theorem tk_X7_firstFault : TbOk (mt_X7_firstFault) (tb_X7_firstFault) :=
  tkc (s_aload_n (at_ dl_X7_firstFault 0 (ins := .aload_n 0) rfl)) (
  tkc (s_gR (at_ dl_X7_firstFault 1 (ins := .getfield 18) rfl) (by decide) (by decide) (by decide) (tg 104 (by decide +kernel) (by decide +kernel))) (
  tkc (s_cV ok_X3_startAnew (at_ dl_X7_firstFault 2 (ins := .invokevirtual 26) rfl) (by decide) rfl (tg 309 (by decide +kernel) (by decide +kernel)) (tg 310 (by decide +kernel) (by decide +kernel)) (tg 311 (by decide +kernel) (by decide +kernel)) (tg 44 (by decide +kernel) (by decide +kernel)) (tg 312 (by decide +kernel) (by decide +kernel)) (⟨by decide, by decide, by decide +kernel⟩) (⟨by decide, by decide⟩) rfl rfl) (
  tkc (s_iconst (at_ dl_X7_firstFault 3 (ins := .iconst 0) rfl) (by first | rfl | decide)) (
  tkc (s_istore_n (at_ dl_X7_firstFault 4 (ins := .istore_n 1) rfl) (by decide)) (
  tkc (s_iload_n (at_ dl_X7_firstFault 5 (ins := .iload_n 1) rfl)) (
  tkc (s_aload_n (at_ dl_X7_firstFault 6 (ins := .aload_n 0) rfl)) (
  tkc (s_gI (at_ dl_X7_firstFault 7 (ins := .getfield 22) rfl) (by decide) (by decide) (by decide) (tg 106 (by decide +kernel) (by decide +kernel))) (
  tkc (s_ic_ge (at_ dl_X7_firstFault 8 (ins := .if_icmp .ge 27) rfl) (by decide)) (
  tkc (s_aload_n (at_ dl_X7_firstFault 9 (ins := .aload_n 0) rfl)) (
  tkc (s_gR (at_ dl_X7_firstFault 10 (ins := .getfield 18) rfl) (by decide) (by decide) (by decide) (tg 104 (by decide +kernel) (by decide +kernel))) (
  tkc (s_aload_n (at_ dl_X7_firstFault 11 (ins := .aload_n 0) rfl)) (
  tkc (s_gR (at_ dl_X7_firstFault 12 (ins := .getfield 9) rfl) (by decide) (by decide) (by decide) (tg 103 (by decide +kernel) (by decide +kernel))) (
  tkc (s_iload_n (at_ dl_X7_firstFault 13 (ins := .iload_n 1) rfl)) (
  tkc (s_ia (at_ dl_X7_firstFault 14 (ins := .iaload) rfl)) (
  tkc (s_cV ok_X3_takes (at_ dl_X7_firstFault 15 (ins := .invokevirtual 29) rfl) (by decide) rfl (tg 313 (by decide +kernel) (by decide +kernel)) (tg 314 (by decide +kernel) (by decide +kernel)) (tg 315 (by decide +kernel) (by decide +kernel)) (tg 44 (by decide +kernel) (by decide +kernel)) (tg 316 (by decide +kernel) (by decide +kernel)) (⟨by decide, by decide, by decide +kernel⟩) (⟨by decide, by decide⟩) rfl rfl) (
  tkc (s_if_ne (at_ dl_X7_firstFault 16 (ins := .ifCond .ne 5) rfl) (by decide)) (
  tkc (s_iload_n (at_ dl_X7_firstFault 17 (ins := .iload_n 1) rfl)) (
  tkc (s_rI (at_ dl_X7_firstFault 18 (ins := .ireturn) rfl) rfl) (
  tkc (s_iinc (at_ dl_X7_firstFault 19 (ins := .iinc 1 1) rfl) (by decide) (by first | rfl | decide)) (
  tkc (s_goto (at_ dl_X7_firstFault 20 (ins := .goto (-29)) rfl) (by decide)) (
  tkc (s_aload_n (at_ dl_X7_firstFault 21 (ins := .aload_n 0) rfl)) (
  tkc (s_gR (at_ dl_X7_firstFault 22 (ins := .getfield 18) rfl) (by decide) (by decide) (by decide) (tg 104 (by decide +kernel) (by decide +kernel))) (
  tkc (s_cV ok_X3_mayEnd (at_ dl_X7_firstFault 23 (ins := .invokevirtual 33) rfl) (by decide) rfl (tg 333 (by decide +kernel) (by decide +kernel)) (tg 334 (by decide +kernel) (by decide +kernel)) (tg 335 (by decide +kernel) (by decide +kernel)) (tg 44 (by decide +kernel) (by decide +kernel)) (tg 336 (by decide +kernel) (by decide +kernel)) (⟨by decide, by decide, by decide +kernel⟩) (⟨by decide, by decide⟩) rfl rfl) (
  tkc (s_if_eq (at_ dl_X7_firstFault 24 (ins := .ifCond .eq 8) rfl) (by decide)) (
  tkc (s_bipush (at_ dl_X7_firstFault 25 (ins := .bipush (-9)) rfl) (by first | rfl | decide)) (
  tkc (s_goto (at_ dl_X7_firstFault 26 (ins := .goto 7) rfl) (by decide)) (
  tkc (s_aload_n (at_ dl_X7_firstFault 27 (ins := .aload_n 0) rfl)) (
  tkc (s_gI (at_ dl_X7_firstFault 28 (ins := .getfield 22) rfl) (by decide) (by decide) (by decide) (tg 106 (by decide +kernel) (by decide +kernel))) (
  tkc (s_rI (at_ dl_X7_firstFault 29 (ins := .ireturn) rfl) rfl) ( tk0))))))))))))))))))))))))))))))
theorem lf_X7_firstFault : lk (tb_X7_firstFault) 0 = (x_al 1 0, false) ∧ lk (tb_X7_firstFault) 1 = (x_gR 7 1 4, false) ∧ lk (tb_X7_firstFault) 4 = (x_cV 3 0 P_X3_startAnew 7, false) ∧ lk (tb_X7_firstFault) 7 = (x_c 8 (.int 0), false) ∧ lk (tb_X7_firstFault) 8 = (x_is 9 1, false) ∧ lk (tb_X7_firstFault) 9 = (x_il 10 1, true) ∧ lk (tb_X7_firstFault) 10 = (x_al 11 0, false) ∧ lk (tb_X7_firstFault) 11 = (x_gI 7 2 14, false) ∧ lk (tb_X7_firstFault) 14 = (x_ic 41 17 (fun x y : Int32 => y ≤ x), false) ∧ lk (tb_X7_firstFault) 17 = (x_al 18 0, false) ∧ lk (tb_X7_firstFault) 18 = (x_gR 7 1 21, false) ∧ lk (tb_X7_firstFault) 21 = (x_al 22 0, false) ∧ lk (tb_X7_firstFault) 22 = (x_gR 7 0 25, false) ∧ lk (tb_X7_firstFault) 25 = (x_il 26 1, false) ∧ lk (tb_X7_firstFault) 26 = (x_ia 27, false) ∧ lk (tb_X7_firstFault) 27 = (x_cV 3 1 P_X3_takes 30, false) ∧ lk (tb_X7_firstFault) 30 = (x_ifn 35 33 (fun x : Int32 => x = 0), false) ∧ lk (tb_X7_firstFault) 33 = (x_il 34 1, false) ∧ lk (tb_X7_firstFault) 34 = (x_rI, false) ∧ lk (tb_X7_firstFault) 35 = (x_inc 38 1 1, false) ∧ lk (tb_X7_firstFault) 38 = (x_go 9, false) ∧ lk (tb_X7_firstFault) 41 = (x_al 42 0, false) ∧ lk (tb_X7_firstFault) 42 = (x_gR 7 1 45, false) ∧ lk (tb_X7_firstFault) 45 = (x_cV 3 0 P_X3_mayEnd 48, false) ∧ lk (tb_X7_firstFault) 48 = (x_if 56 51 (fun x : Int32 => x = 0), false) ∧ lk (tb_X7_firstFault) 51 = (x_c 53 (.int (-9)), false) ∧ lk (tb_X7_firstFault) 53 = (x_go 60, false) ∧ lk (tb_X7_firstFault) 56 = (x_al 57 0, false) ∧ lk (tb_X7_firstFault) 57 = (x_gI 7 2 60, false) ∧ lk (tb_X7_firstFault) 60 = (x_rI, false) := ⟨rfl, rfl, rfl, rfl, rfl, rfl, rfl, rfl, rfl, rfl, rfl, rfl, rfl, rfl, rfl, rfl, rfl, rfl, rfl, rfl, rfl, rfl, rfl, rfl, rfl, rfl, rfl, rfl, rfl, rfl⟩
def P_X7_firstFault : PTT := fun as M R => match as with
  | [.ref k] => k = 1 ∧ IsTx M.1 ∧ IsRd M.1 3 ∧ (∃ len, TxV M.2.1 len) ∧ ∀ I', (∀ q, q ≠ 3 → q ≠ 4 → I' q = M.2.1 q) → ((flt (fun j => tn (M.2.1 2 j)) (tn (M.2.1 1 2))).1 = -9 → RdF I' (flt (fun j => tn (M.2.1 2 j)) (tn (M.2.1 1 2))).2) → R (some (.int (flt (fun j => tn (M.2.1 2 j)) (tn (M.2.1 1 2))).1)) (M.1, I', M.2.2)
  | _ => False
theorem RdR_0 {I : MI} : RdR (mS I 3 (upd (upd (upd (upd (upd (upd (I 3) 1 0) 2 0) 3 0) 4 0) 5 0) 6 0)) 0 TS0 := by
  refine ⟨rfl, fun _ => rfl, by simp [TS0], by simp [TS0], by simp [TS0], by simp [TS0], rfl, rfl, by simp [TS0]⟩
set_option maxRecDepth 20000 in
theorem ok_X7_firstFault : Ok yX7_firstFault mt_X7_firstFault P_X7_firstFault := by
  refine Ok.of (by decide) rfl rfl rfl rfl fun av ⟨S, I, L⟩ R hP => ?_
  unfold P_X7_firstFault at hP
  split at hP
  case h_2 => exact hP.elim
  rename_i k
  obtain ⟨k, rfl⟩ : ∃ q : Nat, q = k := ⟨k, rfl⟩
  refine ⟨by simp [ent, wide, mt_X7_firstFault], ?_⟩
  show J mt_X7_firstFault R 0 [some (.ref k), none] [] (S, I, L)
  try dsimp only at hP
  obtain ⟨rfl, hk, hr, ⟨len, h7, hl, hx⟩, hR⟩ := hP
  rw [hl, tn_nI (by omega)] at hR
  refine J.of tk_X7_firstFault 200 fun ρ hρ => ?_
  simp only [hρ, x_c, x_il, x_ll, x_al, x_is, x_as, x_ls, x_inc, x_ii, x_iq, x_i1, x_l2, x_lq, x_lh, x_i2l, x_l2i, x_lcmp, x_dup, x_dup2, x_pop, x_if, x_ifn, x_ic, x_icn, x_go, x_sw, swc, x_l01, x_mx, x_gI, x_gL, x_gR, x_pI, x_pZ, x_pL, x_pR, x_ia, x_za, x_aa, x_ias, x_zas, x_aas, x_fac, x_fa, x_slen, x_sa, x_ac, x_oi, x_new, x_na, x_cS, x_cV, x_cI, x_rI, x_rZ, x_rL, x_r0, pa, short, oc, lg, lset, lset2, wide, cond_true, cond_false, true_and, and_true, ↓reduceIte, Bool.false_eq_true, true_or, or_true, lf_X7_firstFault, hr, hr.f, hk.f, P_X3_startAnew]
  have key : ∀ d i (I' : MI) (s : TS), i + d = len → (∀ q, q ≠ 3 → q ≠ 4 → I' q = I q) → RdR I' i s → TSok s → (fltR (fun j => tn (I 2 j)) len d i s = flt (fun j => tn (I 2 j)) len) → J mt_X7_firstFault R 9 [some (.ref 1), some (.int (nI i))] [] (S, I', L) := by
    intro d
    induction d with
    | zero =>
      intro i I' s hi hf hs hok he
      have e1 : I' 1 2 = nI len := by rw [hf 1 (by omega) (by omega)]; exact hl
      refine J.of tk_X7_firstFault 200 fun ρ hρ => ?_
      simp only [hρ, x_c, x_il, x_ll, x_al, x_is, x_as, x_ls, x_inc, x_ii, x_iq, x_i1, x_l2, x_lq, x_lh, x_i2l, x_l2i, x_lcmp, x_dup, x_dup2, x_pop, x_if, x_ifn, x_ic, x_icn, x_go, x_sw, swc, x_l01, x_mx, x_gI, x_gL, x_gR, x_pI, x_pZ, x_pL, x_pR, x_ia, x_za, x_aa, x_ias, x_zas, x_aas, x_fac, x_fa, x_slen, x_sa, x_ac, x_oi, x_new, x_na, x_cS, x_cV, x_cI, x_rI, x_rZ, x_rL, x_r0, pa, short, oc, lg, lset, lset2, wide, cond_true, cond_false, true_and, and_true, ↓reduceIte, Bool.false_eq_true, true_or, or_true, lf_X7_firstFault, hr, hr.f, hk.f, e1, nI_leI (show len < 2 ^ 31 by omega) (show i < 2 ^ 31 by omega), P_X3_mayEnd, bI_0]
      refine ⟨fun _ => ⟨fun h => ?_, fun h => ?_⟩, fun h => absurd h (by omega)⟩
      · have h3 : ¬ s.1 = 3 := by
          intro q
          obtain ⟨r0, r1, r2, r3, r4, r5, r6, r7, r8⟩ := hs
          refine h ⟨?_, by rw [r7]; simp [q]⟩
          rw [r0, show (2 : Int32) = nI 2 by decide, nI_leI (by omega) (by omega)]
          have := r2 (by omega)
          omega
        have h2 := hR I' hf (by
          rw [← he]; simp only [fltR]; rw [if_neg h3]
          intro e
          have := congrArg Int32.toInt e
          rw [nI_toInt (by omega)] at this
          have h9 : (-9 : Int32).toInt = -9 := by decide
          omega)
        rw [← he] at h2
        simp only [fltR] at h2
        rwa [if_neg h3] at h2
      · have h3 : s.1 = 3 := by
          obtain ⟨r0, r1, r2, r3, r4, r5, r6, r7, r8⟩ := hs
          have h := Classical.not_not.mp h
          rw [r0, show (2 : Int32) = nI 2 by decide, nI_leI (by omega) (by omega), r7] at h
          have h4 : ¬ s.1 = 4 := by
            intro q
            rw [if_pos q] at h
            exact absurd h.2 (by decide)
          have := hok.1
          have : ¬ s.1 < 3 := fun q => by have := r1 q; omega
          omega
        have h2 := hR I' hf (by
          rw [← he]; simp only [fltR]; intro _; exact hs.F h3)
        rw [← he] at h2
        simp only [fltR] at h2
        rwa [if_pos h3] at h2
    | succ d ih =>
      intro i I' s hi hf hs hok he
      have e1 : I' 1 2 = nI len := by rw [hf 1 (by omega) (by omega)]; exact hl
      have e2 : I' 2 i = nI (tn (I 2 i)) := by rw [hf 2 (by omega) (by omega), nI_tn]
      refine J.of tk_X7_firstFault 200 fun ρ hρ => ?_
      simp only [hρ, x_c, x_il, x_ll, x_al, x_is, x_as, x_ls, x_inc, x_ii, x_iq, x_i1, x_l2, x_lq, x_lh, x_i2l, x_l2i, x_lcmp, x_dup, x_dup2, x_pop, x_if, x_ifn, x_ic, x_icn, x_go, x_sw, swc, x_l01, x_mx, x_gI, x_gL, x_gR, x_pI, x_pZ, x_pL, x_pR, x_ia, x_za, x_aa, x_ias, x_zas, x_aas, x_fac, x_fa, x_slen, x_sa, x_ac, x_oi, x_new, x_na, x_cS, x_cV, x_cI, x_rI, x_rZ, x_rL, x_r0, pa, short, oc, lg, lset, lset2, wide, cond_true, cond_false, true_and, and_true, ↓reduceIte, Bool.false_eq_true, true_or, or_true, lf_X7_firstFault, hr, hr.f, hk.f, e1, nI_leI (show len < 2 ^ 31 by omega) (show i < 2 ^ 31 by omega), P_X3_takes, ncl (show i < 2 ^ 31 by omega), nI_1]
      refine ⟨fun h => absurd h (by omega), fun _ => ⟨vp_in_nI (by omega) (by omega), i, s, tn (I 2 i), hs, hok, by omega, e2, hx i (by omega), fun hn I2 hf2 => ?_, fun s' hn I2 hf2 hs2 => ?_⟩⟩
      · have hf3 : ∀ q, q ≠ 3 → q ≠ 4 → I2 q = I q := fun q a b => (hf2 q a b).trans (hf q a b)
        have h2 := hR I2 hf3 (by
          rw [← he]; simp only [fltR]; rw [hn]
          intro e
          have := congrArg Int32.toInt e
          simp only at this
          rw [nI_toInt (by omega)] at this
          have h9 : (-9 : Int32).toInt = -9 := by decide
          omega)
        rw [← he] at h2
        simp only [fltR] at h2
        rw [hn] at h2
        exact ⟨fun h => absurd trivial h, fun _ => h2⟩
      · have hf3 : ∀ q, q ≠ 3 → q ≠ 4 → I2 q = I q := fun q a b => (hf2 q a b).trans (hf q a b)
        have h2 := ih (i + 1) I2 s' (by omega) hf3 hs2 (TSok_s hok hn) (by rw [← he]; simp only [fltR]; rw [hn])
        exact ⟨fun _ => h2, fun h => absurd h (by decide)⟩
  exact key len 0 _ TS0 (by omega) (fun q h3 h4 => mS_n h3) RdR_0 TSok_0 rfl
