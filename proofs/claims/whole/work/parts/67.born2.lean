/-! CONSTRUCTORS: Text, Acts -/
/-- shapes: places below n are as they were, those from z on with their references -/
def Gr (z n : Nat) (S S' : Sh) : Prop := n ≤ S'.1 ∧ ∀ q, q < n → S'.2.2.1 q = S.2.2.1 q ∧ (z ≤ q → S'.2.2.2 q = S.2.2.2 q)
theorem Kp.g {n : Nat} {M M' : Mem} (h : Kp n M M') (hn : n ≤ M'.1.1) : Gr 0 n M.1 M'.1 := ⟨hn, fun q hq => ⟨(h q hq).1, fun _ => (h q hq).2.1⟩⟩
theorem Gr.O {z n q ci : Nat} {S S' : Sh} (h : Gr z n S S') (hq : q < n) (ht : tO S q ci) : tO S' q ci := ⟨Nat.lt_of_lt_of_le hq h.1, (h.2 q hq).1.trans ht.2⟩
theorem Gr.A {z n q t : Nat} {S S' : Sh} (h : Gr z n S S') (hq : q < n) (ht : tA S q t) : tA S' q t := ⟨Nat.lt_of_lt_of_le hq h.1, by rw [(h.2 q hq).1]; exact ht.2⟩
theorem Gr.l {z n q v : Nat} {S S' : Sh} (h : Gr z n S S') (hq : q < n) (ht : ln S q = v) : ln S' q = v := by unfold ln at ht ⊢; rw [(h.2 q hq).1]; exact ht
theorem Gr.r {z n q j v : Nat} {S S' : Sh} (h : Gr z n S S') (hz : z ≤ q) (hq : q < n) (ht : sR S q j = v) : sR S' q j = v := by
  show S'.2.2.2 q j = v
  rw [(h.2 q hq).2 hz]; exact ht
theorem Gr.w {z z' n n' : Nat} {S S' : Sh} (h : Gr z n S S') (hz : z ≤ z') (hn : n' ≤ n) : Gr z' n' S S' := ⟨Nat.le_trans hn h.1, fun q hq => ⟨(h.2 q (by omega)).1, fun hq' => (h.2 q (by omega)).2 (by omega)⟩⟩
theorem IsSt.gr {z n k : Nat} {S S' : Sh} (h : Gr z n S S') (hz : z ≤ k) (hn : k + 5 ≤ n) (hs : IsSt S k) : IsSt S' k := by
  obtain ⟨a1, a2, a3, a4, a5, a6, a7, a8, a9, b1, b2, b3, b4⟩ := hs
  exact ⟨h.O (by omega) a1, h.r hz (by omega) a2, h.r hz (by omega) a3, h.r hz (by omega) a4, h.r hz (by omega) a5, h.A (by omega) a6, h.l (by omega) a7, h.A (by omega) a8, h.l (by omega) a9, h.A (by omega) b1, h.l (by omega) b2, h.A (by omega) b3, h.l (by omega) b4⟩
theorem IsRd.gr {z n k : Nat} {S S' : Sh} (h : Gr z n S S') (hz : z ≤ k) (hn : k + 2 ≤ n) (hs : IsRd S k) : IsRd S' k := by
  obtain ⟨a1, a2, a3, a4⟩ := hs
  exact ⟨h.O (by omega) a1, h.r hz (by omega) a2, h.A (by omega) a3, h.l (by omega) a4⟩
theorem IsTx.gr {z n : Nat} {S S' : Sh} (h : Gr z n S S') (hz : z ≤ 1) (hn : 3 ≤ n) (hs : IsTx S) : IsTx S' := by
  obtain ⟨a1, a2, a3, a4, a5⟩ := hs
  exact ⟨h.O (by omega) a1, h.r hz (by omega) a2, h.r hz (by omega) a3, h.A (by omega) a4, h.l (by omega) a5⟩
theorem IsDc.gr {z n : Nat} {S S' : Sh} (h : Gr z n S S') (hz : z ≤ 15) (hn : 18 ≤ n) (hs : IsDc S) : IsDc S' := by
  obtain ⟨a1, a2, a3, a4, a5, a6, a7⟩ := hs
  exact ⟨h.O (by omega) a1, h.r hz (by omega) a2, h.r hz (by omega) a3, h.A (by omega) a4, h.l (by omega) a5, h.A (by omega) a6, h.l (by omega) a7⟩
theorem IsWa.gr {z n : Nat} {S S' : Sh} (h : Gr z n S S') (hz : z ≤ 18) (hn : 19 ≤ n) (hs : IsWa S) : IsWa S' := ⟨h.O (by omega) hs.1, h.r hz (by omega) hs.2⟩
theorem IsSu.gr {z n : Nat} {S S' : Sh} (h : Gr z n S S') (hz : z ≤ 19) (hn : 21 ≤ n) (hs : IsSu S) : IsSu S' := by
  obtain ⟨a1, a2, a3, a4, a5⟩ := hs
  exact ⟨h.O (by omega) a1, h.r hz (by omega) a2, h.r hz (by omega) a3, h.A (by omega) a4, h.l (by omega) a5⟩
theorem IsAc.gr {z n : Nat} {S S' : Sh} (h : Gr z n S S') (hz : z ≤ 21) (hn : 93 ≤ n) (hs : IsAc S) : IsAc S' := by
  obtain ⟨a1, a2, a3, a4, a5⟩ := hs
  exact ⟨h.O (by omega) a1, h.r hz (by omega) a2, h.A (by omega) a3, h.l (by omega) a4, fun i hi => ⟨h.r (by omega) (by omega) (a5 i hi).1, (a5 i hi).2.gr h (by omega) (by omega)⟩⟩
theorem IsSe.gr {z n : Nat} {S S' : Sh} (h : Gr z n S S') (hz : z ≤ 93) (hn : 96 ≤ n) (hs : IsSe S) : IsSe S' := by
  obtain ⟨a1, a2, a3, a4, a5, a6, a7⟩ := hs
  exact ⟨h.O (by omega) a1, h.r hz (by omega) a2, h.r hz (by omega) a3, h.A (by omega) a4, h.l (by omega) a5, h.A (by omega) a6, h.l (by omega) a7⟩
theorem IsSl.gr {z n : Nat} {S S' : Sh} (h : Gr z n S S') (hz : z ≤ 96) (hn : 108 ≤ n) (hs : IsSl S) : IsSl S' := by
  obtain ⟨a1, a2, a3, a4, a5, a6⟩ := hs
  exact ⟨h.A (by omega) a1, h.l (by omega) a2, h.r hz (by omega) a3, h.r hz (by omega) a4, h.A (by omega) a5, h.l (by omega) a6⟩
/-- behind new -/
abbrev nwM (M : Mem) (ci : Nat) : Mem := ((M.1.1 + 1, M.1.2.1 + nfC ci, mS M.1.2.2.1 M.1.1 (0, ci), mS M.1.2.2.2 M.1.1 (fun _ => 9999)), mS M.2.1 M.1.1 (fun _ => 0), mS M.2.2 M.1.1 (fun _ => 0))
theorem Kp.nw (M : Mem) (ci : Nat) : Kp M.1.1 M (nwM M ci) := fun q hq => ⟨mS_n (by omega), mS_n (by omega), mS_n (by omega), mS_n (by omega)⟩
theorem tO_nw (M : Mem) (ci : Nat) : tO (nwM M ci).1 M.1.1 ci := ⟨Nat.lt_succ_self _, mS_s⟩
/-- behind a put of a reference into k -/
abbrev puM (M : Mem) (k f x : Nat) : Mem := ((M.1.1, M.1.2.1, M.1.2.2.1, mS M.1.2.2.2 k (va_up (M.1.2.2.2 k) f x)), M.2.1, M.2.2)
theorem Gr.pu (M : Mem) (k f x z : Nat) (hz : k < z) : Gr z M.1.1 M.1 (puM M k f x).1 := ⟨Nat.le_refl _, fun q _ => ⟨rfl, fun hq => mS_n (by omega)⟩⟩
theorem sR_pu (M : Mem) (k f x : Nat) : sR (puM M k f x).1 k f = x := by
  show mS M.1.2.2.2 k (va_up (M.1.2.2.2 k) f x) k f = x
  rw [mS_s]; unfold va_up; rw [if_pos rfl]
theorem sR_pun (M : Mem) {k f x j : Nat} (h : j ≠ f) : sR (puM M k f x).1 k j = sR M.1 k j := by
  show mS M.1.2.2.2 k (va_up (M.1.2.2.2 k) f x) k j = M.1.2.2.2 k j
  rw [mS_s]; unfold va_up; rw [if_neg h]
def il_X7_init : List (Nat × Instr × Nat) := [(0, .aload_n 0, 1), (1, .invokespecial 3, 3), (4, .aload_n 0, 1), (5, .bipush 70, 2), (7, .newarray .int, 2), (9, .putfield 9, 3), (12, .aload_n 0, 1), (13, .new 15, 3), (16, .dup, 1), (17, .invokespecial 17, 3), (20, .putfield 18, 3), (23, .aload_n 0, 1), (24, .iconst 0, 1), (25, .putfield 22, 3), (28, .return_, 1)]
def mt_X7_init (n0 s0 : Nat) : Mt := (cX7_init, RX7, 1, none, ({ frames := 2, cells := 3, slots := 83, locals := 32 } : Room), true, none, some (n0, s0))
set_option maxRecDepth 100000 in
theorem dl_X7_init (n0 s0 : Nat) : ∀ q ∈ il_X7_init, decode (mt_X7_init n0 s0).1 q.1 = .ok q.2 := (by decide +kernel : ∀ q ∈ il_X7_init, decode cX7_init q.1 = .ok q.2)
def tb_X7_init (n0 s0 : Nat) : Tb := [(0, x_al 1 0, false),
  (1, x_o2 4, false),
  (4, x_al 5 0, true),
  (5, x_c 7 (.int 70), false),
  (7, x_na 1 9 (n0 + 3, s0 + 83), false),
  (9, x_pR 7 0 12, false),
  (12, x_al 13 0, true),
  (13, x_new 3 16 (n0 + 3, s0 + 83), false),
  (16, x_dup 17, false),
  (17, x_cI 0 P_X3_init 20 1 6 (n0 + 3, s0 + 83), false),
  (20, x_pR 7 1 23, false),
  (23, x_al 24 0, true),
  (24, x_c 25 (.int 0), false),
  (25, x_pI 7 2 28, false),
  (28, x_r0, false)]
set_option maxRecDepth 100000 in
theorem tk_X7_init (n0 s0 : Nat) : TbOk (mt_X7_init n0 s0) (tb_X7_init n0 s0) :=
  tkc (s_aload_n (at_ (dl_X7_init n0 s0) 0 (ins := .aload_n 0) rfl)) (
  tkc (s_o2 (at_ (dl_X7_init n0 s0) 1 (ins := .invokespecial 3) rfl) (show Cond.methodLink RX7 3 Lib.objectInit ∈ tblG from (tg 69 (by decide +kernel) (by decide +kernel))) (Nat.le_of_ble_eq_true rfl) (Nat.le_of_ble_eq_true rfl)) (
  tkc (s_aload_n (at_ (dl_X7_init n0 s0) 2 (ins := .aload_n 0) rfl)) (
  tkc (s_bipush (at_ (dl_X7_init n0 s0) 3 (ins := .bipush 70) rfl) (by first | rfl | decide)) (
  tkc (s_na1 (q := (n0, s0)) (at_ (dl_X7_init n0 s0) 4 (ins := .newarray .int) rfl) rfl rfl (tg 102 (by decide +kernel) (by decide +kernel))) (
  tkc (s_pR (at_ (dl_X7_init n0 s0) 5 (ins := .putfield 9) rfl) (by decide) (by decide) (by decide) (by decide) rfl rfl (show Cond.fieldLink RX7 9 (TCl 7 0).1 (TCl 7 0).2.1 (TCl 7 0).2.2.1 ∈ tblG from (tg 103 (by decide +kernel) (by decide +kernel)))) (
  tkc (s_aload_n (at_ (dl_X7_init n0 s0) 6 (ins := .aload_n 0) rfl)) (
  tkc (s_new (q := (n0, s0)) (at_ (dl_X7_init n0 s0) 7 (ins := .new 15) rfl) rfl rfl (show Cond.classLink RX7 15 (RCl 3) ∈ tblG from (tg 70 (by decide +kernel) (by decide +kernel))) (tg 71 (by decide +kernel) (by decide +kernel)) (tg 44 (by decide +kernel) (by decide +kernel))) (
  tkc (s_dup (at_ (dl_X7_init n0 s0) 8 (ins := .dup) rfl)) (
  tkc (s_cI (q := (n0, s0)) ok_X3_init (at_ (dl_X7_init n0 s0) 9 (ins := .invokespecial 17) rfl) rfl rfl rfl (show Cond.methodLink RX7 17 yX3_init ∈ tblG from (tg 72 (by decide +kernel) (by decide +kernel))) (tg 73 (by decide +kernel) (by decide +kernel)) (tg 44 (by decide +kernel) (by decide +kernel)) (tg 74 (by decide +kernel) (by decide +kernel)) rfl (⟨by decide, by decide, by decide +kernel⟩) (⟨(Nat.le_of_ble_eq_true rfl), (Nat.le_of_ble_eq_true rfl)⟩) rfl rfl) (
  tkc (s_pR (at_ (dl_X7_init n0 s0) 10 (ins := .putfield 18) rfl) (by decide) (by decide) (by decide) (by decide) rfl rfl (show Cond.fieldLink RX7 18 (TCl 7 1).1 (TCl 7 1).2.1 (TCl 7 1).2.2.1 ∈ tblG from (tg 104 (by decide +kernel) (by decide +kernel)))) (
  tkc (s_aload_n (at_ (dl_X7_init n0 s0) 11 (ins := .aload_n 0) rfl)) (
  tkc (s_iconst (at_ (dl_X7_init n0 s0) 12 (ins := .iconst 0) rfl) (by first | rfl | decide)) (
  tkc (s_pI (at_ (dl_X7_init n0 s0) 13 (ins := .putfield 22) rfl) (by decide) (by decide) (by decide) (by decide) (show Cond.fieldLink RX7 22 (TCl 7 2).1 (TCl 7 2).2.1 (TCl 7 2).2.2.1 ∈ tblG from (tg 106 (by decide +kernel) (by decide +kernel)))) (
  tkc (s_r0 (at_ (dl_X7_init n0 s0) 14 (ins := .return_) rfl) rfl) ( tk0)))))))))))))))
theorem lf_X7_init (n0 s0 : Nat) : lk (tb_X7_init n0 s0) 0 = (x_al 1 0, false) ∧ lk (tb_X7_init n0 s0) 1 = (x_o2 4, false) ∧ lk (tb_X7_init n0 s0) 4 = (x_al 5 0, true) ∧ lk (tb_X7_init n0 s0) 5 = (x_c 7 (.int 70), false) ∧ lk (tb_X7_init n0 s0) 7 = (x_na 1 9 (n0 + 3, s0 + 83), false) ∧ lk (tb_X7_init n0 s0) 9 = (x_pR 7 0 12, false) ∧ lk (tb_X7_init n0 s0) 12 = (x_al 13 0, true) ∧ lk (tb_X7_init n0 s0) 13 = (x_new 3 16 (n0 + 3, s0 + 83), false) ∧ lk (tb_X7_init n0 s0) 16 = (x_dup 17, false) ∧ lk (tb_X7_init n0 s0) 17 = (x_cI 0 P_X3_init 20 1 6 (n0 + 3, s0 + 83), false) ∧ lk (tb_X7_init n0 s0) 20 = (x_pR 7 1 23, false) ∧ lk (tb_X7_init n0 s0) 23 = (x_al 24 0, true) ∧ lk (tb_X7_init n0 s0) 24 = (x_c 25 (.int 0), false) ∧ lk (tb_X7_init n0 s0) 25 = (x_pI 7 2 28, false) ∧ lk (tb_X7_init n0 s0) 28 = (x_r0, false) := ⟨rfl, rfl, rfl, rfl, rfl, rfl, rfl, rfl, rfl, rfl, rfl, rfl, rfl, rfl, rfl⟩
def P_X7_init : PTT := fun as M R => match as with
  | [.ref k] => k = 1 ∧ M.1.1 = 2 ∧ tO M.1 1 7 ∧ ∀ M', M'.1.1 = 5 → M'.1.2.1 = M.1.2.1 + 83 → Kp 1 M M' → IsTx M'.1 → IsRd M'.1 3 → M'.2.1 1 2 = nI 0 → R none M'
  | _ => False
set_option maxRecDepth 20000 in
theorem ok_X7_init : Ok yX7_init (mt_X7_init 0 0) P_X7_init := by
  refine Ok.ofI (mtf := mt_X7_init) (fun _ _ => rfl) (by decide) rfl rfl fun av ⟨S, I, L⟩ R hP => ?_
  unfold P_X7_init at hP
  split at hP
  case h_2 => exact hP.elim
  rename_i k
  obtain ⟨k, rfl⟩ : ∃ q : Nat, q = k := ⟨k, rfl⟩
  refine ⟨by simp [ent, wide], ?_⟩
  show J (mt_X7_init S.1 S.2.1) R 0 [some (.ref k)] [] (S, I, L)
  try dsimp only at hP
  obtain ⟨rfl, hn, ht, hR⟩ := hP
  have hn' : S.1 = 2 := hn
  refine J.of (tk_X7_init S.1 S.2.1) 200 fun ρ hρ => ?_
  simp only [hρ, x_c, x_il, x_ll, x_al, x_is, x_as, x_ls, x_inc, x_ii, x_iq, x_i1, x_l2, x_lq, x_lh, x_i2l, x_l2i, x_lcmp, x_dup, x_dup2, x_pop, x_if, x_ifn, x_ic, x_icn, x_go, x_sw, swc, x_l01, x_mx, x_gI, x_gL, x_gR, x_pI, x_pZ, x_pL, x_pR, x_ia, x_za, x_aa, x_ias, x_zas, x_aas, x_fac, x_fa, x_slen, x_sa, x_ac, x_oi, x_new, x_na, x_cS, x_cV, x_cI, x_rI, x_rZ, x_rL, x_r0, pa, short, oc, lg, lset, lset2, wide, cond_true, cond_false, true_and, and_true, ↓reduceIte, Bool.false_eq_true, true_or, or_true, lf_X7_init, x_o2]
  refine ⟨(show ¬ (1 : Nat) = 9999 by decide), ?_⟩
  refine J.of (tk_X7_init S.1 S.2.1) 200 fun ρ hρ => ?_
  simp only [hρ, x_c, x_il, x_ll, x_al, x_is, x_as, x_ls, x_inc, x_ii, x_iq, x_i1, x_l2, x_lq, x_lh, x_i2l, x_l2i, x_lcmp, x_dup, x_dup2, x_pop, x_if, x_ifn, x_ic, x_icn, x_go, x_sw, swc, x_l01, x_mx, x_gI, x_gL, x_gR, x_pI, x_pZ, x_pL, x_pR, x_ia, x_za, x_aa, x_ias, x_zas, x_aas, x_fac, x_fa, x_slen, x_sa, x_ac, x_oi, x_new, x_na, x_cS, x_cV, x_cI, x_rI, x_rZ, x_rL, x_r0, pa, short, oc, lg, lset, lset2, wide, cond_true, cond_false, true_and, and_true, ↓reduceIte, Bool.false_eq_true, true_or, or_true, lf_X7_init, show (70 : Int32).toNatClampNeg = 70 by decide]
  have hO := (Ob.zero (M := (S, I, L)) hn ht).st (f := 0) (t := 1) (n := 70) (by simp)
  refine ⟨by decide, by decide, by omega, by omega, by omega, hO.2.2.2.1, ?_⟩
  revert hO
  generalize (((S.1 + 1, S.2.1 + 70, mS S.2.2.1 S.1 (1, 70), mS (mS S.2.2.2 S.1 (fun _ => 9999)) 1 (va_up ((mS S.2.2.2 S.1 (fun _ => 9999)) 1) 0 S.1)), mS I S.1 (fun _ => 0), L) : Mem) = M1
  intro hO
  obtain ⟨S1, I1, L1⟩ := M1
  have e1 : S1.1 = 3 := hO.2.1
  have e2 : S1.2.1 = S.2.1 + 70 := hO.2.2.1
  have t1 : tO S1 1 7 := hO.2.2.2.1
  obtain ⟨a1, a2, a3, a4⟩ := hO.a (r := 0) rfl
  have n7 : nfC 3 = 7 := rfl
  refine J.of (tk_X7_init S.1 S.2.1) 200 fun ρ hρ => ?_
  simp only [hρ, x_c, x_il, x_ll, x_al, x_is, x_as, x_ls, x_inc, x_ii, x_iq, x_i1, x_l2, x_lq, x_lh, x_i2l, x_l2i, x_lcmp, x_dup, x_dup2, x_pop, x_if, x_ifn, x_ic, x_icn, x_go, x_sw, swc, x_l01, x_mx, x_gI, x_gL, x_gR, x_pI, x_pZ, x_pL, x_pR, x_ia, x_za, x_aa, x_ias, x_zas, x_aas, x_fac, x_fa, x_slen, x_sa, x_ac, x_oi, x_new, x_na, x_cS, x_cV, x_cI, x_rI, x_rZ, x_rL, x_r0, pa, short, oc, lg, lset, lset2, wide, cond_true, cond_false, true_and, and_true, ↓reduceIte, Bool.false_eq_true, true_or, or_true, lf_X7_init, P_X3_init]
  refine ⟨by omega, by omega, by omega, by decide, (show ¬ S1.1 = 9999 by omega), by omega, by omega, tO_nw (S1, I1, L1) 3, by omega, fun M2 m1 m2 m3 m4 => ⟨m1, m2, ?_, ?_⟩⟩
  · have hG := ((Kp.nw (S1, I1, L1) 3).trans m3).g (by rw [m1]; show S1.1 ≤ S1.1 + 1 + 1; omega)
    exact hG.O (by show 1 < S1.1; omega) t1
  · have hK := (Kp.nw (S1, I1, L1) 3).trans m3
    have hG := hK.g (by rw [m1]; show S1.1 ≤ S1.1 + 1 + 1; omega)
    have hG3 : Gr 0 3 S1 M2.1 := hG.w (Nat.le_refl 0) (by show 3 ≤ S1.1; omega)
    have hGp := Gr.pu M2 1 1 S1.1 2 (by omega)
    have t2 : tO M2.1 1 7 := hG3.O (by omega) t1
    have m15 : M2.1.1 = 5 := by rw [m1]; omega
    have k0 : Kp 1 (S, I, L) (puM M2 1 1 S1.1) := (hO.2.2.2.2.1).trans (fun q hq => by
      have := hK q (by show q < S1.1; omega)
      exact ⟨this.1, (mS_n (by omega)).trans this.2.1, this.2.2.1, this.2.2.2⟩)
    have hTx : IsTx (puM M2 1 1 S1.1).1 := ⟨t2, by rw [sR_pun M2 (by omega)]; exact hG3.r (by omega) (by omega) a3, by rw [sR_pu]; exact e1, hG3.A (by omega) a1, hG3.l (by omega) a2⟩
    have hRd : IsRd (puM M2 1 1 S1.1).1 3 := by
      have hz : IsRd M2.1 3 := e1 ▸ m4
      exact hz.gr hGp (by omega) (by omega)
    refine J.of (tk_X7_init S.1 S.2.1) 200 fun ρ hρ => ?_
    simp only [hρ, x_c, x_il, x_ll, x_al, x_is, x_as, x_ls, x_inc, x_ii, x_iq, x_i1, x_l2, x_lq, x_lh, x_i2l, x_l2i, x_lcmp, x_dup, x_dup2, x_pop, x_if, x_ifn, x_ic, x_icn, x_go, x_sw, swc, x_l01, x_mx, x_gI, x_gL, x_gR, x_pI, x_pZ, x_pL, x_pR, x_ia, x_za, x_aa, x_ias, x_zas, x_aas, x_fac, x_fa, x_slen, x_sa, x_ac, x_oi, x_new, x_na, x_cS, x_cV, x_cI, x_rI, x_rZ, x_rL, x_r0, pa, short, oc, lg, lset, lset2, wide, cond_true, cond_false, true_and, and_true, ↓reduceIte, Bool.false_eq_true, true_or, or_true, lf_X7_init, hTx.1]
    refine hR _ m15 (by show M2.1.2.1 = S.2.1 + 83; rw [m2]; omega) (fun q hq => ?_) hTx hRd (by simp only [mS_s, upd_s]; rfl)
    have := k0 q hq
    exact ⟨this.1, this.2.1, (mS_n (by omega)).trans this.2.2.1, this.2.2.2⟩
def il_X0_init : List (Nat × Instr × Nat) := [(0, .aload_n 0, 1), (1, .invokespecial 3, 3), (4, .aload_n 0, 1), (5, .bipush 14, 2), (7, .anewarray 9, 3), (10, .putfield 11, 3), (13, .iconst 0, 1), (14, .istore_n 1, 1), (15, .iload_n 1, 1), (16, .bipush 14, 2), (18, .if_icmp .ge 22, 3), (21, .aload_n 0, 1), (22, .getfield 11, 3), (25, .iload_n 1, 1), (26, .new 9, 3), (29, .dup, 1), (30, .invokespecial 17, 3), (33, .aastore, 1), (34, .iinc 1 1, 3), (37, .goto (-22), 3), (40, .aload_n 0, 1), (41, .iconst 0, 1), (42, .putfield 18, 3), (45, .aload_n 0, 1), (46, .iconst 0, 1), (47, .putfield 22, 3), (50, .return_, 1)]
def mt_X0_init (n0 s0 : Nat) : Mt := (cX0_init, RX0, 2, none, ({ frames := 2, cells := 71, slots := 1218, locals := 32 } : Room), true, none, some (n0, s0))
set_option maxRecDepth 100000 in
theorem dl_X0_init (n0 s0 : Nat) : ∀ q ∈ il_X0_init, decode (mt_X0_init n0 s0).1 q.1 = .ok q.2 := (by decide +kernel : ∀ q ∈ il_X0_init, decode cX0_init q.1 = .ok q.2)
def tb_X0_init (n0 s0 : Nat) : Tb := [(0, x_al 1 0, false),
  (1, x_o2 4, false),
  (4, x_al 5 0, true),
  (5, x_c 7 (.int 14), false),
  (7, x_na 3 10 (n0 + 71, s0 + 1218), false),
  (10, x_pR 0 0 13, false),
  (13, x_c 14 (.int 0), true),
  (14, x_is 15 1, false),
  (15, x_il 16 1, true),
  (16, x_c 18 (.int 14), false),
  (18, x_ic 40 21 (fun x y : Int32 => y ≤ x), false),
  (21, x_al 22 0, false),
  (22, x_gR 0 0 25, false),
  (25, x_il 26 1, false),
  (26, x_new 5 29 (n0 + 71, s0 + 1218), false),
  (29, x_dup 30, false),
  (30, x_cI 0 P_X5_init 33 4 78 (n0 + 71, s0 + 1218), false),
  (33, x_aas 34, false),
  (34, x_inc 37 1 1, false),
  (37, x_go 15, false),
  (40, x_al 41 0, true),
  (41, x_c 42 (.int 0), false),
  (42, x_pI 0 1 45, false),
  (45, x_al 46 0, false),
  (46, x_c 47 (.int 0), false),
  (47, x_pI 0 2 50, false),
  (50, x_r0, false)]
set_option maxRecDepth 100000 in
theorem tk_X0_init (n0 s0 : Nat) : TbOk (mt_X0_init n0 s0) (tb_X0_init n0 s0) :=
  tkc (s_aload_n (at_ (dl_X0_init n0 s0) 0 (ins := .aload_n 0) rfl)) (
  tkc (s_o2 (at_ (dl_X0_init n0 s0) 1 (ins := .invokespecial 3) rfl) (show Cond.methodLink RX0 3 Lib.objectInit ∈ tblG from (tg 222 (by decide +kernel) (by decide +kernel))) (Nat.le_of_ble_eq_true rfl) (Nat.le_of_ble_eq_true rfl)) (
  tkc (s_aload_n (at_ (dl_X0_init n0 s0) 2 (ins := .aload_n 0) rfl)) (
  tkc (s_bipush (at_ (dl_X0_init n0 s0) 3 (ins := .bipush 14) rfl) (by first | rfl | decide)) (
  tkc (s_na3 (q := (n0, s0)) (at_ (dl_X0_init n0 s0) 4 (ins := .anewarray 9) rfl) rfl rfl (show Cond.classLink RX0 9 RX5 ∈ tblG from (tg 223 (by decide +kernel) (by decide +kernel)))) (
  tkc (s_pR (at_ (dl_X0_init n0 s0) 5 (ins := .putfield 11) rfl) (by decide) (by decide) (by decide) (by decide) rfl rfl (show Cond.fieldLink RX0 11 (TCl 0 0).1 (TCl 0 0).2.1 (TCl 0 0).2.2.1 ∈ tblG from (tg 226 (by decide +kernel) (by decide +kernel)))) (
  tkc (s_iconst (at_ (dl_X0_init n0 s0) 6 (ins := .iconst 0) rfl) (by first | rfl | decide)) (
  tkc (s_istore_n (at_ (dl_X0_init n0 s0) 7 (ins := .istore_n 1) rfl) (Nat.le_of_ble_eq_true rfl)) (
  tkc (s_iload_n (at_ (dl_X0_init n0 s0) 8 (ins := .iload_n 1) rfl)) (
  tkc (s_bipush (at_ (dl_X0_init n0 s0) 9 (ins := .bipush 14) rfl) (by first | rfl | decide)) (
  tkc (s_ic_ge (at_ (dl_X0_init n0 s0) 10 (ins := .if_icmp .ge 22) rfl) (by decide)) (
  tkc (s_aload_n (at_ (dl_X0_init n0 s0) 11 (ins := .aload_n 0) rfl)) (
  tkc (s_gR (at_ (dl_X0_init n0 s0) 12 (ins := .getfield 11) rfl) (by decide) (by decide) (by decide) (show Cond.fieldLink RX0 11 (TCl 0 0).1 (TCl 0 0).2.1 (TCl 0 0).2.2.1 ∈ tblG from (tg 226 (by decide +kernel) (by decide +kernel)))) (
  tkc (s_iload_n (at_ (dl_X0_init n0 s0) 13 (ins := .iload_n 1) rfl)) (
  tkc (s_new (q := (n0, s0)) (at_ (dl_X0_init n0 s0) 14 (ins := .new 9) rfl) rfl rfl (show Cond.classLink RX0 9 (RCl 5) ∈ tblG from (tg 223 (by decide +kernel) (by decide +kernel))) (tg 116 (by decide +kernel) (by decide +kernel)) (tg 45 (by decide +kernel) (by decide +kernel))) (
  tkc (s_dup (at_ (dl_X0_init n0 s0) 15 (ins := .dup) rfl)) (
  tkc (s_cI (q := (n0, s0)) ok_X5_init (at_ (dl_X0_init n0 s0) 16 (ins := .invokespecial 17) rfl) rfl rfl rfl (show Cond.methodLink RX0 17 yX5_init ∈ tblG from (tg 225 (by decide +kernel) (by decide +kernel))) (tg 118 (by decide +kernel) (by decide +kernel)) (tg 45 (by decide +kernel) (by decide +kernel)) (tg 119 (by decide +kernel) (by decide +kernel)) rfl (⟨by decide, by decide, by decide +kernel⟩) (⟨(Nat.le_of_ble_eq_true rfl), (Nat.le_of_ble_eq_true rfl)⟩) rfl rfl) (
  tkc (s_aas (at_ (dl_X0_init n0 s0) 17 (ins := .aastore) rfl)) (
  tkc (s_iinc (at_ (dl_X0_init n0 s0) 18 (ins := .iinc 1 1) rfl) (Nat.le_of_ble_eq_true rfl) (by first | rfl | decide)) (
  tkc (s_goto (at_ (dl_X0_init n0 s0) 19 (ins := .goto (-22)) rfl) (by decide)) (
  tkc (s_aload_n (at_ (dl_X0_init n0 s0) 20 (ins := .aload_n 0) rfl)) (
  tkc (s_iconst (at_ (dl_X0_init n0 s0) 21 (ins := .iconst 0) rfl) (by first | rfl | decide)) (
  tkc (s_pI (at_ (dl_X0_init n0 s0) 22 (ins := .putfield 18) rfl) (by decide) (by decide) (by decide) (by decide) (show Cond.fieldLink RX0 18 (TCl 0 1).1 (TCl 0 1).2.1 (TCl 0 1).2.2.1 ∈ tblG from (tg 227 (by decide +kernel) (by decide +kernel)))) (
  tkc (s_aload_n (at_ (dl_X0_init n0 s0) 23 (ins := .aload_n 0) rfl)) (
  tkc (s_iconst (at_ (dl_X0_init n0 s0) 24 (ins := .iconst 0) rfl) (by first | rfl | decide)) (
  tkc (s_pI (at_ (dl_X0_init n0 s0) 25 (ins := .putfield 22) rfl) (by decide) (by decide) (by decide) (by decide) (show Cond.fieldLink RX0 22 (TCl 0 2).1 (TCl 0 2).2.1 (TCl 0 2).2.2.1 ∈ tblG from (tg 228 (by decide +kernel) (by decide +kernel)))) (
  tkc (s_r0 (at_ (dl_X0_init n0 s0) 26 (ins := .return_) rfl) rfl) ( tk0)))))))))))))))))))))))))))
theorem lf_X0_init (n0 s0 : Nat) : lk (tb_X0_init n0 s0) 0 = (x_al 1 0, false) ∧ lk (tb_X0_init n0 s0) 1 = (x_o2 4, false) ∧ lk (tb_X0_init n0 s0) 4 = (x_al 5 0, true) ∧ lk (tb_X0_init n0 s0) 5 = (x_c 7 (.int 14), false) ∧ lk (tb_X0_init n0 s0) 7 = (x_na 3 10 (n0 + 71, s0 + 1218), false) ∧ lk (tb_X0_init n0 s0) 10 = (x_pR 0 0 13, false) ∧ lk (tb_X0_init n0 s0) 13 = (x_c 14 (.int 0), true) ∧ lk (tb_X0_init n0 s0) 14 = (x_is 15 1, false) ∧ lk (tb_X0_init n0 s0) 15 = (x_il 16 1, true) ∧ lk (tb_X0_init n0 s0) 16 = (x_c 18 (.int 14), false) ∧ lk (tb_X0_init n0 s0) 18 = (x_ic 40 21 (fun x y : Int32 => y ≤ x), false) ∧ lk (tb_X0_init n0 s0) 21 = (x_al 22 0, false) ∧ lk (tb_X0_init n0 s0) 22 = (x_gR 0 0 25, false) ∧ lk (tb_X0_init n0 s0) 25 = (x_il 26 1, false) ∧ lk (tb_X0_init n0 s0) 26 = (x_new 5 29 (n0 + 71, s0 + 1218), false) ∧ lk (tb_X0_init n0 s0) 29 = (x_dup 30, false) ∧ lk (tb_X0_init n0 s0) 30 = (x_cI 0 P_X5_init 33 4 78 (n0 + 71, s0 + 1218), false) ∧ lk (tb_X0_init n0 s0) 33 = (x_aas 34, false) ∧ lk (tb_X0_init n0 s0) 34 = (x_inc 37 1 1, false) ∧ lk (tb_X0_init n0 s0) 37 = (x_go 15, false) ∧ lk (tb_X0_init n0 s0) 40 = (x_al 41 0, true) ∧ lk (tb_X0_init n0 s0) 41 = (x_c 42 (.int 0), false) ∧ lk (tb_X0_init n0 s0) 42 = (x_pI 0 1 45, false) ∧ lk (tb_X0_init n0 s0) 45 = (x_al 46 0, false) ∧ lk (tb_X0_init n0 s0) 46 = (x_c 47 (.int 0), false) ∧ lk (tb_X0_init n0 s0) 47 = (x_pI 0 2 50, false) ∧ lk (tb_X0_init n0 s0) 50 = (x_r0, false) := ⟨rfl, rfl, rfl, rfl, rfl, rfl, rfl, rfl, rfl, rfl, rfl, rfl, rfl, rfl, rfl, rfl, rfl, rfl, rfl, rfl, rfl, rfl, rfl, rfl, rfl, rfl, rfl⟩
def P_X0_init : PTT := fun as M R => match as with
  | [.ref k] => k = 21 ∧ M.1.1 = 22 ∧ tO M.1 21 0 ∧ ∀ M', M'.1.1 = 93 → M'.1.2.1 = M.1.2.1 + 1218 → Kp 21 M M' → IsAc M'.1 → M'.2.1 21 1 = nI 0 → M'.2.1 21 2 = nI 0 → R none M'
  | _ => False
set_option maxRecDepth 20000 in
theorem ok_X0_init : Ok yX0_init (mt_X0_init 0 0) P_X0_init := by
  refine Ok.ofI (mtf := mt_X0_init) (fun _ _ => rfl) (by decide) rfl rfl fun av ⟨S, I, L⟩ R hP => ?_
  unfold P_X0_init at hP
  split at hP
  case h_2 => exact hP.elim
  rename_i k
  obtain ⟨k, rfl⟩ : ∃ q : Nat, q = k := ⟨k, rfl⟩
  refine ⟨by simp [ent, wide], ?_⟩
  show J (mt_X0_init S.1 S.2.1) R 0 [some (.ref k), none] [] (S, I, L)
  try dsimp only at hP
  obtain ⟨rfl, hn, ht, hR⟩ := hP
  have hn' : S.1 = 22 := hn
  have key := up (P := fun i => ∀ M, M.1.1 = 23 + 5 * i → M.1.2.1 = S.2.1 + 14 + 86 * i → Kp 21 (S, I, L) M → tO M.1 21 0 → sR M.1 21 0 = 22 → tA M.1 22 3 → ln M.1 22 = 14 → (∀ r, r < i → sR M.1 22 r = 23 + 5 * r ∧ IsSt M.1 (23 + 5 * r)) → J (mt_X0_init S.1 S.2.1) R 15 [some (.ref 21), some (.int (nI i))] [] M) (n := 14) (fun i hi ih M q1 q2 q3 q4 q5 q6 q7 q8 => ?_) 0 (Nat.zero_le _)
  · refine J.of (tk_X0_init S.1 S.2.1) 200 fun ρ hρ => ?_
    simp only [hρ, x_c, x_il, x_ll, x_al, x_is, x_as, x_ls, x_inc, x_ii, x_iq, x_i1, x_l2, x_lq, x_lh, x_i2l, x_l2i, x_lcmp, x_dup, x_dup2, x_pop, x_if, x_ifn, x_ic, x_icn, x_go, x_sw, swc, x_l01, x_mx, x_gI, x_gL, x_gR, x_pI, x_pZ, x_pL, x_pR, x_ia, x_za, x_aa, x_ias, x_zas, x_aas, x_fac, x_fa, x_slen, x_sa, x_ac, x_oi, x_new, x_na, x_cS, x_cV, x_cI, x_rI, x_rZ, x_rL, x_r0, pa, short, oc, lg, lset, lset2, wide, cond_true, cond_false, true_and, and_true, ↓reduceIte, Bool.false_eq_true, true_or, or_true, lf_X0_init, x_o2]
    refine ⟨(show ¬ (21 : Nat) = 9999 by decide), ?_⟩
    refine J.of (tk_X0_init S.1 S.2.1) 200 fun ρ hρ => ?_
    simp only [hρ, x_c, x_il, x_ll, x_al, x_is, x_as, x_ls, x_inc, x_ii, x_iq, x_i1, x_l2, x_lq, x_lh, x_i2l, x_l2i, x_lcmp, x_dup, x_dup2, x_pop, x_if, x_ifn, x_ic, x_icn, x_go, x_sw, swc, x_l01, x_mx, x_gI, x_gL, x_gR, x_pI, x_pZ, x_pL, x_pR, x_ia, x_za, x_aa, x_ias, x_zas, x_aas, x_fac, x_fa, x_slen, x_sa, x_ac, x_oi, x_new, x_na, x_cS, x_cV, x_cI, x_rI, x_rZ, x_rL, x_r0, pa, short, oc, lg, lset, lset2, wide, cond_true, cond_false, true_and, and_true, ↓reduceIte, Bool.false_eq_true, true_or, or_true, lf_X0_init, show (14 : Int32).toNatClampNeg = 14 by decide]
    have hO := (Ob.zero (M := (S, I, L)) hn ht).st (f := 0) (t := 3) (n := 14) (by simp)
    refine ⟨by decide, by decide, by omega, by omega, by omega, hO.2.2.2.1, ?_⟩
    obtain ⟨a1, a2, a3, a4⟩ := hO.a (r := 0) rfl
    refine J.of (tk_X0_init S.1 S.2.1) 200 fun ρ hρ => ?_
    simp only [hρ, x_c, x_il, x_ll, x_al, x_is, x_as, x_ls, x_inc, x_ii, x_iq, x_i1, x_l2, x_lq, x_lh, x_i2l, x_l2i, x_lcmp, x_dup, x_dup2, x_pop, x_if, x_ifn, x_ic, x_icn, x_go, x_sw, swc, x_l01, x_mx, x_gI, x_gL, x_gR, x_pI, x_pZ, x_pL, x_pR, x_ia, x_za, x_aa, x_ias, x_zas, x_aas, x_fac, x_fa, x_slen, x_sa, x_ac, x_oi, x_new, x_na, x_cS, x_cV, x_cI, x_rI, x_rZ, x_rL, x_r0, pa, short, oc, lg, lset, lset2, wide, cond_true, cond_false, true_and, and_true, ↓reduceIte, Bool.false_eq_true, true_or, or_true, lf_X0_init]
    exact key _ (by show S.1 + 1 = _; omega) (by show S.2.1 + 14 = _; omega) hO.2.2.2.2.1 hO.2.2.2.1 a3 a1 a2 (fun r hr => absurd hr (by omega))
  obtain ⟨S1, I1, L1⟩ := M
  replace q1 : S1.1 = 23 + 5 * i := q1
  replace q2 : S1.2.1 = S.2.1 + 14 + 86 * i := q2
  replace q4 : tO S1 21 0 := q4
  replace q5 : sR S1 21 0 = 22 := q5
  replace q6 : tA S1 22 3 := q6
  replace q7 : ln S1 22 = 14 := q7
  by_cases hlt : i < 14
  · have n8 : nfC 5 = 8 := rfl
    refine J.of (tk_X0_init S.1 S.2.1) 200 fun ρ hρ => ?_
    simp only [hρ, x_c, x_il, x_ll, x_al, x_is, x_as, x_ls, x_inc, x_ii, x_iq, x_i1, x_l2, x_lq, x_lh, x_i2l, x_l2i, x_lcmp, x_dup, x_dup2, x_pop, x_if, x_ifn, x_ic, x_icn, x_go, x_sw, swc, x_l01, x_mx, x_gI, x_gL, x_gR, x_pI, x_pZ, x_pL, x_pR, x_ia, x_za, x_aa, x_ias, x_zas, x_aas, x_fac, x_fa, x_slen, x_sa, x_ac, x_oi, x_new, x_na, x_cS, x_cV, x_cI, x_rI, x_rZ, x_rL, x_r0, pa, short, oc, lg, lset, lset2, wide, cond_true, cond_false, true_and, and_true, ↓reduceIte, Bool.false_eq_true, true_or, or_true, lf_X0_init, q4, q5, q6, q7, nI14, nI_leI (show 14 < 2 ^ 31 by omega) (show i < 2 ^ 31 by omega), ncl (show i < 2 ^ 31 by omega), nI_1, P_X5_init]
    refine ⟨fun h => absurd h (by omega), fun _ => ⟨by omega, by omega, by omega, by decide, (show ¬ S1.1 = 9999 by omega), by omega, by omega, tO_nw (S1, I1, L1) 5, by omega, fun M2 m1 m2 m3 m4 m5 => ⟨m1, m2, ?_⟩⟩⟩
    have hK := (Kp.nw (S1, I1, L1) 5).trans m3
    have hG := hK.g (by rw [m1]; show S1.1 ≤ S1.1 + 1 + 4; omega)
    have hG' : Gr 0 (23 + 5 * i) S1 M2.1 := by rw [← q1]; exact hG
    have e2 : M2.1.1 = 23 + 5 * (i + 1) := by rw [m1]; omega
    have hGp := Gr.pu M2 22 i S1.1 23 (by omega)
    rw [e2] at hGp
    have hln : ln M2.1 22 = 14 := hG'.l (by omega) q7
    rw [hln]
    refine ⟨hG'.A (by omega) q6, vp_in_nI (by omega) (by omega), m4.1, (show ¬ S1.1 = 9999 by omega), ?_⟩
    refine ih hlt (puM M2 22 i S1.1) e2 (by show M2.1.2.1 = _; rw [m2]; omega) (q3.trans (fun q hq => ?_)) (hG'.O (by omega) q4) ?_ (hG'.A (by omega) q6) hln (fun r hr => ?_)
    · have := hK q (by show q < S1.1; omega)
      exact ⟨this.1, (mS_n (by omega)).trans this.2.1, this.2.2.1, this.2.2.2⟩
    · show mS M2.1.2.2.2 22 (va_up (M2.1.2.2.2 22) i S1.1) 21 0 = 22
      rw [mS_n (by omega)]
      exact hG'.r (by omega) (by omega) q5
    · by_cases e : r = i
      · subst e
        refine ⟨by rw [sR_pu]; exact q1, ?_⟩
        have hz : IsSt M2.1 (23 + 5 * r) := q1 ▸ m4
        exact hz.gr hGp (by omega) (by omega)
      · have hr' := q8 r (by omega)
        refine ⟨by rw [sR_pun M2 e]; exact hG'.r (by omega) (by omega) hr'.1, ?_⟩
        exact (hr'.2.gr hG' (by omega) (by omega)).gr hGp (by omega) (by omega)
  · have : i = 14 := by omega
    subst this
    refine J.of (tk_X0_init S.1 S.2.1) 200 fun ρ hρ => ?_
    simp only [hρ, x_c, x_il, x_ll, x_al, x_is, x_as, x_ls, x_inc, x_ii, x_iq, x_i1, x_l2, x_lq, x_lh, x_i2l, x_l2i, x_lcmp, x_dup, x_dup2, x_pop, x_if, x_ifn, x_ic, x_icn, x_go, x_sw, swc, x_l01, x_mx, x_gI, x_gL, x_gR, x_pI, x_pZ, x_pL, x_pR, x_ia, x_za, x_aa, x_ias, x_zas, x_aas, x_fac, x_fa, x_slen, x_sa, x_ac, x_oi, x_new, x_na, x_cS, x_cV, x_cI, x_rI, x_rZ, x_rL, x_r0, pa, short, oc, lg, lset, lset2, wide, cond_true, cond_false, true_and, and_true, ↓reduceIte, Bool.false_eq_true, true_or, or_true, lf_X0_init, nI14, nI_leI (show 14 < 2 ^ 31 by omega) (show 14 < 2 ^ 31 by omega), Nat.le_refl, true_implies, not_true_eq_false, false_implies]
    refine J.of (tk_X0_init S.1 S.2.1) 200 fun ρ hρ => ?_
    simp only [hρ, x_c, x_il, x_ll, x_al, x_is, x_as, x_ls, x_inc, x_ii, x_iq, x_i1, x_l2, x_lq, x_lh, x_i2l, x_l2i, x_lcmp, x_dup, x_dup2, x_pop, x_if, x_ifn, x_ic, x_icn, x_go, x_sw, swc, x_l01, x_mx, x_gI, x_gL, x_gR, x_pI, x_pZ, x_pL, x_pR, x_ia, x_za, x_aa, x_ias, x_zas, x_aas, x_fac, x_fa, x_slen, x_sa, x_ac, x_oi, x_new, x_na, x_cS, x_cV, x_cI, x_rI, x_rZ, x_rL, x_r0, pa, short, oc, lg, lset, lset2, wide, cond_true, cond_false, true_and, and_true, ↓reduceIte, Bool.false_eq_true, true_or, or_true, lf_X0_init, q4, mS_s, mS_ss]
    refine hR _ q1 (by show S1.2.1 = _; rw [q2]) (fun q hq => ?_) ⟨q4, q5, q6, q7, q8⟩ (by simp only [mS_s]; rfl) (by simp only [mS_s]; rfl)
    have := q3 q hq
    exact ⟨this.1, this.2.1, (mS_n (by omega)).trans this.2.2.1, this.2.2.2⟩
