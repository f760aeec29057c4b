/-! ABOUT -/
def ndO (a : AS) (ord : Nat → Nat) : Int32 × Nat := need (solS (aN a) (aM a) (aO a) (aV a) ord (d0A a))
def runA (a : AS) (ord : Nat → Nat) : AS := (a.1, a.2.1, a.2.2.1, 0, a.2.2.2.2.1, a.2.2.2.2.2.1, itD (aN a) (aM a) (aO a) (aV a) ord (ndO a ord).2 (d0A a))
theorem runA_ok {a : AS} {ord : Nat → Nat} (h : AOk a) : AOk (runA a ord) := ⟨h.1, h.2.1, h.2.2.1, h.2.2.2.1, itD_ok (d0A_ok h) _⟩
def OrdO (I : MI) (m : Nat) (ord : Nat → Nat) : Prop := ∀ i, i < m → I 16 i = nI (ord i) ∧ ord i < m
theorem OrdO.V {I : MI} {m : Nat} {ord : Nat → Nat} (h : OrdO I m ord) (hm : m ≤ 6) : OrdV I m := fun i hi => by rw [(h i hi).1, tn_nI (by have := (h i hi).2; omega)]; exact (h i hi).2
theorem OrdO.e {I : MI} {m : Nat} {ord : Nat → Nat} (h : OrdO I m ord) (hm : m ≤ 6) : ∀ i, i < m → ordI I i < m ∧ ordI I i = ord i := fun i hi => by
  unfold ordI; rw [(h i hi).1, tn_nI (by have := (h i hi).2; omega)]; exact ⟨(h i hi).2, rfl⟩
theorem OrdId.O {I : MI} (h : OrdId I) {m : Nat} (hm : m ≤ 6) : OrdO I m id := fun i hi => ⟨h i (by omega), hi⟩
theorem OrdO.fr {I I' : MI} {m : Nat} {ord : Nat → Nat} (h : OrdO I m ord) (e : I' 16 = I 16) : OrdO I' m ord := by unfold OrdO at h ⊢; rw [e]; exact h
theorem SR_run {I I' : MI} {k : Nat} {a : AS} {ord : Nat → Nat} (h : SR I k a) (ho : AOk a) (hor : OrdO I (aM a) ord) (h1 : I' (k + 1) = I (k + 1)) (h2 : I' (k + 2) = I (k + 2)) (hk : I' k = upd (I k) 7 0) (hd : (I' (k + 3), I' (k + 4)) = itD (aN a) (aM a) (I k 6) (ovS I k) (ordI I) (need (solS (aN a) (aM a) (I k 6) (ovS I k) (ordI I) (d0S I k))).2 (d0S I k)) : need (solS (aN a) (aM a) (I k 6) (ovS I k) (ordI I) (d0S I k)) = ndO a ord ∧ SR I' k (runA a ord) := by
  have hn : need (solS (aN a) (aM a) (I k 6) (ovS I k) (ordI I) (d0S I k)) = ndO a ord := by
    unfold ndO
    refine need_congr (fun r _ => ?_)
    rw [h.2.2.1]
    exact solS_congr ho.1.2.1 ho.1.2.2 (hor.e ho.1.2.2) (h.ov ho) (d0_eq h) r
  refine ⟨hn, ?_⟩
  rw [hn] at hd
  have hv := h.ov ho
  have hd0 := d0_eq h
  obtain ⟨g1, g2, g3, g4, g5, g6, g7⟩ := h
  refine ⟨by rw [hk]; exact g1, by rw [hk]; exact g2, by rw [hk]; exact g3, by rw [hk]; rfl, by rw [h1]; exact g5, by rw [h2]; exact g6, ?_⟩
  rw [hd, g3]
  exact itD_congr ho.1.2.1 ho.1.2.2 (hor.e ho.1.2.2) hv hd0 _
theorem run10 {I : MI} {a : AS} {ord : Nat → Nat} (hs : SR I 10 a) (ha : AOk a) (hor : OrdO I (aM a) ord) {Q : MI → Int32 → Prop} (h : ∀ I', frR 10 I I' → SR I' 10 (runA a ord) → Q I' (ndO a ord).1) : ∃ n m, SV I 10 n m ∧ OrdV I m ∧ ∀ I', frR 10 I I' → I' 10 = upd (I 10) 7 0 → (I' (10 + 3), I' (10 + 4)) = itD n m (I 10 6) (ovS I 10) (ordI I) (need (solS n m (I 10 6) (ovS I 10) (ordI I) (d0S I 10))).2 (d0S I 10) → Q I' (need (solS n m (I 10 6) (ovS I 10) (ordI I) (d0S I 10))).1 := by
  refine ⟨aN a, aM a, hs.SV ha, hor.V ha.1.2.2, fun I' g1 g2 g3 => ?_⟩
  obtain ⟨e1, e2⟩ := SR_run hs ha hor (g1 11 (by omega) (by omega) (by omega) (by omega) (by omega)) (g1 12 (by omega) (by omega) (by omega) (by omega) (by omega)) g2 g3
  rw [e1]
  exact h I' g1 e2
theorem frR.S {I I' : MI} (h : frR 10 I I') : frS I I' := fun q a b c d e f => h q (by omega) (by omega) (by omega) (by omega) (by omega)
def il_X9_needs : List (Nat × Instr × Nat) := [(0, .aload_n 0, 1), (1, .getfield 23, 3), (4, .aload_n 0, 1), (5, .getfield 19, 3), (8, .invokevirtual 219, 3), (11, .aload_n 0, 1), (12, .getfield 29, 3), (15, .aload_n 0, 1), (16, .getfield 23, 3), (19, .invokevirtual 256, 3), (22, .ireturn, 1)]
def mt_X9_needs : Mt := (cX9_needs, RX9, 1, (some .int), ({ frames := 4, cells := 0, slots := 0, locals := 100 } : Room), false, none, none)
set_option maxRecDepth 100000 in
theorem dl_X9_needs : ∀ q ∈ il_X9_needs, decode (mt_X9_needs).1 q.1 = .ok q.2 := by decide +kernel
def tb_X9_needs : Tb := [(0, x_al 1 0, false),
  (1, x_gR 9 2 4, false),
  (4, x_al 5 0, false),
  (5, x_gR 9 1 8, false),
  (8, x_cV 5 1 P_X5_becomeLike 11, false),
  (11, x_al 12 0, false),
  (12, x_gR 9 3 15, false),
  (15, x_al 16 0, false),
  (16, x_gR 9 2 19, false),
  (19, x_cV 1 1 P_X1_runUntilSolved 22, false),
  (22, x_rI, false)]
set_option maxRecDepth 100000 in
theorem tk_X9_needs : TbOk (mt_X9_needs) (tb_X9_needs) :=
  tkc (s_aload_n (at_ dl_X9_needs 0 (ins := .aload_n 0) rfl)) (
  tkc (s_gR (at_ dl_X9_needs 1 (ins := .getfield 23) rfl) (by decide) (by decide) (by decide) (tg 256 (by decide +kernel) (by decide +kernel))) (
  tkc (s_aload_n (at_ dl_X9_needs 2 (ins := .aload_n 0) rfl)) (
  tkc (s_gR (at_ dl_X9_needs 3 (ins := .getfield 19) rfl) (by decide) (by decide) (by decide) (tg 255 (by decide +kernel) (by decide +kernel))) (
  tkc (s_cV ok_X5_becomeLike (at_ dl_X9_needs 4 (ins := .invokevirtual 219) rfl) (by decide) rfl (tg 443 (by decide +kernel) (by decide +kernel)) (tg 444 (by decide +kernel) (by decide +kernel)) (tg 445 (by decide +kernel) (by decide +kernel)) (tg 45 (by decide +kernel) (by decide +kernel)) (tg 446 (by decide +kernel) (by decide +kernel)) (⟨by decide, by decide, by decide +kernel⟩) (⟨by decide, by decide⟩) rfl rfl) (
  tkc (s_aload_n (at_ dl_X9_needs 5 (ins := .aload_n 0) rfl)) (
  tkc (s_gR (at_ dl_X9_needs 6 (ins := .getfield 29) rfl) (by decide) (by decide) (by decide) (tg 257 (by decide +kernel) (by decide +kernel))) (
  tkc (s_aload_n (at_ dl_X9_needs 7 (ins := .aload_n 0) rfl)) (
  tkc (s_gR (at_ dl_X9_needs 8 (ins := .getfield 23) rfl) (by decide) (by decide) (by decide) (tg 256 (by decide +kernel) (by decide +kernel))) (
  tkc (s_cV ok_X1_runUntilSolved (at_ dl_X9_needs 9 (ins := .invokevirtual 256) rfl) (by decide) rfl (tg 447 (by decide +kernel) (by decide +kernel)) (tg 448 (by decide +kernel) (by decide +kernel)) (tg 449 (by decide +kernel) (by decide +kernel)) (tg 46 (by decide +kernel) (by decide +kernel)) (tg 450 (by decide +kernel) (by decide +kernel)) (⟨by decide, by decide, by decide +kernel⟩) (⟨by decide, by decide⟩) rfl rfl) (
  tkc (s_rI (at_ dl_X9_needs 10 (ins := .ireturn) rfl) rfl) ( tk0)))))))))))
theorem lf_X9_needs : lk (tb_X9_needs) 0 = (x_al 1 0, false) ∧ lk (tb_X9_needs) 1 = (x_gR 9 2 4, false) ∧ lk (tb_X9_needs) 4 = (x_al 5 0, false) ∧ lk (tb_X9_needs) 5 = (x_gR 9 1 8, false) ∧ lk (tb_X9_needs) 8 = (x_cV 5 1 P_X5_becomeLike 11, false) ∧ lk (tb_X9_needs) 11 = (x_al 12 0, false) ∧ lk (tb_X9_needs) 12 = (x_gR 9 3 15, false) ∧ lk (tb_X9_needs) 15 = (x_al 16 0, false) ∧ lk (tb_X9_needs) 16 = (x_gR 9 2 19, false) ∧ lk (tb_X9_needs) 19 = (x_cV 1 1 P_X1_runUntilSolved 22, false) ∧ lk (tb_X9_needs) 22 = (x_rI, false) := ⟨rfl, rfl, rfl, rfl, rfl, rfl, rfl, rfl, rfl, rfl, rfl⟩
def P_X9_needs : PTT := fun as M R => match as with
  | [.ref k] => k = 0 ∧ IsCl M.1 ∧ ∃ a ord, SR M.2.1 5 a ∧ AOk a ∧ OrdO M.2.1 (aM a) ord ∧ ∀ I', frS M.2.1 I' → SR I' 10 (runA a ord) → R (some (.int (ndO a ord).1)) (M.1, I', M.2.2)
  | _ => False
set_option maxRecDepth 20000 in
theorem ok_X9_needs : Ok yX9_needs mt_X9_needs P_X9_needs := by
  refine Ok.of (by decide) rfl rfl rfl rfl fun av ⟨S, I, L⟩ R hP => ?_
  unfold P_X9_needs at hP
  split at hP
  case h_2 => exact hP.elim
  rename_i k
  obtain ⟨k, rfl⟩ : ∃ q : Nat, q = k := ⟨k, rfl⟩
  refine ⟨by simp [ent, wide, mt_X9_needs], ?_⟩
  show J mt_X9_needs R 0 [some (.ref k)] [] (S, I, L)
  try dsimp only at hP
  obtain ⟨rfl, h1, a, ord, hs, ha, hor, hR⟩ := hP
  have hap : apart5 10 5 := Or.inr (by omega)
  have ha15 : ap15 10 := Or.inl (by omega)
  refine J.of tk_X9_needs 200 fun ρ hρ => ?_
  simp only [hρ, x_c, x_il, x_ll, x_al, x_is, x_as, x_ls, x_inc, x_ii, x_iq, x_i1, x_l2, x_lq, x_lh, x_i2l, x_l2i, x_lcmp, x_dup, x_dup2, x_pop, x_if, x_ifn, x_ic, x_icn, x_go, x_sw, swc, x_l01, x_mx, x_gI, x_gL, x_gR, x_pI, x_pZ, x_pL, x_pR, x_ia, x_za, x_aa, x_ias, x_zas, x_aas, x_fac, x_fa, x_slen, x_sa, x_ac, x_oi, x_new, x_na, x_cS, x_cV, x_cI, x_rI, x_rZ, x_rL, x_r0, pa, short, oc, lg, lset, lset2, wide, cond_true, cond_false, true_and, and_true, ↓reduceIte, Bool.false_eq_true, true_or, or_true, lf_X9_needs, h1.1.f, h1.2.2.2.1, h1.2.2.2.1.f, h1.2.2.2.2.1, h1.2.2.2.2.1.f, h1.2.2.2.2.2.1, h1.2.2.2.2.2.1.f, hap, ha15, P_X5_becomeLike, P_X1_runUntilSolved]
  have hs' : SR (cpI I 10 5) 10 a := hs.cpI ha.1.2.2
  have hor' : OrdO (cpI I 10 5) (aM a) ord := hor.fr (cpI_fr (by omega))
  refine ⟨aN a, aM a, hs'.SV ha, hor'.V ha.1.2.2, fun I' g1 g2 g3 => ?_⟩
  obtain ⟨e1, e2⟩ := SR_run hs' ha hor' (g1 11 (by omega) (by omega) (by omega) (by omega) (by omega)) (g1 12 (by omega) (by omega) (by omega) (by omega) (by omega)) g2 g3
  rw [e1]
  exact hR I' (fun q a b c d e f => by rw [g1 q (by omega) (by omega) (by omega) (by omega) (by omega), cpI_fr (by omega)]) e2
def il_X9_ends : List (Nat × Instr × Nat) := [(0, .aload_n 0, 1), (1, .invokevirtual 135, 3), (4, .pop, 1), (5, .aload_n 0, 1), (6, .getfield 23, 3), (9, .invokevirtual 110, 3), (12, .ireturn, 1)]
def mt_X9_ends : Mt := (cX9_ends, RX9, 1, (some .int), ({ frames := 5, cells := 0, slots := 0, locals := 120 } : Room), false, none, none)
set_option maxRecDepth 100000 in
theorem dl_X9_ends : ∀ q ∈ il_X9_ends, decode (mt_X9_ends).1 q.1 = .ok q.2 := by decide +kernel
def tb_X9_ends : Tb := [(0, x_al 1 0, false),
  (1, x_cV 9 0 P_X9_needs 4, false),
  (4, x_pop 5, false),
  (5, x_al 6 0, false),
  (6, x_gR 9 2 9, false),
  (9, x_cV 5 0 P_X5_word 12, false),
  (12, x_rI, false)]
set_option maxRecDepth 100000 in
theorem tk_X9_ends : TbOk (mt_X9_ends) (tb_X9_ends) :=
  tkc (s_aload_n (at_ dl_X9_ends 0 (ins := .aload_n 0) rfl)) (
  tkc (s_cV ok_X9_needs (at_ dl_X9_ends 1 (ins := .invokevirtual 135) rfl) (by decide) rfl (tg 439 (by decide +kernel) (by decide +kernel)) (tg 441 (by decide +kernel) (by decide +kernel)) (tg 8 (by decide +kernel) (by decide +kernel)) (tg 42 (by decide +kernel) (by decide +kernel)) (tg 442 (by decide +kernel) (by decide +kernel)) (⟨by decide, by decide, by decide +kernel⟩) (⟨by decide, by decide⟩) rfl rfl) (
  tkc (s_pop (at_ dl_X9_ends 2 (ins := .pop) rfl)) (
  tkc (s_aload_n (at_ dl_X9_ends 3 (ins := .aload_n 0) rfl)) (
  tkc (s_gR (at_ dl_X9_ends 4 (ins := .getfield 23) rfl) (by decide) (by decide) (by decide) (tg 256 (by decide +kernel) (by decide +kernel))) (
  tkc (s_cV ok_X5_word (at_ dl_X9_ends 5 (ins := .invokevirtual 110) rfl) (by decide) rfl (tg 360 (by decide +kernel) (by decide +kernel)) (tg 361 (by decide +kernel) (by decide +kernel)) (tg 362 (by decide +kernel) (by decide +kernel)) (tg 45 (by decide +kernel) (by decide +kernel)) (tg 363 (by decide +kernel) (by decide +kernel)) (⟨by decide, by decide, by decide +kernel⟩) (⟨by decide, by decide⟩) rfl rfl) (
  tkc (s_rI (at_ dl_X9_ends 6 (ins := .ireturn) rfl) rfl) ( tk0)))))))
theorem lf_X9_ends : lk (tb_X9_ends) 0 = (x_al 1 0, false) ∧ lk (tb_X9_ends) 1 = (x_cV 9 0 P_X9_needs 4, false) ∧ lk (tb_X9_ends) 4 = (x_pop 5, false) ∧ lk (tb_X9_ends) 5 = (x_al 6 0, false) ∧ lk (tb_X9_ends) 6 = (x_gR 9 2 9, false) ∧ lk (tb_X9_ends) 9 = (x_cV 5 0 P_X5_word 12, false) ∧ lk (tb_X9_ends) 12 = (x_rI, false) := ⟨rfl, rfl, rfl, rfl, rfl, rfl, rfl⟩
def P_X9_ends : PTT := fun as M R => match as with
  | [.ref k] => k = 0 ∧ IsCl M.1 ∧ ∃ a ord, SR M.2.1 5 a ∧ AOk a ∧ OrdO M.2.1 (aM a) ord ∧ ∀ I', frS M.2.1 I' → R (some (.int (nI (wdA (runA a ord))))) (M.1, I', M.2.2)
  | _ => False
set_option maxRecDepth 20000 in
theorem ok_X9_ends : Ok yX9_ends mt_X9_ends P_X9_ends := by
  refine Ok.of (by decide) rfl rfl rfl rfl fun av ⟨S, I, L⟩ R hP => ?_
  unfold P_X9_ends at hP
  split at hP
  case h_2 => exact hP.elim
  rename_i k
  obtain ⟨k, rfl⟩ : ∃ q : Nat, q = k := ⟨k, rfl⟩
  refine ⟨by simp [ent, wide, mt_X9_ends], ?_⟩
  show J mt_X9_ends R 0 [some (.ref k)] [] (S, I, L)
  try dsimp only at hP
  obtain ⟨rfl, h1, a, ord, hs, ha, hor, hR⟩ := hP
  refine J.of tk_X9_ends 200 fun ρ hρ => ?_
  simp only [hρ, x_c, x_il, x_ll, x_al, x_is, x_as, x_ls, x_inc, x_ii, x_iq, x_i1, x_l2, x_lq, x_lh, x_i2l, x_l2i, x_lcmp, x_dup, x_dup2, x_pop, x_if, x_ifn, x_ic, x_icn, x_go, x_sw, swc, x_l01, x_mx, x_gI, x_gL, x_gR, x_pI, x_pZ, x_pL, x_pR, x_ia, x_za, x_aa, x_ias, x_zas, x_aas, x_fac, x_fa, x_slen, x_sa, x_ac, x_oi, x_new, x_na, x_cS, x_cV, x_cI, x_rI, x_rZ, x_rL, x_r0, pa, short, oc, lg, lset, lset2, wide, cond_true, cond_false, true_and, and_true, ↓reduceIte, Bool.false_eq_true, true_or, or_true, lf_X9_ends, h1, h1.1.f, h1.2.2.2.2.1, h1.2.2.2.2.1.f, P_X9_needs, P_X5_word]
  refine ⟨a, ord, hs, ha, hor, fun I' hf hs' => ⟨hs'.wdq (runA_ok ha), ?_⟩⟩
  rw [hs'.wd (runA_ok ha)]
  exact hR I' hf
/-- the best offset, of those below v, and the rounds that it needs -/
def bsA (a : AS) : Nat → Int32 × Int32
  | 0 => (-9, 21)
  | v + 1 => if ¬ (ndO (ofA a (nI v)) id).1 = -9 ∧ (ndO (ofA a (nI v)) id).1 < (bsA a v).2 then (nI v, (ndO (ofA a (nI v)) id).1) else bsA a v
def il_X9_best : List (Nat × Instr × Nat) := [(0, .bipush (-9), 2), (2, .istore_n 1, 1), (3, .bipush 21, 2), (5, .istore_n 2, 1), (6, .aload_n 0, 1), (7, .getfield 23, 3), (10, .aload_n 0, 1), (11, .getfield 19, 3), (14, .invokevirtual 219, 3), (17, .iconst 0, 1), (18, .istore_n 3, 1), (19, .iload_n 3, 1), (20, .bipush 9, 2), (22, .if_icmp .gt 48, 3), (25, .aload_n 0, 1), (26, .getfield 23, 3), (29, .iload_n 3, 1), (30, .putfield 104, 3), (33, .aload_n 0, 1), (34, .getfield 29, 3), (37, .aload_n 0, 1), (38, .getfield 23, 3), (41, .invokevirtual 256, 3), (44, .istore 4, 2), (46, .iload 4, 2), (48, .bipush (-9), 2), (50, .if_icmp .eq 14, 3), (53, .iload 4, 2), (55, .iload_n 2, 1), (56, .if_icmp .ge 8, 3), (59, .iload 4, 2), (61, .istore_n 2, 1), (62, .iload_n 3, 1), (63, .istore_n 1, 1), (64, .iinc 3 1, 3), (67, .goto (-48), 3), (70, .iload_n 1, 1), (71, .ireturn, 1)]
def mt_X9_best : Mt := (cX9_best, RX9, 5, (some .int), ({ frames := 4, cells := 0, slots := 0, locals := 100 } : Room), false, none, none)
set_option maxRecDepth 100000 in
theorem dl_X9_best : ∀ q ∈ il_X9_best, decode (mt_X9_best).1 q.1 = .ok q.2 := by decide +kernel
def tb_X9_best : Tb := [(0, x_c 2 (.int (-9)), false),
  (2, x_is 3 1, false),
  (3, x_c 5 (.int 21), false),
  (5, x_is 6 2, false),
  (6, x_al 7 0, false),
  (7, x_gR 9 2 10, false),
  (10, x_al 11 0, false),
  (11, x_gR 9 1 14, false),
  (14, x_cV 5 1 P_X5_becomeLike 17, false),
  (17, x_c 18 (.int 0), false),
  (18, x_is 19 3, false),
  (19, x_il 20 3, true),
  (20, x_c 22 (.int 9), false),
  (22, x_ic 70 25 (fun x y : Int32 => y < x), false),
  (25, x_al 26 0, false),
  (26, x_gR 9 2 29, false),
  (29, x_il 30 3, false),
  (30, x_pI 5 6 33, false),
  (33, x_al 34 0, false),
  (34, x_gR 9 3 37, false),
  (37, x_al 38 0, false),
  (38, x_gR 9 2 41, false),
  (41, x_cV 1 1 P_X1_runUntilSolved 44, false),
  (44, x_is 46 4, false),
  (46, x_il 48 4, false),
  (48, x_c 50 (.int (-9)), false),
  (50, x_ic 64 53 (fun x y : Int32 => x = y), false),
  (53, x_il 55 4, false),
  (55, x_il 56 2, false),
  (56, x_ic 64 59 (fun x y : Int32 => y ≤ x), false),
  (59, x_il 61 4, false),
  (61, x_is 62 2, false),
  (62, x_il 63 3, false),
  (63, x_is 64 1, false),
  (64, x_inc 67 3 1, false),
  (67, x_go 19, false),
  (70, x_il 71 1, false),
  (71, x_rI, false)]
set_option maxRecDepth 100000 in
theorem tk_X9_best : TbOk (mt_X9_best) (tb_X9_best) :=
  tkc (s_bipush (at_ dl_X9_best 0 (ins := .bipush (-9)) rfl) (by first | rfl | decide)) (
  tkc (s_istore_n (at_ dl_X9_best 1 (ins := .istore_n 1) rfl) (by decide)) (
  tkc (s_bipush (at_ dl_X9_best 2 (ins := .bipush 21) rfl) (by first | rfl | decide)) (
  tkc (s_istore_n (at_ dl_X9_best 3 (ins := .istore_n 2) rfl) (by decide)) (
  tkc (s_aload_n (at_ dl_X9_best 4 (ins := .aload_n 0) rfl)) (
  tkc (s_gR (at_ dl_X9_best 5 (ins := .getfield 23) rfl) (by decide) (by decide) (by decide) (tg 256 (by decide +kernel) (by decide +kernel))) (
  tkc (s_aload_n (at_ dl_X9_best 6 (ins := .aload_n 0) rfl)) (
  tkc (s_gR (at_ dl_X9_best 7 (ins := .getfield 19) rfl) (by decide) (by decide) (by decide) (tg 255 (by decide +kernel) (by decide +kernel))) (
  tkc (s_cV ok_X5_becomeLike (at_ dl_X9_best 8 (ins := .invokevirtual 219) rfl) (by decide) rfl (tg 443 (by decide +kernel) (by decide +kernel)) (tg 444 (by decide +kernel) (by decide +kernel)) (tg 445 (by decide +kernel) (by decide +kernel)) (tg 45 (by decide +kernel) (by decide +kernel)) (tg 446 (by decide +kernel) (by decide +kernel)) (⟨by decide, by decide, by decide +kernel⟩) (⟨by decide, by decide⟩) rfl rfl) (
  tkc (s_iconst (at_ dl_X9_best 9 (ins := .iconst 0) rfl) (by first | rfl | decide)) (
  tkc (s_istore_n (at_ dl_X9_best 10 (ins := .istore_n 3) rfl) (by decide)) (
  tkc (s_iload_n (at_ dl_X9_best 11 (ins := .iload_n 3) rfl)) (
  tkc (s_bipush (at_ dl_X9_best 12 (ins := .bipush 9) rfl) (by first | rfl | decide)) (
  tkc (s_ic_gt (at_ dl_X9_best 13 (ins := .if_icmp .gt 48) rfl) (by decide)) (
  tkc (s_aload_n (at_ dl_X9_best 14 (ins := .aload_n 0) rfl)) (
  tkc (s_gR (at_ dl_X9_best 15 (ins := .getfield 23) rfl) (by decide) (by decide) (by decide) (tg 256 (by decide +kernel) (by decide +kernel))) (
  tkc (s_iload_n (at_ dl_X9_best 16 (ins := .iload_n 3) rfl)) (
  tkc (s_pI (at_ dl_X9_best 17 (ins := .putfield 104) rfl) (by decide) (by decide) (by decide) (by decide) (tg 145 (by decide +kernel) (by decide +kernel))) (
  tkc (s_aload_n (at_ dl_X9_best 18 (ins := .aload_n 0) rfl)) (
  tkc (s_gR (at_ dl_X9_best 19 (ins := .getfield 29) rfl) (by decide) (by decide) (by decide) (tg 257 (by decide +kernel) (by decide +kernel))) (
  tkc (s_aload_n (at_ dl_X9_best 20 (ins := .aload_n 0) rfl)) (
  tkc (s_gR (at_ dl_X9_best 21 (ins := .getfield 23) rfl) (by decide) (by decide) (by decide) (tg 256 (by decide +kernel) (by decide +kernel))) (
  tkc (s_cV ok_X1_runUntilSolved (at_ dl_X9_best 22 (ins := .invokevirtual 256) rfl) (by decide) rfl (tg 447 (by decide +kernel) (by decide +kernel)) (tg 448 (by decide +kernel) (by decide +kernel)) (tg 449 (by decide +kernel) (by decide +kernel)) (tg 46 (by decide +kernel) (by decide +kernel)) (tg 450 (by decide +kernel) (by decide +kernel)) (⟨by decide, by decide, by decide +kernel⟩) (⟨by decide, by decide⟩) rfl rfl) (
  tkc (s_istore (at_ dl_X9_best 23 (ins := .istore 4) rfl) (by decide)) (
  tkc (s_iload (at_ dl_X9_best 24 (ins := .iload 4) rfl)) (
  tkc (s_bipush (at_ dl_X9_best 25 (ins := .bipush (-9)) rfl) (by first | rfl | decide)) (
  tkc (s_ic_eq (at_ dl_X9_best 26 (ins := .if_icmp .eq 14) rfl) (by decide)) (
  tkc (s_iload (at_ dl_X9_best 27 (ins := .iload 4) rfl)) (
  tkc (s_iload_n (at_ dl_X9_best 28 (ins := .iload_n 2) rfl)) (
  tkc (s_ic_ge (at_ dl_X9_best 29 (ins := .if_icmp .ge 8) rfl) (by decide)) (
  tkc (s_iload (at_ dl_X9_best 30 (ins := .iload 4) rfl)) (
  tkc (s_istore_n (at_ dl_X9_best 31 (ins := .istore_n 2) rfl) (by decide)) (
  tkc (s_iload_n (at_ dl_X9_best 32 (ins := .iload_n 3) rfl)) (
  tkc (s_istore_n (at_ dl_X9_best 33 (ins := .istore_n 1) rfl) (by decide)) (
  tkc (s_iinc (at_ dl_X9_best 34 (ins := .iinc 3 1) rfl) (by decide) (by first | rfl | decide)) (
  tkc (s_goto (at_ dl_X9_best 35 (ins := .goto (-48)) rfl) (by decide)) (
  tkc (s_iload_n (at_ dl_X9_best 36 (ins := .iload_n 1) rfl)) (
  tkc (s_rI (at_ dl_X9_best 37 (ins := .ireturn) rfl) rfl) ( tk0))))))))))))))))))))))))))))))))))))))
theorem lf_X9_best : lk (tb_X9_best) 0 = (x_c 2 (.int (-9)), false) ∧ lk (tb_X9_best) 2 = (x_is 3 1, false) ∧ lk (tb_X9_best) 3 = (x_c 5 (.int 21), false) ∧ lk (tb_X9_best) 5 = (x_is 6 2, false) ∧ lk (tb_X9_best) 6 = (x_al 7 0, false) ∧ lk (tb_X9_best) 7 = (x_gR 9 2 10, false) ∧ lk (tb_X9_best) 10 = (x_al 11 0, false) ∧ lk (tb_X9_best) 11 = (x_gR 9 1 14, false) ∧ lk (tb_X9_best) 14 = (x_cV 5 1 P_X5_becomeLike 17, false) ∧ lk (tb_X9_best) 17 = (x_c 18 (.int 0), false) ∧ lk (tb_X9_best) 18 = (x_is 19 3, false) ∧ lk (tb_X9_best) 19 = (x_il 20 3, true) ∧ lk (tb_X9_best) 20 = (x_c 22 (.int 9), false) ∧ lk (tb_X9_best) 22 = (x_ic 70 25 (fun x y : Int32 => y < x), false) ∧ lk (tb_X9_best) 25 = (x_al 26 0, false) ∧ lk (tb_X9_best) 26 = (x_gR 9 2 29, false) ∧ lk (tb_X9_best) 29 = (x_il 30 3, false) ∧ lk (tb_X9_best) 30 = (x_pI 5 6 33, false) ∧ lk (tb_X9_best) 33 = (x_al 34 0, false) ∧ lk (tb_X9_best) 34 = (x_gR 9 3 37, false) ∧ lk (tb_X9_best) 37 = (x_al 38 0, false) ∧ lk (tb_X9_best) 38 = (x_gR 9 2 41, false) ∧ lk (tb_X9_best) 41 = (x_cV 1 1 P_X1_runUntilSolved 44, false) ∧ lk (tb_X9_best) 44 = (x_is 46 4, false) ∧ lk (tb_X9_best) 46 = (x_il 48 4, false) ∧ lk (tb_X9_best) 48 = (x_c 50 (.int (-9)), false) ∧ lk (tb_X9_best) 50 = (x_ic 64 53 (fun x y : Int32 => x = y), false) ∧ lk (tb_X9_best) 53 = (x_il 55 4, false) ∧ lk (tb_X9_best) 55 = (x_il 56 2, false) ∧ lk (tb_X9_best) 56 = (x_ic 64 59 (fun x y : Int32 => y ≤ x), false) ∧ lk (tb_X9_best) 59 = (x_il 61 4, false) ∧ lk (tb_X9_best) 61 = (x_is 62 2, false) ∧ lk (tb_X9_best) 62 = (x_il 63 3, false) ∧ lk (tb_X9_best) 63 = (x_is 64 1, false) ∧ lk (tb_X9_best) 64 = (x_inc 67 3 1, false) ∧ lk (tb_X9_best) 67 = (x_go 19, false) ∧ lk (tb_X9_best) 70 = (x_il 71 1, false) ∧ lk (tb_X9_best) 71 = (x_rI, false) := ⟨rfl, rfl, rfl, rfl, rfl, rfl, rfl, rfl, rfl, rfl, rfl, rfl, rfl, rfl, rfl, rfl, rfl, rfl, rfl, rfl, rfl, rfl, rfl, rfl, rfl, rfl, rfl, rfl, rfl, rfl, rfl, rfl, rfl, rfl, rfl, rfl, rfl, rfl⟩
def P_X9_best : PTT := fun as M R => match as with
  | [.ref k] => k = 0 ∧ IsCl M.1 ∧ ∃ a, SR M.2.1 5 a ∧ AOk a ∧ OrdId M.2.1 ∧ ∀ I', frS M.2.1 I' → R (some (.int (bsA a 10).1)) (M.1, I', M.2.2)
  | _ => False
set_option maxRecDepth 20000 in
theorem ok_X9_best : Ok yX9_best mt_X9_best P_X9_best := by
  refine Ok.of (by decide) rfl rfl rfl rfl fun av ⟨S, I, L⟩ R hP => ?_
  unfold P_X9_best at hP
  split at hP
  case h_2 => exact hP.elim
  rename_i k
  obtain ⟨k, rfl⟩ : ∃ q : Nat, q = k := ⟨k, rfl⟩
  refine ⟨by simp [ent, wide, mt_X9_best], ?_⟩
  show J mt_X9_best R 0 [some (.ref k), none, none, none, none] [] (S, I, L)
  try dsimp only at hP
  obtain ⟨rfl, h1, a, hs, ha, hor, hR⟩ := hP
  have hap : apart5 10 5 := Or.inr (by omega)
  have ha15 : ap15 10 := Or.inl (by omega)
  have key := up (P := fun v => ∀ I' o r d, frS I I' → DSok d → SR I' 10 (a.1, a.2.1, o, r, a.2.2.2.2.1, a.2.2.2.2.2.1, d) → J mt_X9_best R 19 [some (.ref 0), some (.int (bsA a v).1), some (.int (bsA a v).2), some (.int (nI v)), none] [] (S, I', L)) (n := 10) (fun v hv ih I' o r d hf hd hs' => ?_) 0 (Nat.zero_le _) (cpI I 10 5) a.2.2.1 a.2.2.2.1 a.2.2.2.2.2.2 (fun q a b c d e f => cpI_fr (by omega)) ha.2.2.2.2 (hs.cpI ha.1.2.2)
  · refine J.of tk_X9_best 200 fun ρ hρ => ?_
    simp only [hρ, x_c, x_il, x_ll, x_al, x_is, x_as, x_ls, x_inc, x_ii, x_iq, x_i1, x_l2, x_lq, x_lh, x_i2l, x_l2i, x_lcmp, x_dup, x_dup2, x_pop, x_if, x_ifn, x_ic, x_icn, x_go, x_sw, swc, x_l01, x_mx, x_gI, x_gL, x_gR, x_pI, x_pZ, x_pL, x_pR, x_ia, x_za, x_aa, x_ias, x_zas, x_aas, x_fac, x_fa, x_slen, x_sa, x_ac, x_oi, x_new, x_na, x_cS, x_cV, x_cI, x_rI, x_rZ, x_rL, x_r0, pa, short, oc, lg, lset, lset2, wide, cond_true, cond_false, true_and, and_true, ↓reduceIte, Bool.false_eq_true, true_or, or_true, lf_X9_best, h1.1.f, h1.2.2.2.1, h1.2.2.2.1.f, h1.2.2.2.2.1, h1.2.2.2.2.1.f, hap, P_X5_becomeLike]
    exact key
  by_cases hlt : v < 10
  · have h9v : (9 : Int32) < nI v ↔ 9 < v := by rw [nI9]; exact nI_ltI (by omega) (by omega)
    refine J.of tk_X9_best 200 fun ρ hρ => ?_
    simp only [hρ, x_c, x_il, x_ll, x_al, x_is, x_as, x_ls, x_inc, x_ii, x_iq, x_i1, x_l2, x_lq, x_lh, x_i2l, x_l2i, x_lcmp, x_dup, x_dup2, x_pop, x_if, x_ifn, x_ic, x_icn, x_go, x_sw, swc, x_l01, x_mx, x_gI, x_gL, x_gR, x_pI, x_pZ, x_pL, x_pR, x_ia, x_za, x_aa, x_ias, x_zas, x_aas, x_fac, x_fa, x_slen, x_sa, x_ac, x_oi, x_new, x_na, x_cS, x_cV, x_cI, x_rI, x_rZ, x_rL, x_r0, pa, short, oc, lg, lset, lset2, wide, cond_true, cond_false, true_and, and_true, ↓reduceIte, Bool.false_eq_true, true_or, or_true, lf_X9_best, h1.1.f, h1.2.2.2.2.1, h1.2.2.2.2.1.f, h1.2.2.2.2.2.1, h1.2.2.2.2.2.1.f, ha15, P_X1_runUntilSolved, h9v, nI_1, Classical.not_not]
    refine ⟨fun h => absurd h (by omega), fun _ => ?_⟩
    have ha' : AOk (a.1, a.2.1, nI v, r, a.2.2.2.2.1, a.2.2.2.2.2.1, d) := ⟨ha.1, ha.2.1, ⟨v, by omega, rfl⟩, ha.2.2.2.1, hd⟩
    have hsv : SR (mS I' 10 (upd (I' 10) 6 (nI v))) 10 (a.1, a.2.1, nI v, r, a.2.2.2.2.1, a.2.2.2.2.2.1, d) := hs'.of
    have hor' : OrdO (mS I' 10 (upd (I' 10) 6 (nI v))) (aM a) id := (hor.O ha.1.2.2).fr (by rw [mS_n (by omega)]; exact hf 16 (by omega) (by omega) (by omega) (by omega) (by omega) (by omega))
    refine run10 hsv ha' hor' (Q := fun I2 nd => (nd = -9 → J mt_X9_best R 19 [some (.ref 0), some (.int (bsA a v).1), some (.int (bsA a v).2), some (.int (nI (v + 1))), some (.int nd)] [] (S, I2, L)) ∧ (¬ nd = -9 → ((bsA a v).2 ≤ nd → J mt_X9_best R 19 [some (.ref 0), some (.int (bsA a v).1), some (.int (bsA a v).2), some (.int (nI (v + 1))), some (.int nd)] [] (S, I2, L)) ∧ (¬ (bsA a v).2 ≤ nd → J mt_X9_best R 19 [some (.ref 0), some (.int (nI v)), some (.int nd), some (.int (nI (v + 1))), some (.int nd)] [] (S, I2, L)))) fun I2 g1 g2 => ?_
    have hf2 : frS I I2 := hf.trans (frS.trans (fun q a b c d e f => mS_n (by omega)) g1.S)
    have := ih hlt I2 _ _ _ hf2 (runA_ok ha' (ord := id)).2.2.2.2 g2
    rw [show ndO (a.1, a.2.1, nI v, r, a.2.2.2.2.1, a.2.2.2.2.2.1, d) id = ndO (ofA a (nI v)) id from rfl]
    refine ⟨fun h => ?_, fun h => ⟨fun h' => ?_, fun h' => ?_⟩⟩
    · rw [bsA, if_neg (fun q => q.1 h)] at this
      exact J.weak (by simp [lsub]) this
    · rw [bsA, if_neg (fun q => absurd h' (Int32.not_le.mpr q.2))] at this
      exact J.weak (by simp [lsub]) this
    · rw [bsA, if_pos ⟨h, Int32.not_le.mp h'⟩] at this
      exact J.weak (by simp [lsub]) this
  · have : v = 10 := by omega
    subst this
    have h10 : (9 : Int32) < nI 10 ↔ True := by decide
    refine J.of tk_X9_best 200 fun ρ hρ => ?_
    simp only [hρ, x_c, x_il, x_ll, x_al, x_is, x_as, x_ls, x_inc, x_ii, x_iq, x_i1, x_l2, x_lq, x_lh, x_i2l, x_l2i, x_lcmp, x_dup, x_dup2, x_pop, x_if, x_ifn, x_ic, x_icn, x_go, x_sw, swc, x_l01, x_mx, x_gI, x_gL, x_gR, x_pI, x_pZ, x_pL, x_pR, x_ia, x_za, x_aa, x_ias, x_zas, x_aas, x_fac, x_fa, x_slen, x_sa, x_ac, x_oi, x_new, x_na, x_cS, x_cV, x_cI, x_rI, x_rZ, x_rL, x_r0, pa, short, oc, lg, lset, lset2, wide, cond_true, cond_false, true_and, and_true, ↓reduceIte, Bool.false_eq_true, true_or, or_true, lf_X9_best, h10, true_implies, not_true_eq_false, false_implies]
    exact hR I' hf
/-- traps -/
def gTraps (g : GS) (x y w : Int32) : Int32 := if (x < 1 ∨ nI (aN (gA g)) < x) ∨ y < 0 ∨ ¬ y ≤ 6 then -2 else if w = 0 then nI (cnB (tpB (aV (gA g)) (aM (gA g)) x y) (2 ^ aN (gA g))) else if w = 1 then lsB (tpB (aV (gA g)) (aM (gA g)) x y) (2 ^ aN (gA g)) else -2
def il_X9_traps : List (Nat × Instr × Nat) := [(0, .iload_n 1, 1), (1, .iconst 1, 1), (2, .if_icmp .lt 24, 3), (5, .iload_n 1, 1), (6, .aload_n 0, 1), (7, .getfield 19, 3), (10, .getfield 101, 3), (13, .if_icmp .gt 13, 3), (16, .iload_n 2, 1), (17, .ifCond .lt 9, 3), (20, .iload_n 2, 1), (21, .bipush 6, 2), (23, .if_icmp .le 6, 3), (26, .bipush (-2), 2), (28, .ireturn, 1), (29, .iload_n 3, 1), (30, .lookupswitch 46 #[(0, 26), (1, 36)], 26), (56, .aload_n 0, 1), (57, .getfield 45, 3), (60, .iload_n 1, 1), (61, .iload_n 2, 1), (62, .invokevirtual 200, 3), (65, .ireturn, 1), (66, .aload_n 0, 1), (67, .getfield 45, 3), (70, .iload_n 1, 1), (71, .iload_n 2, 1), (72, .invokevirtual 204, 3), (75, .ireturn, 1), (76, .bipush (-2), 2), (78, .ireturn, 1)]
def mt_X9_traps : Mt := (cX9_traps, RX9, 4, (some .int), ({ frames := 4, cells := 0, slots := 0, locals := 90 } : Room), false, none, none)
set_option maxRecDepth 100000 in
theorem dl_X9_traps : ∀ q ∈ il_X9_traps, decode (mt_X9_traps).1 q.1 = .ok q.2 := by decide +kernel
def tb_X9_traps : Tb := [(0, x_il 1 1, false),
  (1, x_c 2 (.int 1), false),
  (2, x_ic 26 5 (fun x y : Int32 => x < y), false),
  (5, x_il 6 1, false),
  (6, x_al 7 0, false),
  (7, x_gR 9 1 10, false),
  (10, x_gI 5 4 13, false),
  (13, x_ic 26 16 (fun x y : Int32 => y < x), false),
  (16, x_il 17 2, false),
  (17, x_if 26 20 (fun x : Int32 => x < 0), false),
  (20, x_il 21 2, false),
  (21, x_c 23 (.int 6), false),
  (23, x_ic 29 26 (fun x y : Int32 => x ≤ y), false),
  (26, x_c 28 (.int (-2)), false),
  (28, x_rI, false),
  (29, x_il 30 3, false),
  (30, x_l01 56 66 76, false),
  (56, x_al 57 0, false),
  (57, x_gR 9 5 60, false),
  (60, x_il 61 1, false),
  (61, x_il 62 2, false),
  (62, x_cV 6 2 P_X6_howManyTraps 65, false),
  (65, x_rI, false),
  (66, x_al 67 0, false),
  (67, x_gR 9 5 70, false),
  (70, x_il 71 1, false),
  (71, x_il 72 2, false),
  (72, x_cV 6 2 P_X6_leastTrap 75, false),
  (75, x_rI, false),
  (76, x_c 78 (.int (-2)), false),
  (78, x_rI, false)]
set_option maxRecDepth 100000 in
theorem tk_X9_traps : TbOk (mt_X9_traps) (tb_X9_traps) :=
  tkc (s_iload_n (at_ dl_X9_traps 0 (ins := .iload_n 1) rfl)) (
  tkc (s_iconst (at_ dl_X9_traps 1 (ins := .iconst 1) rfl) (by first | rfl | decide)) (
  tkc (s_ic_lt (at_ dl_X9_traps 2 (ins := .if_icmp .lt 24) rfl) (by decide)) (
  tkc (s_iload_n (at_ dl_X9_traps 3 (ins := .iload_n 1) rfl)) (
  tkc (s_aload_n (at_ dl_X9_traps 4 (ins := .aload_n 0) rfl)) (
  tkc (s_gR (at_ dl_X9_traps 5 (ins := .getfield 19) rfl) (by decide) (by decide) (by decide) (tg 255 (by decide +kernel) (by decide +kernel))) (
  tkc (s_gI (at_ dl_X9_traps 6 (ins := .getfield 101) rfl) (by decide) (by decide) (by decide) (tg 137 (by decide +kernel) (by decide +kernel))) (
  tkc (s_ic_gt (at_ dl_X9_traps 7 (ins := .if_icmp .gt 13) rfl) (by decide)) (
  tkc (s_iload_n (at_ dl_X9_traps 8 (ins := .iload_n 2) rfl)) (
  tkc (s_if_lt (at_ dl_X9_traps 9 (ins := .ifCond .lt 9) rfl) (by decide)) (
  tkc (s_iload_n (at_ dl_X9_traps 10 (ins := .iload_n 2) rfl)) (
  tkc (s_bipush (at_ dl_X9_traps 11 (ins := .bipush 6) rfl) (by first | rfl | decide)) (
  tkc (s_ic_le (at_ dl_X9_traps 12 (ins := .if_icmp .le 6) rfl) (by decide)) (
  tkc (s_bipush (at_ dl_X9_traps 13 (ins := .bipush (-2)) rfl) (by first | rfl | decide)) (
  tkc (s_rI (at_ dl_X9_traps 14 (ins := .ireturn) rfl) rfl) (
  tkc (s_iload_n (at_ dl_X9_traps 15 (ins := .iload_n 3) rfl)) (
  tkc (s_l01 (at_ dl_X9_traps 16 (ins := .lookupswitch 46 #[(0, 26), (1, 36)]) rfl) (by decide) (by decide) (by decide)) (
  tkc (s_aload_n (at_ dl_X9_traps 17 (ins := .aload_n 0) rfl)) (
  tkc (s_gR (at_ dl_X9_traps 18 (ins := .getfield 45) rfl) (by decide) (by decide) (by decide) (tg 259 (by decide +kernel) (by decide +kernel))) (
  tkc (s_iload_n (at_ dl_X9_traps 19 (ins := .iload_n 1) rfl)) (
  tkc (s_iload_n (at_ dl_X9_traps 20 (ins := .iload_n 2) rfl)) (
  tkc (s_cV ok_X6_howManyTraps (at_ dl_X9_traps 21 (ins := .invokevirtual 200) rfl) (by decide) rfl (tg 553 (by decide +kernel) (by decide +kernel)) (tg 554 (by decide +kernel) (by decide +kernel)) (tg 555 (by decide +kernel) (by decide +kernel)) (tg 48 (by decide +kernel) (by decide +kernel)) (tg 556 (by decide +kernel) (by decide +kernel)) (⟨by decide, by decide, by decide +kernel⟩) (⟨by decide, by decide⟩) rfl rfl) (
  tkc (s_rI (at_ dl_X9_traps 22 (ins := .ireturn) rfl) rfl) (
  tkc (s_aload_n (at_ dl_X9_traps 23 (ins := .aload_n 0) rfl)) (
  tkc (s_gR (at_ dl_X9_traps 24 (ins := .getfield 45) rfl) (by decide) (by decide) (by decide) (tg 259 (by decide +kernel) (by decide +kernel))) (
  tkc (s_iload_n (at_ dl_X9_traps 25 (ins := .iload_n 1) rfl)) (
  tkc (s_iload_n (at_ dl_X9_traps 26 (ins := .iload_n 2) rfl)) (
  tkc (s_cV ok_X6_leastTrap (at_ dl_X9_traps 27 (ins := .invokevirtual 204) rfl) (by decide) rfl (tg 561 (by decide +kernel) (by decide +kernel)) (tg 562 (by decide +kernel) (by decide +kernel)) (tg 563 (by decide +kernel) (by decide +kernel)) (tg 48 (by decide +kernel) (by decide +kernel)) (tg 564 (by decide +kernel) (by decide +kernel)) (⟨by decide, by decide, by decide +kernel⟩) (⟨by decide, by decide⟩) rfl rfl) (
  tkc (s_rI (at_ dl_X9_traps 28 (ins := .ireturn) rfl) rfl) (
  tkc (s_bipush (at_ dl_X9_traps 29 (ins := .bipush (-2)) rfl) (by first | rfl | decide)) (
  tkc (s_rI (at_ dl_X9_traps 30 (ins := .ireturn) rfl) rfl) ( tk0)))))))))))))))))))))))))))))))
theorem lf_X9_traps : lk (tb_X9_traps) 0 = (x_il 1 1, false) ∧ lk (tb_X9_traps) 1 = (x_c 2 (.int 1), false) ∧ lk (tb_X9_traps) 2 = (x_ic 26 5 (fun x y : Int32 => x < y), false) ∧ lk (tb_X9_traps) 5 = (x_il 6 1, false) ∧ lk (tb_X9_traps) 6 = (x_al 7 0, false) ∧ lk (tb_X9_traps) 7 = (x_gR 9 1 10, false) ∧ lk (tb_X9_traps) 10 = (x_gI 5 4 13, false) ∧ lk (tb_X9_traps) 13 = (x_ic 26 16 (fun x y : Int32 => y < x), false) ∧ lk (tb_X9_traps) 16 = (x_il 17 2, false) ∧ lk (tb_X9_traps) 17 = (x_if 26 20 (fun x : Int32 => x < 0), false) ∧ lk (tb_X9_traps) 20 = (x_il 21 2, false) ∧ lk (tb_X9_traps) 21 = (x_c 23 (.int 6), false) ∧ lk (tb_X9_traps) 23 = (x_ic 29 26 (fun x y : Int32 => x ≤ y), false) ∧ lk (tb_X9_traps) 26 = (x_c 28 (.int (-2)), false) ∧ lk (tb_X9_traps) 28 = (x_rI, false) ∧ lk (tb_X9_traps) 29 = (x_il 30 3, false) ∧ lk (tb_X9_traps) 30 = (x_l01 56 66 76, false) ∧ lk (tb_X9_traps) 56 = (x_al 57 0, false) ∧ lk (tb_X9_traps) 57 = (x_gR 9 5 60, false) ∧ lk (tb_X9_traps) 60 = (x_il 61 1, false) ∧ lk (tb_X9_traps) 61 = (x_il 62 2, false) ∧ lk (tb_X9_traps) 62 = (x_cV 6 2 P_X6_howManyTraps 65, false) ∧ lk (tb_X9_traps) 65 = (x_rI, false) ∧ lk (tb_X9_traps) 66 = (x_al 67 0, false) ∧ lk (tb_X9_traps) 67 = (x_gR 9 5 70, false) ∧ lk (tb_X9_traps) 70 = (x_il 71 1, false) ∧ lk (tb_X9_traps) 71 = (x_il 72 2, false) ∧ lk (tb_X9_traps) 72 = (x_cV 6 2 P_X6_leastTrap 75, false) ∧ lk (tb_X9_traps) 75 = (x_rI, false) ∧ lk (tb_X9_traps) 76 = (x_c 78 (.int (-2)), false) ∧ lk (tb_X9_traps) 78 = (x_rI, false) := ⟨rfl, rfl, rfl, rfl, rfl, rfl, rfl, rfl, rfl, rfl, rfl, rfl, rfl, rfl, rfl, rfl, rfl, rfl, rfl, rfl, rfl, rfl, rfl, rfl, rfl, rfl, rfl, rfl, rfl, rfl, rfl⟩
def P_X9_traps : PTT := fun as M R => match as with
  | [.ref k, .int x, .int y, .int w] => k = 0 ∧ ∃ g, CR M.1 M.2.1 M.2.2 g ∧ GOk g ∧ Ans M R (gTraps g x y w) g
  | _ => False
set_option maxRecDepth 20000 in
theorem ok_X9_traps : Ok yX9_traps mt_X9_traps P_X9_traps := by
  refine Ok.of (by decide) rfl rfl rfl rfl fun av ⟨S, I, L⟩ R hP => ?_
  unfold P_X9_traps at hP
  split at hP
  case h_2 => exact hP.elim
  rename_i k x y w
  obtain ⟨k, rfl⟩ : ∃ q : Nat, q = k := ⟨k, rfl⟩
  refine ⟨by simp [ent, wide, mt_X9_traps], ?_⟩
  show J mt_X9_traps R 0 [some (.ref k), some (.int x), some (.int y), some (.int w)] [] (S, I, L)
  try dsimp only at hP
  obtain ⟨rfl, g, hc, ho, hA⟩ := hP
  have h1 := hc.1
  have en : I 5 4 = nI (aN (gA g)) := hc.2.2.1.1
  have hfin : ∀ v, gTraps g x y w = v → R (some (.int v)) (S, I, L) := fun v hv => (hv ▸ hA).s hc
  have hbad : ((x < 1 ∨ nI (aN (gA g)) < x) ∨ y < 0 ∨ ¬ y ≤ 6) → R (some (.int (-2))) (S, I, L) := fun h => hfin _ (if_pos h)
  refine J.of tk_X9_traps 200 fun ρ hρ => ?_
  simp only [hρ, x_c, x_il, x_ll, x_al, x_is, x_as, x_ls, x_inc, x_ii, x_iq, x_i1, x_l2, x_lq, x_lh, x_i2l, x_l2i, x_lcmp, x_dup, x_dup2, x_pop, x_if, x_ifn, x_ic, x_icn, x_go, x_sw, swc, x_l01, x_mx, x_gI, x_gL, x_gR, x_pI, x_pZ, x_pL, x_pR, x_ia, x_za, x_aa, x_ias, x_zas, x_aas, x_fac, x_fa, x_slen, x_sa, x_ac, x_oi, x_new, x_na, x_cS, x_cV, x_cI, x_rI, x_rZ, x_rL, x_r0, pa, short, oc, lg, lset, lset2, wide, cond_true, cond_false, true_and, and_true, ↓reduceIte, Bool.false_eq_true, true_or, or_true, lf_X9_traps, h1.1.f, hc.ac, hc.ac.2.f, h1.2.2.2.2.2.2.2.1, h1.2.2.2.2.2.2.2.1.f, P_X6_howManyTraps, P_X6_leastTrap, en, Classical.not_not]
  refine ⟨fun h => hbad (.inl (.inl h)), fun q1 => ⟨fun h => hbad (.inl (.inr h)), fun q2 => ⟨fun h => hbad (.inr (.inl h)), fun q3 => ⟨fun q4 => ?_, fun h => hbad (.inr (.inr h))⟩⟩⟩⟩
  have hno : ¬ ((x < 1 ∨ nI (aN (gA g)) < x) ∨ y < 0 ∨ ¬ y ≤ 6) := fun q => q.elim (fun q => q.elim q1 q2) (fun q => q.elim q3 (fun r => r q4))
  refine ⟨fun h => ⟨gA g, hc.2.2.1, ho.2.1, hfin _ (by rw [gTraps, if_neg hno, if_pos h])⟩, fun h => ⟨gA g, hc.2.2.1, ho.2.1, hfin _ (by rw [gTraps, if_neg hno, if_neg (by rw [h]; decide), if_pos h])⟩, fun h h' => hfin _ (by rw [gTraps, if_neg hno, if_neg h, if_neg h'])⟩
