/-! DECODER: rounds -/
theorem foI_r {I : MI} {Q : Nat → Int32} {s n q : Nat} (h : q ≠ 15) (h' : q ≠ 17) : foI I Q s n q = I q := by
  unfold foI; rw [mS_n h, mS_n h']
theorem smI_r {I : MI} {k s f n q : Nat} {sg : Int32} (h : q ≠ k + 3) (h' : q ≠ k + 4) : smI I k s f n sg q = I q := by
  unfold smI; rw [mS_n h', mS_n h]
/-- one check, as the class does it -/
def ckI (I : MI) (k s c n : Nat) : MI := smI (foI I (Qv I k (9 * c)) s n) k s (9 * c) n (foS (Qv I k (9 * c)) s n).2.2.2
theorem ck_sn {I : MI} {k s c n b : Nat} (hj : k + 5 ≤ 15 ∨ 18 ≤ k) (hn : n ≤ 9) (hb : b < n) (hs : s.testBit b = true) : snI (foI I (Qv I k (9 * c)) s n) k (foS (Qv I k (9 * c)) s n).2.2.2 b = nmS (Qv I k (9 * c)) s b n (I k 6) := by
  have e1 : foI I (Qv I k (9 * c)) s n 15 2 = (foS (Qv I k (9 * c)) s n).1 := by simp [foI, mS_s, upd_app]
  have e2 : foI I (Qv I k (9 * c)) s n 15 3 = (foS (Qv I k (9 * c)) s n).2.1 := by simp [foI, mS_s, upd_app]
  have e3 : foI I (Qv I k (9 * c)) s n 15 4 = (foS (Qv I k (9 * c)) s n).2.2.1 := by simp [foI, mS_s, upd_app]
  have e4 : foI I (Qv I k (9 * c)) s n k = I k := foI_r (by omega) (by omega)
  have e5 : foI I (Qv I k (9 * c)) s n 17 b = Qv I k (9 * c) b := by simp [foI, mS_app, qr, hb, hs]
  unfold snI
  rw [e1, e2, e3, e4]
  exact sN_nm hn hb hs e5
theorem ck_D {I : MI} {k s c n : Nat} (hj : k + 5 ≤ 15 ∨ 18 ≤ k) (hn : n ≤ 9) (hT : ∀ b, b < 9 → inR 99 (I (k + 3) b)) : (ckI I k s c n (k + 3), ckI I k s c n (k + 4)) = stpD n (I k 6) s c (I (k + 3), I (k + 4)) := by
  have e3 : foI I (Qv I k (9 * c)) s n (k + 3) = I (k + 3) := foI_r (by omega) (by omega)
  have e4 : foI I (Qv I k (9 * c)) s n (k + 4) = I (k + 4) := foI_r (by omega) (by omega)
  have hQ : QD (I (k + 3), I (k + 4)) c = Qv I k (9 * c) := rfl
  unfold stpD
  rw [hQ]
  refine Prod.ext ?_ ?_
  · funext b
    show ckI I k s c n (k + 3) b = _
    unfold ckI smI
    rw [mS_n (by omega), mS_s, e3, e4]
    simp only [smT]
    by_cases hb : b < n ∧ s.testBit b = true
    · rw [if_pos hb]
      have sn := ck_sn (I := I) (c := c) hj hn hb.1 hb.2
      have hq : foI I (Qv I k (9 * c)) s n 17 b = Qv I k (9 * c) b := by simp [foI, mS_app, qr, hb]
      rw [sn, hq]
      by_cases hm : I (k + 4) (9 * c + b) = nmS (Qv I k (9 * c)) s b n (I k 6)
      · rw [if_neg (fun z => z.2.2 hm), ← hm]
        have : Qv I k (9 * c) b + I (k + 4) (9 * c + b) = I (k + 3) b := Int32.sub_add_cancel _ _
        rw [this, hld_id (hT b (by omega))]
      · rw [if_pos ⟨hb.1, hb.2, hm⟩]
    · rw [if_neg hb, if_neg (fun z => hb ⟨z.1, z.2.1⟩)]
  · funext j
    show ckI I k s c n (k + 4) j = _
    unfold ckI smI
    rw [mS_s, e4]
    simp only [smM]
    by_cases hb : 9 * c ≤ j ∧ j < 9 * c + n ∧ s.testBit (j - 9 * c) = true
    · rw [if_pos hb, if_pos hb, ck_sn hj hn (by omega) hb.2.2]
    · rw [if_neg hb, if_neg hb]
theorem chg_z {mu sn : Nat → Int32} {s f : Nat} : ∀ {i : Nat}, chg mu sn s f i = 0 → ∀ b, b < i → s.testBit b = true → mu (f + b) = sn b
  | 0, _, b, hb, _ => by omega
  | i + 1, h, b, hb, hs => by
    simp only [chg] at h
    split at h
    · exact absurd h (by decide)
    · next hn =>
      by_cases e : b = i
      · subst e; exact Classical.not_not.mp (fun z => hn ⟨hs, z⟩)
      · exact chg_z h b (by omega) hs
/-- the flag of one check -/
def ckF (I : MI) (k s c n : Nat) : Int32 := chg (foI I (Qv I k (9 * c)) s n (k + 4)) (snI (foI I (Qv I k (9 * c)) s n) k (foS (Qv I k (9 * c)) s n).2.2.2) s (9 * c) n
theorem ck_z {I : MI} {k s c n : Nat} (hj : k + 5 ≤ 15 ∨ 18 ≤ k) (h : ckF I k s c n = 0) : ckI I k s c n (k + 3) = I (k + 3) ∧ ckI I k s c n (k + 4) = I (k + 4) := by
  have e3 : foI I (Qv I k (9 * c)) s n (k + 3) = I (k + 3) := foI_r (by omega) (by omega)
  have e4 : foI I (Qv I k (9 * c)) s n (k + 4) = I (k + 4) := foI_r (by omega) (by omega)
  have hz := chg_z h
  constructor
  · funext b
    unfold ckI smI
    rw [mS_n (by omega), mS_s, e3]
    simp only [smT]
    rw [if_neg (fun z => z.2.2 (hz b z.1 z.2.1))]
  · funext j
    unfold ckI smI
    rw [mS_s, e4]
    simp only [smM]
    split
    · next hb =>
      have := hz (j - 9 * c) (by omega) hb.2.2
      rw [e4, show 9 * c + (j - 9 * c) = j by omega] at this
      exact this.symm
    · rfl
theorem ck_fr {I : MI} {k s c n q : Nat} (h3 : q ≠ k + 3) (h4 : q ≠ k + 4) (h15 : q ≠ 15) (h17 : q ≠ 17) : ckI I k s c n q = I q := by
  unfold ckI; rw [smI_r h3 h4, foI_r h15 h17]
/-- the order of checks at 16 -/
def OrdV (I : MI) (m : Nat) : Prop := ∀ i, i < m → tn (I 16 i) < m
def ordI (I : MI) : Nat → Nat := fun i => tn (I 16 i)
/-- nothing but a state's totals and messages, and the decoder's own places, is another -/
def frD (k : Nat) (I I' : MI) : Prop := ∀ q, q ≠ k + 3 → q ≠ k + 4 → q ≠ 15 → q ≠ 17 → I' q = I q
def il_X1_runRound : List (Nat × Instr × Nat) := [(0, .iconst 0, 1), (1, .istore_n 2, 1), (2, .iconst 0, 1), (3, .istore_n 3, 1), (4, .iload_n 3, 1), (5, .aload_n 1, 1), (6, .getfield 38, 3), (9, .if_icmp .ge 58, 3), (12, .aload_n 0, 1), (13, .getfield 9, 3), (16, .iload_n 3, 1), (17, .iaload, 1), (18, .istore 4, 2), (20, .aload_n 0, 1), (21, .aload_n 1, 1), (22, .aload_n 1, 1), (23, .getfield 41, 3), (26, .iload 4, 2), (28, .iaload, 1), (29, .iload 4, 2), (31, .bipush 9, 2), (33, .imul, 1), (34, .invokevirtual 44, 3), (37, .istore 5, 2), (39, .iload_n 2, 1), (40, .aload_n 0, 1), (41, .aload_n 1, 1), (42, .aload_n 1, 1), (43, .getfield 41, 3), (46, .iload 4, 2), (48, .iaload, 1), (49, .iload 4, 2), (51, .bipush 9, 2), (53, .imul, 1), (54, .iload 5, 2), (56, .invokevirtual 48, 3), (59, .ior, 1), (60, .istore_n 2, 1), (61, .iinc 3 1, 3), (64, .goto (-60), 3), (67, .iload_n 2, 1), (68, .ireturn, 1)]
def mt_X1_runRound : Mt := (cX1_runRound, RX1, 6, (some .boolean), ({ frames := 2, cells := 0, slots := 0, locals := 52 } : Room), false, none, none)
set_option maxRecDepth 100000 in
theorem dl_X1_runRound : ∀ q ∈ il_X1_runRound, decode (mt_X1_runRound).1 q.1 = .ok q.2 := by decide +kernel
def tb_X1_runRound : Tb := [(0, x_c 1 (.int 0), false),
  (1, x_is 2 2, false),
  (2, x_c 3 (.int 0), false),
  (3, x_is 4 3, false),
  (4, x_il 5 3, true),
  (5, x_al 6 1, false),
  (6, x_gI 5 5 9, false),
  (9, x_ic 67 12 (fun x y : Int32 => y ≤ x), false),
  (12, x_al 13 0, false),
  (13, x_gR 1 0 16, false),
  (16, x_il 17 3, false),
  (17, x_ia 18, false),
  (18, x_is 20 4, false),
  (20, x_al 21 0, false),
  (21, x_al 22 1, false),
  (22, x_al 23 1, false),
  (23, x_gR 5 0 26, false),
  (26, x_il 28 4, false),
  (28, x_ia 29, false),
  (29, x_il 31 4, false),
  (31, x_c 33 (.int 9), false),
  (33, x_ii 34 (fun x y : Int32 => x * y), false),
  (34, x_cV 1 3 P_X1_findOthers 37, false),
  (37, x_is 39 5, false),
  (39, x_il 40 2, false),
  (40, x_al 41 0, false),
  (41, x_al 42 1, false),
  (42, x_al 43 1, false),
  (43, x_gR 5 0 46, false),
  (46, x_il 48 4, false),
  (48, x_ia 49, false),
  (49, x_il 51 4, false),
  (51, x_c 53 (.int 9), false),
  (53, x_ii 54 (fun x y : Int32 => x * y), false),
  (54, x_il 56 5, false),
  (56, x_cV 1 4 P_X1_sendMessages 59, false),
  (59, x_ii 60 (fun x y : Int32 => x ||| y), false),
  (60, x_is 61 2, false),
  (61, x_inc 64 3 1, false),
  (64, x_go 4, false),
  (67, x_il 68 2, false),
  (68, x_rZ, false)]
set_option maxRecDepth 100000 in
theorem tk_X1_runRound : TbOk (mt_X1_runRound) (tb_X1_runRound) :=
  tkc (s_iconst (at_ dl_X1_runRound 0 (ins := .iconst 0) rfl) (by first | rfl | decide)) (
  tkc (s_istore_n (at_ dl_X1_runRound 1 (ins := .istore_n 2) rfl) (by decide)) (
  tkc (s_iconst (at_ dl_X1_runRound 2 (ins := .iconst 0) rfl) (by first | rfl | decide)) (
  tkc (s_istore_n (at_ dl_X1_runRound 3 (ins := .istore_n 3) rfl) (by decide)) (
  tkc (s_iload_n (at_ dl_X1_runRound 4 (ins := .iload_n 3) rfl)) (
  tkc (s_aload_n (at_ dl_X1_runRound 5 (ins := .aload_n 1) rfl)) (
  tkc (s_gI (at_ dl_X1_runRound 6 (ins := .getfield 38) rfl) (by decide) (by decide) (by decide) (tg 143 (by decide +kernel) (by decide +kernel))) (
  tkc (s_ic_ge (at_ dl_X1_runRound 7 (ins := .if_icmp .ge 58) rfl) (by decide)) (
  tkc (s_aload_n (at_ dl_X1_runRound 8 (ins := .aload_n 0) rfl)) (
  tkc (s_gR (at_ dl_X1_runRound 9 (ins := .getfield 9) rfl) (by decide) (by decide) (by decide) (tg 178 (by decide +kernel) (by decide +kernel))) (
  tkc (s_iload_n (at_ dl_X1_runRound 10 (ins := .iload_n 3) rfl)) (
  tkc (s_ia (at_ dl_X1_runRound 11 (ins := .iaload) rfl)) (
  tkc (s_istore (at_ dl_X1_runRound 12 (ins := .istore 4) rfl) (by decide)) (
  tkc (s_aload_n (at_ dl_X1_runRound 13 (ins := .aload_n 0) rfl)) (
  tkc (s_aload_n (at_ dl_X1_runRound 14 (ins := .aload_n 1) rfl)) (
  tkc (s_aload_n (at_ dl_X1_runRound 15 (ins := .aload_n 1) rfl)) (
  tkc (s_gR (at_ dl_X1_runRound 16 (ins := .getfield 41) rfl) (by decide) (by decide) (by decide) (tg 124 (by decide +kernel) (by decide +kernel))) (
  tkc (s_iload (at_ dl_X1_runRound 17 (ins := .iload 4) rfl)) (
  tkc (s_ia (at_ dl_X1_runRound 18 (ins := .iaload) rfl)) (
  tkc (s_iload (at_ dl_X1_runRound 19 (ins := .iload 4) rfl)) (
  tkc (s_bipush (at_ dl_X1_runRound 20 (ins := .bipush 9) rfl) (by first | rfl | decide)) (
  tkc (s_imul (at_ dl_X1_runRound 21 (ins := .imul) rfl)) (
  tkc (s_cV ok_X1_findOthers (at_ dl_X1_runRound 22 (ins := .invokevirtual 44) rfl) (by decide) rfl (tg 457 (by decide +kernel) (by decide +kernel)) (tg 459 (by decide +kernel) (by decide +kernel)) (tg 9 (by decide +kernel) (by decide +kernel)) (tg 46 (by decide +kernel) (by decide +kernel)) (tg 460 (by decide +kernel) (by decide +kernel)) (⟨by decide, by decide, by decide +kernel⟩) (⟨by decide, by decide⟩) rfl rfl) (
  tkc (s_istore (at_ dl_X1_runRound 23 (ins := .istore 5) rfl) (by decide)) (
  tkc (s_iload_n (at_ dl_X1_runRound 24 (ins := .iload_n 2) rfl)) (
  tkc (s_aload_n (at_ dl_X1_runRound 25 (ins := .aload_n 0) rfl)) (
  tkc (s_aload_n (at_ dl_X1_runRound 26 (ins := .aload_n 1) rfl)) (
  tkc (s_aload_n (at_ dl_X1_runRound 27 (ins := .aload_n 1) rfl)) (
  tkc (s_gR (at_ dl_X1_runRound 28 (ins := .getfield 41) rfl) (by decide) (by decide) (by decide) (tg 124 (by decide +kernel) (by decide +kernel))) (
  tkc (s_iload (at_ dl_X1_runRound 29 (ins := .iload 4) rfl)) (
  tkc (s_ia (at_ dl_X1_runRound 30 (ins := .iaload) rfl)) (
  tkc (s_iload (at_ dl_X1_runRound 31 (ins := .iload 4) rfl)) (
  tkc (s_bipush (at_ dl_X1_runRound 32 (ins := .bipush 9) rfl) (by first | rfl | decide)) (
  tkc (s_imul (at_ dl_X1_runRound 33 (ins := .imul) rfl)) (
  tkc (s_iload (at_ dl_X1_runRound 34 (ins := .iload 5) rfl)) (
  tkc (s_cV ok_X1_sendMessages (at_ dl_X1_runRound 35 (ins := .invokevirtual 48) rfl) (by decide) rfl (tg 461 (by decide +kernel) (by decide +kernel)) (tg 463 (by decide +kernel) (by decide +kernel)) (tg 10 (by decide +kernel) (by decide +kernel)) (tg 46 (by decide +kernel) (by decide +kernel)) (tg 464 (by decide +kernel) (by decide +kernel)) (⟨by decide, by decide, by decide +kernel⟩) (⟨by decide, by decide⟩) rfl rfl) (
  tkc (s_ior (at_ dl_X1_runRound 36 (ins := .ior) rfl)) (
  tkc (s_istore_n (at_ dl_X1_runRound 37 (ins := .istore_n 2) rfl) (by decide)) (
  tkc (s_iinc (at_ dl_X1_runRound 38 (ins := .iinc 3 1) rfl) (by decide) (by first | rfl | decide)) (
  tkc (s_goto (at_ dl_X1_runRound 39 (ins := .goto (-60)) rfl) (by decide)) (
  tkc (s_iload_n (at_ dl_X1_runRound 40 (ins := .iload_n 2) rfl)) (
  tkc (s_rZ (at_ dl_X1_runRound 41 (ins := .ireturn) rfl) rfl) ( tk0))))))))))))))))))))))))))))))))))))))))))
theorem lf_X1_runRound : lk (tb_X1_runRound) 0 = (x_c 1 (.int 0), false) ∧ lk (tb_X1_runRound) 1 = (x_is 2 2, false) ∧ lk (tb_X1_runRound) 2 = (x_c 3 (.int 0), false) ∧ lk (tb_X1_runRound) 3 = (x_is 4 3, false) ∧ lk (tb_X1_runRound) 4 = (x_il 5 3, true) ∧ lk (tb_X1_runRound) 5 = (x_al 6 1, false) ∧ lk (tb_X1_runRound) 6 = (x_gI 5 5 9, false) ∧ lk (tb_X1_runRound) 9 = (x_ic 67 12 (fun x y : Int32 => y ≤ x), false) ∧ lk (tb_X1_runRound) 12 = (x_al 13 0, false) ∧ lk (tb_X1_runRound) 13 = (x_gR 1 0 16, false) ∧ lk (tb_X1_runRound) 16 = (x_il 17 3, false) ∧ lk (tb_X1_runRound) 17 = (x_ia 18, false) ∧ lk (tb_X1_runRound) 18 = (x_is 20 4, false) ∧ lk (tb_X1_runRound) 20 = (x_al 21 0, false) ∧ lk (tb_X1_runRound) 21 = (x_al 22 1, false) ∧ lk (tb_X1_runRound) 22 = (x_al 23 1, false) ∧ lk (tb_X1_runRound) 23 = (x_gR 5 0 26, false) ∧ lk (tb_X1_runRound) 26 = (x_il 28 4, false) ∧ lk (tb_X1_runRound) 28 = (x_ia 29, false) ∧ lk (tb_X1_runRound) 29 = (x_il 31 4, false) ∧ lk (tb_X1_runRound) 31 = (x_c 33 (.int 9), false) ∧ lk (tb_X1_runRound) 33 = (x_ii 34 (fun x y : Int32 => x * y), false) ∧ lk (tb_X1_runRound) 34 = (x_cV 1 3 P_X1_findOthers 37, false) ∧ lk (tb_X1_runRound) 37 = (x_is 39 5, false) ∧ lk (tb_X1_runRound) 39 = (x_il 40 2, false) ∧ lk (tb_X1_runRound) 40 = (x_al 41 0, false) ∧ lk (tb_X1_runRound) 41 = (x_al 42 1, false) ∧ lk (tb_X1_runRound) 42 = (x_al 43 1, false) ∧ lk (tb_X1_runRound) 43 = (x_gR 5 0 46, false) ∧ lk (tb_X1_runRound) 46 = (x_il 48 4, false) ∧ lk (tb_X1_runRound) 48 = (x_ia 49, false) ∧ lk (tb_X1_runRound) 49 = (x_il 51 4, false) ∧ lk (tb_X1_runRound) 51 = (x_c 53 (.int 9), false) ∧ lk (tb_X1_runRound) 53 = (x_ii 54 (fun x y : Int32 => x * y), false) ∧ lk (tb_X1_runRound) 54 = (x_il 56 5, false) ∧ lk (tb_X1_runRound) 56 = (x_cV 1 4 P_X1_sendMessages 59, false) ∧ lk (tb_X1_runRound) 59 = (x_ii 60 (fun x y : Int32 => x ||| y), false) ∧ lk (tb_X1_runRound) 60 = (x_is 61 2, false) ∧ lk (tb_X1_runRound) 61 = (x_inc 64 3 1, false) ∧ lk (tb_X1_runRound) 64 = (x_go 4, false) ∧ lk (tb_X1_runRound) 67 = (x_il 68 2, false) ∧ lk (tb_X1_runRound) 68 = (x_rZ, false) := ⟨rfl, rfl, rfl, rfl, rfl, rfl, rfl, rfl, rfl, rfl, rfl, rfl, rfl, rfl, rfl, rfl, rfl, rfl, rfl, rfl, rfl, rfl, rfl, rfl, rfl, rfl, rfl, rfl, rfl, rfl, rfl, rfl, rfl, rfl, rfl, rfl, rfl, rfl, rfl, rfl, rfl, rfl⟩
def P_X1_runRound : PTT := fun as M R => match as with
  | [.ref d, .ref k] => d = 15 ∧ IsDc M.1 ∧ IsSt M.1 k ∧ ap15 k ∧ ∃ n m, SV M.2.1 k n m ∧ OrdV M.2.1 m ∧ ∀ I' ch, frD k M.2.1 I' → (I' (k + 3), I' (k + 4)) = rndD n (M.2.1 k 6) (ovS M.2.1 k) (ordI M.2.1) m (M.2.1 (k + 3), M.2.1 (k + 4)) → (ch = 0 ∨ ch = 1) → (ch = 0 → I' (k + 3) = M.2.1 (k + 3) ∧ I' (k + 4) = M.2.1 (k + 4)) → R (some (.int ch)) (M.1, I', M.2.2)
  | _ => False
theorem or01 {a b : Int32} (ha : a = 0 ∨ a = 1) (hb : b = 0 ∨ b = 1) : (a ||| b = 0 ∨ a ||| b = 1) ∧ (a ||| b = 0 → a = 0 ∧ b = 0) := by
  rcases ha with rfl | rfl <;> rcases hb with rfl | rfl <;> decide
set_option maxRecDepth 20000 in
theorem ok_X1_runRound : Ok yX1_runRound mt_X1_runRound P_X1_runRound := by
  refine Ok.of (by decide) rfl rfl rfl rfl fun av ⟨S, I, L⟩ R hP => ?_
  unfold P_X1_runRound at hP
  split at hP
  case h_2 => exact hP.elim
  rename_i d k
  obtain ⟨d, rfl⟩ : ∃ q : Nat, q = d := ⟨d, rfl⟩
  obtain ⟨k, rfl⟩ : ∃ q : Nat, q = k := ⟨k, rfl⟩
  refine ⟨by simp [ent, wide, mt_X1_runRound], ?_⟩
  show J mt_X1_runRound R 0 [some (.ref d), some (.ref k), none, none, none, none] [] (S, I, L)
  try dsimp only at hP
  obtain ⟨rfl, hd, hk, hj0, n, m, hv, ho, hR⟩ := hP
  have hj : (k : Nat) + 5 ≤ 15 ∨ 18 ≤ (k : Nat) := hj0
  obtain ⟨⟨n2, n9, m6⟩, ⟨hn, hm⟩, hov, hoff, hlv, hto, hme⟩ := id hv
  refine J.of tk_X1_runRound 200 fun ρ hρ => ?_
  simp only [hρ, x_c, x_il, x_ll, x_al, x_is, x_as, x_ls, x_inc, x_ii, x_iq, x_i1, x_l2, x_lq, x_lh, x_i2l, x_l2i, x_lcmp, x_dup, x_dup2, x_pop, x_if, x_ifn, x_ic, x_icn, x_go, x_sw, swc, x_l01, x_mx, x_gI, x_gL, x_gR, x_pI, x_pZ, x_pL, x_pR, x_ia, x_za, x_aa, x_ias, x_zas, x_aas, x_fac, x_fa, x_slen, x_sa, x_ac, x_oi, x_new, x_na, x_cS, x_cV, x_cI, x_rI, x_rZ, x_rL, x_r0, pa, short, oc, lg, lset, lset2, wide, cond_true, cond_false, true_and, and_true, ↓reduceIte, Bool.false_eq_true, true_or, or_true, lf_X1_runRound]
  have key := up (P := fun i => ∀ I' ch, frD k I I' → (I' (k + 3), I' (k + 4)) = rndD n (I k 6) (ovS I k) (ordI I) i (I (k + 3), I (k + 4)) → (ch = 0 ∨ ch = 1) → (ch = 0 → I' (k + 3) = I (k + 3) ∧ I' (k + 4) = I (k + 4)) → J mt_X1_runRound R 4 [some (.ref 15), some (.ref k), some (.int ch), some (.int (nI i)), none, none] [] (S, I', L)) (n := m) (fun i hi ih => ?_) 0 (Nat.zero_le _)
  · exact key I 0 (fun _ _ _ _ _ => rfl) rfl (Or.inl rfl) (fun _ => ⟨rfl, rfl⟩)
  intro I' ch hf hD hch hz
  have e0 : I' k = I k := hf k (by omega) (by omega) (by omega) (by omega)
  have e1 : I' (k + 1) = I (k + 1) := hf (k + 1) (by omega) (by omega) (by omega) (by omega)
  have e16 : I' 16 = I 16 := hf 16 (by omega) (by omega) (by omega) (by omega)
  have fk : ∀ Q s n, foI I' Q s n k = I' k := fun Q s n => foI_r (by omega) (by omega)
  have fk1 : ∀ Q s n, foI I' Q s n (k + 1) = I' (k + 1) := fun Q s n => foI_r (by omega) (by omega)
  by_cases him : i < m
  · obtain ⟨c, hcm, hc⟩ := tn_ex (ho i him)
    have hs := hv.ov hcm
    have hs1 : I (k + 1) c = nI (ovS I k c) := (nI_tn _).symm
    have hsn : tn (nI (ovS I k c)) = ovS I k c := tn_nI (by omega)
    have hnn : tn (nI n) = n := tn_nI (by omega)
    have hcc : tn (nI (9 * c)) = 9 * c := tn_nI (by omega)
    have hoc : ordI I i = c := by unfold ordI; rw [hc]; exact tn_nI (by omega)
    have hcp : nI c * 9 = nI (9 * c) := by rw [nI9, pk_mul, Nat.mul_comm]
    have hex1 : ∃ n', n' ≤ 9 ∧ nI n = nI n' := ⟨n, n9, rfl⟩
    have hex2 : ∃ c', c' < 6 ∧ nI (9 * c) = nI (9 * c') := ⟨c, by omega, rfl⟩
    have hvi : vp_in (nI i) 6 := vp_in_nI (by omega) (by omega)
    have hvc : vp_in (nI c) 6 := vp_in_nI (by omega) (by omega)
    refine J.of tk_X1_runRound 200 fun ρ hρ => ?_
    simp only [hρ, x_c, x_il, x_ll, x_al, x_is, x_as, x_ls, x_inc, x_ii, x_iq, x_i1, x_l2, x_lq, x_lh, x_i2l, x_l2i, x_lcmp, x_dup, x_dup2, x_pop, x_if, x_ifn, x_ic, x_icn, x_go, x_sw, swc, x_l01, x_mx, x_gI, x_gL, x_gR, x_pI, x_pZ, x_pL, x_pR, x_ia, x_za, x_aa, x_ias, x_zas, x_aas, x_fac, x_fa, x_slen, x_sa, x_ac, x_oi, x_new, x_na, x_cS, x_cV, x_cI, x_rI, x_rZ, x_rL, x_r0, pa, short, oc, lg, lset, lset2, wide, cond_true, cond_false, true_and, and_true, ↓reduceIte, Bool.false_eq_true, true_or, or_true, lf_X1_runRound, hd, hk, hj0, hd.f, hk.f, e0, e1, e16, hm, hn, hc, hs1, fk, fk1, hsn, hnn, hcc, hcp, hex1, hex2, hs, hvi, hvc, nI_leI (show m < 2 ^ 31 by omega) (show i < 2 ^ 31 by omega), ncl (show i < 2 ^ 31 by omega), ncl (show c < 2 ^ 31 by omega), nI_1, P_X1_findOthers, P_X1_sendMessages]
    refine ⟨fun h => absurd h (by omega), fun _ => ?_⟩
    have hT : ∀ b, b < 9 → inR 99 (I' (k + 3) b) := by
      have := (rndD_ok (n := n) (off := I k 6) (ov := ovS I k) (ord := ordI I) (d := (I (k + 3), I (k + 4))) ⟨hto, hme⟩ i).1
      rw [← hD] at this
      exact this
    have hD2 := ck_D (I := I') (k := k) (s := ovS I k c) (c := c) hj n9 hT
    rw [e0, hD] at hD2
    have hor := or01 hch (chg_or (foI I' (Qv I' k (9 * c)) (ovS I k c) n (k + 4)) (snI (foI I' (Qv I' k (9 * c)) (ovS I k c) n) k (foS (Qv I' k (9 * c)) (ovS I k c) n).2.2.2) (ovS I k c) (9 * c) n)
    have hw := ih him (ckI I' k (ovS I k c) c n) (ch ||| ckF I' k (ovS I k c) c n) (fun q z1 z2 z3 z4 => (ck_fr z1 z2 z3 z4).trans (hf q z1 z2 z3 z4)) (by rw [hD2]; simp only [rndD]; rw [hoc]) hor.1 (fun z => by
      obtain ⟨z1, z2⟩ := hor.2 z
      obtain ⟨y1, y2⟩ := hz z1
      obtain ⟨x1, x2⟩ := ck_z hj z2
      exact ⟨x1.trans y1, x2.trans y2⟩)
    exact J.weak (by simp [lsub, ckF]) hw
  · have : i = m := by omega
    subst this
    refine J.of tk_X1_runRound 200 fun ρ hρ => ?_
    simp only [hρ, x_c, x_il, x_ll, x_al, x_is, x_as, x_ls, x_inc, x_ii, x_iq, x_i1, x_l2, x_lq, x_lh, x_i2l, x_l2i, x_lcmp, x_dup, x_dup2, x_pop, x_if, x_ifn, x_ic, x_icn, x_go, x_sw, swc, x_l01, x_mx, x_gI, x_gL, x_gR, x_pI, x_pZ, x_pL, x_pR, x_ia, x_za, x_aa, x_ias, x_zas, x_aas, x_fac, x_fa, x_slen, x_sa, x_ac, x_oi, x_new, x_na, x_cS, x_cV, x_cI, x_rI, x_rZ, x_rL, x_r0, pa, short, oc, lg, lset, lset2, wide, cond_true, cond_false, true_and, and_true, ↓reduceIte, Bool.false_eq_true, true_or, or_true, lf_X1_runRound, hd, hk, hd.f, hk.f, e0, hm, nI_leI (show i < 2 ^ 31 by omega) (show i < 2 ^ 31 by omega), Nat.le_refl]
    exact ⟨fun _ => ⟨hch, hR I' ch hf hD hch hz⟩, fun h => absurd trivial h⟩
/-! many rounds; a round that changes nothing is the last that does anything -/
def itD (n m : Nat) (off : Int32) (ov ord : Nat → Nat) : Nat → DS → DS
  | 0, d => d
  | r + 1, d => rndD n off ov ord m (itD n m off ov ord r d)
theorem itD_ok {n m : Nat} {off : Int32} {ov ord : Nat → Nat} {d : DS} (h : DSok d) : ∀ r, DSok (itD n m off ov ord r d)
  | 0 => h
  | r + 1 => rndD_ok (itD_ok h r) m
theorem itD_fix {n m : Nat} {off : Int32} {ov ord : Nat → Nat} {d : DS} {r : Nat} (h : rndD n off ov ord m (itD n m off ov ord r d) = itD n m off ov ord r d) : ∀ j, itD n m off ov ord (r + j) d = itD n m off ov ord r d
  | 0 => rfl
  | j + 1 => by
    show rndD n off ov ord m (itD n m off ov ord (r + j) d) = _
    rw [itD_fix h j, h]
theorem SV_D {I I' : MI} {k n m : Nat} (h : SV I k n m) (hk : I' k = I k) (h1 : I' (k + 1) = I (k + 1)) (h2 : I' (k + 2) = I (k + 2)) (hD : DSok (I' (k + 3), I' (k + 4))) : SV I' k n m := by
  obtain ⟨a, b, c, d, e, f, g⟩ := h
  refine ⟨a, by rw [hk]; exact b, by rw [h1]; exact c, by rw [hk]; exact d, by rw [h2]; exact e, hD.1, hD.2⟩
theorem SV.D {I : MI} {k n m : Nat} (h : SV I k n m) : DSok (I (k + 3), I (k + 4)) := ⟨h.2.2.2.2.2.1, h.2.2.2.2.2.2⟩
/-- all that rounds go by, when a state is another only in totals, messages, rounds -/
theorem ov_eq {I I' : MI} {k : Nat} (h1 : I' (k + 1) = I (k + 1)) : ovS I' k = ovS I k := by funext c; simp only [ovS, h1]
def il_X1_runRounds : List (Nat × Instr × Nat) := [(0, .iconst 1, 1), (1, .istore_n 3, 1), (2, .iconst 0, 1), (3, .istore 4, 2), (5, .iload 4, 2), (7, .iload_n 2, 1), (8, .if_icmp .ge 19, 3), (11, .iload_n 3, 1), (12, .ifCond .eq 15, 3), (15, .aload_n 0, 1), (16, .aload_n 1, 1), (17, .invokevirtual 21, 3), (20, .istore_n 3, 1), (21, .iinc 4 1, 3), (24, .goto (-19), 3), (27, .aload_n 1, 1), (28, .dup, 1), (29, .getfield 25, 3), (32, .iload_n 2, 1), (33, .iadd, 1), (34, .putfield 25, 3), (37, .return_, 1)]
def mt_X1_runRounds : Mt := (cX1_runRounds, RX1, 5, none, ({ frames := 3, cells := 0, slots := 0, locals := 77 } : Room), false, none, none)
set_option maxRecDepth 100000 in
theorem dl_X1_runRounds : ∀ q ∈ il_X1_runRounds, decode (mt_X1_runRounds).1 q.1 = .ok q.2 := by decide +kernel
def tb_X1_runRounds : Tb := [(0, x_c 1 (.int 1), false),
  (1, x_is 2 3, false),
  (2, x_c 3 (.int 0), false),
  (3, x_is 5 4, false),
  (5, x_il 7 4, true),
  (7, x_il 8 2, false),
  (8, x_ic 27 11 (fun x y : Int32 => y ≤ x), false),
  (11, x_il 12 3, false),
  (12, x_if 27 15 (fun x : Int32 => x = 0), false),
  (15, x_al 16 0, false),
  (16, x_al 17 1, false),
  (17, x_cV 1 1 P_X1_runRound 20, false),
  (20, x_is 21 3, false),
  (21, x_inc 24 4 1, false),
  (24, x_go 5, false),
  (27, x_al 28 1, false),
  (28, x_dup 29, false),
  (29, x_gI 5 7 32, false),
  (32, x_il 33 2, false),
  (33, x_ii 34 (fun x y : Int32 => x + y), false),
  (34, x_pI 5 7 37, false),
  (37, x_r0, false)]
set_option maxRecDepth 100000 in
theorem tk_X1_runRounds : TbOk (mt_X1_runRounds) (tb_X1_runRounds) :=
  tkc (s_iconst (at_ dl_X1_runRounds 0 (ins := .iconst 1) rfl) (by first | rfl | decide)) (
  tkc (s_istore_n (at_ dl_X1_runRounds 1 (ins := .istore_n 3) rfl) (by decide)) (
  tkc (s_iconst (at_ dl_X1_runRounds 2 (ins := .iconst 0) rfl) (by first | rfl | decide)) (
  tkc (s_istore (at_ dl_X1_runRounds 3 (ins := .istore 4) rfl) (by decide)) (
  tkc (s_iload (at_ dl_X1_runRounds 4 (ins := .iload 4) rfl)) (
  tkc (s_iload_n (at_ dl_X1_runRounds 5 (ins := .iload_n 2) rfl)) (
  tkc (s_ic_ge (at_ dl_X1_runRounds 6 (ins := .if_icmp .ge 19) rfl) (by decide)) (
  tkc (s_iload_n (at_ dl_X1_runRounds 7 (ins := .iload_n 3) rfl)) (
  tkc (s_if_eq (at_ dl_X1_runRounds 8 (ins := .ifCond .eq 15) rfl) (by decide)) (
  tkc (s_aload_n (at_ dl_X1_runRounds 9 (ins := .aload_n 0) rfl)) (
  tkc (s_aload_n (at_ dl_X1_runRounds 10 (ins := .aload_n 1) rfl)) (
  tkc (s_cV ok_X1_runRound (at_ dl_X1_runRounds 11 (ins := .invokevirtual 21) rfl) (by decide) rfl (tg 453 (by decide +kernel) (by decide +kernel)) (tg 454 (by decide +kernel) (by decide +kernel)) (tg 455 (by decide +kernel) (by decide +kernel)) (tg 46 (by decide +kernel) (by decide +kernel)) (tg 456 (by decide +kernel) (by decide +kernel)) (⟨by decide, by decide, by decide +kernel⟩) (⟨by decide, by decide⟩) rfl rfl) (
  tkc (s_istore_n (at_ dl_X1_runRounds 12 (ins := .istore_n 3) rfl) (by decide)) (
  tkc (s_iinc (at_ dl_X1_runRounds 13 (ins := .iinc 4 1) rfl) (by decide) (by first | rfl | decide)) (
  tkc (s_goto (at_ dl_X1_runRounds 14 (ins := .goto (-19)) rfl) (by decide)) (
  tkc (s_aload_n (at_ dl_X1_runRounds 15 (ins := .aload_n 1) rfl)) (
  tkc (s_dup (at_ dl_X1_runRounds 16 (ins := .dup) rfl)) (
  tkc (s_gI (at_ dl_X1_runRounds 17 (ins := .getfield 25) rfl) (by decide) (by decide) (by decide) (tg 149 (by decide +kernel) (by decide +kernel))) (
  tkc (s_iload_n (at_ dl_X1_runRounds 18 (ins := .iload_n 2) rfl)) (
  tkc (s_iadd (at_ dl_X1_runRounds 19 (ins := .iadd) rfl)) (
  tkc (s_pI (at_ dl_X1_runRounds 20 (ins := .putfield 25) rfl) (by decide) (by decide) (by decide) (by decide) (tg 149 (by decide +kernel) (by decide +kernel))) (
  tkc (s_r0 (at_ dl_X1_runRounds 21 (ins := .return_) rfl) rfl) ( tk0))))))))))))))))))))))
theorem lf_X1_runRounds : lk (tb_X1_runRounds) 0 = (x_c 1 (.int 1), false) ∧ lk (tb_X1_runRounds) 1 = (x_is 2 3, false) ∧ lk (tb_X1_runRounds) 2 = (x_c 3 (.int 0), false) ∧ lk (tb_X1_runRounds) 3 = (x_is 5 4, false) ∧ lk (tb_X1_runRounds) 5 = (x_il 7 4, true) ∧ lk (tb_X1_runRounds) 7 = (x_il 8 2, false) ∧ lk (tb_X1_runRounds) 8 = (x_ic 27 11 (fun x y : Int32 => y ≤ x), false) ∧ lk (tb_X1_runRounds) 11 = (x_il 12 3, false) ∧ lk (tb_X1_runRounds) 12 = (x_if 27 15 (fun x : Int32 => x = 0), false) ∧ lk (tb_X1_runRounds) 15 = (x_al 16 0, false) ∧ lk (tb_X1_runRounds) 16 = (x_al 17 1, false) ∧ lk (tb_X1_runRounds) 17 = (x_cV 1 1 P_X1_runRound 20, false) ∧ lk (tb_X1_runRounds) 20 = (x_is 21 3, false) ∧ lk (tb_X1_runRounds) 21 = (x_inc 24 4 1, false) ∧ lk (tb_X1_runRounds) 24 = (x_go 5, false) ∧ lk (tb_X1_runRounds) 27 = (x_al 28 1, false) ∧ lk (tb_X1_runRounds) 28 = (x_dup 29, false) ∧ lk (tb_X1_runRounds) 29 = (x_gI 5 7 32, false) ∧ lk (tb_X1_runRounds) 32 = (x_il 33 2, false) ∧ lk (tb_X1_runRounds) 33 = (x_ii 34 (fun x y : Int32 => x + y), false) ∧ lk (tb_X1_runRounds) 34 = (x_pI 5 7 37, false) ∧ lk (tb_X1_runRounds) 37 = (x_r0, false) := ⟨rfl, rfl, rfl, rfl, rfl, rfl, rfl, rfl, rfl, rfl, rfl, rfl, rfl, rfl, rfl, rfl, rfl, rfl, rfl, rfl, rfl, rfl⟩
/-- nothing but a state's totals, messages, rounds and the decoder's own places is another -/
def frR (k : Nat) (I I' : MI) : Prop := ∀ q, q ≠ k → q ≠ k + 3 → q ≠ k + 4 → q ≠ 15 → q ≠ 17 → I' q = I q
def P_X1_runRounds : PTT := fun as M R => match as with
  | [.ref d, .ref k, .int x] => d = 15 ∧ IsDc M.1 ∧ IsSt M.1 k ∧ ap15 k ∧ ∃ n m r, SV M.2.1 k n m ∧ OrdV M.2.1 m ∧ r ≤ 99 ∧ x = nI r ∧ ∀ I', frR k M.2.1 I' → I' k = upd (M.2.1 k) 7 (M.2.1 k 7 + nI r) → (I' (k + 3), I' (k + 4)) = itD n m (M.2.1 k 6) (ovS M.2.1 k) (ordI M.2.1) r (M.2.1 (k + 3), M.2.1 (k + 4)) → R none (M.1, I', M.2.2)
  | _ => False
set_option maxRecDepth 20000 in
theorem ok_X1_runRounds : Ok yX1_runRounds mt_X1_runRounds P_X1_runRounds := by
  refine Ok.of (by decide) rfl rfl rfl rfl fun av ⟨S, I, L⟩ R hP => ?_
  unfold P_X1_runRounds at hP
  split at hP
  case h_2 => exact hP.elim
  rename_i d k x
  obtain ⟨d, rfl⟩ : ∃ q : Nat, q = d := ⟨d, rfl⟩
  obtain ⟨k, rfl⟩ : ∃ q : Nat, q = k := ⟨k, rfl⟩
  refine ⟨by simp [ent, wide, mt_X1_runRounds], ?_⟩
  show J mt_X1_runRounds R 0 [some (.ref d), some (.ref k), some (.int x), none, none] [] (S, I, L)
  try dsimp only at hP
  obtain ⟨rfl, hd, hk, hj0, n, m, r, hv, ho, hr9, rfl, hR⟩ := hP
  have hj : (k : Nat) + 5 ≤ 15 ∨ 18 ≤ (k : Nat) := hj0
  obtain ⟨⟨n2, n9, m6⟩, ⟨hn, hm⟩, hov, hoff, hlv, hto, hme⟩ := id hv
  refine J.of tk_X1_runRounds 200 fun ρ hρ => ?_
  simp only [hρ, x_c, x_il, x_ll, x_al, x_is, x_as, x_ls, x_inc, x_ii, x_iq, x_i1, x_l2, x_lq, x_lh, x_i2l, x_l2i, x_lcmp, x_dup, x_dup2, x_pop, x_if, x_ifn, x_ic, x_icn, x_go, x_sw, swc, x_l01, x_mx, x_gI, x_gL, x_gR, x_pI, x_pZ, x_pL, x_pR, x_ia, x_za, x_aa, x_ias, x_zas, x_aas, x_fac, x_fa, x_slen, x_sa, x_ac, x_oi, x_new, x_na, x_cS, x_cV, x_cI, x_rI, x_rZ, x_rL, x_r0, pa, short, oc, lg, lset, lset2, wide, cond_true, cond_false, true_and, and_true, ↓reduceIte, Bool.false_eq_true, true_or, or_true, lf_X1_runRounds]
  -- the end
  have fin : ∀ I', frD k I I' → (I' (k + 3), I' (k + 4)) = itD n m (I k 6) (ovS I k) (ordI I) r (I (k + 3), I (k + 4)) → R none (S, mS I' k (upd (I' k) 7 (I' k 7 + nI r)), L) := by
    intro I' hf hD
    have e0 : I' k = I k := hf k (by omega) (by omega) (by omega) (by omega)
    refine hR _ (fun q h0 h3 h4 h15 h17 => ?_) ?_ ?_
    · rw [mS_n h0]; exact hf q h3 h4 h15 h17
    · rw [mS_s, e0]
    · rw [mS_n (by omega), mS_n (by omega)]; exact hD
  have key := up (P := fun i => ∀ I' ch, frD k I I' → (I' (k + 3), I' (k + 4)) = itD n m (I k 6) (ovS I k) (ordI I) i (I (k + 3), I (k + 4)) → (ch = 0 ∨ ch = 1) → (ch = 0 → rndD n (I k 6) (ovS I k) (ordI I) m (itD n m (I k 6) (ovS I k) (ordI I) i (I (k + 3), I (k + 4))) = itD n m (I k 6) (ovS I k) (ordI I) i (I (k + 3), I (k + 4))) → J mt_X1_runRounds R 5 [some (.ref 15), some (.ref k), some (.int (nI r)), some (.int ch), some (.int (nI i))] [] (S, I', L)) (n := r) (fun i hi ih => ?_) 0 (Nat.zero_le _)
  · exact key I 1 (fun _ _ _ _ _ => rfl) rfl (Or.inr rfl) (fun h => absurd h (by decide))
  intro I' ch hf hD hch hz
  have e0 : I' k = I k := hf k (by omega) (by omega) (by omega) (by omega)
  have e1 : I' (k + 1) = I (k + 1) := hf (k + 1) (by omega) (by omega) (by omega) (by omega)
  have e2 : I' (k + 2) = I (k + 2) := hf (k + 2) (by omega) (by omega) (by omega) (by omega)
  have e16 : I' 16 = I 16 := hf 16 (by omega) (by omega) (by omega) (by omega)
  have hok := itD_ok (n := n) (m := m) (off := I k 6) (ov := ovS I k) (ord := ordI I) hv.D i
  have hv' : SV I' k n m := SV_D hv e0 e1 e2 (by rw [hD]; exact hok)
  have ho' : OrdV I' m := by intro j hj; rw [e16]; exact ho j hj
  refine J.of tk_X1_runRounds 200 fun ρ hρ => ?_
  simp only [hρ, x_c, x_il, x_ll, x_al, x_is, x_as, x_ls, x_inc, x_ii, x_iq, x_i1, x_l2, x_lq, x_lh, x_i2l, x_l2i, x_lcmp, x_dup, x_dup2, x_pop, x_if, x_ifn, x_ic, x_icn, x_go, x_sw, swc, x_l01, x_mx, x_gI, x_gL, x_gR, x_pI, x_pZ, x_pL, x_pR, x_ia, x_za, x_aa, x_ias, x_zas, x_aas, x_fac, x_fa, x_slen, x_sa, x_ac, x_oi, x_new, x_na, x_cS, x_cV, x_cI, x_rI, x_rZ, x_rL, x_r0, pa, short, oc, lg, lset, lset2, wide, cond_true, cond_false, true_and, and_true, ↓reduceIte, Bool.false_eq_true, true_or, or_true, lf_X1_runRounds, hd, hk, hj0, hd.f, hk.f, P_X1_runRound, nI_leI (show r < 2 ^ 31 by omega) (show i < 2 ^ 31 by omega), nI_1]
  refine ⟨fun h => ?_, fun h => ⟨fun h2 => ?_, fun h2 => ⟨n, m, hv', ho', fun I2 ch2 hf2 hD2 hch2 hz2 => ?_⟩⟩⟩
  · have : i = r := by omega
    subst this
    exact fin I' hf hD
  · refine fin I' hf ?_
    rw [hD, show r = i + (r - i) by omega, itD_fix (hz h2)]
  · have eo : ordI I' = ordI I := by funext j; simp only [ordI, e16]
    rw [e0, ov_eq e1, eo, hD] at hD2
    refine ih (by omega) I2 ch2 (fun q a b c d => (hf2 q a b c d).trans (hf q a b c d)) hD2 hch2 (fun z => ?_)
    obtain ⟨z1, z2⟩ := hz2 z
    show rndD n (I k 6) (ovS I k) (ordI I) m (rndD n (I k 6) (ovS I k) (ordI I) m (itD n m (I k 6) (ovS I k) (ordI I) i (I (k + 3), I (k + 4)))) = rndD n (I k 6) (ovS I k) (ordI I) m (itD n m (I k 6) (ovS I k) (ordI I) i (I (k + 3), I (k + 4)))
    have : rndD n (I k 6) (ovS I k) (ordI I) m (itD n m (I k 6) (ovS I k) (ordI I) i (I (k + 3), I (k + 4))) = itD n m (I k 6) (ovS I k) (ordI I) i (I (k + 3), I (k + 4)) := by rw [← hD2, z1, z2, hD]
    rw [this, this]
