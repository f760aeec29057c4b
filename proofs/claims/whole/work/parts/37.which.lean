/-! WHICH, GROW -/
theorem inR_neg {x : Int32} (h : inR 31 x) : inR 31 (-x) := by
  obtain ⟨h1, h2⟩ := h
  have e : (-x).toInt = -x.toInt := by
    rw [Int32.toInt_neg]
    exact Int.bmod_eq_of_le (by omega) (by omega)
  exact ⟨by rw [e]; omega, by rw [e]; omega⟩
theorem lvA_ok {a : AS} {b : Nat} {v : Int32} (h : AOk a) (hv : inR 31 v) : AOk (lvA a b v) := by
  refine ⟨h.1, h.2.1, h.2.2.1, fun x hx => ?_, h.2.2.2.2⟩
  show inR 31 (upd (aL a) b v x)
  rw [upd_app]
  split
  · exact hv
  · exact h.2.2.2.1 x hx
def wcB (g : GS) (b : Nat) : Bool := soB (opR (aN (gA g)) (aM (gA g)) (aO (gA g)) (aV (gA g)) id (d0A (lvA (gA g) b (-aL (gA g) b)))) (gB g) (gO g) (gN g)
theorem soB_congr {f f' : Nat → Nat} {r r' o o' : Nat → Int32} {c : Nat} (hf : ∀ n, f n = f' n) (h : ∀ i, i < c → r i = r' i ∧ o i = o' i) : soB f r o c = soB f' r' o' c := by
  rw [Bool.eq_iff_iff, soB_iff, soB_iff]
  constructor
  · intro q i hi; rw [← (h i hi).1, ← (h i hi).2, ← hf]; exact q i hi
  · intro q i hi; rw [(h i hi).1, (h i hi).2, hf]; exact q i hi
theorem SR.opr {I : MI} {k : Nat} {a : AS} (h : SR I k a) (ho : AOk a) (hor : OrdId I) (r : Nat) : opR (aN a) (aM a) (I k 6) (ovS I k) (ordI I) (d0S I k) r = opR (aN a) (aM a) (aO a) (aV a) id (d0A a) r := by
  unfold opR
  rw [h.2.2.1]
  exact opD_congr ho.1.2.1 (h.ov ho) (itD_congr ho.1.2.1 ho.1.2.2 (hor.e ho.1.2.2) (h.ov ho) (d0_eq h) r)
theorem DSeq.refl (d : DS) : DSeq d d := ⟨fun _ _ => rfl, fun _ _ => rfl⟩
theorem upd_same {f : Nat → Int32} {k : Nat} : upd f k (f k) = f := by
  funext j
  rw [upd_app]
  split
  · next h => rw [h]
  · rfl
def gWhich (g : GS) : Int32 := nI (bs (wcB g) (aN (gA g)))
def il_X9_which : List (Nat × Instr × Nat) := [(0, .iconst 0, 1), (1, .istore_n 1, 1), (2, .aload_n 0, 1), (3, .getfield 23, 3), (6, .aload_n 0, 1), (7, .getfield 19, 3), (10, .invokevirtual 219, 3), (13, .iconst 0, 1), (14, .istore_n 2, 1), (15, .iload_n 2, 1), (16, .aload_n 0, 1), (17, .getfield 19, 3), (20, .getfield 101, 3), (23, .if_icmp .ge 70, 3), (26, .aload_n 0, 1), (27, .getfield 23, 3), (30, .getfield 152, 3), (33, .iload_n 2, 1), (34, .aload_n 0, 1), (35, .getfield 19, 3), (38, .getfield 152, 3), (41, .iload_n 2, 1), (42, .iaload, 1), (43, .ineg, 1), (44, .iastore, 1), (45, .aload_n 0, 1), (46, .getfield 59, 3), (49, .aload_n 0, 1), (50, .getfield 23, 3), (53, .aload_n 0, 1), (54, .getfield 29, 3), (57, .invokevirtual 231, 3), (60, .ifCond .eq 9, 3), (63, .iload_n 1, 1), (64, .iconst 1, 1), (65, .iload_n 2, 1), (66, .ishl, 1), (67, .ior, 1), (68, .istore_n 1, 1), (69, .aload_n 0, 1), (70, .getfield 23, 3), (73, .getfield 152, 3), (76, .iload_n 2, 1), (77, .aload_n 0, 1), (78, .getfield 19, 3), (81, .getfield 152, 3), (84, .iload_n 2, 1), (85, .iaload, 1), (86, .iastore, 1), (87, .iinc 2 1, 3), (90, .goto (-75), 3), (93, .iload_n 1, 1), (94, .ireturn, 1)]
def mt_X9_which : Mt := (cX9_which, RX9, 3, (some .int), ({ frames := 4, cells := 0, slots := 0, locals := 101 } : Room), false, none, none)
set_option maxRecDepth 100000 in
theorem dl_X9_which : ∀ q ∈ il_X9_which, decode (mt_X9_which).1 q.1 = .ok q.2 := by decide +kernel
def tb_X9_which : Tb := [(0, x_c 1 (.int 0), false),
  (1, x_is 2 1, false),
  (2, x_al 3 0, false),
  (3, x_gR 9 2 6, false),
  (6, x_al 7 0, false),
  (7, x_gR 9 1 10, false),
  (10, x_cV 5 1 P_X5_becomeLike 13, false),
  (13, x_c 14 (.int 0), false),
  (14, x_is 15 2, false),
  (15, x_il 16 2, true),
  (16, x_al 17 0, false),
  (17, x_gR 9 1 20, false),
  (20, x_gI 5 4 23, false),
  (23, x_ic 93 26 (fun x y : Int32 => y ≤ x), false),
  (26, x_al 27 0, false),
  (27, x_gR 9 2 30, false),
  (30, x_gR 5 1 33, false),
  (33, x_il 34 2, false),
  (34, x_al 35 0, false),
  (35, x_gR 9 1 38, false),
  (38, x_gR 5 1 41, false),
  (41, x_il 42 2, false),
  (42, x_ia 43, false),
  (43, x_i1 44 (fun x : Int32 => -x), false),
  (44, x_ias 45, false),
  (45, x_al 46 0, false),
  (46, x_gR 9 7 49, false),
  (49, x_al 50 0, false),
  (50, x_gR 9 2 53, false),
  (53, x_al 54 0, false),
  (54, x_gR 9 3 57, false),
  (57, x_cV 4 2 P_X4_isSoBy 60, false),
  (60, x_if 69 63 (fun x : Int32 => x = 0), false),
  (63, x_il 64 1, false),
  (64, x_c 65 (.int 1), false),
  (65, x_il 66 2, false),
  (66, x_ii 67 (fun x y : Int32 => x <<< (y &&& 31)), false),
  (67, x_ii 68 (fun x y : Int32 => x ||| y), false),
  (68, x_is 69 1, false),
  (69, x_al 70 0, false),
  (70, x_gR 9 2 73, false),
  (73, x_gR 5 1 76, false),
  (76, x_il 77 2, false),
  (77, x_al 78 0, false),
  (78, x_gR 9 1 81, false),
  (81, x_gR 5 1 84, false),
  (84, x_il 85 2, false),
  (85, x_ia 86, false),
  (86, x_ias 87, false),
  (87, x_inc 90 2 1, false),
  (90, x_go 15, false),
  (93, x_il 94 1, false),
  (94, x_rI, false)]
set_option maxRecDepth 100000 in
theorem tk_X9_which : TbOk (mt_X9_which) (tb_X9_which) :=
  tkc (s_iconst (at_ dl_X9_which 0 (ins := .iconst 0) rfl) (by first | rfl | decide)) (
  tkc (s_istore_n (at_ dl_X9_which 1 (ins := .istore_n 1) rfl) (by decide)) (
  tkc (s_aload_n (at_ dl_X9_which 2 (ins := .aload_n 0) rfl)) (
  tkc (s_gR (at_ dl_X9_which 3 (ins := .getfield 23) rfl) (by decide) (by decide) (by decide) (tg 256 (by decide +kernel) (by decide +kernel))) (
  tkc (s_aload_n (at_ dl_X9_which 4 (ins := .aload_n 0) rfl)) (
  tkc (s_gR (at_ dl_X9_which 5 (ins := .getfield 19) rfl) (by decide) (by decide) (by decide) (tg 255 (by decide +kernel) (by decide +kernel))) (
  tkc (s_cV ok_X5_becomeLike (at_ dl_X9_which 6 (ins := .invokevirtual 219) rfl) (by decide) rfl (tg 443 (by decide +kernel) (by decide +kernel)) (tg 444 (by decide +kernel) (by decide +kernel)) (tg 445 (by decide +kernel) (by decide +kernel)) (tg 45 (by decide +kernel) (by decide +kernel)) (tg 446 (by decide +kernel) (by decide +kernel)) (⟨by decide, by decide, by decide +kernel⟩) (⟨by decide, by decide⟩) rfl rfl) (
  tkc (s_iconst (at_ dl_X9_which 7 (ins := .iconst 0) rfl) (by first | rfl | decide)) (
  tkc (s_istore_n (at_ dl_X9_which 8 (ins := .istore_n 2) rfl) (by decide)) (
  tkc (s_iload_n (at_ dl_X9_which 9 (ins := .iload_n 2) rfl)) (
  tkc (s_aload_n (at_ dl_X9_which 10 (ins := .aload_n 0) rfl)) (
  tkc (s_gR (at_ dl_X9_which 11 (ins := .getfield 19) rfl) (by decide) (by decide) (by decide) (tg 255 (by decide +kernel) (by decide +kernel))) (
  tkc (s_gI (at_ dl_X9_which 12 (ins := .getfield 101) rfl) (by decide) (by decide) (by decide) (tg 137 (by decide +kernel) (by decide +kernel))) (
  tkc (s_ic_ge (at_ dl_X9_which 13 (ins := .if_icmp .ge 70) rfl) (by decide)) (
  tkc (s_aload_n (at_ dl_X9_which 14 (ins := .aload_n 0) rfl)) (
  tkc (s_gR (at_ dl_X9_which 15 (ins := .getfield 23) rfl) (by decide) (by decide) (by decide) (tg 256 (by decide +kernel) (by decide +kernel))) (
  tkc (s_gR (at_ dl_X9_which 16 (ins := .getfield 152) rfl) (by decide) (by decide) (by decide) (tg 127 (by decide +kernel) (by decide +kernel))) (
  tkc (s_iload_n (at_ dl_X9_which 17 (ins := .iload_n 2) rfl)) (
  tkc (s_aload_n (at_ dl_X9_which 18 (ins := .aload_n 0) rfl)) (
  tkc (s_gR (at_ dl_X9_which 19 (ins := .getfield 19) rfl) (by decide) (by decide) (by decide) (tg 255 (by decide +kernel) (by decide +kernel))) (
  tkc (s_gR (at_ dl_X9_which 20 (ins := .getfield 152) rfl) (by decide) (by decide) (by decide) (tg 127 (by decide +kernel) (by decide +kernel))) (
  tkc (s_iload_n (at_ dl_X9_which 21 (ins := .iload_n 2) rfl)) (
  tkc (s_ia (at_ dl_X9_which 22 (ins := .iaload) rfl)) (
  tkc (s_ineg (at_ dl_X9_which 23 (ins := .ineg) rfl)) (
  tkc (s_ias (at_ dl_X9_which 24 (ins := .iastore) rfl)) (
  tkc (s_aload_n (at_ dl_X9_which 25 (ins := .aload_n 0) rfl)) (
  tkc (s_gR (at_ dl_X9_which 26 (ins := .getfield 59) rfl) (by decide) (by decide) (by decide) (tg 261 (by decide +kernel) (by decide +kernel))) (
  tkc (s_aload_n (at_ dl_X9_which 27 (ins := .aload_n 0) rfl)) (
  tkc (s_gR (at_ dl_X9_which 28 (ins := .getfield 23) rfl) (by decide) (by decide) (by decide) (tg 256 (by decide +kernel) (by decide +kernel))) (
  tkc (s_aload_n (at_ dl_X9_which 29 (ins := .aload_n 0) rfl)) (
  tkc (s_gR (at_ dl_X9_which 30 (ins := .getfield 29) rfl) (by decide) (by decide) (by decide) (tg 257 (by decide +kernel) (by decide +kernel))) (
  tkc (s_cV ok_X4_isSoBy (at_ dl_X9_which 31 (ins := .invokevirtual 231) rfl) (by decide) rfl (tg 622 (by decide +kernel) (by decide +kernel)) (tg 623 (by decide +kernel) (by decide +kernel)) (tg 624 (by decide +kernel) (by decide +kernel)) (tg 50 (by decide +kernel) (by decide +kernel)) (tg 625 (by decide +kernel) (by decide +kernel)) (⟨by decide, by decide, by decide +kernel⟩) (⟨by decide, by decide⟩) rfl rfl) (
  tkc (s_if_eq (at_ dl_X9_which 32 (ins := .ifCond .eq 9) rfl) (by decide)) (
  tkc (s_iload_n (at_ dl_X9_which 33 (ins := .iload_n 1) rfl)) (
  tkc (s_iconst (at_ dl_X9_which 34 (ins := .iconst 1) rfl) (by first | rfl | decide)) (
  tkc (s_iload_n (at_ dl_X9_which 35 (ins := .iload_n 2) rfl)) (
  tkc (s_ishl (at_ dl_X9_which 36 (ins := .ishl) rfl)) (
  tkc (s_ior (at_ dl_X9_which 37 (ins := .ior) rfl)) (
  tkc (s_istore_n (at_ dl_X9_which 38 (ins := .istore_n 1) rfl) (by decide)) (
  tkc (s_aload_n (at_ dl_X9_which 39 (ins := .aload_n 0) rfl)) (
  tkc (s_gR (at_ dl_X9_which 40 (ins := .getfield 23) rfl) (by decide) (by decide) (by decide) (tg 256 (by decide +kernel) (by decide +kernel))) (
  tkc (s_gR (at_ dl_X9_which 41 (ins := .getfield 152) rfl) (by decide) (by decide) (by decide) (tg 127 (by decide +kernel) (by decide +kernel))) (
  tkc (s_iload_n (at_ dl_X9_which 42 (ins := .iload_n 2) rfl)) (
  tkc (s_aload_n (at_ dl_X9_which 43 (ins := .aload_n 0) rfl)) (
  tkc (s_gR (at_ dl_X9_which 44 (ins := .getfield 19) rfl) (by decide) (by decide) (by decide) (tg 255 (by decide +kernel) (by decide +kernel))) (
  tkc (s_gR (at_ dl_X9_which 45 (ins := .getfield 152) rfl) (by decide) (by decide) (by decide) (tg 127 (by decide +kernel) (by decide +kernel))) (
  tkc (s_iload_n (at_ dl_X9_which 46 (ins := .iload_n 2) rfl)) (
  tkc (s_ia (at_ dl_X9_which 47 (ins := .iaload) rfl)) (
  tkc (s_ias (at_ dl_X9_which 48 (ins := .iastore) rfl)) (
  tkc (s_iinc (at_ dl_X9_which 49 (ins := .iinc 2 1) rfl) (by decide) (by first | rfl | decide)) (
  tkc (s_goto (at_ dl_X9_which 50 (ins := .goto (-75)) rfl) (by decide)) (
  tkc (s_iload_n (at_ dl_X9_which 51 (ins := .iload_n 1) rfl)) (
  tkc (s_rI (at_ dl_X9_which 52 (ins := .ireturn) rfl) rfl) ( tk0)))))))))))))))))))))))))))))))))))))))))))))))))))))
theorem lf_X9_which : lk (tb_X9_which) 0 = (x_c 1 (.int 0), false) ∧ lk (tb_X9_which) 1 = (x_is 2 1, false) ∧ lk (tb_X9_which) 2 = (x_al 3 0, false) ∧ lk (tb_X9_which) 3 = (x_gR 9 2 6, false) ∧ lk (tb_X9_which) 6 = (x_al 7 0, false) ∧ lk (tb_X9_which) 7 = (x_gR 9 1 10, false) ∧ lk (tb_X9_which) 10 = (x_cV 5 1 P_X5_becomeLike 13, false) ∧ lk (tb_X9_which) 13 = (x_c 14 (.int 0), false) ∧ lk (tb_X9_which) 14 = (x_is 15 2, false) ∧ lk (tb_X9_which) 15 = (x_il 16 2, true) ∧ lk (tb_X9_which) 16 = (x_al 17 0, false) ∧ lk (tb_X9_which) 17 = (x_gR 9 1 20, false) ∧ lk (tb_X9_which) 20 = (x_gI 5 4 23, false) ∧ lk (tb_X9_which) 23 = (x_ic 93 26 (fun x y : Int32 => y ≤ x), false) ∧ lk (tb_X9_which) 26 = (x_al 27 0, false) ∧ lk (tb_X9_which) 27 = (x_gR 9 2 30, false) ∧ lk (tb_X9_which) 30 = (x_gR 5 1 33, false) ∧ lk (tb_X9_which) 33 = (x_il 34 2, false) ∧ lk (tb_X9_which) 34 = (x_al 35 0, false) ∧ lk (tb_X9_which) 35 = (x_gR 9 1 38, false) ∧ lk (tb_X9_which) 38 = (x_gR 5 1 41, false) ∧ lk (tb_X9_which) 41 = (x_il 42 2, false) ∧ lk (tb_X9_which) 42 = (x_ia 43, false) ∧ lk (tb_X9_which) 43 = (x_i1 44 (fun x : Int32 => -x), false) ∧ lk (tb_X9_which) 44 = (x_ias 45, false) ∧ lk (tb_X9_which) 45 = (x_al 46 0, false) ∧ lk (tb_X9_which) 46 = (x_gR 9 7 49, false) ∧ lk (tb_X9_which) 49 = (x_al 50 0, false) ∧ lk (tb_X9_which) 50 = (x_gR 9 2 53, false) ∧ lk (tb_X9_which) 53 = (x_al 54 0, false) ∧ lk (tb_X9_which) 54 = (x_gR 9 3 57, false) ∧ lk (tb_X9_which) 57 = (x_cV 4 2 P_X4_isSoBy 60, false) ∧ lk (tb_X9_which) 60 = (x_if 69 63 (fun x : Int32 => x = 0), false) ∧ lk (tb_X9_which) 63 = (x_il 64 1, false) ∧ lk (tb_X9_which) 64 = (x_c 65 (.int 1), false) ∧ lk (tb_X9_which) 65 = (x_il 66 2, false) ∧ lk (tb_X9_which) 66 = (x_ii 67 (fun x y : Int32 => x <<< (y &&& 31)), false) ∧ lk (tb_X9_which) 67 = (x_ii 68 (fun x y : Int32 => x ||| y), false) ∧ lk (tb_X9_which) 68 = (x_is 69 1, false) ∧ lk (tb_X9_which) 69 = (x_al 70 0, false) ∧ lk (tb_X9_which) 70 = (x_gR 9 2 73, false) ∧ lk (tb_X9_which) 73 = (x_gR 5 1 76, false) ∧ lk (tb_X9_which) 76 = (x_il 77 2, false) ∧ lk (tb_X9_which) 77 = (x_al 78 0, false) ∧ lk (tb_X9_which) 78 = (x_gR 9 1 81, false) ∧ lk (tb_X9_which) 81 = (x_gR 5 1 84, false) ∧ lk (tb_X9_which) 84 = (x_il 85 2, false) ∧ lk (tb_X9_which) 85 = (x_ia 86, false) ∧ lk (tb_X9_which) 86 = (x_ias 87, false) ∧ lk (tb_X9_which) 87 = (x_inc 90 2 1, false) ∧ lk (tb_X9_which) 90 = (x_go 15, false) ∧ lk (tb_X9_which) 93 = (x_il 94 1, false) ∧ lk (tb_X9_which) 94 = (x_rI, false) := ⟨rfl, rfl, rfl, rfl, rfl, rfl, rfl, rfl, rfl, rfl, rfl, rfl, rfl, rfl, rfl, rfl, rfl, rfl, rfl, rfl, rfl, rfl, rfl, rfl, rfl, rfl, rfl, rfl, rfl, rfl, rfl, rfl, rfl, rfl, rfl, rfl, rfl, rfl, rfl, rfl, rfl, rfl, rfl, rfl, rfl, rfl, rfl, rfl, rfl, rfl, rfl, rfl, rfl⟩
def P_X9_which : PTT := fun as M R => match as with
  | [.ref k] => k = 0 ∧ ∃ g, CR M.1 M.2.1 M.2.2 g ∧ GOk g ∧ Ans M R (gWhich g) g
  | _ => False
set_option maxRecDepth 20000 in
theorem ok_X9_which : Ok yX9_which mt_X9_which P_X9_which := by
  refine Ok.of (by decide) rfl rfl rfl rfl fun av ⟨S, I, L⟩ R hP => ?_
  unfold P_X9_which at hP
  split at hP
  case h_2 => exact hP.elim
  rename_i k
  obtain ⟨k, rfl⟩ : ∃ q : Nat, q = k := ⟨k, rfl⟩
  refine ⟨by simp [ent, wide, mt_X9_which], ?_⟩
  show J mt_X9_which R 0 [some (.ref k), none, none] [] (S, I, L)
  try dsimp only at hP
  obtain ⟨rfl, g, hc, ho, hA⟩ := hP
  have h1 := hc.1
  have hok := ho.2.1
  have h9 := ho.2.1.1
  have hap : apart5 10 5 := Or.inr (by omega)
  have ha15 : ap15 10 := Or.inl (by omega)
  have ha93 : ap93 10 := Or.inl (by omega)
  have key := up (P := fun b => ∀ I' r d, frS I I' → DSok d → SR I' 10 ((gA g).1, (gA g).2.1, (gA g).2.2.1, r, (gA g).2.2.2.2.1, (gA g).2.2.2.2.2.1, d) → J mt_X9_which R 15 [some (.ref 0), some (.int (nI (bs (wcB g) b))), some (.int (nI b))] [] (S, I', L)) (n := aN (gA g)) (fun b hb ih I' r d hf hd hs' => ?_) 0 (Nat.zero_le _) (cpI I 10 5) (gA g).2.2.2.1 (gA g).2.2.2.2.2.2 (fun q a b c d e f => cpI_fr (by omega)) hok.2.2.2.2 (hc.2.2.1.cpI h9.2.2)
  · refine J.of tk_X9_which 200 fun ρ hρ => ?_
    simp only [hρ, x_c, x_il, x_ll, x_al, x_is, x_as, x_ls, x_inc, x_ii, x_iq, x_i1, x_l2, x_lq, x_lh, x_i2l, x_l2i, x_lcmp, x_dup, x_dup2, x_pop, x_if, x_ifn, x_ic, x_icn, x_go, x_sw, swc, x_l01, x_mx, x_gI, x_gL, x_gR, x_pI, x_pZ, x_pL, x_pR, x_ia, x_za, x_aa, x_ias, x_zas, x_aas, x_fac, x_fa, x_slen, x_sa, x_ac, x_oi, x_new, x_na, x_cS, x_cV, x_cI, x_rI, x_rZ, x_rL, x_r0, pa, short, oc, lg, lset, lset2, wide, cond_true, cond_false, true_and, and_true, ↓reduceIte, Bool.false_eq_true, true_or, or_true, lf_X9_which, h1.1.f, hc.ac.2, hc.ac.2.f, h1.2.2.2.2.1, h1.2.2.2.2.1.f, hap, P_X5_becomeLike]
    exact key
  have hc' := hc.fr hf
  have en : I' 5 4 = nI (aN (gA g)) := hc'.2.2.1.1
  by_cases hlt : b < aN (gA g)
  · have hv : vp_in (nI b) 9 := vp_in_nI (by omega) (by omega)
    have e7 : I' 7 b = aL (gA g) b := hc'.2.2.1.2.2.2.2.2.1 b (by omega)
    refine J.of tk_X9_which 200 fun ρ hρ => ?_
    simp only [hρ, x_c, x_il, x_ll, x_al, x_is, x_as, x_ls, x_inc, x_ii, x_iq, x_i1, x_l2, x_lq, x_lh, x_i2l, x_l2i, x_lcmp, x_dup, x_dup2, x_pop, x_if, x_ifn, x_ic, x_icn, x_go, x_sw, swc, x_l01, x_mx, x_gI, x_gL, x_gR, x_pI, x_pZ, x_pL, x_pR, x_ia, x_za, x_aa, x_ias, x_zas, x_aas, x_fac, x_fa, x_slen, x_sa, x_ac, x_oi, x_new, x_na, x_cS, x_cV, x_cI, x_rI, x_rZ, x_rL, x_r0, pa, short, oc, lg, lset, lset2, wide, cond_true, cond_false, true_and, and_true, ↓reduceIte, Bool.false_eq_true, true_or, or_true, lf_X9_which, h1.1.f, hc.ac.2, hc.ac.2.f, h1.2.2.2.2.1, h1.2.2.2.2.1.f, h1.2.2.2.2.2.1, h1.2.2.2.2.2.2.2.2.2.1, ha15, ha93, en, e7, eq_true hv, Nat.reduceAdd, P_X4_isSoBy, nI_leI (show aN (gA g) < 2 ^ 31 by omega) (show b < 2 ^ 31 by omega), ncl (show b < 2 ^ 31 by omega), nI_1, bB_0, Classical.not_not]
    have ht := inR_neg (hok.2.2.2.1 b (by omega))
    have hsb : SR (mS I' 12 (upd (I' 12) b (-aL (gA g) b))) 10 ((gA g).1, (gA g).2.1, (gA g).2.2.1, r, (gA g).2.2.2.2.1, upd (aL (gA g)) b (-aL (gA g) b), d) := hs'.lv
    have hab : AOk ((gA g).1, (gA g).2.1, (gA g).2.2.1, r, (gA g).2.2.2.2.1, upd (aL (gA g)) b (-aL (gA g) b), d) := lvA_ok (a := ((gA g).1, (gA g).2.1, (gA g).2.2.1, r, (gA g).2.2.2.2.1, aL (gA g), d)) ⟨hok.1, hok.2.1, hok.2.2.1, hok.2.2.2.1, hd⟩ ht
    have hor : OrdId (mS I' 12 (upd (I' 12) b (-aL (gA g) b))) := hc'.2.2.2.2.2.2.2.fr (mS_n (by omega))
    have hse : SeV (mS I' 12 (upd (I' 12) b (-aL (gA g) b))) (gN g) := by
      have h6 := hc'.2.2.2.2.2.1
      refine ⟨ho.2.2.2.2.1, h6.1, fun i hi => ?_⟩
      show tn (I' 94 i) ≤ 20
      rw [(h6.2 i hi).1]; exact ho.2.2.2.2.2 i hi
    have hso : soB (opR (aN (gA g)) (aM (gA g)) (mS I' 12 (upd (I' 12) b (-aL (gA g) b)) 10 6) (ovS (mS I' 12 (upd (I' 12) b (-aL (gA g) b))) 10) (ordI (mS I' 12 (upd (I' 12) b (-aL (gA g) b)))) (d0S (mS I' 12 (upd (I' 12) b (-aL (gA g) b))) 10)) (mS I' 12 (upd (I' 12) b (-aL (gA g) b)) 94) (mS I' 12 (upd (I' 12) b (-aL (gA g) b)) 95) (gN g) = wcB g b := soB_congr (fun n => SR.opr hsb hab hor n) (fun i hi => hc'.2.2.2.2.2.1.2 i hi)
    refine ⟨fun h => absurd h (by omega), fun _ => ⟨h1.2.2.2.2.2.2.2.2.2.1.1, aN (gA g), aM (gA g), gN g, hsb.SV hab, hor.V h9.2.2, hse, fun I2 g1 g2 g3 => ?_⟩⟩
    rw [hso]
    have hf2 : frS I' (mS I2 12 (upd (I2 12) b (I2 7 b))) := fun q a b c d e f => by rw [mS_n (by omega), g1 q (by omega) (by omega) (by omega) (by omega) (by omega), mS_n (by omega)]
    have e27 : I2 7 b = aL (gA g) b := by rw [g1 7 (by omega) (by omega) (by omega) (by omega) (by omega), mS_n (by omega), e7]
    have hs2 : SR I2 10 ((gA g).1, (gA g).2.1, (gA g).2.2.1, 0, (gA g).2.2.2.2.1, upd (aL (gA g)) b (-aL (gA g) b), I2 13, I2 14) := by
      obtain ⟨r1, r2, r3, r4, r5, r6, r7⟩ := hsb
      have e1 : I2 11 = mS I' 12 (upd (I' 12) b (-aL (gA g) b)) 11 := g1 11 (by omega) (by omega) (by omega) (by omega) (by omega)
      have e2 : I2 12 = mS I' 12 (upd (I' 12) b (-aL (gA g) b)) 12 := g1 12 (by omega) (by omega) (by omega) (by omega) (by omega)
      exact ⟨by rw [g2]; exact r1, by rw [g2]; exact r2, by rw [g2]; exact r3, by rw [g2]; rfl, by rw [e1]; exact r5, by rw [e2]; exact r6, DSeq.refl _⟩
    have hs3 : SR (mS I2 12 (upd (I2 12) b (I2 7 b))) 10 ((gA g).1, (gA g).2.1, (gA g).2.2.1, 0, (gA g).2.2.2.2.1, (gA g).2.2.2.2.2.1, I2 13, I2 14) := by
      have := hs2.lv (b := b) (v := I2 7 b)
      rw [e27] at this ⊢
      rw [show lvA ((gA g).1, (gA g).2.1, (gA g).2.2.1, (0 : Int32), (gA g).2.2.2.2.1, upd (aL (gA g)) b (-aL (gA g) b), I2 13, I2 14) b (aL (gA g) b) = ((gA g).1, (gA g).2.1, (gA g).2.2.1, 0, (gA g).2.2.2.2.1, upd (upd (aL (gA g)) b (-aL (gA g) b)) b (aL (gA g) b), I2 13, I2 14) from rfl, upd_upd, upd_same] at this
      exact this
    have := ih hlt _ 0 (I2 13, I2 14) (hf.trans hf2) g3 hs3
    refine ⟨fun h => ?_, fun h => ?_⟩
    · rwa [← bs_f (by simpa using h)] at this
    · rwa [← bs_t (by omega) h] at this
  · have : b = aN (gA g) := by omega
    subst this
    refine J.of tk_X9_which 200 fun ρ hρ => ?_
    simp only [hρ, x_c, x_il, x_ll, x_al, x_is, x_as, x_ls, x_inc, x_ii, x_iq, x_i1, x_l2, x_lq, x_lh, x_i2l, x_l2i, x_lcmp, x_dup, x_dup2, x_pop, x_if, x_ifn, x_ic, x_icn, x_go, x_sw, swc, x_l01, x_mx, x_gI, x_gL, x_gR, x_pI, x_pZ, x_pL, x_pR, x_ia, x_za, x_aa, x_ias, x_zas, x_aas, x_fac, x_fa, x_slen, x_sa, x_ac, x_oi, x_new, x_na, x_cS, x_cV, x_cI, x_rI, x_rZ, x_rL, x_r0, pa, short, oc, lg, lset, lset2, wide, cond_true, cond_false, true_and, and_true, ↓reduceIte, Bool.false_eq_true, true_or, or_true, lf_X9_which, h1.1.f, hc.ac.2.f, en, nI_leI (show aN (gA g) < 2 ^ 31 by omega) (show aN (gA g) < 2 ^ 31 by omega), Nat.le_refl, true_implies, not_true_eq_false, false_implies]
    exact hA.q hc hf
