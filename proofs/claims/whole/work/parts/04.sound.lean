/-! EACH STEP IS SOUND -/
def ushr (x y : Int32) : Int32 := (x.toUInt32 >>> (y.toUInt32 &&& Int32.toUInt32 31)).toInt32
def lushr (x : Int64) (y : Int32) : Int64 := (x.toUInt64 >>> (y.toInt64.toUInt64 &&& Int64.toUInt64 63)).toInt64
section SND
variable {mt : Mt} {pc : Nat}
theorem s_iconst {n : Int} {v : Int32} (hd : decode mt.1 pc = .ok (.iconst n, 1)) (hv : Int32.ofInt n = v) : Snd mt pc (x_c (pc + 1) (.int v)) := by
  intro R p l e s m args below meth c D ca ad N0 S0 Q hc ro ls st M K hx hk H locs la cells slots hw hS hl h1 h2 h3 h4
  exact lv_iconst hc.1 hc.2.1 hd hv (hk _ _ _ _ hx H locs la cells slots hw hS hl h1 h2 h3 h4)
theorem s_bipush {n : Int} {v : Int32} (hd : decode mt.1 pc = .ok (.bipush n, 2)) (hv : (Int8.ofInt n).toInt32 = v) : Snd mt pc (x_c (pc + 2) (.int v)) := by
  intro R p l e s m args below meth c D ca ad N0 S0 Q hc ro ls st M K hx hk H locs la cells slots hw hS hl h1 h2 h3 h4
  exact lv_bipush hc.1 hc.2.1 hd hv (hk _ _ _ _ hx H locs la cells slots hw hS hl h1 h2 h3 h4)
theorem s_sipush {n : Int} {v : Int32} (hd : decode mt.1 pc = .ok (.sipush n, 3)) (hv : (Int16.ofInt n).toInt32 = v) : Snd mt pc (x_c (pc + 3) (.int v)) := by
  intro R p l e s m args below meth c D ca ad N0 S0 Q hc ro ls st M K hx hk H locs la cells slots hw hS hl h1 h2 h3 h4
  exact lv_sipush hc.1 hc.2.1 hd hv (hk _ _ _ _ hx H locs la cells slots hw hS hl h1 h2 h3 h4)
theorem s_lconst {n : Fin 2} {v : Int64} (hd : decode mt.1 pc = .ok (.lconst n, 1)) (hv : Int64.ofNat (n : Nat) = v) : Snd mt pc (x_c (pc + 1) (.long v)) := by
  intro R p l e s m args below meth c D ca ad N0 S0 Q hc ro ls st M K hx hk H locs la cells slots hw hS hl h1 h2 h3 h4
  exact lv_lconst hc.1 hc.2.1 hd hv (hk _ _ _ _ hx H locs la cells slots hw hS hl h1 h2 h3 h4)
theorem s_ldcw {idx : Nat} {v : Int32} (hd : decode mt.1 pc = .ok (.ldc_w idx, 3)) (hw : Cond.constant mt.2.1 idx v ∈ tblG) : Snd mt pc (x_c (pc + 3) (.int v)) := by
  intro R p l e s m args below meth c D ca ad N0 S0 Q hc ro ls st M K hx hk H locs la cells slots hw' hS hl h1 h2 h3 h4
  exact lv_ldcw hc.1 hc.2.1 hc.2.2.2.1 (hc.2.2.2.2.1 _ hw) hd (hk _ _ _ _ hx H locs la cells slots hw' hS hl h1 h2 h3 h4)
theorem s_ldc2 {idx : Nat} {v : Int64} (hd : decode mt.1 pc = .ok (.ldc2_w idx, 3)) (hw : Cond.constantLong mt.2.1 idx v ∈ tblG) : Snd mt pc (x_c (pc + 3) (.long v)) := by
  intro R p l e s m args below meth c D ca ad N0 S0 Q hc ro ls st M K hx hk H locs la cells slots hw' hS hl h1 h2 h3 h4
  exact lv_ldc2 hc.1 hc.2.1 hc.2.2.2.1 (hc.2.2.2.2.1 _ hw) hd (hk _ _ _ _ hx H locs la cells slots hw' hS hl h1 h2 h3 h4)
theorem s_iload_n {k : Fin 4} (hd : decode mt.1 pc = .ok (.iload_n k, 1)) : Snd mt pc (x_il (pc + 1) k.val) := by
  intro R p l e s m args below meth c D ca ad N0 S0 Q hc ro ls st M K hx hk
  unfold x_il at hx; split at hx
  next x hg =>
    intro H locs la cells slots hw hS hl h1 h2 h3 h4
    exact lv_iload_n hc.1 hc.2.1 hd rfl (hl.at hg) (hk _ _ _ _ hx H locs la cells slots hw hS hl h1 h2 h3 h4)
  next => exact hx.elim
theorem s_iload {i : Nat} (hd : decode mt.1 pc = .ok (.iload i, 2)) : Snd mt pc (x_il (pc + 2) i) := by
  intro R p l e s m args below meth c D ca ad N0 S0 Q hc ro ls st M K hx hk
  unfold x_il at hx; split at hx
  next x hg =>
    intro H locs la cells slots hw hS hl h1 h2 h3 h4
    exact lv_iload hc.1 hc.2.1 hd (hl.at hg) (hk _ _ _ _ hx H locs la cells slots hw hS hl h1 h2 h3 h4)
  next => exact hx.elim
theorem s_lload_n {k : Fin 4} (hd : decode mt.1 pc = .ok (.lload_n k, 1)) : Snd mt pc (x_ll (pc + 1) k.val) := by
  intro R p l e s m args below meth c D ca ad N0 S0 Q hc ro ls st M K hx hk
  unfold x_ll at hx; split at hx
  next x hg =>
    intro H locs la cells slots hw hS hl h1 h2 h3 h4
    exact lv_lload_n hc.1 hc.2.1 hd rfl (hl.at hg) (hk _ _ _ _ hx H locs la cells slots hw hS hl h1 h2 h3 h4)
  next => exact hx.elim
theorem s_lload {i : Nat} (hd : decode mt.1 pc = .ok (.lload i, 2)) : Snd mt pc (x_ll (pc + 2) i) := by
  intro R p l e s m args below meth c D ca ad N0 S0 Q hc ro ls st M K hx hk
  unfold x_ll at hx; split at hx
  next x hg =>
    intro H locs la cells slots hw hS hl h1 h2 h3 h4
    exact lv_lload hc.1 hc.2.1 hd (hl.at hg) (hk _ _ _ _ hx H locs la cells slots hw hS hl h1 h2 h3 h4)
  next => exact hx.elim
theorem s_aload_n {k : Fin 4} (hd : decode mt.1 pc = .ok (.aload_n k, 1)) : Snd mt pc (x_al (pc + 1) k.val) := by
  intro R p l e s m args below meth c D ca ad N0 S0 Q hc ro ls st M K hx hk
  unfold x_al at hx; split at hx
  next x hg =>
    intro H locs la cells slots hw hS hl h1 h2 h3 h4
    have hq := hk _ _ _ _ hx H locs la cells slots hw hS hl h1 h2 h3 h4
    have hg' := hl.at hg
    simp only [cv, List.map_cons] at hq hg'
    cases ho : rO ad x with
    | none => rw [ho] at hq hg'; exact lv_aload_nN hc.1 hc.2.1 hd rfl hg' hq
    | some a => rw [ho] at hq hg'; exact lv_aload_n hc.1 hc.2.1 hd rfl hg' hq
  next => exact hx.elim
theorem s_aload {i : Nat} (hd : decode mt.1 pc = .ok (.aload i, 2)) : Snd mt pc (x_al (pc + 2) i) := by
  intro R p l e s m args below meth c D ca ad N0 S0 Q hc ro ls st M K hx hk
  unfold x_al at hx; split at hx
  next x hg =>
    intro H locs la cells slots hw hS hl h1 h2 h3 h4
    have hq := hk _ _ _ _ hx H locs la cells slots hw hS hl h1 h2 h3 h4
    have hg' := hl.at hg
    simp only [cv, List.map_cons] at hq hg'
    cases ho : rO ad x with
    | none => rw [ho] at hq hg'; exact lv_aloadN hc.1 hc.2.1 hd hg' hq
    | some a => rw [ho] at hq hg'; exact lv_aload hc.1 hc.2.1 hd hg' hq
  next => exact hx.elim
theorem s_istore_n {k : Fin 4} (hd : decode mt.1 pc = .ok (.istore_n k, 1)) (hn : k.val < mt.2.2.1) : Snd mt pc (x_is (pc + 1) k.val) := by
  intro R p l e s m args below meth c D ca ad N0 S0 Q hc ro ls st M K hx hk
  unfold x_is at hx; split at hx
  next x st =>
    intro H locs la cells slots hw hS hl h1 h2 h3 h4
    obtain ⟨lv, l1, l2⟩ := hl
    exact lv_istore_n hc.1 hc.2.1 hd rfl l1 hn rfl (fun la' h' => hk _ _ _ _ hx H locs la' cells slots hw hS (LH.set l2 h') h1 h2 h3 h4)
  next => exact hx.elim
theorem s_istore {i : Nat} (hd : decode mt.1 pc = .ok (.istore i, 2)) (hn : i < mt.2.2.1) : Snd mt pc (x_is (pc + 2) i) := by
  intro R p l e s m args below meth c D ca ad N0 S0 Q hc ro ls st M K hx hk
  unfold x_is at hx; split at hx
  next x st =>
    intro H locs la cells slots hw hS hl h1 h2 h3 h4
    obtain ⟨lv, l1, l2⟩ := hl
    exact lv_istore hc.1 hc.2.1 hd l1 hn rfl (fun la' h' => hk _ _ _ _ hx H locs la' cells slots hw hS (LH.set l2 h') h1 h2 h3 h4)
  next => exact hx.elim
theorem s_astore_n {k : Fin 4} (hd : decode mt.1 pc = .ok (.astore_n k, 1)) (hn : k.val < mt.2.2.1) : Snd mt pc (x_as (pc + 1) k.val) := by
  intro R p l e s m args below meth c D ca ad N0 S0 Q hc ro ls st M K hx hk
  unfold x_as at hx; split at hx
  next x st =>
    intro H locs la cells slots hw hS hl h1 h2 h3 h4
    obtain ⟨lv, l1, l2⟩ := hl
    have key : ∀ la', lv_has la' mt.2.2.1 ((k.val, cv ad (.ref x)) :: lv.filter (fun q => !(q.1 == k.val) && !(q.1 + 1 == k.val && q.2.category == 2))) → W p l e mt.2.2.2.2.1 s m args below meth c H locs cells slots Q (F0 m (pc + 1) la' (st.map (cv ad))) := fun la' h' => hk _ _ _ _ hx H locs la' cells slots hw hS (LH.set l2 h') h1 h2 h3 h4
    simp only [cv, List.map_cons] at key ⊢
    cases ho : rO ad x with
    | none => rw [ho] at key; exact lv_astore_nN hc.1 hc.2.1 hd rfl l1 hn rfl key
    | some a => rw [ho] at key; exact lv_astore_n hc.1 hc.2.1 hd rfl l1 hn rfl key
  next => exact hx.elim
theorem s_lstore_n {k : Fin 4} (hd : decode mt.1 pc = .ok (.lstore_n k, 1)) (hn : k.val + 1 < mt.2.2.1) : Snd mt pc (x_ls (pc + 1) k.val) := by
  intro R p l e s m args below meth c D ca ad N0 S0 Q hc ro ls st M K hx hk
  unfold x_ls at hx; split at hx
  next x st =>
    intro H locs la cells slots hw hS hl h1 h2 h3 h4
    obtain ⟨lv, l1, l2⟩ := hl
    exact lv_lstore_n hc.1 hc.2.1 hd rfl l1 hn rfl (fun la' h' => hk _ _ _ _ hx H locs la' cells slots hw hS (LH.set2 l2 h') h1 h2 h3 h4)
  next => exact hx.elim
theorem s_lstore {i : Nat} (hd : decode mt.1 pc = .ok (.lstore i, 2)) (hn : i + 1 < mt.2.2.1) : Snd mt pc (x_ls (pc + 2) i) := by
  intro R p l e s m args below meth c D ca ad N0 S0 Q hc ro ls st M K hx hk
  unfold x_ls at hx; split at hx
  next x st =>
    intro H locs la cells slots hw hS hl h1 h2 h3 h4
    obtain ⟨lv, l1, l2⟩ := hl
    exact lv_lstore hc.1 hc.2.1 hd l1 hn rfl (fun la' h' => hk _ _ _ _ hx H locs la' cells slots hw hS (LH.set2 l2 h') h1 h2 h3 h4)
  next => exact hx.elim
theorem s_iinc {i : Nat} {n : Int} {d : Int32} (hd : decode mt.1 pc = .ok (.iinc i n, 3)) (hn : i < mt.2.2.1) (hv : Int32.ofInt n = d) : Snd mt pc (x_inc (pc + 3) i d) := by
  intro R p l e s m args below meth c D ca ad N0 S0 Q hc ro ls st M K hx hk
  unfold x_inc at hx; split at hx
  next x hg =>
    intro H locs la cells slots hw hS hl h1 h2 h3 h4
    obtain ⟨lv, l1, l2⟩ := hl
    obtain ⟨k, hk'⟩ := List.getElem?_of_mem (l2 i (.int x) (lg_get hg))
    exact lv_iinc hc.1 hc.2.1 hd l1 hk' (by rw [hv]) hn rfl (fun la' h' => hk _ _ _ _ hx H locs la' cells slots hw hS (LH.set l2 h') h1 h2 h3 h4)
  next => exact hx.elim
theorem s_goto {off : Int} {tgt : Nat} (hd : decode mt.1 pc = .ok (.goto off, 3)) (ht : (pc : Int) + off = (tgt : Int)) : Snd mt pc (x_go tgt) := by
  intro R p l e s m args below meth c D ca ad N0 S0 Q hc ro ls st M K hx hk H locs la cells slots hw hS hl h1 h2 h3 h4
  exact lv_goto hc.1 hc.2.1 hd ht (hk _ _ _ _ hx H locs la cells slots hw hS hl h1 h2 h3 h4)
theorem s_i2l (hd : decode mt.1 pc = .ok (.i2l, 1)) : Snd mt pc (x_i2l (pc + 1)) := by
  intro R p l e s m args below meth c D ca ad N0 S0 Q hc ro ls st M K hx hk
  unfold x_i2l at hx; split at hx
  next x st =>
    intro H locs la cells slots hw hS hl h1 h2 h3 h4
    exact lv_i2l hc.1 hc.2.1 hd rfl (hk _ _ _ _ hx H locs la cells slots hw hS hl h1 h2 h3 h4)
  next => exact hx.elim
theorem s_l2i (hd : decode mt.1 pc = .ok (.l2i, 1)) : Snd mt pc (x_l2i (pc + 1)) := by
  intro R p l e s m args below meth c D ca ad N0 S0 Q hc ro ls st M K hx hk
  unfold x_l2i at hx; split at hx
  next x st =>
    intro H locs la cells slots hw hS hl h1 h2 h3 h4
    exact lv_l2i hc.1 hc.2.1 hd rfl (hk _ _ _ _ hx H locs la cells slots hw hS hl h1 h2 h3 h4)
  next => exact hx.elim
theorem s_lcmp (hd : decode mt.1 pc = .ok (.lcmp, 1)) : Snd mt pc (x_lcmp (pc + 1)) := by
  intro R p l e s m args below meth c D ca ad N0 S0 Q hc ro ls st M K hx hk
  unfold x_lcmp at hx; split at hx
  next y x st =>
    intro H locs la cells slots hw hS hl h1 h2 h3 h4
    exact W.lcmp hc.1 hc.2.1 hd (hk _ _ _ _ hx H locs la cells slots hw hS hl h1 h2 h3 h4)
  next => exact hx.elim
theorem s_dup (hd : decode mt.1 pc = .ok (.dup, 1)) : Snd mt pc (x_dup (pc + 1)) := by
  intro R p l e s m args below meth c D ca ad N0 S0 Q hc ro ls st M K hx hk
  unfold x_dup at hx; split at hx
  next x st =>
    intro H locs la cells slots hw hS hl h1 h2 h3 h4
    exact lv_dup hc.1 hc.2.1 hd (cv_cat ad (.int x)) (hk _ _ _ _ hx H locs la cells slots hw hS hl h1 h2 h3 h4)
  next x st =>
    intro H locs la cells slots hw hS hl h1 h2 h3 h4
    exact lv_dup hc.1 hc.2.1 hd (cv_cat ad (.ref x)) (hk _ _ _ _ hx H locs la cells slots hw hS hl h1 h2 h3 h4)
  next => exact hx.elim
theorem s_dup2 (hd : decode mt.1 pc = .ok (.dup2, 1)) : Snd mt pc (x_dup2 (pc + 1)) := by
  intro R p l e s m args below meth c D ca ad N0 S0 Q hc ro ls st M K hx hk
  unfold x_dup2 at hx; split at hx
  next y x st =>
    intro H locs la cells slots hw hS hl h1 h2 h3 h4
    exact lv_dup2_11 hc.1 hc.2.1 hd (cv_cat ad (.int y)) (cv_cat ad (.ref x)) (hk _ _ _ _ hx H locs la cells slots hw hS hl h1 h2 h3 h4)
  next => exact hx.elim
theorem s_pop (hd : decode mt.1 pc = .ok (.pop, 1)) : Snd mt pc (x_pop (pc + 1)) := by
  intro R p l e s m args below meth c D ca ad N0 S0 Q hc ro ls st M K hx hk
  unfold x_pop at hx; split at hx
  next x st =>
    intro H locs la cells slots hw hS hl h1 h2 h3 h4
    exact lv_pop hc.1 hc.2.1 hd (cv_cat ad (.int x)) (hk _ _ _ _ hx H locs la cells slots hw hS hl h1 h2 h3 h4)
  next => exact hx.elim
theorem s_iadd (hd : decode mt.1 pc = .ok (.iadd, 1)) : Snd mt pc (x_ii (pc + 1) (fun x y : Int32 => x + y)) := by
  intro R p l e s m args below meth c D ca ad N0 S0 Q hc ro ls st M K hx hk
  unfold x_ii at hx; split at hx
  next y x st =>
    intro H locs la cells slots hw hS hl h1 h2 h3 h4
    exact lv_iadd hc.1 hc.2.1 hd (hk _ _ _ _ hx H locs la cells slots hw hS hl h1 h2 h3 h4)
  next => exact hx.elim
theorem s_isub (hd : decode mt.1 pc = .ok (.isub, 1)) : Snd mt pc (x_ii (pc + 1) (fun x y : Int32 => x - y)) := by
  intro R p l e s m args below meth c D ca ad N0 S0 Q hc ro ls st M K hx hk
  unfold x_ii at hx; split at hx
  next y x st =>
    intro H locs la cells slots hw hS hl h1 h2 h3 h4
    exact lv_isub hc.1 hc.2.1 hd (hk _ _ _ _ hx H locs la cells slots hw hS hl h1 h2 h3 h4)
  next => exact hx.elim
theorem s_imul (hd : decode mt.1 pc = .ok (.imul, 1)) : Snd mt pc (x_ii (pc + 1) (fun x y : Int32 => x * y)) := by
  intro R p l e s m args below meth c D ca ad N0 S0 Q hc ro ls st M K hx hk
  unfold x_ii at hx; split at hx
  next y x st =>
    intro H locs la cells slots hw hS hl h1 h2 h3 h4
    exact lv_imul hc.1 hc.2.1 hd (hk _ _ _ _ hx H locs la cells slots hw hS hl h1 h2 h3 h4)
  next => exact hx.elim
theorem s_iand (hd : decode mt.1 pc = .ok (.iand, 1)) : Snd mt pc (x_ii (pc + 1) (fun x y : Int32 => x &&& y)) := by
  intro R p l e s m args below meth c D ca ad N0 S0 Q hc ro ls st M K hx hk
  unfold x_ii at hx; split at hx
  next y x st =>
    intro H locs la cells slots hw hS hl h1 h2 h3 h4
    exact lv_iand hc.1 hc.2.1 hd (hk _ _ _ _ hx H locs la cells slots hw hS hl h1 h2 h3 h4)
  next => exact hx.elim
theorem s_ior (hd : decode mt.1 pc = .ok (.ior, 1)) : Snd mt pc (x_ii (pc + 1) (fun x y : Int32 => x ||| y)) := by
  intro R p l e s m args below meth c D ca ad N0 S0 Q hc ro ls st M K hx hk
  unfold x_ii at hx; split at hx
  next y x st =>
    intro H locs la cells slots hw hS hl h1 h2 h3 h4
    exact lv_ior hc.1 hc.2.1 hd (hk _ _ _ _ hx H locs la cells slots hw hS hl h1 h2 h3 h4)
  next => exact hx.elim
theorem s_ixor (hd : decode mt.1 pc = .ok (.ixor, 1)) : Snd mt pc (x_ii (pc + 1) (fun x y : Int32 => x ^^^ y)) := by
  intro R p l e s m args below meth c D ca ad N0 S0 Q hc ro ls st M K hx hk
  unfold x_ii at hx; split at hx
  next y x st =>
    intro H locs la cells slots hw hS hl h1 h2 h3 h4
    exact lv_ixor hc.1 hc.2.1 hd (hk _ _ _ _ hx H locs la cells slots hw hS hl h1 h2 h3 h4)
  next => exact hx.elim
theorem s_ishl (hd : decode mt.1 pc = .ok (.ishl, 1)) : Snd mt pc (x_ii (pc + 1) (fun x y : Int32 => x <<< (y &&& 31))) := by
  intro R p l e s m args below meth c D ca ad N0 S0 Q hc ro ls st M K hx hk
  unfold x_ii at hx; split at hx
  next y x st =>
    intro H locs la cells slots hw hS hl h1 h2 h3 h4
    exact lv_ishl hc.1 hc.2.1 hd (hk _ _ _ _ hx H locs la cells slots hw hS hl h1 h2 h3 h4)
  next => exact hx.elim
theorem s_ishr (hd : decode mt.1 pc = .ok (.ishr, 1)) : Snd mt pc (x_ii (pc + 1) (fun x y : Int32 => x >>> (y &&& 31))) := by
  intro R p l e s m args below meth c D ca ad N0 S0 Q hc ro ls st M K hx hk
  unfold x_ii at hx; split at hx
  next y x st =>
    intro H locs la cells slots hw hS hl h1 h2 h3 h4
    exact lv_ishr hc.1 hc.2.1 hd (hk _ _ _ _ hx H locs la cells slots hw hS hl h1 h2 h3 h4)
  next => exact hx.elim
theorem s_iushr (hd : decode mt.1 pc = .ok (.iushr, 1)) : Snd mt pc (x_ii (pc + 1) ushr) := by
  intro R p l e s m args below meth c D ca ad N0 S0 Q hc ro ls st M K hx hk
  unfold x_ii at hx; split at hx
  next y x st =>
    intro H locs la cells slots hw hS hl h1 h2 h3 h4
    exact lv_iushr hc.1 hc.2.1 hd rfl (hk _ _ _ _ hx H locs la cells slots hw hS hl h1 h2 h3 h4)
  next => exact hx.elim
theorem s_idiv (hd : decode mt.1 pc = .ok (.idiv, 1)) : Snd mt pc (x_iq (pc + 1) (fun x y : Int32 => x / y)) := by
  intro R p l e s m args below meth c D ca ad N0 S0 Q hc ro ls st M K hx hk
  unfold x_iq at hx; split at hx
  next y x st =>
    intro H locs la cells slots hw hS hl h1 h2 h3 h4
    exact lv_idiv hc.1 hc.2.1 hd hx.1 (hk _ _ _ _ hx.2 H locs la cells slots hw hS hl h1 h2 h3 h4)
  next => exact hx.elim
theorem s_irem (hd : decode mt.1 pc = .ok (.irem, 1)) : Snd mt pc (x_iq (pc + 1) (fun x y : Int32 => x - x / y * y)) := by
  intro R p l e s m args below meth c D ca ad N0 S0 Q hc ro ls st M K hx hk
  unfold x_iq at hx; split at hx
  next y x st =>
    intro H locs la cells slots hw hS hl h1 h2 h3 h4
    exact lv_irem hc.1 hc.2.1 hd hx.1 (hk _ _ _ _ hx.2 H locs la cells slots hw hS hl h1 h2 h3 h4)
  next => exact hx.elim
theorem s_ineg (hd : decode mt.1 pc = .ok (.ineg, 1)) : Snd mt pc (x_i1 (pc + 1) (fun x : Int32 => -x)) := by
  intro R p l e s m args below meth c D ca ad N0 S0 Q hc ro ls st M K hx hk
  unfold x_i1 at hx; split at hx
  next x st =>
    intro H locs la cells slots hw hS hl h1 h2 h3 h4
    exact lv_ineg hc.1 hc.2.1 hd (hk _ _ _ _ hx H locs la cells slots hw hS hl h1 h2 h3 h4)
  next => exact hx.elim
theorem s_ladd (hd : decode mt.1 pc = .ok (.ladd, 1)) : Snd mt pc (x_l2 (pc + 1) (fun x y : Int64 => x + y)) := by
  intro R p l e s m args below meth c D ca ad N0 S0 Q hc ro ls st M K hx hk
  unfold x_l2 at hx; split at hx
  next y x st =>
    intro H locs la cells slots hw hS hl h1 h2 h3 h4
    exact lv_ladd hc.1 hc.2.1 hd (hk _ _ _ _ hx H locs la cells slots hw hS hl h1 h2 h3 h4)
  next => exact hx.elim
theorem s_lsub (hd : decode mt.1 pc = .ok (.lsub, 1)) : Snd mt pc (x_l2 (pc + 1) (fun x y : Int64 => x - y)) := by
  intro R p l e s m args below meth c D ca ad N0 S0 Q hc ro ls st M K hx hk
  unfold x_l2 at hx; split at hx
  next y x st =>
    intro H locs la cells slots hw hS hl h1 h2 h3 h4
    exact lv_lsub hc.1 hc.2.1 hd (hk _ _ _ _ hx H locs la cells slots hw hS hl h1 h2 h3 h4)
  next => exact hx.elim
theorem s_lmul (hd : decode mt.1 pc = .ok (.lmul, 1)) : Snd mt pc (x_l2 (pc + 1) (fun x y : Int64 => x * y)) := by
  intro R p l e s m args below meth c D ca ad N0 S0 Q hc ro ls st M K hx hk
  unfold x_l2 at hx; split at hx
  next y x st =>
    intro H locs la cells slots hw hS hl h1 h2 h3 h4
    exact lv_lmul hc.1 hc.2.1 hd (hk _ _ _ _ hx H locs la cells slots hw hS hl h1 h2 h3 h4)
  next => exact hx.elim
theorem s_land (hd : decode mt.1 pc = .ok (.land, 1)) : Snd mt pc (x_l2 (pc + 1) (fun x y : Int64 => x &&& y)) := by
  intro R p l e s m args below meth c D ca ad N0 S0 Q hc ro ls st M K hx hk
  unfold x_l2 at hx; split at hx
  next y x st =>
    intro H locs la cells slots hw hS hl h1 h2 h3 h4
    exact lv_land hc.1 hc.2.1 hd (hk _ _ _ _ hx H locs la cells slots hw hS hl h1 h2 h3 h4)
  next => exact hx.elim
theorem s_lor (hd : decode mt.1 pc = .ok (.lor, 1)) : Snd mt pc (x_l2 (pc + 1) (fun x y : Int64 => x ||| y)) := by
  intro R p l e s m args below meth c D ca ad N0 S0 Q hc ro ls st M K hx hk
  unfold x_l2 at hx; split at hx
  next y x st =>
    intro H locs la cells slots hw hS hl h1 h2 h3 h4
    exact lv_lor hc.1 hc.2.1 hd (hk _ _ _ _ hx H locs la cells slots hw hS hl h1 h2 h3 h4)
  next => exact hx.elim
theorem s_ldiv (hd : decode mt.1 pc = .ok (.ldiv, 1)) : Snd mt pc (x_lq (pc + 1) (fun x y : Int64 => x / y)) := by
  intro R p l e s m args below meth c D ca ad N0 S0 Q hc ro ls st M K hx hk
  unfold x_lq at hx; split at hx
  next y x st =>
    intro H locs la cells slots hw hS hl h1 h2 h3 h4
    exact lv_ldiv hc.1 hc.2.1 hd hx.1 (hk _ _ _ _ hx.2 H locs la cells slots hw hS hl h1 h2 h3 h4)
  next => exact hx.elim
theorem s_lrem (hd : decode mt.1 pc = .ok (.lrem, 1)) : Snd mt pc (x_lq (pc + 1) (fun x y : Int64 => x - x / y * y)) := by
  intro R p l e s m args below meth c D ca ad N0 S0 Q hc ro ls st M K hx hk
  unfold x_lq at hx; split at hx
  next y x st =>
    intro H locs la cells slots hw hS hl h1 h2 h3 h4
    exact lv_lrem hc.1 hc.2.1 hd hx.1 (hk _ _ _ _ hx.2 H locs la cells slots hw hS hl h1 h2 h3 h4)
  next => exact hx.elim
theorem s_lushr (hd : decode mt.1 pc = .ok (.lushr, 1)) : Snd mt pc (x_lh (pc + 1) lushr) := by
  intro R p l e s m args below meth c D ca ad N0 S0 Q hc ro ls st M K hx hk
  unfold x_lh at hx; split at hx
  next y x st =>
    intro H locs la cells slots hw hS hl h1 h2 h3 h4
    exact lv_lushr hc.1 hc.2.1 hd rfl (hk _ _ _ _ hx H locs la cells slots hw hS hl h1 h2 h3 h4)
  next => exact hx.elim
theorem s_lshl (hd : decode mt.1 pc = .ok (.lshl, 1)) : Snd mt pc (x_lh (pc + 1) (fun (x : Int64) (y : Int32) => x <<< (y.toInt64 &&& 63))) := by
  intro R p l e s m args below meth c D ca ad N0 S0 Q hc ro ls st M K hx hk
  unfold x_lh at hx; split at hx
  next y x st =>
    intro H locs la cells slots hw hS hl h1 h2 h3 h4
    exact lv_lshl hc.1 hc.2.1 hd rfl (hk _ _ _ _ hx H locs la cells slots hw hS hl h1 h2 h3 h4)
  next => exact hx.elim
end SND
