/-! helpers of the printed tables -/
theorem at_ {cc : ByteArray} {l : List (Nat × Instr × Nat)} (h : ∀ q ∈ l, decode cc q.1 = .ok q.2) (i : Nat) {pc ln : Nat} {ins : Instr} (hq : l[i]? = some (pc, ins, ln)) : decode cc pc = .ok (ins, ln) := h (pc, ins, ln) (List.mem_of_getElem? hq)
theorem tk0 {mt : Mt} : TbOk mt [] := fun _ h => absurd h List.not_mem_nil
theorem tkc {mt : Mt} {pc : Nat} {x : X} {b : Bool} {r : Tb} (h : Snd mt pc x) (hr : TbOk mt r) : TbOk mt ((pc, x, b) :: r) := List.forall_mem_cons.mpr ⟨h, hr⟩
theorem tsw {pc : Nat} {offs : Array Int} (ts : List Nat) (h : offs.toList.map (fun o => (pc : Int) + o) = ts.map (fun t : Nat => (t : Int))) : ∀ i, i < ts.length → ∃ off t, offs[i]? = some off ∧ ts[i]? = some t ∧ (pc : Int) + off = (t : Int) := by
  intro i hi
  have h1 := congrArg (fun l => l[i]?) h
  simp only [List.getElem?_map] at h1
  have h2 : ts[i]? = some ts[i] := List.getElem?_eq_getElem hi
  rw [h2] at h1
  cases ho : offs.toList[i]? with
  | none => rw [ho] at h1; simp at h1
  | some o =>
    rw [ho] at h1
    simp only [Option.map_some, Option.some.injEq] at h1
    refine ⟨o, ts[i], ?_, h2, h1⟩
    rw [← Array.getElem?_toList]
    exact ho
def x_l01 (a b d : Nat) : X := fun ls st M K _ => match st with
  | .int x :: st => (x = 0 → K a ls st M) ∧ (x = 1 → K b ls st M) ∧ (¬ x = 0 → ¬ x = 1 → K d ls st M)
  | _ => False
theorem s_l01 {mt : Mt} {pc : Nat} {dflt oa ob : Int} {len a b d : Nat} (hd : decode mt.1 pc = .ok (.lookupswitch dflt #[(0, oa), (1, ob)], len)) (ha : (pc : Int) + oa = (a : Int)) (hb : (pc : Int) + ob = (b : Int)) (ht : (pc : Int) + dflt = (d : Int)) : Snd mt pc (x_l01 a b d) := by
  intro R p l e s m args below meth c D ca ad N0 S0 Q hc ro ls st M K hx hk
  unfold x_l01 at hx; split at hx
  next x st =>
    intro H locs la cells slots hw hS hl h1 h2 h3 h4
    by_cases h0 : x = 0
    · refine lv_lookup (off := oa) hc.1 hc.2.1 hd rfl ?_ ha (hk _ _ _ _ (hx.1 h0) H locs la cells slots hw hS hl h1 h2 h3 h4)
      subst h0
      rw [Op.lookupswitch.offset_cons, if_pos (by decide)]
    · by_cases h9 : x = 1
      · refine lv_lookup (off := ob) hc.1 hc.2.1 hd rfl ?_ hb (hk _ _ _ _ (hx.2.1 h9) H locs la cells slots hw hS hl h1 h2 h3 h4)
        show Op.lookupswitch.offset [(0, oa), (1, ob)] dflt x.toInt = ob
        rw [lv_osw (k := 0) h0 (by decide)]
        subst h9
        rw [Op.lookupswitch.offset_cons, if_pos (by decide)]
      · refine lv_lookup (off := dflt) hc.1 hc.2.1 hd rfl ?_ ht (hk _ _ _ _ (hx.2.2 h0 h9) H locs la cells slots hw hS hl h1 h2 h3 h4)
        show Op.lookupswitch.offset [(0, oa), (1, ob)] dflt x.toInt = dflt
        rw [lv_osw (k := 0) h0 (by decide), lv_osw (k := 1) h9 (by decide)]
        rfl
  next => exact hx.elim
theorem z01a : ((0 : Int32) = 0 ∨ (0 : Int32) = 1) = True := by simp
theorem z01b : ((1 : Int32) = 0 ∨ (1 : Int32) = 1) = True := by simp
def x_mx (nx : Nat) : X := fun ls st M K _ => match st with
  | [.int y, .int x] => K nx ls [.int (if x < y then y else x)] M
  | _ => False
theorem s_mx {mt : Mt} {pc idx : Nat} (hd : decode mt.1 pc = .ok (.invokestatic idx, 3)) (hlink : Cond.methodLink mt.2.1 idx Lib.Math.max.name ∈ tblG) (hf : 1 ≤ mt.2.2.2.2.1.frames) (hlo : 13 ≤ mt.2.2.2.2.1.locals) : Snd mt pc (x_mx (pc + 3)) := by
  intro R p l e s m args below meth c D ca ad N0 S0 Q hc ro ls st M K hx hk
  unfold x_mx at hx; split at hx
  next y x =>
    intro H locs la cells slots hw hS hl h1 h2 h3 h4
    obtain ⟨lv, l1, l2⟩ := hl
    exact va_mmax hc.1 hc.2.1 (by rw [hc.2.2.1]; exact l1.1.symm) hc.own (hc.ts _ hlink) (hc.ts _ (tg 631 (by decide +kernel) (by decide +kernel))) (hc.ts _ (tg 55 (by decide +kernel) (by decide +kernel))) (hc.ts _ (tg 632 (by decide +kernel) (by decide +kernel))) hf (by show 0 + 13 ≤ _; omega) h3 h4 hd (hk _ _ _ _ hx H locs la cells slots hw hS ⟨lv, l1, l2⟩ h1 h2 h3 h4)
  next => exact hx.elim
