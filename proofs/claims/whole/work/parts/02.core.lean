/-! THE ABSTRACT MACHINE: values whose references are places of the world (9999: null), memory of typed rows, steps as predicate transformers -/
def tblG : List Cond := lw_tbl.filter goodWord
theorem tg {w : Cond} (i : Nat) (h : lw_tbl[i]? = some w) (g : goodWord w = true) : w ∈ tblG := List.mem_filter.mpr ⟨List.mem_of_getElem? h, g⟩
def kCl : List vw_C := [(RX0, TX0, 3), (RX1, TX1, 5), (RX0, TX0, 3), (RX3, TX3, 7), (RX4, TX4, 3), (RX5, TX5, 8), (RX6, TX6, 2), (RX7, TX7, 3), (RX8, TX8, 1), (RX9, TX9, 11), (RX10, TX10, 26)]
def tyC : Nat → Nat → FieldType := fun ci => match ci with
  | 0 => tyX0 | 1 => tyX1 | 2 => tyX0 | 3 => tyX3 | 4 => tyX4 | 5 => tyX5 | 6 => tyX6 | 7 => tyX7 | 8 => tyX8 | 9 => tyX9 | _ => tyX10
def nfC : Nat → Nat := fun ci => match ci with
  | 0 => 3 | 1 => 5 | 2 => 3 | 3 => 7 | 4 => 3 | 5 => 8 | 6 => 2 | 7 => 3 | 8 => 1 | 9 => 11 | _ => 26
def fkOf : FieldType → Nat := fun t => match t with
  | .int => 0 | .boolean => 0 | .long => 1 | _ => 2
abbrev Vals : Type := List (Option Value)
/-- cells, slots, kind and length (or class) of a place, references -/
abbrev Sh : Type := Nat × Nat × (Nat → Nat × Nat) × (Nat → Nat → Nat)
abbrev Mem : Type := Sh × (Nat → Nat → Int32) × (Nat → Nat → Int64)
def rO (ad : Nat → Nat) (r : Nat) : Option Nat := if r = 9999 then none else some (ad r)
def cv (ad : Nat → Nat) (v : Value) : Value := match v with
  | .ref k => va_rf (rO ad k)
  | v => v
def fV (ad : Nat → Nat) (M : Mem) (ci k j : Nat) : Value := if fkOf (tyC ci j) = 0 then .int (M.2.1 k j) else if fkOf (tyC ci j) = 1 then .long (M.2.2 k j) else cv ad (.ref (M.1.2.2.2 k j))
def fsM (ad : Nat → Nat) (M : Mem) (ci k : Nat) : List Value := (List.range (nfC ci)).map (fV ad M ci k)
def cEnc (ca : Nat → ClassId) (ad : Nat → Nat) (M : Mem) (k : Nat) : va_E :=
  if (M.1.2.2.1 k).1 = 0 then .inr ((M.1.2.2.1 k).2, fsM ad M (M.1.2.2.1 k).2 k)
  else if (M.1.2.2.1 k).1 = 3 then .inl (ca 3, (M.1.2.2.1 k).2, .inr (.inr (.inr (.inr (fun j => rO ad (M.1.2.2.2 k j))))))
  else .inl (ca (M.1.2.2.1 k).1, (M.1.2.2.1 k).2, .inl (M.2.1 k))
def wsM (ca : Nat → ClassId) (ad : Nat → Nat) (M : Mem) : va_W := (List.range M.1.1).map (fun k => (ad k, cEnc ca ad M k))
def tysC (ca : Nat → ClassId) : List (ClassId × FieldType) := [(ca 1, .int), (ca 2, .boolean), (ca 3, .object RX5)]
/-- the world: every place's cell, from ad 0 on, and nothing behind them -/
def Wd (D : va_G) (ca : Nat → ClassId) (ad : Nat → Nat) (M : Mem) (H : Heap) : Prop := va_P D kCl (wsM ca ad M) H ∧ M.1.1 ≤ 9000
def facI : Nat → Int32 := fun j => ([1, 1, 2, 6, 24, 120, 720] : List Int32).getD j 0
abbrev AA (ad : Nat → Nat) : Nat → Prop := fun q => ad 0 ≤ q
/-- what stays: the tables, the places' addresses, the static array, the script -/
def Ev (D : va_G) (ca : Nat → ClassId) (ad : Nat → Nat) (scr : Option (Nat × (Nat → Int32))) (s : State) : Prop :=
  va_K D kCl (tysC ca) s ∧ (∀ k, k < 9000 → ad k = ad 0 + k) ∧ va_Z RX9 "FACTORIALS" "[I" (.ref (ad 9001)) (AA ad) s s.heap ∧ va_T .int (ad 9001) 7 (fun j => .int (facI j)) (AA ad) s s.heap ∧
  va_Nw (.methodLinkNest RX1 73 yX9_held RX9) s ∧ va_Nw (.fieldLinkNest RX6 55 RX9 "FACTORIALS" "[I" RX9) s ∧ va_AO RX5 s ∧
  (∀ q, scr = some q → va_X (ad 9002) q.1 q.2 s s.heap ∧ ad 9002 < s.heap.size ∧ ad 9002 < ad 0) ∧ ad 0 ≤ s.heap.size
/-- a method: code, class, locals, answer's type, room, whether it is a constructor, the script (the law alone) -/
abbrev Mt : Type := ByteArray × String × Nat × Option FieldType × Room × Bool × Option (Nat × (Nat → Int32)) × Option (Nat × Nat)
def HC (mt : Mt) (p : Program) (s : State) (m : MethodId) (args : Array Value) (meth : Method) (c : Code) (D : va_G) (ca : Nat → ClassId) (ad : Nat → Nat) (N0 S0 : Nat) : Prop :=
  p.tables.exec = Jvm.exec ∧ c.code = mt.1 ∧ c.maxLocals = mt.2.2.1 ∧ s.vm.findClass mt.2.1 = some m.cls ∧ (∀ w ∈ tblG, w.before args s = true) ∧ meth.locks = false ∧ meth.sig.returnType = mt.2.2.2.1 ∧ (mt.2.2.2.2.2.1 = true → meth.name = "<init>") ∧ Ev D ca ad mt.2.2.2.2.2.2.1 s ∧ s.heap.size = ad 0 + N0 ∧ (∀ q, mt.2.2.2.2.2.2.2 = some q → N0 = q.1 ∧ S0 = q.2)
def LH (ad : Nat → Nat) (la : Array Slot) (nL : Nat) (ls : Vals) : Prop := ∃ lv, lv_has la nL lv ∧ ∀ (i : Nat) (v : Value), ls[i]? = some (some v) → (i, cv ad v) ∈ lv
def rtOk (rt : Option FieldType) (r : Option Value) : Prop := match rt, r with
  | none, none => True
  | some .int, some (.int _) => True
  | some .boolean, some (.int v) => v = 0 ∨ v = 1
  | some .long, some (.long _) => True
  | _, _ => False
def rdec (cc : ByteArray) (pc : Nat) (r : Option Value) : Prop := match r with
  | none => decode cc pc = .ok (.return_, 1)
  | some (.int _) => decode cc pc = .ok (.ireturn, 1)
  | some (.long _) => decode cc pc = .ok (.lreturn, 1)
  | _ => False
def RO (mt : Mt) (R : Option Value → Mem → Prop) (p : Program) (l : Launch) (e : Env) (s : State) (m : MethodId) (args : Array Value) (below : List Frame) (meth : Method) (c : Code) (D : va_G) (ca : Nat → ClassId) (ad : Nat → Nat) (N0 S0 : Nat) (Q : State → Prop) : Prop :=
  ∀ (r : Option Value) (M : Mem) (H : Heap) (locs : List Loc) (la : Array Slot) (pc cells slots : Nat), R r M → Wd D ca ad M H → va_S (AA ad) s.heap H locs → N0 + cells = M.1.1 → S0 + slots = M.1.2.1 → cells ≤ mt.2.2.2.2.1.cells → slots ≤ mt.2.2.2.2.1.slots → rtOk mt.2.2.2.1 r → rdec mt.1 pc r →
    W p l e mt.2.2.2.2.1 s m args below meth c H locs cells slots Q (F0 m pc la (r.toList.map (cv ad)))
def JW (mt : Mt) (p : Program) (l : Launch) (e : Env) (s : State) (m : MethodId) (args : Array Value) (below : List Frame) (meth : Method) (c : Code) (D : va_G) (ca : Nat → ClassId) (ad : Nat → Nat) (N0 S0 : Nat) (Q : State → Prop) (pc : Nat) (ls : Vals) (st : List Value) (M : Mem) : Prop :=
  ∀ (H : Heap) (locs : List Loc) (la : Array Slot) (cells slots : Nat), Wd D ca ad M H → va_S (AA ad) s.heap H locs → LH ad la mt.2.2.1 ls → N0 + cells = M.1.1 → S0 + slots = M.1.2.1 → cells ≤ mt.2.2.2.2.1.cells → slots ≤ mt.2.2.2.2.1.slots →
    W p l e mt.2.2.2.2.1 s m args below meth c H locs cells slots Q (F0 m pc la (st.map (cv ad)))
/-- from this point the method returns, with R -/
def J (mt : Mt) (R : Option Value → Mem → Prop) (pc : Nat) (ls : Vals) (st : List Value) (M : Mem) : Prop :=
  ∀ (p : Program) (l : Launch) (e : Env) (s : State) (m : MethodId) (args : Array Value) (below : List Frame) (meth : Method) (c : Code) (D : va_G) (ca : Nat → ClassId) (ad : Nat → Nat) (N0 S0 : Nat) (Q : State → Prop),
    HC mt p s m args meth c D ca ad N0 S0 → RO mt R p l e s m args below meth c D ca ad N0 S0 Q → JW mt p l e s m args below meth c D ca ad N0 S0 Q pc ls st M
abbrev KT : Type := Nat → Vals → List Value → Mem → Prop
abbrev X : Type := Vals → List Value → Mem → KT → (Option Value → Mem → Prop) → Prop
def Snd (mt : Mt) (pc : Nat) (x : X) : Prop :=
  ∀ (R : Option Value → Mem → Prop) (p : Program) (l : Launch) (e : Env) (s : State) (m : MethodId) (args : Array Value) (below : List Frame) (meth : Method) (c : Code) (D : va_G) (ca : Nat → ClassId) (ad : Nat → Nat) (N0 S0 : Nat) (Q : State → Prop),
    HC mt p s m args meth c D ca ad N0 S0 → RO mt R p l e s m args below meth c D ca ad N0 S0 Q → ∀ (ls : Vals) (st : List Value) (M : Mem) (K : KT), x ls st M K R → (∀ pc' ls' st' M', K pc' ls' st' M' → JW mt p l e s m args below meth c D ca ad N0 S0 Q pc' ls' st' M') → JW mt p l e s m args below meth c D ca ad N0 S0 Q pc ls st M
/-! the runner -/
abbrev Tb : Type := List (Nat × X × Bool)
def lk : Tb → Nat → X × Bool
  | [], _ => (fun _ _ _ _ _ => False, false)
  | (p, q) :: r, pc => bif Nat.beq p pc then q else lk r pc
def run (tb : Tb) (K : KT) (R : Option Value → Mem → Prop) : Nat → KT
  | 0, pc, ls, st, M => K pc ls st M
  | n + 1, pc, ls, st, M => if (lk tb pc).2 = true then K pc ls st M else (lk tb pc).1 ls st M (run tb K R n) R
def TbOk (mt : Mt) (tb : Tb) : Prop := ∀ q ∈ tb, Snd mt q.1 q.2.1
theorem lk_snd {mt : Mt} : ∀ {tb : Tb}, TbOk mt tb → ∀ pc, Snd mt pc (lk tb pc).1
  | [], _, pc => fun _ _ _ _ _ _ _ _ _ _ _ _ _ _ _ _ _ _ _ _ _ _ h => h.elim
  | (p, q) :: r, h, pc => by
    unfold lk
    cases hb : Nat.beq p pc with
    | true =>
      have hp : p = pc := Nat.eq_of_beq_eq_true hb
      subst hp
      exact h (p, q) List.mem_cons_self
    | false => exact lk_snd (fun q hq => h q (List.mem_cons_of_mem _ hq)) pc
theorem run_snd {mt : Mt} {tb : Tb} (h : TbOk mt tb) {K : KT} {R : Option Value → Mem → Prop} (hK : ∀ pc ls st M, K pc ls st M → J mt R pc ls st M) : ∀ n pc ls st M, run tb K R n pc ls st M → J mt R pc ls st M
  | 0, pc, ls, st, M, hr => hK pc ls st M hr
  | n + 1, pc, ls, st, M, hr => by
    unfold run at hr
    split at hr
    · exact hK pc ls st M hr
    · intro p l e s m args below meth c D ca ad N0 S0 Q hc ro
      exact lk_snd h pc R p l e s m args below meth c D ca ad N0 S0 Q hc ro ls st M _ hr (fun pc' ls' st' M' hk => run_snd h hK n pc' ls' st' M' hk p l e s m args below meth c D ca ad N0 S0 Q hc ro)
/-- a stretch: run the table from pc up to the cuts; the runner is a variable, known by its one equation (so that nothing unfolds it) -/
theorem J.of {mt : Mt} {tb : Tb} (h : TbOk mt tb) (n : Nat) {R : Option Value → Mem → Prop} {pc : Nat} {ls : Vals} {st : List Value} {M : Mem} (hr : ∀ ρ : Nat → KT, (∀ n pc ls st M, ρ (n + 1) pc ls st M = (if (lk tb pc).2 = true then J mt R pc ls st M else (lk tb pc).1 ls st M (ρ n) R)) → (lk tb pc).1 ls st M (ρ n) R) : J mt R pc ls st M := by
  intro p l e s m args below meth c D ca ad N0 S0 Q hc ro
  exact lk_snd h pc R p l e s m args below meth c D ca ad N0 S0 Q hc ro ls st M _ (hr (run tb (J mt R) R) (fun n pc ls st M => rfl)) (fun pc' ls' st' M' hk => run_snd h (fun _ _ _ _ h => h) n pc' ls' st' M' hk p l e s m args below meth c D ca ad N0 S0 Q hc ro)
/-- fewer locals known -/
def lsub : Vals → Vals → Prop
  | [], [] => True
  | none :: a, _ :: b => lsub a b
  | some v :: a, w :: b => w = some v ∧ lsub a b
  | _, _ => False
theorem lsub_get : ∀ {a b : Vals}, lsub a b → ∀ (i : Nat) (v : Value), a[i]? = some (some v) → b[i]? = some (some v)
  | [], [], _, i, v, h => by simp at h
  | none :: a, w :: b, hs, i, v, h => by
    cases i with
    | zero => simp at h
    | succ i => simp only [List.getElem?_cons_succ] at h ⊢; exact lsub_get (a := a) hs i v h
  | some x :: a, w :: b, hs, i, v, h => by
    cases i with
    | zero => simp only [List.getElem?_cons_zero] at h ⊢; rw [hs.1]; exact h
    | succ i => simp only [List.getElem?_cons_succ] at h ⊢; exact lsub_get (a := a) hs.2 i v h
theorem J.weak {mt : Mt} {R : Option Value → Mem → Prop} {pc : Nat} {ls ls' : Vals} {st : List Value} {M : Mem} (hs : lsub ls' ls) (h : J mt R pc ls' st M) : J mt R pc ls st M := by
  intro p l e s m args below meth c D ca ad N0 S0 Q hc ro H locs la cells slots hw hS hl
  obtain ⟨lv, h1, h2⟩ := hl
  exact h p l e s m args below meth c D ca ad N0 S0 Q hc ro H locs la cells slots hw hS ⟨lv, h1, fun i v hi => h2 i v (lsub_get hs i v hi)⟩
