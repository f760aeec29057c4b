/-! branches, switches -/
def x_ifn (tgt nx : Nat) (c : Int32 → Prop) : X := fun ls st M K _ => match st with
  | .int x :: st => (¬ c x → K tgt ls st M) ∧ (c x → K nx ls st M)
  | _ => False
def x_icn (tgt nx : Nat) (c : Int32 → Int32 → Prop) : X := fun ls st M K _ => match st with
  | .int y :: .int x :: st => (¬ c x y → K tgt ls st M) ∧ (c x y → K nx ls st M)
  | _ => False
section BRN
variable {mt : Mt} {pc : Nat}
theorem s_if_eq {off : Int} {tgt : Nat} (hd : decode mt.1 pc = .ok (.ifCond .eq off, 3)) (ht : (pc : Int) + off = (tgt : Int)) : Snd mt pc (x_if tgt (pc + 3) (fun x : Int32 => x = 0)) := by
  intro R p l e s m args below meth c D ca ad N0 S0 Q hc ro ls st M K hx hk
  unfold x_if at hx; split at hx
  next x st =>
    intro H locs la cells slots hw hS hl h1 h2 h3 h4
    exact lv_if_eq hc.1 hc.2.1 hd ht (fun h => hk _ _ _ _ (hx.1 h) H locs la cells slots hw hS hl h1 h2 h3 h4) (fun h => hk _ _ _ _ (hx.2 h) H locs la cells slots hw hS hl h1 h2 h3 h4)
  next => exact hx.elim
theorem s_ic_eq {off : Int} {tgt : Nat} (hd : decode mt.1 pc = .ok (.if_icmp .eq off, 3)) (ht : (pc : Int) + off = (tgt : Int)) : Snd mt pc (x_ic tgt (pc + 3) (fun x y : Int32 => x = y)) := by
  intro R p l e s m args below meth c D ca ad N0 S0 Q hc ro ls st M K hx hk
  unfold x_ic at hx; split at hx
  next y x st =>
    intro H locs la cells slots hw hS hl h1 h2 h3 h4
    exact lv_icmp_eq hc.1 hc.2.1 hd ht (fun h => hk _ _ _ _ (hx.1 h) H locs la cells slots hw hS hl h1 h2 h3 h4) (fun h => hk _ _ _ _ (hx.2 h) H locs la cells slots hw hS hl h1 h2 h3 h4)
  next => exact hx.elim
theorem s_if_ne {off : Int} {tgt : Nat} (hd : decode mt.1 pc = .ok (.ifCond .ne off, 3)) (ht : (pc : Int) + off = (tgt : Int)) : Snd mt pc (x_ifn tgt (pc + 3) (fun x : Int32 => x = 0)) := by
  intro R p l e s m args below meth c D ca ad N0 S0 Q hc ro ls st M K hx hk
  unfold x_ifn at hx; split at hx
  next x st =>
    intro H locs la cells slots hw hS hl h1 h2 h3 h4
    exact lv_if_ne hc.1 hc.2.1 hd ht (fun h => hk _ _ _ _ (hx.1 h) H locs la cells slots hw hS hl h1 h2 h3 h4) (fun h => hk _ _ _ _ (hx.2 h) H locs la cells slots hw hS hl h1 h2 h3 h4)
  next => exact hx.elim
theorem s_ic_ne {off : Int} {tgt : Nat} (hd : decode mt.1 pc = .ok (.if_icmp .ne off, 3)) (ht : (pc : Int) + off = (tgt : Int)) : Snd mt pc (x_icn tgt (pc + 3) (fun x y : Int32 => x = y)) := by
  intro R p l e s m args below meth c D ca ad N0 S0 Q hc ro ls st M K hx hk
  unfold x_icn at hx; split at hx
  next y x st =>
    intro H locs la cells slots hw hS hl h1 h2 h3 h4
    exact lv_icmp_ne hc.1 hc.2.1 hd ht (fun h => hk _ _ _ _ (hx.1 h) H locs la cells slots hw hS hl h1 h2 h3 h4) (fun h => hk _ _ _ _ (hx.2 h) H locs la cells slots hw hS hl h1 h2 h3 h4)
  next => exact hx.elim
theorem s_if_lt {off : Int} {tgt : Nat} (hd : decode mt.1 pc = .ok (.ifCond .lt off, 3)) (ht : (pc : Int) + off = (tgt : Int)) : Snd mt pc (x_if tgt (pc + 3) (fun x : Int32 => x < 0)) := by
  intro R p l e s m args below meth c D ca ad N0 S0 Q hc ro ls st M K hx hk
  unfold x_if at hx; split at hx
  next x st =>
    intro H locs la cells slots hw hS hl h1 h2 h3 h4
    exact lv_if_lt hc.1 hc.2.1 hd ht (fun h => hk _ _ _ _ (hx.1 h) H locs la cells slots hw hS hl h1 h2 h3 h4) (fun h => hk _ _ _ _ (hx.2 h) H locs la cells slots hw hS hl h1 h2 h3 h4)
  next => exact hx.elim
theorem s_ic_lt {off : Int} {tgt : Nat} (hd : decode mt.1 pc = .ok (.if_icmp .lt off, 3)) (ht : (pc : Int) + off = (tgt : Int)) : Snd mt pc (x_ic tgt (pc + 3) (fun x y : Int32 => x < y)) := by
  intro R p l e s m args below meth c D ca ad N0 S0 Q hc ro ls st M K hx hk
  unfold x_ic at hx; split at hx
  next y x st =>
    intro H locs la cells slots hw hS hl h1 h2 h3 h4
    exact lv_icmp_lt hc.1 hc.2.1 hd ht (fun h => hk _ _ _ _ (hx.1 h) H locs la cells slots hw hS hl h1 h2 h3 h4) (fun h => hk _ _ _ _ (hx.2 h) H locs la cells slots hw hS hl h1 h2 h3 h4)
  next => exact hx.elim
theorem s_if_ge {off : Int} {tgt : Nat} (hd : decode mt.1 pc = .ok (.ifCond .ge off, 3)) (ht : (pc : Int) + off = (tgt : Int)) : Snd mt pc (x_if tgt (pc + 3) (fun x : Int32 => 0 ≤ x)) := by
  intro R p l e s m args below meth c D ca ad N0 S0 Q hc ro ls st M K hx hk
  unfold x_if at hx; split at hx
  next x st =>
    intro H locs la cells slots hw hS hl h1 h2 h3 h4
    exact lv_if_ge hc.1 hc.2.1 hd ht (fun h => hk _ _ _ _ (hx.1 h) H locs la cells slots hw hS hl h1 h2 h3 h4) (fun h => hk _ _ _ _ (hx.2 h) H locs la cells slots hw hS hl h1 h2 h3 h4)
  next => exact hx.elim
theorem s_ic_ge {off : Int} {tgt : Nat} (hd : decode mt.1 pc = .ok (.if_icmp .ge off, 3)) (ht : (pc : Int) + off = (tgt : Int)) : Snd mt pc (x_ic tgt (pc + 3) (fun x y : Int32 => y ≤ x)) := by
  intro R p l e s m args below meth c D ca ad N0 S0 Q hc ro ls st M K hx hk
  unfold x_ic at hx; split at hx
  next y x st =>
    intro H locs la cells slots hw hS hl h1 h2 h3 h4
    exact lv_icmp_ge hc.1 hc.2.1 hd ht (fun h => hk _ _ _ _ (hx.1 h) H locs la cells slots hw hS hl h1 h2 h3 h4) (fun h => hk _ _ _ _ (hx.2 h) H locs la cells slots hw hS hl h1 h2 h3 h4)
  next => exact hx.elim
theorem s_if_gt {off : Int} {tgt : Nat} (hd : decode mt.1 pc = .ok (.ifCond .gt off, 3)) (ht : (pc : Int) + off = (tgt : Int)) : Snd mt pc (x_if tgt (pc + 3) (fun x : Int32 => 0 < x)) := by
  intro R p l e s m args below meth c D ca ad N0 S0 Q hc ro ls st M K hx hk
  unfold x_if at hx; split at hx
  next x st =>
    intro H locs la cells slots hw hS hl h1 h2 h3 h4
    exact lv_if_gt hc.1 hc.2.1 hd ht (fun h => hk _ _ _ _ (hx.1 h) H locs la cells slots hw hS hl h1 h2 h3 h4) (fun h => hk _ _ _ _ (hx.2 h) H locs la cells slots hw hS hl h1 h2 h3 h4)
  next => exact hx.elim
theorem s_ic_gt {off : Int} {tgt : Nat} (hd : decode mt.1 pc = .ok (.if_icmp .gt off, 3)) (ht : (pc : Int) + off = (tgt : Int)) : Snd mt pc (x_ic tgt (pc + 3) (fun x y : Int32 => y < x)) := by
  intro R p l e s m args below meth c D ca ad N0 S0 Q hc ro ls st M K hx hk
  unfold x_ic at hx; split at hx
  next y x st =>
    intro H locs la cells slots hw hS hl h1 h2 h3 h4
    exact lv_icmp_gt hc.1 hc.2.1 hd ht (fun h => hk _ _ _ _ (hx.1 h) H locs la cells slots hw hS hl h1 h2 h3 h4) (fun h => hk _ _ _ _ (hx.2 h) H locs la cells slots hw hS hl h1 h2 h3 h4)
  next => exact hx.elim
theorem s_if_le {off : Int} {tgt : Nat} (hd : decode mt.1 pc = .ok (.ifCond .le off, 3)) (ht : (pc : Int) + off = (tgt : Int)) : Snd mt pc (x_if tgt (pc + 3) (fun x : Int32 => x ≤ 0)) := by
  intro R p l e s m args below meth c D ca ad N0 S0 Q hc ro ls st M K hx hk
  unfold x_if at hx; split at hx
  next x st =>
    intro H locs la cells slots hw hS hl h1 h2 h3 h4
    exact lv_if_le hc.1 hc.2.1 hd ht (fun h => hk _ _ _ _ (hx.1 h) H locs la cells slots hw hS hl h1 h2 h3 h4) (fun h => hk _ _ _ _ (hx.2 h) H locs la cells slots hw hS hl h1 h2 h3 h4)
  next => exact hx.elim
theorem s_ic_le {off : Int} {tgt : Nat} (hd : decode mt.1 pc = .ok (.if_icmp .le off, 3)) (ht : (pc : Int) + off = (tgt : Int)) : Snd mt pc (x_ic tgt (pc + 3) (fun x y : Int32 => x ≤ y)) := by
  intro R p l e s m args below meth c D ca ad N0 S0 Q hc ro ls st M K hx hk
  unfold x_ic at hx; split at hx
  next y x st =>
    intro H locs la cells slots hw hS hl h1 h2 h3 h4
    exact lv_icmp_le hc.1 hc.2.1 hd ht (fun h => hk _ _ _ _ (hx.1 h) H locs la cells slots hw hS hl h1 h2 h3 h4) (fun h => hk _ _ _ _ (hx.2 h) H locs la cells slots hw hS hl h1 h2 h3 h4)
  next => exact hx.elim
theorem swc_at {P : Nat → Prop} {x : Int32} : ∀ {lo : Int} {ts : List Nat}, swc P x lo ts → ∀ (i : Nat) (t : Nat), ts[i]? = some t → x.toInt = lo + i → P t
  | lo, [], _, i, t, h, _ => by simp at h
  | lo, a :: r, hs, 0, t, h, e => by simp at h; subst h; exact hs.1 (by simpa using e)
  | lo, a :: r, hs, i + 1, t, h, e => swc_at hs.2 i t (by simpa using h) (by push_cast at e ⊢; omega)
theorem s_sw {lo hi dflt : Int} {offs : Array Int} {ts : List Nat} {len d : Nat} (hd : decode mt.1 pc = .ok (.tableswitch dflt lo hi offs, len)) (h0 : ts.length = (hi + 1 - lo).toNat) (ho : ∀ i, i < ts.length → ∃ off t, offs[i]? = some off ∧ ts[i]? = some t ∧ (pc : Int) + off = (t : Int)) (ht : (pc : Int) + dflt = (d : Int)) : Snd mt pc (x_sw lo hi ts d) := by
  intro R p l e s m args below meth c D ca ad N0 S0 Q hc ro ls st M K hx hk
  unfold x_sw at hx; split at hx
  next x st =>
    intro H locs la cells slots hw hS hl h1 h2 h3 h4
    by_cases ha : x.toInt < lo ∨ hi < x.toInt
    · exact lv_tableOut hc.1 hc.2.1 hd ha ht (hk _ _ _ _ (hx.2 ha) H locs la cells slots hw hS hl h1 h2 h3 h4)
    · have ha1 : ¬ x.toInt < lo := fun h => ha (Or.inl h)
      have ha2 : ¬ hi < x.toInt := fun h => ha (Or.inr h)
      have hi' : (x.toInt - lo).toNat < ts.length := by rw [h0]; omega
      obtain ⟨off, t, o1, o2, o3⟩ := ho _ hi'
      exact lv_tableIn hc.1 hc.2.1 hd ha1 ha2 o1 o3 (hk _ _ _ _ (swc_at hx.1 _ t o2 (by omega)) H locs la cells slots hw hS hl h1 h2 h3 h4)
  next => exact hx.elim
end BRN
