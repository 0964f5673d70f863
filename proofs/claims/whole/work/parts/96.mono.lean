/-! more room: the same answers -/
theorem opK_mo {α β : Type} {o : Option β} {f g : β → Option α} {z : α} (h : ∀ b, f b = some z → g b = some z) (hs : opK o f = some z) : opK o g = some z := by
  cases o with
  | none => cases hs
  | some b => exact h b hs
theorem guK_mo {α : Type} {b : Bool} {f g : Option α} {z : α} (h : f = some z → g = some z) (hs : guK b f = some z) : guK b g = some z := by
  unfold guK at hs ⊢
  by_cases c : b = true
  · rw [if_pos c] at hs ⊢
    exact h hs
  · rw [if_neg c] at hs
    cases hs
theorem calK_mo {α : Type} {o o' : Option Rs} {f : Option Value → Mem → Option α} {z : α} (h : ∀ r, o = some r → o' = some r) (hs : calK o f = some z) : calK o' f = some z := by
  cases o with
  | none => cases hs
  | some r =>
    rw [h r rfl]
    exact hs
theorem popr_mo {α : Type} {st : List Value} {f g : Nat → List Value → Option α} {z : α} (h : ∀ a b, f a b = some z → g a b = some z) (hs : popr st f = some z) : popr st g = some z := by
  unfold popr at hs ⊢
  split at hs
  · exact h _ _ hs
  · cases hs
theorem argK_mo {α : Type} {n : Nat} {st : List Value} {f g : List Value → List Value → Option α} {z : α} (h : ∀ a b, f a b = some z → g a b = some z) (hs : argK n st f = some z) : argK n st g = some z := by
  unfold argK at hs ⊢
  by_cases c : n ≤ st.length
  · rw [if_pos c] at hs ⊢
    exact h _ _ hs
  · rw [if_neg c] at hs
    cases hs
set_option maxHeartbeats 4000000 in
theorem stp_mo {cal cal' : Cal} {sc : Scr} {oc : Nat} {ret : Option FieldType} (h : ∀ y vs M r, cal y vs M = some r → cal' y vs M = some r) (ins : Instr) {len pc : Nat} {lv : Lv} {st : List Value} {M : Mem} {z : Rs ⊕ Cf} (hs : stp cal sc oc ret ins len pc lv st M = some z) : stp cal' sc oc ret ins len pc lv st M = some z := by
  cases ins
  case ifCond cnd off => cases cnd <;> exact hs
  case if_icmp cnd off => cases cnd <;> exact hs
  case invokevirtual i =>
    refine opK_mo (o := rsM oc i) (fun e => ?_) hs
    obtain ⟨k, y, n⟩ := e
    rcases k with _ | k
    · exact fun he => argK_mo (fun as r h1 => popr_mo (fun a r h2 => opK_mo (fun q h3 => guK_mo (fun h4 => calK_mo (h _ _ _) h4) h3) h2) h1) he
    · exact id
  case invokestatic i =>
    refine opK_mo (o := rsM oc i) (fun e => ?_) hs
    obtain ⟨k, y, n⟩ := e
    rcases k with _ | _ | k
    · exact id
    · exact fun he => argK_mo (fun as r h1 => guK_mo (fun h4 => calK_mo (h _ _ _) h4) h1) he
    · rcases k with _ | _ | _ | _ | k <;> exact id
  all_goals exact hs
theorem run_mo {cal cal' : Cal} {sc : Scr} {oc : Nat} {cc : ByteArray} {ret : Option FieldType} (h : ∀ y vs M r, cal y vs M = some r → cal' y vs M = some r) : ∀ (n pc : Nat) (lv : Lv) (st : List Value) (M : Mem) (r : Rs), run cal sc oc cc ret n pc lv st M = some r → run cal' sc oc cc ret n pc lv st M = some r := by
  intro n
  induction n with
  | zero => intro pc lv st M r hr; cases hr
  | succ n ih =>
    intro pc lv st M r hr
    rw [run] at hr ⊢
    cases hd : decode cc pc with
    | error e => rw [hd] at hr; cases hr
    | ok q =>
      rw [hd] at hr
      dsimp only at hr ⊢
      cases hs : stp cal sc oc ret q.1 q.2 pc lv st M with
      | none => rw [hs] at hr; cases hr
      | some x =>
        rw [hs] at hr
        rw [stp_mo h q.1 hs]
        cases x with
        | inl r' => exact hr
        | inr c => exact ih _ _ _ _ _ hr
theorem call_mo : ∀ (d y : Nat) (vs : List Value) (M : Mem) (r : Rs), call d y vs M = some r → call (d + 1) y vs M = some r := by
  intro d
  induction d with
  | zero => intro y vs M r h; cases h
  | succ d ih =>
    intro y vs M r h
    obtain ⟨q, hq, h1, h2, h3⟩ := call_of h
    obtain ⟨n, hn⟩ := lim_ex h3
    rw [call_ent hq h1 h2]
    exact lim_of (run_mo ih n _ _ _ _ _ hn)
theorem call_le {d k y : Nat} {vs : List Value} {M : Mem} {r : Rs} (hk : d ≤ k) (h : call d y vs M = some r) : call k y vs M = some r := by
  obtain ⟨j, rfl⟩ : ∃ j, k = d + j := ⟨k - d, by omega⟩
  clear hk
  induction j with
  | zero => exact h
  | succ j ih => exact call_mo (d + j) y vs M r ih
theorem Two.up {d1 i1 d2 i2 : Nat} {xs : List Value} {M : Mem} (t : Two d1 i1 d2 i2 xs M) (h1 : d1 ≤ 40) (h2 : d2 ≤ 40) : Two 40 i1 40 i2 xs M := by
  obtain ⟨M1, M2, a, c1, c2, j⟩ := t
  exact ⟨M1, M2, a, call_le h1 c1, call_le h2 c2, j⟩
