/-! the little machine's memory as cells of the heap -/
abbrev GT : Type := va_G × (Nat → Nat) × (Nat → ClassId) × Value
def tr (G : GT) : Value → Value
  | .ref k => .ref (G.2.1 k)
  | .null => G.2.2.2
  | v => v
def fsOf (G : GT) (M : Mem) (k : Nat) (sl : List Nat) : List Value := sl.mapIdx (fun i x => match x with | 0 => .int (M k i) | r + 1 => .ref (G.2.1 r))
def refsOf (G : GT) (l : List Nat) : Nat → Option Nat := fun i => (l[i]?).map G.2.1
def cellOf (G : GT) (M : Mem) (k : Nat) : va_E := match lay k with
  | (0, [n]) => .inl (G.2.2.1 0, n, .inl (M k))
  | (1, c :: sl) => .inr (c, fsOf G M k sl)
  | (2, l) => .inl (G.2.2.1 1, l.length, .inr (.inr (.inr (.inr (refsOf G l)))))
  | (3, l) => .inl (G.2.2.1 2, l.length, .inr (.inr (.inr (.inr (refsOf G l)))))
  | (4, l) => .inl (G.2.2.1 3, l.length, .inr (.inr (.inr (.inr (refsOf G l)))))
  | _ => .inl (0, 0, .inl (M k))
def wsO (G : GT) (M : Mem) : va_W := hsL.map (fun k => (G.2.1 k, cellOf G M k))
def tysG (G : GT) : List (ClassId × FieldType) := [(G.2.2.1 0, .int), (G.2.2.1 1, .object "FedHen$Sheet"), (G.2.2.1 2, .object "FedHen$Hen"), (G.2.2.1 3, .object "java/lang/String")]
def GInj (G : GT) : Prop := (∀ i j, i ∈ hsL → j ∈ hsL → G.2.1 i = G.2.1 j → i = j) ∧ (G.2.2.2 = .null ∨ ∃ t, G.2.2.2 = .ref t)
def Aset (G : GT) (sz : Nat) : Nat → Prop := fun q => (∃ k, k ∈ hsL ∧ G.2.1 k = q) ∨ sz ≤ q
theorem lookup_mem {α : Type} : ∀ {l : List (Nat × α)} {k : Nat} {v : α}, l.lookup k = some v → (k, v) ∈ l
  | [], _, _, h => by cases h
  | (a, b) :: l, k, v, h => by
    rw [List.lookup_cons] at h
    by_cases e : k = a
    · subst e
      rw [show (k == k) = true from beq_self_eq_true k] at h
      cases h
      exact List.mem_cons_self
    · rw [show (k == a) = false from beq_eq_false_iff_ne.mpr e] at h
      exact List.mem_cons_of_mem _ (lookup_mem h)
theorem lay_mem {k : Nat} {t : Nat} {l : List Nat} (h : lay k = (t, l)) (ht : t ≠ 9) : (k, t, l) ∈ layL := by
  unfold lay at h
  cases hk : layL.lookup k with
  | none =>
    rw [hk] at h
    cases h
    exact absurd rfl ht
  | some v =>
    rw [hk] at h
    have : v = (t, l) := h
    subst this
    exact lookup_mem hk
theorem lay_hs : ∀ e ∈ layL, e.2.1 ≤ 4 → e.1 ∈ hsL := by decide +kernel
theorem hs_of {k t : Nat} {l : List Nat} (h : lay k = (t, l)) (ht : t ≤ 4) : k ∈ hsL := lay_hs _ (lay_mem h (by omega)) ht
theorem hs_len : hsL.length = 117 := by decide +kernel
theorem hs_one : ∀ i, i < 117 → ∀ j, j < 117 → hsL[i]? = hsL[j]? → i = j := by decide +kernel
theorem hs_inj {i j k : Nat} (h1 : hsL[i]? = some k) (h2 : hsL[j]? = some k) : i = j := by
  have a := (List.getElem?_eq_some_iff.mp h1).1
  have b := (List.getElem?_eq_some_iff.mp h2).1
  rw [hs_len] at a b
  exact hs_one i a j b (h1.trans h2.symm)
theorem cell_congr {G : GT} {M M' : Mem} {k : Nat} (h : M' k = M k) : cellOf G M' k = cellOf G M k := by
  unfold cellOf fsOf
  rw [h]
theorem ws_at {G : GT} {M : Mem} {k : Nat} (h : k ∈ hsL) : ∃ q : Nat, hsL[q]? = some k ∧ (wsO G M)[q]? = some (G.2.1 k, cellOf G M k) := by
  obtain ⟨q, hq⟩ := List.getElem?_of_mem h
  exact ⟨q, hq, by unfold wsO; rw [List.getElem?_map, hq]; rfl⟩
theorem ws_set {G : GT} {M M' : Mem} {k q : Nat} {e : va_E} (hq : hsL[q]? = some k) (he : e = cellOf G M' k) (ho : ∀ j, j ≠ k → M' j = M j) : (wsO G M).set q (G.2.1 k, e) = wsO G M' := by
  subst he
  have hlt : q < hsL.length := (List.getElem?_eq_some_iff.mp hq).1
  refine List.ext_getElem? fun i => ?_
  by_cases hi : i = q
  · subst hi
    rw [List.getElem?_set_self (by unfold wsO; rw [List.length_map]; exact hlt)]
    unfold wsO
    rw [List.getElem?_map, hq]
    rfl
  · rw [List.getElem?_set_ne (Ne.symm hi)]
    unfold wsO
    rw [List.getElem?_map, List.getElem?_map]
    cases hk : hsL[i]? with
    | none => rfl
    | some j =>
      have hne : j ≠ k := by
        intro e
        subst e
        exact hi (hs_inj hk hq)
      show some (G.2.1 j, cellOf G M j) = some (G.2.1 j, cellOf G M' j)
      rw [cell_congr (ho j hne)]
theorem ws_D {G : GT} {M : Mem} {sz : Nat} (hG : GInj G) : va_D (Aset G sz) (wsO G M) := by
  refine ⟨fun i j p q hi hj e => ?_, fun k q hk => ?_⟩
  · unfold wsO at hi hj
    rw [List.getElem?_map] at hi hj
    cases h1 : hsL[i]? with
    | none => rw [h1] at hi; cases hi
    | some a =>
      cases h2 : hsL[j]? with
      | none => rw [h2] at hj; cases hj
      | some b =>
        rw [h1] at hi
        rw [h2] at hj
        cases hi
        cases hj
        have := hG.1 a b (List.mem_of_getElem? h1) (List.mem_of_getElem? h2) e
        subst this
        exact hs_inj h1 h2
  · unfold wsO at hk
    rw [List.getElem?_map] at hk
    cases h1 : hsL[k]? with
    | none => rw [h1] at hk; cases hk
    | some a =>
      rw [h1] at hk
      cases hk
      exact Or.inl ⟨a, List.mem_of_getElem? h1, rfl⟩
/-! words -/
def gtbl : List Cond := lw_tbl.filter goodWord
theorem g_mem {w : Cond} {i : Nat} (h : lw_tbl[i]? = some w) (hw : goodWord w = true) : w ∈ gtbl := List.mem_filter.mpr ⟨List.mem_of_getElem? h, hw⟩
def wF (e : Nat × Nat × Nat × Bool × Nat) (t : String × String × String × Bool) : Cond := if e.2.2.2.1 = true then .fieldLinkNest (ocN (e.1 / 10000)) (e.1 % 10000) t.1 t.2.1 t.2.2.1 "FedHen" else .fieldLink (ocN (e.1 / 10000)) (e.1 % 10000) t.1 t.2.1 t.2.2.1
def okF (e : Nat × Nat × Nat × Bool × Nat) : Bool := match cls6[e.2.1]? with
  | some q => decide (e.2.2.1 < q.2.2) && decide (lw_tbl[e.2.2.2.2]? = some (wF e (q.2.1 e.2.2.1)))
  | none => false
set_option maxRecDepth 100000 in
theorem tabF_ok : tabF.all okF = true := by decide +kernel
def yM (e : Nat × Nat × Nat × Nat × Bool × Nat) : MethodName := match e.2.1 with
  | 3 => Lib.Math.max.name
  | 4 => Lib.Math.min.name
  | 5 => arraycopyName
  | _ => ((mt[e.2.2.1]?).map (fun q => q.1)).getD arraycopyName
def wM (e : Nat × Nat × Nat × Nat × Bool × Nat) : Cond := if e.2.2.2.2.1 = true then .methodLinkNest (ocN (e.1 / 10000)) (e.1 % 10000) (yM e) "FedHen" else .methodLink (ocN (e.1 / 10000)) (e.1 % 10000) (yM e)
def okM (e : Nat × Nat × Nat × Nat × Bool × Nat) : Bool := decide (lw_tbl[e.2.2.2.2.2]? = some (wM e)) && (match e.2.1 with
  | 0 => (match mt[e.2.2.1]? with | some q => !q.2.2.2.2.2.1 && decide (q.2.2.2.2.2.2.2.2.2.2 = e.2.2.2.1) | none => false)
  | 1 => (match mt[e.2.2.1]? with | some q => q.2.2.2.2.2.1 && decide (q.2.2.2.2.2.2.2.2.2.2 = e.2.2.2.1) | none => false)
  | _ => !e.2.2.2.2.1)
set_option maxRecDepth 100000 in
theorem tabM_ok : tabM.all okM = true := by decide +kernel
set_option maxRecDepth 100000 in
theorem gtbl_good : ∀ w ∈ gtbl, goodWord w = true := fun _ h => (List.mem_filter.mp h).2
