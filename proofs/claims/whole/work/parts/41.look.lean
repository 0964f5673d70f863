/-! looks ahead: what each side may touch -/
/-- the class: its trial hens, its rows and its first move -/
def Cs (M M' : Mem) : Prop := (∀ k, (k ≠ 0 ∧ (k < 2 ∨ (4 < k ∧ k < 30) ∨ 89 ≤ k)) → M' k = M k) ∧ ∀ j, j ≠ 11 → M' 0 j = M 0 j
/-- the reference: what lies aside, its meals and the like -/
def Ms (M M' : Mem) : Prop := (∀ k, (k < 130 ∨ k = 131 ∨ k = 132 ∨ k = 134 ∨ (138 ≤ k ∧ k < 144) ∨ 145 ≤ k) → M' k = M k) ∧ M' 130 3 = M 130 3 ∧ M' 130 17 = M 130 17
theorem Cs.rf {M : Mem} : Cs M M := ⟨fun _ _ => rfl, fun _ _ => rfl⟩
theorem Cs.tr {M M1 M2 : Mem} (h1 : Cs M M1) (h2 : Cs M1 M2) : Cs M M2 := ⟨fun k hk => (h2.1 k hk).trans (h1.1 k hk), fun j hj => (h2.2 j hj).trans (h1.2 j hj)⟩
theorem Cs.ou {b : Nat} {M M1 : Mem} (hb : 30 ≤ b) (hb' : b ≤ 80) (h : Ou b M M1) : Cs M M1 := ⟨fun k hk => h k (by omega), fun j _ => by rw [h 0 (by omega)]⟩
theorem Cs.j {M M1 : Mem} (j : J M) (h : Cs M M1) : J M1 :=
  J_same j ⟨fun k h1 h2 => h.1 k (by omega), h.2 2 (by omega), by rw [h.1 7 (by omega)]⟩ ⟨fun k hk => h.1 k (by omega), by rw [h.1 130 (by omega)], by rw [h.1 130 (by omega)]⟩
theorem Ms.rf {M : Mem} : Ms M M := ⟨fun _ _ => rfl, rfl, rfl⟩
theorem Ms.tr {M M1 M2 : Mem} (h1 : Ms M M1) (h2 : Ms M1 M2) : Ms M M2 := ⟨fun k hk => (h2.1 k hk).trans (h1.1 k hk), h2.2.1.trans h1.2.1, h2.2.2.trans h1.2.2⟩
theorem Ms.j {M M1 : Mem} (j : J M) (h : Ms M M1) : J M1 :=
  J_same j ⟨fun k h1 h2 => h.1 k (by omega), by rw [h.1 0 (by omega)], by rw [h.1 7 (by omega)]⟩ ⟨fun k hk => h.1 k (by omega), h.2.1, h.2.2⟩
theorem Ms.jf {M M2 : Mem} {w : Nat} (j : J M) (hw : w < 7) (h : Ms (fX M w) M2) : J (fM M2 w) := by
  have e134 := h.1 134 (by omega)
  refine Ms.j (J_fin j hw) ⟨fun k hk => ?_, ?_, ?_⟩
  · by_cases c : k = 134
    · subst c
      unfold fM
      rw [mset_at, mset_at, mset_at, mset_at, e134]
    · rw [fM_k c, fM_k c]
      exact h.1 k hk
  · rw [fM_k (by omega), fM_k (by omega)]; exact h.2.1
  · rw [fM_k (by omega), fM_k (by omega)]; exact h.2.2
theorem Cs.e {M M1 : Mem} (h : Cs M M1) : M1 131 = M 131 := h.1 131 (by omega)
theorem fX_131 {M : Mem} {w : Nat} : fX M w 131 = M 131 := fX_k (by omega)
theorem hen30 : isHen 30 := Or.inr (Or.inr (Or.inl rfl))

