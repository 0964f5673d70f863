/-! what the constructors leave -/
def now0 : Nat → Int32 := fun j => if j = 1 then 12 else if j = 2 then 2 else if j = 7 then 1 else if 8 ≤ j ∧ j < 18 then -1 else 0
def M0 : Mem := fun k => if k = 0 then (fun j => if j = 11 then -1 else 0) else if k = 100 ∨ k = 110 then (fun j => if j = 2 then 1 else 0) else if k = 10 ∨ k = 20 ∨ k = 30 ∨ k = 40 ∨ k = 50 ∨ k = 60 ∨ k = 70 ∨ k = 80 then (fun j => if j = 10 then 12 else if j = 11 then 2 else if j = 12 then -1 else 0) else if k = 104 ∨ k = 114 then spF 10 else if k = 131 then now0 else fun _ => 0
theorem z_rg {n : Nat} : rg 0 n := ⟨Nat.zero_le _, by decide⟩
theorem spF_m : ∀ s, s < 10 → spF 10 s = -1 := by decide
theorem now0_z {j : Nat} (h : j ≠ 1) (h2 : j ≠ 2) (h7 : j ≠ 7) (h8 : j < 8 ∨ 18 ≤ j) : now0 j = 0 := by
  unfold now0
  rw [if_neg h, if_neg h2, if_neg h7, if_neg (by omega)]
theorem now0_m {j : Nat} (h : 8 ≤ j) (h8 : j < 18) : now0 j = -1 := by
  unfold now0
  rw [if_neg (by omega), if_neg (by omega), if_neg (by omega), if_pos ⟨h, h8⟩]
theorem M0_z {k : Nat} (h : k ≠ 0 ∧ k ≠ 100 ∧ k ≠ 110 ∧ k ≠ 10 ∧ k ≠ 20 ∧ k ≠ 30 ∧ k ≠ 40 ∧ k ≠ 50 ∧ k ≠ 60 ∧ k ≠ 70 ∧ k ≠ 80 ∧ k ≠ 104 ∧ k ≠ 114 ∧ k ≠ 131) : M0 k = fun _ => 0 := by
  unfold M0
  rw [if_neg (by omega), if_neg (by omega), if_neg (by omega), if_neg (by omega), if_neg (by omega)]
theorem M0_131 : M0 131 = now0 := rfl
theorem J_0 : J M0 := by
  have c0 : nC now0 = 0 := by decide
  have t0 : nT now0 = 0 := by decide
  have a9 : ∀ t f, t < 10 → f < 7 → now0 (at9 t f) = 0 := fun t f ht hf => by
    have := at9_lt ht hf
    have l : 18 ≤ at9 t f := by unfold at9; omega
    exact now0_z (by omega) (by omega) (by omega) (by omega)
  have wr : WR now0 := ⟨by rw [now0_z (by omega) (by omega) (by omega) (by omega)]; exact z_rg, by rw [now0_z (by omega) (by omega) (by omega) (by omega)]; exact z_rg, fun i hi => by rw [c0] at hi; omega, fun t ht => by rw [a9 t 0 ht (by omega), a9 t 1 ht (by omega), a9 t 2 ht (by omega), a9 t 3 ht (by omega), a9 t 6 ht (by omega)]; exact ⟨z_rg, z_rg, z_rg, z_rg, z_rg⟩⟩
  have ir : IR now0 := by
    refine ⟨⟨wr, ?_, ?_⟩, ⟨fun t ht _ => ⟨a9 t 5 ht (by omega), a9 t 6 ht (by omega)⟩, fun i hi => by rw [c0] at hi; omega, fun t ht h => ?_, fun i k _ hk => by rw [c0] at hk; omega, fun s hs => Or.inl (now0_m (by omega) (by omega))⟩, by decide, by decide⟩
    · rw [now0_z (by omega) (by omega) (by omega) (by omega)]
      exact z_rg
    · rw [now0_z (by omega) (by omega) (by omega) (by omega)]
      exact z_rg
    · rw [a9 t 4 ht (by omega)] at h
      exact absurd h (by decide)
  have hr : HR M0 10 now0 := by
    refine ⟨⟨by decide, by decide, by decide, by decide⟩, fun f hf t ht => ?_, fun i hi => by rw [c0] at hi; omega⟩
    rw [a9 t f ht hf, M0_z (by omega)]
  refine ⟨⟨ir, hr, ⟨by decide, by decide, by decide, by decide⟩, fun c hc i hi hn => ?_, fun s hs => ?_⟩, ⟨by decide, Or.inl (by decide)⟩, ⟨fun f hf => ?_, by decide⟩, ⟨by decide, by show rg 0 120; exact z_rg, fun i hi => ?_⟩, fun s hs => ⟨?_, ?_, ?_, ?_, ?_⟩⟩
  · exact absurd (show i < 0 from hn) (Nat.not_lt_zero i)
  · show spF 10 s = now0 (8 + s)
    rw [spF_m s hs, now0_m (by omega) (by omega)]
  · rw [M0_z (k := 134) (by omega), M0_z (k := 1) (by omega)]
  · exact absurd (show i < 0 from hi) (Nat.not_lt_zero i)
  · rw [M0_z (k := 120 + 2 * s) (by omega), M0_z (k := 141) (by omega), M0_z (k := 142) (by omega)]
    exact ⟨rfl, rfl⟩
  · rw [M0_z (k := 141) (by omega)]
    exact Or.inl rfl
  · rw [M0_z (k := 142) (by omega)]
    exact z_rg
  · intro _
    rw [M0_z (k := 142) (by omega)]
  · intro i hi
    rw [M0_z (k := 121 + 2 * s) (by omega), M0_z (k := 143) (by omega)]
