/-! the reference's small methods -/
theorem A9 {t : Nat} (f : Nat) : (18 : Int32) + 7 * nI t + nI f = nI (at9 t f) := by
  show nI 18 + nI 7 * nI t + nI f = nI (at9 t f)
  rw [pk_mul, nI_add, nI_add]
  rfl
theorem at9_lt {t f : Nat} (ht : t < 10) (hf : f < 7) : at9 t f < 88 := by unfold at9; omega
theorem C_m_within {d : Nat} {M : Mem} {x y z : Int32} : call (d + 1) 136 [.int x, .int y, .int z] M = some (some (.int (if y ≤ x ∧ x ≤ z then 1 else 0)), M) := by
  rw [nX6_within]
  simp only [sX6_within_0, sX6_within_1, sX6_within_2, sX6_within_5, sX6_within_6, sX6_within_7, sX6_within_10, sX6_within_11, sX6_within_14, sX6_within_15, opK_some, guK_true, calK_some, rk_nil, rk_int, rk_ref, tl_some, tl_none, nb_int, nb_0, nb_1, nb_if, nb_if']
  by_cases h1 : x < y
  · rw [if_pos h1, if_neg (fun h => Int32.not_le.mpr h1 h.1)]
  · rw [if_neg h1]
    by_cases h2 : z < x
    · rw [if_pos h2, if_neg (fun h => Int32.not_le.mpr h2 h.2)]
    · rw [if_neg h2, if_pos ⟨Int32.not_lt.mp h1, Int32.not_lt.mp h2⟩]
theorem C_x_within {d : Nat} {M : Mem} {x y z : Int32} : call (d + 1) 1 [.int x, .int y, .int z] M = some (some (.int (if y ≤ x ∧ x ≤ z then 1 else 0)), M) := by
  rw [nX5_within]
  simp only [sX5_within_0, sX5_within_1, sX5_within_2, sX5_within_5, sX5_within_6, sX5_within_7, sX5_within_10, sX5_within_11, sX5_within_14, sX5_within_15, opK_some, guK_true, calK_some, rk_nil, rk_int, rk_ref, tl_some, tl_none, nb_int, nb_0, nb_1, nb_if, nb_if']
  by_cases h1 : x < y
  · rw [if_pos h1, if_neg (fun h => Int32.not_le.mpr h1 h.1)]
  · rw [if_neg h1]
    by_cases h2 : z < x
    · rw [if_pos h2, if_neg (fun h => Int32.not_le.mpr h2 h.2)]
    · rw [if_neg h2, if_pos ⟨Int32.not_lt.mp h1, Int32.not_lt.mp h2⟩]
theorem C_m_at {d : Nat} {M : Mem} {x y : Int32} : call (d + 1) 139 [.int x, .int y] M = some (some (.int (18 + 7 * x + y)), M) := by
  rw [nX6_at]
  simp only [sX6_at_0, sX6_at_2, sX6_at_4, sX6_at_5, sX6_at_6, sX6_at_7, sX6_at_8, sX6_at_9, opK_some, guK_true, calK_some, rk_nil, rk_int, rk_ref, tl_some, tl_none, nb_int, nb_0, nb_1, nb_if, nb_if']
theorem C_m_thingIs {d t f : Nat} {M : Mem} (ht : t < 10) (hf : f < 7) : call (d + 2) 142 [.ref 130, .int (nI t), .int (nI f)] M = some (some (.int (M 131 (at9 t f))), M) := by
  have h1 := at9_lt ht hf
  rw [nX6_thingIs]
  simp only [sX6_thingIs_0, sX6_thingIs_1, sX6_thingIs_4, sX6_thingIs_5, sX6_thingIs_6, sX6_thingIs_9, sX6_thingIs_10, opK_some, guK_true, calK_some, rk_nil, rk_int, rk_ref, tl_some, tl_none, nb_int, nb_0, nb_1, nb_if, nb_if', o130_0, a131, C_m_at, A9, inb_nI (show at9 t f < 132 by omega) (by omega), nI_clamp (show at9 t f < 2 ^ 31 by omega)]

theorem T0 {d t : Nat} {M : Mem} (ht : t < 10) : call (d + 2) 142 [.ref 130, .int (nI t), .int 0] M = some (some (.int (M 131 (at9 t 0))), M) := C_m_thingIs (f := 0) ht (by omega)
theorem A9_0 {t : Nat} : (18 : Int32) + 7 * nI t + 0 = nI (at9 t 0) := A9 0
theorem T1 {d t : Nat} {M : Mem} (ht : t < 10) : call (d + 2) 142 [.ref 130, .int (nI t), .int 1] M = some (some (.int (M 131 (at9 t 1))), M) := C_m_thingIs (f := 1) ht (by omega)
theorem A9_1 {t : Nat} : (18 : Int32) + 7 * nI t + 1 = nI (at9 t 1) := A9 1
theorem T2 {d t : Nat} {M : Mem} (ht : t < 10) : call (d + 2) 142 [.ref 130, .int (nI t), .int 2] M = some (some (.int (M 131 (at9 t 2))), M) := C_m_thingIs (f := 2) ht (by omega)
theorem A9_2 {t : Nat} : (18 : Int32) + 7 * nI t + 2 = nI (at9 t 2) := A9 2
theorem T3 {d t : Nat} {M : Mem} (ht : t < 10) : call (d + 2) 142 [.ref 130, .int (nI t), .int 3] M = some (some (.int (M 131 (at9 t 3))), M) := C_m_thingIs (f := 3) ht (by omega)
theorem A9_3 {t : Nat} : (18 : Int32) + 7 * nI t + 3 = nI (at9 t 3) := A9 3
theorem T4 {d t : Nat} {M : Mem} (ht : t < 10) : call (d + 2) 142 [.ref 130, .int (nI t), .int 4] M = some (some (.int (M 131 (at9 t 4))), M) := C_m_thingIs (f := 4) ht (by omega)
theorem A9_4 {t : Nat} : (18 : Int32) + 7 * nI t + 4 = nI (at9 t 4) := A9 4
theorem T5 {d t : Nat} {M : Mem} (ht : t < 10) : call (d + 2) 142 [.ref 130, .int (nI t), .int 5] M = some (some (.int (M 131 (at9 t 5))), M) := C_m_thingIs (f := 5) ht (by omega)
theorem A9_5 {t : Nat} : (18 : Int32) + 7 * nI t + 5 = nI (at9 t 5) := A9 5
theorem T6 {d t : Nat} {M : Mem} (ht : t < 10) : call (d + 2) 142 [.ref 130, .int (nI t), .int 6] M = some (some (.int (M 131 (at9 t 6))), M) := C_m_thingIs (f := 6) ht (by omega)
theorem A9_6 {t : Nat} : (18 : Int32) + 7 * nI t + 6 = nI (at9 t 6) := A9 6
theorem C_m_isHow {d t : Nat} {M : Mem} {x : Int32} (ht : t < 10) : call (d + 3) 152 [.ref 130, .int (nI t), .int x] M = some (some (.int (if M 131 (at9 t 4) = x then 1 else 0)), M) := by
  rw [nX6_isHow]
  simp only [sX6_isHow_0, sX6_isHow_1, sX6_isHow_2, sX6_isHow_3, sX6_isHow_6, sX6_isHow_7, sX6_isHow_10, sX6_isHow_11, sX6_isHow_14, sX6_isHow_15, opK_some, guK_true, calK_some, rk_nil, rk_int, rk_ref, tl_some, tl_none, nb_int, nb_0, nb_1, nb_if, nb_if', q130, T4 ht]
  split <;> rfl
theorem C_m_has {d : Nat} {M : Mem} {x y : Int32} : call (d + 1) 185 [.int x, .int y] M = some (some (.int (if (x >>> (y &&& 31)) &&& 1 = 1 then 1 else 0)), M) := by
  rw [nX6_has]
  simp only [sX6_has_0, sX6_has_1, sX6_has_2, sX6_has_3, sX6_has_4, sX6_has_5, sX6_has_6, sX6_has_9, sX6_has_10, sX6_has_13, sX6_has_14, opK_some, guK_true, calK_some, rk_nil, rk_int, rk_ref, tl_some, tl_none, nb_int, nb_0, nb_1, nb_if, nb_if']
  split <;> rfl
theorem C_m_isThing {d : Nat} {M : Mem} {x : Int32} : call (d + 2) 141 [.ref 130, .int x] M = some (some (.int (if 0 ≤ x ∧ x ≤ M 131 3 - 1 then 1 else 0)), M) := by
  rw [nX6_isThing]
  simp only [sX6_isThing_0, sX6_isThing_1, sX6_isThing_2, sX6_isThing_3, sX6_isThing_6, sX6_isThing_7, sX6_isThing_8, sX6_isThing_9, sX6_isThing_10, sX6_isThing_13, opK_some, guK_true, calK_some, rk_nil, rk_int, rk_ref, tl_some, tl_none, nb_int, nb_0, nb_1, nb_if, nb_if', o130_0, a131, ib_3_132, tn_3, C_m_within]
theorem C_m_isKind {d : Nat} {M : Mem} {x : Int32} : call (d + 2) 135 [.int x] M = some (some (.int (if 0 ≤ x ∧ x ≤ 6 then 1 else 0)), M) := by
  rw [nX6_isKind]
  simp only [sX6_isKind_0, sX6_isKind_1, sX6_isKind_2, sX6_isKind_4, sX6_isKind_7, opK_some, guK_true, calK_some, rk_nil, rk_int, rk_ref, tl_some, tl_none, nb_int, nb_0, nb_1, nb_if, nb_if', C_m_within]
theorem C_m_isTooLate {d : Nat} {M : Mem} {x : Int32} : call (d + 1) 163 [.ref 130, .int x] M = some (some (.int (if 9999 < M 131 0 + x then 1 else 0)), M) := by
  rw [nX6_isTooLate]
  simp only [sX6_isTooLate_0, sX6_isTooLate_1, sX6_isTooLate_4, sX6_isTooLate_5, sX6_isTooLate_6, sX6_isTooLate_7, sX6_isTooLate_8, sX6_isTooLate_11, sX6_isTooLate_14, sX6_isTooLate_15, sX6_isTooLate_18, sX6_isTooLate_19, opK_some, guK_true, calK_some, rk_nil, rk_int, rk_ref, tl_some, tl_none, nb_int, nb_0, nb_1, nb_if, nb_if', o130_0, a131, ib_0_132, tn_0]
  by_cases h : M 131 0 + x ≤ 9999
  · rw [if_pos h, if_neg (Int32.not_lt.mpr h)]
  · rw [if_neg h, if_pos (Int32.not_le.mp h)]
/-- which kind is which one's -/
def unK : Nat → Nat → Bool := fun k j => match k, j with
  | 0, 0 => true
  | 1, 0 => true
  | 1, 1 => true
  | 2, 0 => true
  | 2, 2 => true
  | 3, 0 => true
  | 3, 2 => true
  | 3, 3 => true
  | 4, 0 => true
  | 4, 2 => true
  | 4, 3 => true
  | 4, 4 => true
  | 5, 0 => true
  | 5, 1 => true
  | 5, 5 => true
  | 6, 0 => true
  | 6, 6 => true
  | _, _ => false
theorem C_m_above : ∀ {d : Nat} {M : Mem} (k : Nat), k ≤ 6 → call (d + 1) 145 [.int (nI k)] M = some (some (.int ((stI 152).getD k 0)), M) := by
  intro d M k hk
  rw [nX6_above]
  simp only [sX6_above_0, sX6_above_1, sX6_above_4, sX6_above_5, sX6_above_8, sX6_above_9, sX6_above_10, sX6_above_13, sX6_above_14, sX6_above_17, sX6_above_18, sX6_above_19, sX6_above_22, sX6_above_23, sX6_above_26, sX6_above_27, sX6_above_28, sX6_above_31, sX6_above_32, sX6_above_35, sX6_above_36, opK_some, guK_true, calK_some, rk_nil, rk_int, rk_ref, tl_some, tl_none, nb_int, nb_0, nb_1, nb_if, nb_if']
  rcases (show k = 0 ∨ k = 1 ∨ k = 2 ∨ k = 3 ∨ k = 4 ∨ k = 5 ∨ k = 6 by omega) with rfl | rfl | rfl | rfl | rfl | rfl | rfl <;> rfl
