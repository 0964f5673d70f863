/-! calls: when, worth -/
theorem C_m_till {d t : Nat} {M : Mem} (i : IR (M 131)) : ∃ M', call (d + 6) 177 [.ref 130, .int (nI t)] M = some (some (.int (nI (tlR (M 131) (nI t) 0 60))), M') ∧ (∀ k, k ≠ 130 → k ≠ 131 → k ≠ 133 → M' k = M k) ∧ M' 131 = M 131 ∧ M' 130 3 = M 130 3 ∧ M' 130 17 = M 130 17 ∧ (0 < tlR (M 131) (nI t) 0 60 → M' 130 8 = worD (dN (M 131) (tlR (M 131) (nI t) 0 60 - 1))) := by
  have hc := C_aside (d := d + 4) (M := M)
  rw [show d + 4 + 1 = d + 5 from rfl] at hc
  obtain ⟨M3, hM3⟩ : ∃ M3, M3 = mrow M 133 (cpR (M 131) (M 133)) := ⟨_, rfl⟩
  rw [← hM3] at hc
  have e3 : ∀ k, k ≠ 133 → M3 k = M k := fun k h => by rw [hM3, mrow_ne h]
  obtain ⟨M4, c4, b1, b2, b3, b4, b5⟩ := L_m_till (d := d) (t := t) i.1 60 0 M3 (by omega) (e3 131 (by omega)) (by rw [hM3, mrow_at])
  rw [nI_0] at c4
  rw [nX6_tillLaid]
  simp only [sX6_tillLaid_0, sX6_tillLaid_1, sX6_tillLaid_4, sX6_tillLaid_5, sX6_tillLaid_8, sX6_tillLaid_11, sX6_tillLaid_12, sX6_tillLaid_13, sX6_tillLaid_14, sX6_tillLaid_16, sX6_tillLaid_18, sX6_tillLaid_21, sX6_tillLaid_22, sX6_tillLaid_25, sX6_tillLaid_26, sX6_tillLaid_27, sX6_tillLaid_30, sX6_tillLaid_33, sX6_tillLaid_34, sX6_tillLaid_37, sX6_tillLaid_38, sX6_tillLaid_41, sX6_tillLaid_42, sX6_tillLaid_45, sX6_tillLaid_46, sX6_tillLaid_47, sX6_tillLaid_50, sX6_tillLaid_53, sX6_tillLaid_54, sX6_tillLaid_55, sX6_tillLaid_58, sX6_tillLaid_59, sX6_tillLaid_62, sX6_tillLaid_63, sX6_tillLaid_66, opK_some, guK_true, calK_some, rk_nil, rk_int, rk_ref, tl_some, tl_none, nb_int, nb_0, nb_1, nb_if, nb_if', o130_0, o130_2, hc]
  exact ⟨M4, c4, fun k h1 h2 h3 => (b1 k h1 h2).trans (e3 k h3), b2, by rw [b3, e3 130 (by omega)], by rw [b4, e3 130 (by omega)], b5⟩
theorem C_m_isLate {d : Nat} {M : Mem} : call (d + 2) 176 [.ref 130] M = some (some (.int (if 9999 < M 131 0 + 60 then 1 else 0)), M) := by
  rw [nX6_isLate]
  simp only [sX6_isLate_0, sX6_isLate_1, sX6_isLate_3, sX6_isLate_6, opK_some, guK_true, calK_some, rk_nil, rk_int, rk_ref, tl_some, tl_none, nb_int, nb_0, nb_1, nb_if, nb_if', q130, C_m_isTooLate]
/-- what bars a look at one; -1: nothing -/
def unlR (r : Rw) (x : Int32) : Int32 := if 0 ≤ x ∧ x ≤ r 3 - 1 then (if ¬ r (at9 (iN x) 4) = 1 ∨ 9999 < r 0 + 60 then 4 else -1) else 0
theorem C_unl {d : Nat} {M : Mem} {x : Int32} (j : J M) : call (d + 3) 38 [.ref 0, .int x] M = some (some (.int (unlR (M 131) x)), M) := by
  have ed : M 100 1 = M 131 0 := j.1.2.2.1.1
  have e0 : M 10 0 = M 131 3 := (j_hr j).1.1
  have w := j_wr j
  rw [nX5_unlookable]
  unfold unlR
  by_cases hT : 0 ≤ x ∧ x ≤ M 131 3 - 1
  · rw [if_pos hT]
    obtain ⟨t, _, ht, rfl⟩ := thing_of w hT
    have e5 : M 15 t = M 131 (at9 t 4) := (j_hr j).2.1 4 (by omega) t ht
    rw [iN_nI (by omega)]
    simp only [sX5_unlookable_0, sX5_unlookable_1, sX5_unlookable_2, sX5_unlookable_5, sX5_unlookable_8, sX5_unlookable_9, sX5_unlookable_10, sX5_unlookable_11, sX5_unlookable_14, sX5_unlookable_17, sX5_unlookable_20, sX5_unlookable_21, sX5_unlookable_22, sX5_unlookable_23, sX5_unlookable_26, sX5_unlookable_27, sX5_unlookable_29, sX5_unlookable_32, sX5_unlookable_35, sX5_unlookable_36, sX5_unlookable_39, sX5_unlookable_40, opK_some, guK_true, calK_some, rk_nil, rk_int, rk_ref, tl_some, tl_none, nb_int, nb_0, nb_1, nb_if, nb_if', o0_0, o100_0, q0, hs_5 hen10, ha_5 hen10, C_x_isThing, C_x_isTooLate, e0, ed, hT, and_self, if_true, one_ne, if_false, inb_nI ht (by omega), nI_clamp (show t < 2 ^ 31 by omega), e5]
    by_cases h1 : M 131 (at9 t 4) = 1
    · by_cases hl : 9999 < M 131 0 + 60
      · simp only [h1, hl, not_true, false_or, if_true, one_ne, if_false]
      · simp only [h1, hl, not_true, false_or, if_true, zero_eq, if_false]
    · simp only [h1, not_false_eq_true, true_or, if_true, if_false]
  · rw [if_neg hT]
    simp only [sX5_unlookable_0, sX5_unlookable_1, sX5_unlookable_2, sX5_unlookable_5, sX5_unlookable_8, sX5_unlookable_9, sX5_unlookable_10, sX5_unlookable_11, sX5_unlookable_14, sX5_unlookable_17, sX5_unlookable_20, sX5_unlookable_21, sX5_unlookable_22, sX5_unlookable_23, sX5_unlookable_26, sX5_unlookable_27, sX5_unlookable_29, sX5_unlookable_32, sX5_unlookable_35, sX5_unlookable_36, sX5_unlookable_39, sX5_unlookable_40, opK_some, guK_true, calK_some, rk_nil, rk_int, rk_ref, tl_some, tl_none, nb_int, nb_0, nb_1, nb_if, nb_if', q0, C_x_isThing, e0, hT, if_false, zero_eq, if_true]

