/-! calls: what is told, what is counted -/
theorem hen10 : isHen 10 := Or.inl rfl
theorem farm100 : isFarm 100 := Or.inl rfl
theorem j_hr {M : Mem} (j : J M) : HR M 10 (M 131) := j.1.2.1
theorem j_wr {M : Mem} (j : J M) : WR (M 131) := j.1.1.1.1
theorem j_same1 {M M' : Mem} (j : J M) (e : ∀ k, k = 130 ∨ (k ≠ 133 ∧ (k < 135 ∨ 137 < k)) → M' k = M k) : J M' := by
  refine J_same j ⟨fun k h1 h2 => e k (by omega), by rw [e 0 (by omega)], by rw [e 7 (by omega)]⟩ ⟨fun k hk => e k (by omega), by rw [e 130 (by omega)], by rw [e 130 (by omega)]⟩
theorem sw_of (x : Int32) (n : Nat) : (x.toInt < 0 ∨ (n : Int) < x.toInt) ∨ ∃ q, q ≤ n ∧ x = nI q := by
  by_cases h : x.toInt < 0 ∨ (n : Int) < x.toInt
  · exact Or.inl h
  · right
    have h1 : ¬ x < 0 := fun z => h (Or.inl (by have := Int32.lt_iff_toInt_lt.mp z; simpa using this))
    obtain ⟨j, hj, rfl⟩ := nI_of h1
    rw [nI_toInt hj] at h
    exact ⟨j, by omega, rfl⟩
theorem thing_of {r : Rw} {x : Int32} (w : WR r) (h : 0 ≤ x ∧ x ≤ r 3 - 1) : ∃ t, t < nT r ∧ t < 10 ∧ x = nI t := by
  have h9 := wr_T w
  obtain ⟨j, hj, rfl⟩ := nI_of (Int32.not_lt.mpr h.1)
  rcases Nat.eq_zero_or_pos (nT r) with q | q
  · have := h.2
    rw [h9.2, q] at this
    exact absurd this (Int32.not_le.mpr (Int32.lt_of_lt_of_le (show nI 0 - 1 < nI 0 by decide) (nI_le (by omega) hj)))
  · have h3 := h.2
    rw [h9.2, pk_sub1 (by omega)] at h3
    have := (nI_leI hj (by omega)).mp h3
    exact ⟨j, by omega, by omega, rfl⟩
theorem C_x_isThing {d : Nat} {M : Mem} {x : Int32} : call (d + 2) 6 [.ref 0, .int x] M = some (some (.int (if 0 ≤ x ∧ x ≤ M 10 0 - 1 then 1 else 0)), M) := by
  rw [nX5_isThing]
  simp only [sX5_isThing_0, sX5_isThing_1, sX5_isThing_2, sX5_isThing_3, sX5_isThing_6, sX5_isThing_9, sX5_isThing_12, sX5_isThing_13, sX5_isThing_14, sX5_isThing_17, opK_some, guK_true, calK_some, rk_nil, rk_int, rk_ref, tl_some, tl_none, nb_int, nb_0, nb_1, nb_if, nb_if', o0_0, o100_0, hs_0 hen10, C_x_within]
theorem C_x_isDays {d : Nat} {M : Mem} {x : Int32} : call (d + 2) 24 [.int x] M = some (some (.int (if 1 ≤ x ∧ x ≤ 60 then 1 else 0)), M) := by
  rw [nX5_isDays]
  simp only [sX5_isDays_0, sX5_isDays_1, sX5_isDays_2, sX5_isDays_4, sX5_isDays_7, opK_some, guK_true, calK_some, rk_nil, rk_int, rk_ref, tl_some, tl_none, nb_int, nb_0, nb_1, nb_if, nb_if', C_x_within]
theorem C_x_isSheet {d : Nat} {M : Mem} {x : Int32} : call (d + 2) 117 [.int x] M = some (some (.int (if 0 ≤ x ∧ x ≤ 3 then 1 else 0)), M) := by
  rw [nX5_isSheet]
  simp only [sX5_isSheet_0, sX5_isSheet_1, sX5_isSheet_2, sX5_isSheet_3, sX5_isSheet_6, opK_some, guK_true, calK_some, rk_nil, rk_int, rk_ref, tl_some, tl_none, nb_int, nb_0, nb_1, nb_if, nb_if', C_x_within]
theorem C_m_isSheet {d : Nat} {M : Mem} {x : Int32} : call (d + 2) 235 [.int x] M = some (some (.int (if 0 ≤ x ∧ x ≤ 3 then 1 else 0)), M) := by
  rw [nX6_isSheet]
  simp only [sX6_isSheet_0, sX6_isSheet_1, sX6_isSheet_2, sX6_isSheet_3, sX6_isSheet_6, opK_some, guK_true, calK_some, rk_nil, rk_int, rk_ref, tl_some, tl_none, nb_int, nb_0, nb_1, nb_if, nb_if', C_m_within]
theorem C_x_isTooLate {d : Nat} {M : Mem} {x : Int32} : call (d + 1) 25 [.ref 0, .int x] M = some (some (.int (if 9999 < M 100 1 + x then 1 else 0)), M) := by
  rw [nX5_isTooLate]
  simp only [sX5_isTooLate_0, sX5_isTooLate_1, sX5_isTooLate_4, sX5_isTooLate_7, sX5_isTooLate_8, sX5_isTooLate_9, sX5_isTooLate_12, sX5_isTooLate_15, sX5_isTooLate_16, sX5_isTooLate_19, sX5_isTooLate_20, opK_some, guK_true, calK_some, rk_nil, rk_int, rk_ref, tl_some, tl_none, nb_int, nb_0, nb_1, nb_if, nb_if', o0_0, o100_1]
  by_cases h : M 100 1 + x ≤ 9999
  · rw [if_pos h, if_neg (Int32.not_lt.mpr h)]
  · rw [if_neg h, if_pos (Int32.not_le.mp h)]
theorem one_ne : ((1 : Int32) = 0) = False := eq_false (by decide)
theorem zero_eq : ((0 : Int32) = 0) = True := eq_self 0
theorem X_of {d : Nat} {M : Mem} {x y : Int32} (j : J M) : Two (d + 3) 5 (d + 4) 140 [.int x, .int y] M := by
  have e0 : M 10 0 = M 131 3 := (j_hr j).1.1
  have w := j_wr j
  by_cases hT : 0 ≤ x ∧ x ≤ M 131 3 - 1
  · by_cases hy : 0 ≤ y ∧ y ≤ 9
    · obtain ⟨t, _, ht, rfl⟩ := thing_of w hT
      obtain ⟨q, hq, rfl⟩ : ∃ q, q ≤ 9 ∧ y = nI q := nI_of2 (M := 9) (n := 9) rfl (Int32.not_lt.mpr hy.1) hy.2
      refine ⟨M, M, toldR (M 131) t q, ?_, ?_, j⟩
      · rw [nX5_of]
        simp only [sX5_of_0, sX5_of_1, sX5_of_2, sX5_of_5, sX5_of_8, sX5_of_9, sX5_of_10, sX5_of_12, sX5_of_15, sX5_of_18, sX5_of_19, sX5_of_20, sX5_of_23, sX5_of_24, sX5_of_25, sX5_of_28, sX5_of_31, sX5_of_32, sX5_of_33, sX5_of_36, opK_some, guK_true, calK_some, rk_nil, rk_int, rk_ref, tl_some, tl_none, nb_int, nb_0, nb_1, nb_if, nb_if', o0_0, o100_0, q0, hen_c hen10, C_x_isThing, C_x_within, e0, hT, hy, and_self, if_true, one_ne, if_false, C_told hen10 (j_hr j) w ht q hq]
      · rw [nX6_of]
        simp only [sX6_of_0, sX6_of_1, sX6_of_2, sX6_of_5, sX6_of_8, sX6_of_9, sX6_of_10, sX6_of_12, sX6_of_15, sX6_of_18, sX6_of_19, sX6_of_21, sX6_of_24, sX6_of_26, sX6_of_28, sX6_of_31, sX6_of_32, sX6_of_33, sX6_of_34, sX6_of_37, sX6_of_40, sX6_of_41, sX6_of_43, sX6_of_46, sX6_of_47, sX6_of_48, sX6_of_51, sX6_of_54, sX6_of_55, sX6_of_57, sX6_of_60, sX6_of_61, sX6_of_62, sX6_of_65, sX6_of_68, sX6_of_69, sX6_of_70, sX6_of_73, opK_some, guK_true, calK_some, rk_nil, rk_int, rk_ref, tl_some, tl_none, nb_int, nb_0, nb_1, nb_if, nb_if', q130, C_m_isThing, C_m_within, hT, hy, and_self, if_true, one_ne, if_false]
        rw [sX6_of_25]
        by_cases h7 : q < 7
        · simp only [sX6_of_0, sX6_of_1, sX6_of_2, sX6_of_5, sX6_of_8, sX6_of_9, sX6_of_10, sX6_of_12, sX6_of_15, sX6_of_18, sX6_of_19, sX6_of_21, sX6_of_24, sX6_of_26, sX6_of_28, sX6_of_31, sX6_of_32, sX6_of_33, sX6_of_34, sX6_of_37, sX6_of_40, sX6_of_41, sX6_of_43, sX6_of_46, sX6_of_47, sX6_of_48, sX6_of_51, sX6_of_54, sX6_of_55, sX6_of_57, sX6_of_60, sX6_of_61, sX6_of_62, sX6_of_65, sX6_of_68, sX6_of_69, sX6_of_70, sX6_of_73, opK_some, guK_true, calK_some, rk_nil, rk_int, rk_ref, tl_some, tl_none, nb_int, nb_0, nb_1, nb_if, nb_if', q130, show ¬ (7 : Int32) ≤ nI q from nI_ge (b := 7) h7 (by omega), if_false, C_m_thingIs ht h7]
          unfold toldR
          rw [if_pos h7]
        · rcases (show q = 7 ∨ q = 8 ∨ q = 9 by omega) with rfl | rfl | rfl
          · simp only [sX6_of_0, sX6_of_1, sX6_of_2, sX6_of_5, sX6_of_8, sX6_of_9, sX6_of_10, sX6_of_12, sX6_of_15, sX6_of_18, sX6_of_19, sX6_of_21, sX6_of_24, sX6_of_26, sX6_of_28, sX6_of_31, sX6_of_32, sX6_of_33, sX6_of_34, sX6_of_37, sX6_of_40, sX6_of_41, sX6_of_43, sX6_of_46, sX6_of_47, sX6_of_48, sX6_of_51, sX6_of_54, sX6_of_55, sX6_of_57, sX6_of_60, sX6_of_61, sX6_of_62, sX6_of_65, sX6_of_68, sX6_of_69, sX6_of_70, sX6_of_73, opK_some, guK_true, calK_some, rk_nil, rk_int, rk_ref, tl_some, tl_none, nb_int, nb_0, nb_1, nb_if, nb_if', q130, show ((7 : Int32) ≤ nI 7) = True from eq_true (by decide), show (nI 7 = (7 : Int32)) = True from eq_true (by decide), if_true, C_m_takes w ht]
            rfl
          · simp only [sX6_of_0, sX6_of_1, sX6_of_2, sX6_of_5, sX6_of_8, sX6_of_9, sX6_of_10, sX6_of_12, sX6_of_15, sX6_of_18, sX6_of_19, sX6_of_21, sX6_of_24, sX6_of_26, sX6_of_28, sX6_of_31, sX6_of_32, sX6_of_33, sX6_of_34, sX6_of_37, sX6_of_40, sX6_of_41, sX6_of_43, sX6_of_46, sX6_of_47, sX6_of_48, sX6_of_51, sX6_of_54, sX6_of_55, sX6_of_57, sX6_of_60, sX6_of_61, sX6_of_62, sX6_of_65, sX6_of_68, sX6_of_69, sX6_of_70, sX6_of_73, opK_some, guK_true, calK_some, rk_nil, rk_int, rk_ref, tl_some, tl_none, nb_int, nb_0, nb_1, nb_if, nb_if', q130, show ((7 : Int32) ≤ nI 8) = True from eq_true (by decide), show (nI 8 = (7 : Int32)) = False from eq_false (by decide), show (nI 8 = (8 : Int32)) = True from eq_true (by decide), if_true, if_false, C_m_stains w ht]
            rfl
          · simp only [sX6_of_0, sX6_of_1, sX6_of_2, sX6_of_5, sX6_of_8, sX6_of_9, sX6_of_10, sX6_of_12, sX6_of_15, sX6_of_18, sX6_of_19, sX6_of_21, sX6_of_24, sX6_of_26, sX6_of_28, sX6_of_31, sX6_of_32, sX6_of_33, sX6_of_34, sX6_of_37, sX6_of_40, sX6_of_41, sX6_of_43, sX6_of_46, sX6_of_47, sX6_of_48, sX6_of_51, sX6_of_54, sX6_of_55, sX6_of_57, sX6_of_60, sX6_of_61, sX6_of_62, sX6_of_65, sX6_of_68, sX6_of_69, sX6_of_70, sX6_of_73, opK_some, guK_true, calK_some, rk_nil, rk_int, rk_ref, tl_some, tl_none, nb_int, nb_0, nb_1, nb_if, nb_if', q130, show ((7 : Int32) ≤ nI 9) = True from eq_true (by decide), show (nI 9 = (7 : Int32)) = False from eq_false (by decide), show (nI 9 = (8 : Int32)) = False from eq_false (by decide), if_true, if_false, C_m_left w ht]
            rfl
    · refine ⟨fX M 0, fM (fX M 0) 0, -1000001, ?_, ?_, J_fin j (by omega)⟩
      · rw [nX5_of]
        simp only [sX5_of_0, sX5_of_1, sX5_of_2, sX5_of_5, sX5_of_8, sX5_of_9, sX5_of_10, sX5_of_12, sX5_of_15, sX5_of_18, sX5_of_19, sX5_of_20, sX5_of_23, sX5_of_24, sX5_of_25, sX5_of_28, sX5_of_31, sX5_of_32, sX5_of_33, sX5_of_36, opK_some, guK_true, calK_some, rk_nil, rk_int, rk_ref, tl_some, tl_none, nb_int, nb_0, nb_1, nb_if, nb_if', q0, C_x_isThing, C_x_within, e0, hT, hy, and_self, if_true, if_false, one_ne, zero_eq, C_xf0]
      · rw [nX6_of]
        simp only [sX6_of_0, sX6_of_1, sX6_of_2, sX6_of_5, sX6_of_8, sX6_of_9, sX6_of_10, sX6_of_12, sX6_of_15, sX6_of_18, sX6_of_19, sX6_of_21, sX6_of_24, sX6_of_26, sX6_of_28, sX6_of_31, sX6_of_32, sX6_of_33, sX6_of_34, sX6_of_37, sX6_of_40, sX6_of_41, sX6_of_43, sX6_of_46, sX6_of_47, sX6_of_48, sX6_of_51, sX6_of_54, sX6_of_55, sX6_of_57, sX6_of_60, sX6_of_61, sX6_of_62, sX6_of_65, sX6_of_68, sX6_of_69, sX6_of_70, sX6_of_73, opK_some, guK_true, calK_some, rk_nil, rk_int, rk_ref, tl_some, tl_none, nb_int, nb_0, nb_1, nb_if, nb_if', q130, C_m_isThing, C_m_within, fX_k (show 131 ≠ 1 by omega), hT, hy, and_self, if_true, if_false, one_ne, zero_eq, C_mf0]
  · refine ⟨fX M 0, fM (fX M 0) 0, -1000001, ?_, ?_, J_fin j (by omega)⟩
    · rw [nX5_of]
      simp only [sX5_of_0, sX5_of_1, sX5_of_2, sX5_of_5, sX5_of_8, sX5_of_9, sX5_of_10, sX5_of_12, sX5_of_15, sX5_of_18, sX5_of_19, sX5_of_20, sX5_of_23, sX5_of_24, sX5_of_25, sX5_of_28, sX5_of_31, sX5_of_32, sX5_of_33, sX5_of_36, opK_some, guK_true, calK_some, rk_nil, rk_int, rk_ref, tl_some, tl_none, nb_int, nb_0, nb_1, nb_if, nb_if', q0, C_x_isThing, e0, hT, if_true, if_false, zero_eq, C_xf0]
    · rw [nX6_of]
      simp only [sX6_of_0, sX6_of_1, sX6_of_2, sX6_of_5, sX6_of_8, sX6_of_9, sX6_of_10, sX6_of_12, sX6_of_15, sX6_of_18, sX6_of_19, sX6_of_21, sX6_of_24, sX6_of_26, sX6_of_28, sX6_of_31, sX6_of_32, sX6_of_33, sX6_of_34, sX6_of_37, sX6_of_40, sX6_of_41, sX6_of_43, sX6_of_46, sX6_of_47, sX6_of_48, sX6_of_51, sX6_of_54, sX6_of_55, sX6_of_57, sX6_of_60, sX6_of_61, sX6_of_62, sX6_of_65, sX6_of_68, sX6_of_69, sX6_of_70, sX6_of_73, opK_some, guK_true, calK_some, rk_nil, rk_int, rk_ref, tl_some, tl_none, nb_int, nb_0, nb_1, nb_if, nb_if', q130, C_m_isThing, fX_k (show 131 ≠ 1 by omega), hT, if_true, if_false, zero_eq, C_mf0]

