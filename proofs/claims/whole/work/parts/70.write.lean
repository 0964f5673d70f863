/-! calls: write -/
theorem JS_cells {M M2 : Mem} (js : JS M) (e1 : ∀ k, 120 ≤ k → k < 128 → (k % 2 = 0) → M2 k = M k) (e2 : M2 141 = M 141) (e3 : M2 142 = M 142) (e4 : ∀ s, s < 4 → ∀ i, i < 40 → M2 (121 + 2 * s) i = M2 143 (40 * s + i)) : JS M2 := by
  intro s hs
  obtain ⟨j1, j2, j3, j4, j5⟩ := js s hs
  rw [e1 (120 + 2 * s) (by omega) (by omega) (by omega), e2, e3]
  exact ⟨j1, j2, j3, j4, e4 s hs⟩
theorem X_write {d : Nat} {M : Mem} {x y v : Int32} (j : J M) : Two (d + 3) 119 (d + 3) 236 [.int x, .int y, .int v] M := by
  by_cases hx : 0 ≤ x ∧ x ≤ 3
  · obtain ⟨s, hs, rfl⟩ := sheet_of hx
    obtain ⟨⟨j1, j1'⟩, j2, j3, j4, j5⟩ := j.2.2.2.2 s hs
    have cm := C_isMissing (d := d + 1) (M := M) hs
    rw [show d + 1 + 1 = d + 2 from rfl] at cm
    rw [j1] at cm
    have i4 := inb_nI hs (show 4 < 2 ^ 31 by omega)
    have c4 := nI_clamp (show s < 2 ^ 31 by omega)
    by_cases h0 : M 141 s = 0
    · refine ⟨fX M 5, fM (fX M 5) 5, -1000006, ?_, ?_, J_fin j (by omega)⟩
      · rw [nX5_write]
        simp only [sX5_write_0, sX5_write_1, sX5_write_4, sX5_write_7, sX5_write_8, sX5_write_9, sX5_write_12, sX5_write_13, sX5_write_14, sX5_write_17, sX5_write_18, sX5_write_19, sX5_write_22, sX5_write_25, sX5_write_26, sX5_write_27, sX5_write_30, sX5_write_31, sX5_write_32, sX5_write_33, sX5_write_34, sX5_write_37, sX5_write_38, sX5_write_39, sX5_write_42, sX5_write_43, sX5_write_44, sX5_write_47, sX5_write_50, sX5_write_51, sX5_write_52, sX5_write_55, sX5_write_56, sX5_write_57, sX5_write_60, sX5_write_61, sX5_write_62, sX5_write_63, sX5_write_64, sX5_write_67, sX5_write_68, opK_some, guK_true, calK_some, rk_nil, rk_int, rk_ref, tl_some, tl_none, nb_int, nb_0, nb_1, nb_if, nb_if', q0, C_x_isSheet, hx, and_self, if_true, one_ne, if_false, o0_4, r5, sa_i hs, sa_g hs, shc hs, cm, h0, C_xf5]
      · rw [nX6_write]
        simp only [sX6_write_0, sX6_write_1, sX6_write_4, sX6_write_7, sX6_write_8, sX6_write_10, sX6_write_13, sX6_write_14, sX6_write_15, sX6_write_18, sX6_write_19, sX6_write_20, sX6_write_23, sX6_write_24, sX6_write_27, sX6_write_30, sX6_write_31, sX6_write_32, sX6_write_33, sX6_write_34, sX6_write_37, sX6_write_38, sX6_write_39, sX6_write_40, sX6_write_41, sX6_write_44, sX6_write_47, sX6_write_48, sX6_write_50, sX6_write_53, sX6_write_54, sX6_write_55, sX6_write_58, sX6_write_60, sX6_write_61, sX6_write_62, sX6_write_63, sX6_write_64, sX6_write_65, sX6_write_66, sX6_write_69, sX6_write_70, sX6_write_71, sX6_write_74, sX6_write_75, sX6_write_76, opK_some, guK_true, calK_some, rk_nil, rk_int, rk_ref, tl_some, tl_none, nb_int, nb_0, nb_1, nb_if, nb_if', q130, C_m_isSheet, hx, and_self, if_true, one_ne, if_false, o130_27, a141, i4, c4, fX_k (show 141 ≠ 1 by omega), h0, C_mf5]
    · by_cases hy : 0 ≤ y ∧ y ≤ M 142 s - 1
      · obtain ⟨i, hi, rfl⟩ : ∃ i, i < 40 ∧ y = nI i := by
          obtain ⟨z, hz⟩ : ∃ z, z = iN (M 142 s) := ⟨_, rfl⟩
          have ez : M 142 s = nI z := by rw [hz]; exact j3.2
          have lz : z ≤ 40 := by rw [hz]; exact j3.1
          obtain ⟨i, h31, rfl⟩ := nI_of (Int32.not_lt.mpr hy.1)
          rcases Nat.eq_zero_or_pos z with c | c
          · have h2 := hy.2
            rw [ez, c] at h2
            exact absurd h2 (Int32.not_le.mpr (Int32.lt_of_lt_of_le (show nI 0 - 1 < nI 0 by decide) (nI_le (by omega) h31)))
          · have h2 := hy.2
            rw [ez, pk_sub1 (by omega)] at h2
            have := (nI_leI h31 (by omega)).mp h2
            exact ⟨i, by omega, rfl⟩
        have hb : M (120 + 2 * s) 0 = 8 ∨ M (120 + 2 * s) 0 = 16 ∨ M (120 + 2 * s) 0 = 32 := by rw [j1]; exact j2.resolve_left h0
        have cp := C_put (d := d + 1) (v := v) hs hi hb
        rw [show d + 1 + 1 = d + 2 from rfl] at cp
        rw [j1] at cp
        obtain ⟨M1, hM1⟩ : ∃ M1, M1 = mset M (121 + 2 * s) i (cutR (M 141 s) v) := ⟨_, rfl⟩
        rw [← hM1] at cp
        have o1 : ∀ k, k ≠ 121 + 2 * s → M1 k = M k := fun k hk => by rw [hM1]; exact mset_ne hk
        refine ⟨M1, mset M1 143 (40 * s + i) (cutR (M 141 s) v), 1, ?_, ?_, J_sh j (fun k hk => o1 k (by omega)) (fun k hk => mset_ne (by omega)) ?_⟩
        · rw [nX5_write]
          simp only [sX5_write_0, sX5_write_1, sX5_write_4, sX5_write_7, sX5_write_8, sX5_write_9, sX5_write_12, sX5_write_13, sX5_write_14, sX5_write_17, sX5_write_18, sX5_write_19, sX5_write_22, sX5_write_25, sX5_write_26, sX5_write_27, sX5_write_30, sX5_write_31, sX5_write_32, sX5_write_33, sX5_write_34, sX5_write_37, sX5_write_38, sX5_write_39, sX5_write_42, sX5_write_43, sX5_write_44, sX5_write_47, sX5_write_50, sX5_write_51, sX5_write_52, sX5_write_55, sX5_write_56, sX5_write_57, sX5_write_60, sX5_write_61, sX5_write_62, sX5_write_63, sX5_write_64, sX5_write_67, sX5_write_68, opK_some, guK_true, calK_some, rk_nil, rk_int, rk_ref, tl_some, tl_none, nb_int, nb_0, nb_1, nb_if, nb_if', q0, C_x_isSheet, C_x_within, hx, and_self, if_true, one_ne, zero_eq, if_false, o0_4, r5, sa_i hs, sa_g hs, shc hs, sh1 hs, cm, h0, j1', hy, cp]
        · rw [nX6_write]
          simp only [sX6_write_0, sX6_write_1, sX6_write_4, sX6_write_7, sX6_write_8, sX6_write_10, sX6_write_13, sX6_write_14, sX6_write_15, sX6_write_18, sX6_write_19, sX6_write_20, sX6_write_23, sX6_write_24, sX6_write_27, sX6_write_30, sX6_write_31, sX6_write_32, sX6_write_33, sX6_write_34, sX6_write_37, sX6_write_38, sX6_write_39, sX6_write_40, sX6_write_41, sX6_write_44, sX6_write_47, sX6_write_48, sX6_write_50, sX6_write_53, sX6_write_54, sX6_write_55, sX6_write_58, sX6_write_60, sX6_write_61, sX6_write_62, sX6_write_63, sX6_write_64, sX6_write_65, sX6_write_66, sX6_write_69, sX6_write_70, sX6_write_71, sX6_write_75, sX6_write_76, opK_some, guK_true, calK_some, rk_nil, rk_int, rk_ref, tl_some, tl_none, nb_int, nb_0, nb_1, nb_if, nb_if', q130, C_m_isSheet, C_m_within, hx, and_self, if_true, one_ne, if_false, o130_27, o130_28, o130_29, a141, a142, i4, c4, o1 141 (by omega), o1 142 (by omega), h0, hy, C_cutTo, I40, nI_add]
          rw [sX6_write_74]
          simp only [sX6_write_0, sX6_write_1, sX6_write_4, sX6_write_7, sX6_write_8, sX6_write_10, sX6_write_13, sX6_write_14, sX6_write_15, sX6_write_18, sX6_write_19, sX6_write_20, sX6_write_23, sX6_write_24, sX6_write_27, sX6_write_30, sX6_write_31, sX6_write_32, sX6_write_33, sX6_write_34, sX6_write_37, sX6_write_38, sX6_write_39, sX6_write_40, sX6_write_41, sX6_write_44, sX6_write_47, sX6_write_48, sX6_write_50, sX6_write_53, sX6_write_54, sX6_write_55, sX6_write_58, sX6_write_60, sX6_write_61, sX6_write_62, sX6_write_63, sX6_write_64, sX6_write_65, sX6_write_66, sX6_write_69, sX6_write_70, sX6_write_71, sX6_write_75, sX6_write_76, opK_some, guK_true, calK_some, rk_nil, rk_int, rk_ref, tl_some, tl_none, nb_int, nb_0, nb_1, nb_if, nb_if', a143, b143, inb_nI (show 40 * s + i < 160 by omega) (by omega), nI_clamp (show 40 * s + i < 2 ^ 31 by omega)]
        · refine JS_cells j.2.2.2.2 (fun k h1 h2 h3 => by rw [mset_ne (by omega)]; exact o1 k (by omega)) (by rw [mset_ne (by omega)]; exact o1 141 (by omega)) (by rw [mset_ne (by omega)]; exact o1 142 (by omega)) (fun q hq k hk => ?_)
          rw [mset_ne (by omega), mset_at, o1 143 (by omega)]
          have j5q := (j.2.2.2.2 q hq).2.2.2.2 k hk
          by_cases c : q = s
          · subst c
            rw [hM1, mset_at]
            by_cases c2 : k = i
            · rw [c2, upd_at, upd_at]
            · rw [upd_ne c2, upd_ne (by omega)]
              exact j5q
          · rw [o1 _ (by omega), upd_ne (by omega)]
            exact j5q
      · refine ⟨fX M 0, fM (fX M 0) 0, -1000001, ?_, ?_, J_fin j (by omega)⟩
        · rw [nX5_write]
          simp only [sX5_write_0, sX5_write_1, sX5_write_4, sX5_write_7, sX5_write_8, sX5_write_9, sX5_write_12, sX5_write_13, sX5_write_14, sX5_write_17, sX5_write_18, sX5_write_19, sX5_write_22, sX5_write_25, sX5_write_26, sX5_write_27, sX5_write_30, sX5_write_31, sX5_write_32, sX5_write_33, sX5_write_34, sX5_write_37, sX5_write_38, sX5_write_39, sX5_write_42, sX5_write_43, sX5_write_44, sX5_write_47, sX5_write_50, sX5_write_51, sX5_write_52, sX5_write_55, sX5_write_56, sX5_write_57, sX5_write_60, sX5_write_61, sX5_write_62, sX5_write_63, sX5_write_64, sX5_write_67, sX5_write_68, opK_some, guK_true, calK_some, rk_nil, rk_int, rk_ref, tl_some, tl_none, nb_int, nb_0, nb_1, nb_if, nb_if', q0, C_x_isSheet, C_x_within, hx, and_self, if_true, one_ne, zero_eq, if_false, o0_4, r5, sa_i hs, sa_g hs, shc hs, sh1 hs, cm, h0, j1', hy, C_xf0]
        · rw [nX6_write]
          simp only [sX6_write_0, sX6_write_1, sX6_write_4, sX6_write_7, sX6_write_8, sX6_write_10, sX6_write_13, sX6_write_14, sX6_write_15, sX6_write_18, sX6_write_19, sX6_write_20, sX6_write_23, sX6_write_24, sX6_write_27, sX6_write_30, sX6_write_31, sX6_write_32, sX6_write_33, sX6_write_34, sX6_write_37, sX6_write_38, sX6_write_39, sX6_write_40, sX6_write_41, sX6_write_44, sX6_write_47, sX6_write_48, sX6_write_50, sX6_write_53, sX6_write_54, sX6_write_55, sX6_write_58, sX6_write_60, sX6_write_61, sX6_write_62, sX6_write_63, sX6_write_64, sX6_write_65, sX6_write_66, sX6_write_69, sX6_write_70, sX6_write_71, sX6_write_74, sX6_write_75, sX6_write_76, opK_some, guK_true, calK_some, rk_nil, rk_int, rk_ref, tl_some, tl_none, nb_int, nb_0, nb_1, nb_if, nb_if', q130, C_m_isSheet, C_m_within, hx, and_self, if_true, one_ne, zero_eq, if_false, o130_27, o130_28, a141, a142, i4, c4, fX_k (show 141 ≠ 1 by omega), fX_k (show 142 ≠ 1 by omega), h0, hy, C_mf0]
  · refine ⟨fX M 0, fM (fX M 0) 0, -1000001, ?_, ?_, J_fin j (by omega)⟩
    · rw [nX5_write]
      simp only [sX5_write_0, sX5_write_1, sX5_write_4, sX5_write_7, sX5_write_8, sX5_write_9, sX5_write_12, sX5_write_13, sX5_write_14, sX5_write_17, sX5_write_18, sX5_write_19, sX5_write_22, sX5_write_25, sX5_write_26, sX5_write_27, sX5_write_30, sX5_write_31, sX5_write_32, sX5_write_33, sX5_write_34, sX5_write_37, sX5_write_38, sX5_write_39, sX5_write_42, sX5_write_43, sX5_write_44, sX5_write_47, sX5_write_50, sX5_write_51, sX5_write_52, sX5_write_55, sX5_write_56, sX5_write_57, sX5_write_60, sX5_write_61, sX5_write_62, sX5_write_63, sX5_write_64, sX5_write_67, sX5_write_68, opK_some, guK_true, calK_some, rk_nil, rk_int, rk_ref, tl_some, tl_none, nb_int, nb_0, nb_1, nb_if, nb_if', q0, C_x_isSheet, hx, if_true, zero_eq, if_false, C_xf0]
    · rw [nX6_write]
      simp only [sX6_write_0, sX6_write_1, sX6_write_4, sX6_write_7, sX6_write_8, sX6_write_10, sX6_write_13, sX6_write_14, sX6_write_15, sX6_write_18, sX6_write_19, sX6_write_20, sX6_write_23, sX6_write_24, sX6_write_27, sX6_write_30, sX6_write_31, sX6_write_32, sX6_write_33, sX6_write_34, sX6_write_37, sX6_write_38, sX6_write_39, sX6_write_40, sX6_write_41, sX6_write_44, sX6_write_47, sX6_write_48, sX6_write_50, sX6_write_53, sX6_write_54, sX6_write_55, sX6_write_58, sX6_write_60, sX6_write_61, sX6_write_62, sX6_write_63, sX6_write_64, sX6_write_65, sX6_write_66, sX6_write_69, sX6_write_70, sX6_write_71, sX6_write_74, sX6_write_75, sX6_write_76, opK_some, guK_true, calK_some, rk_nil, rk_int, rk_ref, tl_some, tl_none, nb_int, nb_0, nb_1, nb_if, nb_if', q130, C_m_isSheet, hx, if_true, zero_eq, if_false, C_mf0]
/-! calls: copy -/
theorem lN_ti {n : Nat} (h : n < 2 ^ 63) : (lN n).toInt = (n : Int) := Int64.toInt_ofNat_of_lt h
theorem lg_le {a b : Nat} (ha : a < 2 ^ 62) (hb : b < 2 ^ 62) : ((0 : Int32) < lg_cmp (lN a) (lN b)) ↔ b < a := by
  unfold lg_cmp
  have h : (lN a > lN b) ↔ b < a := by
    show lN b < lN a ↔ _
    rw [Int64.lt_iff_toInt_lt, lN_ti (by omega), lN_ti (by omega)]
    omega
  by_cases c : b < a
  · rw [if_pos (h.mpr c)]
    exact ⟨fun _ => c, fun _ => by decide⟩
  · rw [if_neg (fun z => c (h.mp z))]
    refine ⟨fun z => ?_, fun z => absurd z c⟩
    exfalso
    split at z
    · exact absurd z (by decide)
    · exact absurd z (by decide)
theorem cpy_40 {s t f g n : Nat} (hs : s < 4) (ht : t < 4) (hf : f + n ≤ 40) (hg : g + n ≤ 40) : cpy9 (121 + 2 * s) (121 + 2 * t) (nI f) (nI g) (nI n) = true := by
  unfold cpy9
  rw [shn hs, shn ht]
  sorry

