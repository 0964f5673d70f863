/-! calls: rule -/
theorem IR_12 {r : Rw} {k : Nat} {v : Int32} (i : IR r) (hk : k = 1 ∨ k = 2) (hv : 0 ≤ v) : IR (upd r k v) := by
  refine ⟨⟨WR_cong i.1.1 (fun j hj => upd_ne (by omega)), ?_, ?_⟩, ⟨KRo_cong i.1.1 i.2.1 (fun j hj => upd_ne (by omega)), ?_, ?_⟩⟩
  · rw [upd_ne (by omega)]
    exact i.1.2.1
  · rw [upd_ne (by omega), upd_ne (by omega)]
    exact i.1.2.2
  · rcases hk with rfl | rfl
    · rw [upd_at]; exact hv
    · rw [upd_ne (by omega)]; exact i.2.2.1
  · rcases hk with rfl | rfl
    · rw [upd_ne (by omega)]; exact i.2.2.2
    · rw [upd_at]; exact hv
theorem HR_12 {b : Nat} {M : Mem} {r : Rw} {v : Int32} (h : HR M b r) (w : WR r) : HR (mset M b 10 v) b (upd r 1 v) ∧ HR (mset M b 11 v) b (upd r 2 v) := by
  have h8 := wr_C w
  have ga : ∀ k : Nat, k < 18 → ∀ f t, upd r k v (at9 t f) = r (at9 t f) := fun k hk f t => upd_ne (by have := at9_ge t f; omega)
  have e1 : nC (upd r 1 v) = nC r := by unfold nC; rw [upd_ne (by omega)]
  have e2 : nC (upd r 2 v) = nC r := by unfold nC; rw [upd_ne (by omega)]
  refine ⟨⟨?_, fun f hf t ht => ?_, fun i hi => ?_⟩, ⟨?_, fun f hf t ht => ?_, fun i hi => ?_⟩⟩
  · rw [mset_at]
    refine ⟨?_, ?_, ?_, ?_⟩
    · rw [upd_ne (by omega), upd_ne (by omega)]
      exact h.1.1
    · rw [upd_ne (by omega), upd_ne (by omega)]
      exact h.1.2.1
    · rw [upd_at, upd_at]
    · rw [upd_ne (by omega), upd_ne (by omega)]
      exact h.1.2.2.2
  · rw [mset_ne (by omega), ga 1 (by omega)]
    exact h.2.1 f hf t ht
  · rw [e1] at hi
    rw [mset_ne (by omega), upd_ne (by omega)]
    exact h.2.2 i hi
  · rw [mset_at]
    refine ⟨?_, ?_, ?_, ?_⟩
    · rw [upd_ne (by omega), upd_ne (by omega)]
      exact h.1.1
    · rw [upd_ne (by omega), upd_ne (by omega)]
      exact h.1.2.1
    · rw [upd_ne (by omega), upd_ne (by omega)]
      exact h.1.2.2.1
    · rw [upd_at, upd_at]
  · rw [mset_ne (by omega), ga 2 (by omega)]
    exact h.2.1 f hf t ht
  · rw [e2] at hi
    rw [mset_ne (by omega), upd_ne (by omega)]
    exact h.2.2 i hi
theorem J_12 {M : Mem} {k s : Nat} {v : Int32} (j : J M) (hk : (k = 1 ∧ s = 10) ∨ (k = 2 ∧ s = 11)) (hv : 0 ≤ v) : J (mrow (mset M 10 s v) 131 (upd (M 131) k v)) := by
  have hh : HR (mset M 10 s v) 10 (upd (M 131) k v) := by
    rcases hk with ⟨rfl, rfl⟩ | ⟨rfl, rfl⟩
    · exact (HR_12 (j_hr j) (j_wr j)).1
    · exact (HR_12 (j_hr j) (j_wr j)).2
  have hf : FR (mset M 10 s v) 100 (upd (M 131) k v) := FR_hen j.1.2 hh (fun q k1 _ => mset_ne (by omega)) (fun i hi => upd_ne (by omega))
  exact J_row j (IR_12 j.1.1 (by omega) hv) hf (fun q hq => mset_ne (by omega)) (by rw [mset_ne (by omega)]) (by rw [mset_ne (by omega)]) mrow_at (fun q _ k2 _ => mrow_ne k2) (by rw [mrow_ne (by omega)]) (by rw [mrow_ne (by omega)])
theorem zero_ne : ((0 : Int32) = 1) = False := eq_false (by decide)
theorem one_eq : ((1 : Int32) = 1) = True := eq_self 1
theorem X_rule {d : Nat} {M : Mem} {x y : Int32} (j : J M) : Two (d + 2) 12 (d + 2) 150 [.int x, .int y] M := by
  have h := j_hr j
  have e10 : M 10 10 = M 131 1 := h.1.2.2.1
  have e11 : M 10 11 = M 131 2 := h.1.2.2.2
  have q1 : (1 : Int32) + 0 = nI 1 := by decide
  have q2 : (1 : Int32) + 1 = nI 2 := by decide
  have bad : (¬ (x = 0 ∧ 1 ≤ y ∧ y ≤ 40)) → (¬ (x = 1 ∧ 0 ≤ y ∧ y ≤ 9)) → Two (d + 2) 12 (d + 2) 150 [.int x, .int y] M := by
    intro b0 b1
    refine ⟨fX M 0, fM (fX M 0) 0, -1000001, ?_, ?_, J_fin j (by omega)⟩
    · rw [nX5_rule]
      by_cases h0 : x = 0
      · subst h0
        have hy : ¬ (1 ≤ y ∧ y ≤ 40) := fun z => b0 ⟨rfl, z⟩
        simp only [sX5_rule_0, sX5_rule_1, sX5_rule_4, sX5_rule_7, sX5_rule_8, sX5_rule_9, sX5_rule_12, sX5_rule_13, sX5_rule_14, sX5_rule_16, sX5_rule_19, sX5_rule_22, sX5_rule_23, sX5_rule_26, sX5_rule_28, sX5_rule_29, sX5_rule_30, sX5_rule_33, sX5_rule_35, sX5_rule_36, sX5_rule_37, sX5_rule_38, sX5_rule_41, sX5_rule_42, sX5_rule_43, sX5_rule_45, sX5_rule_48, sX5_rule_51, sX5_rule_52, sX5_rule_55, sX5_rule_57, sX5_rule_58, sX5_rule_59, sX5_rule_62, sX5_rule_64, sX5_rule_65, sX5_rule_66, sX5_rule_67, sX5_rule_70, opK_some, guK_true, calK_some, rk_nil, rk_int, rk_ref, tl_some, tl_none, nb_int, nb_0, nb_1, nb_if, nb_if', o0_0, o100_0, q0, C_x_within, hy, if_true, if_false, zero_eq, zero_ne, one_ne, C_xf0]
      · by_cases h1 : x = 1
        · subst h1
          have hy : ¬ (0 ≤ y ∧ y ≤ 9) := fun z => b1 ⟨rfl, z⟩
          simp only [sX5_rule_0, sX5_rule_1, sX5_rule_4, sX5_rule_7, sX5_rule_8, sX5_rule_9, sX5_rule_12, sX5_rule_13, sX5_rule_14, sX5_rule_16, sX5_rule_19, sX5_rule_22, sX5_rule_23, sX5_rule_26, sX5_rule_28, sX5_rule_29, sX5_rule_30, sX5_rule_33, sX5_rule_35, sX5_rule_36, sX5_rule_37, sX5_rule_38, sX5_rule_41, sX5_rule_42, sX5_rule_43, sX5_rule_45, sX5_rule_48, sX5_rule_51, sX5_rule_52, sX5_rule_55, sX5_rule_57, sX5_rule_58, sX5_rule_59, sX5_rule_62, sX5_rule_64, sX5_rule_65, sX5_rule_66, sX5_rule_67, sX5_rule_70, opK_some, guK_true, calK_some, rk_nil, rk_int, rk_ref, tl_some, tl_none, nb_int, nb_0, nb_1, nb_if, nb_if', o0_0, o100_0, q0, C_x_within, hy, if_true, if_false, zero_eq, one_ne, one_eq, C_xf0]
        · simp only [sX5_rule_0, sX5_rule_1, sX5_rule_4, sX5_rule_7, sX5_rule_8, sX5_rule_9, sX5_rule_12, sX5_rule_13, sX5_rule_14, sX5_rule_16, sX5_rule_19, sX5_rule_22, sX5_rule_23, sX5_rule_26, sX5_rule_28, sX5_rule_29, sX5_rule_30, sX5_rule_33, sX5_rule_35, sX5_rule_36, sX5_rule_37, sX5_rule_38, sX5_rule_41, sX5_rule_42, sX5_rule_43, sX5_rule_45, sX5_rule_48, sX5_rule_51, sX5_rule_52, sX5_rule_55, sX5_rule_57, sX5_rule_58, sX5_rule_59, sX5_rule_62, sX5_rule_64, sX5_rule_65, sX5_rule_66, sX5_rule_67, sX5_rule_70, opK_some, guK_true, calK_some, rk_nil, rk_int, rk_ref, tl_some, tl_none, nb_int, nb_0, nb_1, nb_if, nb_if', o0_0, o100_0, q0, C_x_within, h0, h1, if_true, if_false, C_xf0]
    · rw [nX6_rule]
      by_cases h0 : x = 0
      · subst h0
        have hy : ¬ (1 ≤ y ∧ y ≤ 40) := fun z => b0 ⟨rfl, z⟩
        simp only [sX6_rule_0, sX6_rule_1, sX6_rule_4, sX6_rule_5, sX6_rule_6, sX6_rule_8, sX6_rule_11, sX6_rule_14, sX6_rule_15, sX6_rule_16, sX6_rule_19, sX6_rule_20, sX6_rule_21, sX6_rule_23, sX6_rule_26, sX6_rule_29, sX6_rule_30, sX6_rule_33, sX6_rule_34, sX6_rule_35, sX6_rule_36, sX6_rule_39, sX6_rule_40, sX6_rule_41, sX6_rule_42, sX6_rule_43, sX6_rule_44, sX6_rule_47, sX6_rule_50, sX6_rule_51, sX6_rule_53, sX6_rule_56, opK_some, guK_true, calK_some, rk_nil, rk_int, rk_ref, tl_some, tl_none, nb_int, nb_0, nb_1, nb_if, nb_if', q130, C_m_within, hy, if_true, if_false, zero_eq, zero_ne, one_ne, C_mf0]
      · by_cases h1 : x = 1
        · subst h1
          have hy : ¬ (0 ≤ y ∧ y ≤ 9) := fun z => b1 ⟨rfl, z⟩
          simp only [sX6_rule_0, sX6_rule_1, sX6_rule_4, sX6_rule_5, sX6_rule_6, sX6_rule_8, sX6_rule_11, sX6_rule_14, sX6_rule_15, sX6_rule_16, sX6_rule_19, sX6_rule_20, sX6_rule_21, sX6_rule_23, sX6_rule_26, sX6_rule_29, sX6_rule_30, sX6_rule_33, sX6_rule_34, sX6_rule_35, sX6_rule_36, sX6_rule_39, sX6_rule_40, sX6_rule_41, sX6_rule_42, sX6_rule_43, sX6_rule_44, sX6_rule_47, sX6_rule_50, sX6_rule_51, sX6_rule_53, sX6_rule_56, opK_some, guK_true, calK_some, rk_nil, rk_int, rk_ref, tl_some, tl_none, nb_int, nb_0, nb_1, nb_if, nb_if', q130, C_m_within, hy, if_true, if_false, zero_eq, one_ne, one_eq, C_mf0]
        · simp only [sX6_rule_0, sX6_rule_1, sX6_rule_4, sX6_rule_5, sX6_rule_6, sX6_rule_8, sX6_rule_11, sX6_rule_14, sX6_rule_15, sX6_rule_16, sX6_rule_19, sX6_rule_20, sX6_rule_21, sX6_rule_23, sX6_rule_26, sX6_rule_29, sX6_rule_30, sX6_rule_33, sX6_rule_34, sX6_rule_35, sX6_rule_36, sX6_rule_39, sX6_rule_40, sX6_rule_41, sX6_rule_42, sX6_rule_43, sX6_rule_44, sX6_rule_47, sX6_rule_50, sX6_rule_51, sX6_rule_53, sX6_rule_56, opK_some, guK_true, calK_some, rk_nil, rk_int, rk_ref, tl_some, tl_none, nb_int, nb_0, nb_1, nb_if, nb_if', q130, C_m_within, h0, h1, zero_eq, if_true, if_false, C_mf0]
  by_cases g0 : x = 0 ∧ 1 ≤ y ∧ y ≤ 40
  · obtain ⟨rfl, hy⟩ := g0
    have er : mset M 10 10 y 131 = M 131 := mset_ne (by omega)
    have hc := C_m_become (d := d + 0) (i := 1) (M := mset M 10 10 y) (v := y) (by omega)
    rw [show d + 0 + 1 = d + 1 from rfl] at hc
    rw [er] at hc
    refine ⟨mset M 10 10 y, mrow (mset M 10 10 y) 131 (upd (M 131) 1 y), M 131 1, ?_, ?_, J_12 j (Or.inl ⟨rfl, rfl⟩) (Int32.le_trans (by decide : (0 : Int32) ≤ 1) hy.1)⟩
    · rw [nX5_rule]
      simp only [sX5_rule_0, sX5_rule_1, sX5_rule_4, sX5_rule_7, sX5_rule_8, sX5_rule_9, sX5_rule_12, sX5_rule_13, sX5_rule_14, sX5_rule_16, sX5_rule_19, sX5_rule_22, sX5_rule_23, sX5_rule_26, sX5_rule_28, sX5_rule_29, sX5_rule_30, sX5_rule_33, sX5_rule_35, sX5_rule_36, sX5_rule_37, sX5_rule_38, sX5_rule_41, sX5_rule_42, sX5_rule_43, sX5_rule_45, sX5_rule_48, sX5_rule_51, sX5_rule_52, sX5_rule_55, sX5_rule_57, sX5_rule_58, sX5_rule_59, sX5_rule_62, sX5_rule_64, sX5_rule_65, sX5_rule_66, sX5_rule_67, sX5_rule_70, opK_some, guK_true, calK_some, rk_nil, rk_int, rk_ref, tl_some, tl_none, nb_int, nb_0, nb_1, nb_if, nb_if', o0_0, o100_0, hs_10 hen10, hi_10 hen10, C_x_within, hy, and_self, if_true, if_false, zero_eq, one_ne, e10]
    · rw [nX6_rule]
      simp only [sX6_rule_0, sX6_rule_1, sX6_rule_4, sX6_rule_5, sX6_rule_6, sX6_rule_8, sX6_rule_11, sX6_rule_14, sX6_rule_15, sX6_rule_16, sX6_rule_19, sX6_rule_20, sX6_rule_21, sX6_rule_23, sX6_rule_26, sX6_rule_29, sX6_rule_30, sX6_rule_33, sX6_rule_34, sX6_rule_35, sX6_rule_36, sX6_rule_39, sX6_rule_40, sX6_rule_41, sX6_rule_42, sX6_rule_43, sX6_rule_44, sX6_rule_47, sX6_rule_50, sX6_rule_51, sX6_rule_53, sX6_rule_56, opK_some, guK_true, calK_some, rk_nil, rk_int, rk_ref, tl_some, tl_none, nb_int, nb_0, nb_1, nb_if, nb_if', q130, C_m_within, hy, and_self, if_true, if_false, zero_eq, one_ne, q1, hc]
  · by_cases g1 : x = 1 ∧ 0 ≤ y ∧ y ≤ 9
    · obtain ⟨rfl, hy⟩ := g1
      have er : mset M 10 11 y 131 = M 131 := mset_ne (by omega)
      have hc := C_m_become (d := d + 0) (i := 2) (M := mset M 10 11 y) (v := y) (by omega)
      rw [show d + 0 + 1 = d + 1 from rfl] at hc
      rw [er] at hc
      refine ⟨mset M 10 11 y, mrow (mset M 10 11 y) 131 (upd (M 131) 2 y), M 131 2, ?_, ?_, J_12 j (Or.inr ⟨rfl, rfl⟩) hy.1⟩
      · rw [nX5_rule]
        simp only [sX5_rule_0, sX5_rule_1, sX5_rule_4, sX5_rule_7, sX5_rule_8, sX5_rule_9, sX5_rule_12, sX5_rule_13, sX5_rule_14, sX5_rule_16, sX5_rule_19, sX5_rule_22, sX5_rule_23, sX5_rule_26, sX5_rule_28, sX5_rule_29, sX5_rule_30, sX5_rule_33, sX5_rule_35, sX5_rule_36, sX5_rule_37, sX5_rule_38, sX5_rule_41, sX5_rule_42, sX5_rule_43, sX5_rule_45, sX5_rule_48, sX5_rule_51, sX5_rule_52, sX5_rule_55, sX5_rule_57, sX5_rule_58, sX5_rule_59, sX5_rule_62, sX5_rule_64, sX5_rule_65, sX5_rule_66, sX5_rule_67, sX5_rule_70, opK_some, guK_true, calK_some, rk_nil, rk_int, rk_ref, tl_some, tl_none, nb_int, nb_0, nb_1, nb_if, nb_if', o0_0, o100_0, hs_11 hen10, hi_11 hen10, C_x_within, hy, and_self, if_true, if_false, one_ne, one_eq, e11]
      · rw [nX6_rule]
        simp only [sX6_rule_0, sX6_rule_1, sX6_rule_4, sX6_rule_5, sX6_rule_6, sX6_rule_8, sX6_rule_11, sX6_rule_14, sX6_rule_15, sX6_rule_16, sX6_rule_19, sX6_rule_20, sX6_rule_21, sX6_rule_23, sX6_rule_26, sX6_rule_29, sX6_rule_30, sX6_rule_33, sX6_rule_34, sX6_rule_35, sX6_rule_36, sX6_rule_39, sX6_rule_40, sX6_rule_41, sX6_rule_42, sX6_rule_43, sX6_rule_44, sX6_rule_47, sX6_rule_50, sX6_rule_51, sX6_rule_53, sX6_rule_56, opK_some, guK_true, calK_some, rk_nil, rk_int, rk_ref, tl_some, tl_none, nb_int, nb_0, nb_1, nb_if, nb_if', q130, C_m_within, hy, and_self, if_true, if_false, one_ne, one_eq, q2, hc]
    · exact bad g0 g1

