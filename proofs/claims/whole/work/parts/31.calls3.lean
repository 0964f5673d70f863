/-! calls: tear, wipe, seed, crop -/
theorem X_tear {d : Nat} {M : Mem} (j : J M) : Two (d + 1) 129 (d + 1) 243 [] M := by
  obtain ⟨k1, k2⟩ := j.2.1
  have e3 : mset M 0 2 0 130 = M 130 := mset_ne (by omega)
  have fin : J (mset (mset M 0 2 0) 130 3 0) := by
    refine ⟨JA_ou j.1 (fun k hk => by rw [mset_ne (by omega), mset_ne (by omega)]), ⟨?_, Or.inl ?_⟩, JF_ou j.2.2.1 (fun k hk => by rw [mset_ne (by omega), mset_ne (by omega)]), JT_ou j.2.2.2.1 (by rw [mset_ne (by omega), mset_ne (by omega)]) (by rw [mset_at, upd_ne (by omega), e3]) (fun k hk => by rw [mset_ne (by omega), mset_ne (by omega)]), JS_ou j.2.2.2.2 (fun k hk => by rw [mset_ne (by omega), mset_ne (by omega)])⟩
    · rw [mset_ne (by omega), mset_at, upd_at, mset_at, upd_at]
    · rw [mset_at, upd_at]
  have h01 : M 0 2 = 0 ∨ M 0 2 = 1 := by
    rcases k2 with q | ⟨q, _⟩
    · exact Or.inl (k1.trans q)
    · exact Or.inr (k1.trans q)
  refine ⟨mset M 0 2 0, mset (mset M 0 2 0) 130 3 0, M 0 2, ?_, ?_, fin⟩
  · rw [nX5_tear]
    simp only [sX5_tear_0, sX5_tear_1, sX5_tear_4, sX5_tear_7, sX5_tear_8, sX5_tear_11, sX5_tear_12, sX5_tear_13, sX5_tear_14, sX5_tear_15, sX5_tear_18, sX5_tear_19, opK_some, guK_true, calK_some, rk_nil, rk_int, rk_ref, tl_some, tl_none, nb_int, nb_0, nb_1, nb_if, nb_if', o0_2, p0_2, nb_0, guK_true]
    rcases h01 with q | q
    · rw [q, if_pos rfl]
    · rw [q, if_neg (by decide)]
  · rw [nX6_tear]
    simp only [sX6_tear_0, sX6_tear_1, sX6_tear_4, sX6_tear_7, sX6_tear_8, sX6_tear_11, sX6_tear_12, sX6_tear_13, sX6_tear_14, sX6_tear_15, sX6_tear_18, sX6_tear_19, opK_some, guK_true, calK_some, rk_nil, rk_int, rk_ref, tl_some, tl_none, nb_int, nb_0, nb_1, nb_if, nb_if', o130_3, p130_3, e3, nb_0, guK_true, ← k1]
    rcases h01 with q | q
    · rw [q, if_pos rfl]
    · rw [q, if_neg (by decide)]
theorem X_wipe {d : Nat} {M : Mem} (j : J M) : Two (d + 1) 88 (d + 1) 219 [] M := by
  obtain ⟨t1, t2, t3⟩ := j.2.2.2.1
  have e3 : mset M 7 1 0 130 = M 130 := mset_ne (by omega)
  have fin : J (mset (mset M 7 1 0) 130 17 0) := by
    refine ⟨JA_ou j.1 (fun k hk => by rw [mset_ne (by omega), mset_ne (by omega)]), JK_ou j.2.1 (by rw [mset_ne (by omega), mset_ne (by omega)]) (by rw [mset_at, upd_ne (by omega), e3]) (fun k hk => by rw [mset_ne (by omega), mset_ne (by omega)]), JF_ou j.2.2.1 (fun k hk => by rw [mset_ne (by omega), mset_ne (by omega)]), ⟨?_, ?_, fun i hi => ?_⟩, JS_ou j.2.2.2.2 (fun k hk => by rw [mset_ne (by omega), mset_ne (by omega)])⟩
    · rw [mset_ne (by omega), mset_at, upd_at, mset_at, upd_at]
    · rw [mset_at, upd_at]
      exact rg_nI (j := 0) (by omega) (by omega)
    · rw [mset_at, upd_at] at hi
      exact absurd hi (Nat.not_lt_zero i)
  refine ⟨mset M 7 1 0, mset (mset M 7 1 0) 130 17 0, M 7 1, ?_, ?_, fin⟩
  · rw [nX5_wipe]
    simp only [sX5_wipe_0, sX5_wipe_1, sX5_wipe_4, sX5_wipe_7, sX5_wipe_8, sX5_wipe_9, sX5_wipe_12, sX5_wipe_13, sX5_wipe_16, sX5_wipe_17, opK_some, guK_true, calK_some, rk_nil, rk_int, rk_ref, tl_some, tl_none, nb_int, nb_0, nb_1, nb_if, nb_if', o0_3, o7_1, p7_1]
  · rw [nX6_wipe]
    simp only [sX6_wipe_0, sX6_wipe_1, sX6_wipe_4, sX6_wipe_5, sX6_wipe_6, sX6_wipe_7, sX6_wipe_10, sX6_wipe_11, opK_some, guK_true, calK_some, rk_nil, rk_int, rk_ref, tl_some, tl_none, nb_int, nb_0, nb_1, nb_if, nb_if', o130_17, p130_17, e3, t1]
theorem IR_seed {r : Rw} {v : Int32} (i : IR r) : IR (upd r 7 v) := by
  obtain ⟨⟨w, x0, x5⟩, ⟨k1, k2, k3, k4, k5⟩, k6, k7⟩ := i
  have e : ∀ j, j ≠ 7 → upd r 7 v j = r j := fun j h => upd_ne h
  have eC : nC (upd r 7 v) = nC r := by unfold nC; rw [e 4 (by omega)]
  have eT : nT (upd r 7 v) = nT r := by unfold nT; rw [e 3 (by omega)]
  have ecr : ∀ i, cr (upd r 7 v) i = cr r i := by intro i; unfold cr; rw [e _ (by omega)]
  have ea : ∀ t f, upd r 7 v (at9 t f) = r (at9 t f) := fun t f => e _ (by have := at9_ge t f; omega)
  refine ⟨⟨WR_cong w (fun j hj => e j (by omega)), by rw [e 0 (by omega)]; exact x0, by rw [e 0 (by omega), e 5 (by omega)]; exact x5⟩, ⟨fun t ht hn => ?_, fun i hi => ?_, fun t ht hn => ?_, fun i q hi hq => ?_, fun s hs => ?_⟩, by rw [e 1 (by omega)]; exact k6, by rw [e 2 (by omega)]; exact k7⟩
  · rw [ea] at hn
    rw [ea, ea]
    exact k1 t ht hn
  · rw [eC] at hi
    rw [ecr, eT, ea]
    exact k2 i hi
  · rw [ea] at hn
    obtain ⟨i, a, b⟩ := k3 t ht hn
    exact ⟨i, by rw [eC]; exact a, by rw [ecr]; exact b⟩
  · rw [eC] at hq
    rw [ecr, ecr]
    exact k4 i q hi hq
  · rw [e _ (by omega), eT]
    exact k5 s hs
theorem X_seed {d : Nat} {M : Mem} {x : Int32} (j : J M) : Two (d + 1) 85 (d + 2) 217 [.int x] M := by
  have hz : M 100 2 = M 131 7 := j.1.2.2.1.2.1
  have er : mset M 100 2 x 131 = M 131 := mset_ne (by omega)
  refine ⟨mset M 100 2 x, mrow (mset M 100 2 x) 131 (upd (M 131) 7 x), M 131 7, ?_, ?_, ?_⟩
  · rw [nX5_seed]
    simp only [sX5_seed_0, sX5_seed_1, sX5_seed_4, sX5_seed_7, sX5_seed_8, sX5_seed_9, sX5_seed_12, sX5_seed_13, sX5_seed_16, sX5_seed_17, opK_some, guK_true, calK_some, rk_nil, rk_int, rk_ref, tl_some, tl_none, nb_int, nb_0, nb_1, nb_if, nb_if', o0_0, o100_2, p100_2, hz]
  · have hc := C_m_become (d := d + 0) (i := 7) (M := mset M 100 2 x) (v := x) (by omega)
    rw [show d + 0 + 1 = d + 1 from rfl] at hc
    rw [er, show nI 7 = (7 : Int32) from rfl] at hc
    rw [nX6_seed]
    simp only [sX6_seed_0, sX6_seed_1, sX6_seed_3, sX6_seed_4, sX6_seed_7, opK_some, guK_true, calK_some, rk_nil, rk_int, rk_ref, tl_some, tl_none, nb_int, nb_0, nb_1, nb_if, nb_if', q130, hc]
  · obtain ⟨h1, ⟨h2, h3, h4, h5⟩, h6, h7⟩ := j.1.2
    have hf : FR (mset M 100 2 x) 100 (upd (M 131) 7 x) := by
      refine ⟨HR_congr (HR_ou h1 (fun k _ k2 => mset_ne (by omega))) (wr_C (j_wr j)).1 (fun i hi => upd_ne (by omega)), ?_, fun c hc i hi hn => ?_, fun s hs => ?_⟩
      · rw [mset_at]
        refine ⟨?_, ?_, ?_, ?_⟩
        · rw [upd_ne (by omega), upd_ne (by omega)]
          exact h2
        · rw [upd_at, upd_at]
        · rw [upd_ne (by omega), upd_ne (by omega)]
          exact h4
        · rw [upd_ne (by omega), upd_ne (by omega)]
          exact h5
      · rw [upd_ne (by omega)] at hn
        rw [mset_ne (by omega), h6 c hc i hi hn]
        unfold egR
        rw [upd_ne (by omega), upd_ne (by omega)]
      · rw [mset_ne (by omega), upd_ne (by omega)]
        exact h7 s hs
    exact J_row j (IR_seed j.1.1) hf (fun k hk => mset_ne (by omega)) (by rw [mset_ne (by omega)]) (by rw [mset_ne (by omega)]) mrow_at (fun k _ k2 _ => mrow_ne k2) (by rw [mrow_ne (by omega)]) (by rw [mrow_ne (by omega)])
theorem X_crop {d : Nat} {M : Mem} {x : Int32} (j : J M) : Two (d + 2) 21 (d + 2) 160 [.int x] M := by
  have h := j_hr j
  have w := j_wr j
  have h8 := wr_C w
  have e4 : M 10 9 = M 131 4 := h.1.2.1
  by_cases hk : 0 ≤ x ∧ x ≤ 7
  · obtain ⟨q, hq, rfl⟩ : ∃ q, q ≤ 7 ∧ x = nI q := nI_of2 (M := 7) (n := 7) rfl (Int32.not_lt.mpr hk.1) hk.2
    by_cases hn : M 131 4 ≤ nI q
    · refine ⟨fX M 3, fM (fX M 3) 3, -1000004, ?_, ?_, J_fin j (by omega)⟩
      · rw [nX5_crop]
        simp only [sX5_crop_0, sX5_crop_1, sX5_crop_2, sX5_crop_4, sX5_crop_7, sX5_crop_10, sX5_crop_11, sX5_crop_12, sX5_crop_15, sX5_crop_16, sX5_crop_17, sX5_crop_18, sX5_crop_21, sX5_crop_24, sX5_crop_27, sX5_crop_30, sX5_crop_31, sX5_crop_34, sX5_crop_37, sX5_crop_40, sX5_crop_41, sX5_crop_42, sX5_crop_45, sX5_crop_46, sX5_crop_47, sX5_crop_50, opK_some, guK_true, calK_some, rk_nil, rk_int, rk_ref, tl_some, tl_none, nb_int, nb_0, nb_1, nb_if, nb_if', o0_0, o100_0, hs_9 hen10, q0, C_x_within, e4, hk, and_self, if_true, one_ne, if_false, hn, C_xf3]
      · rw [nX6_crop]
        simp only [sX6_crop_0, sX6_crop_1, sX6_crop_2, sX6_crop_4, sX6_crop_7, sX6_crop_10, sX6_crop_11, sX6_crop_13, sX6_crop_16, sX6_crop_17, sX6_crop_18, sX6_crop_19, sX6_crop_22, sX6_crop_23, sX6_crop_24, sX6_crop_27, sX6_crop_28, sX6_crop_31, sX6_crop_33, sX6_crop_34, sX6_crop_35, sX6_crop_36, sX6_crop_39, sX6_crop_40, sX6_crop_42, sX6_crop_45, opK_some, guK_true, calK_some, rk_nil, rk_int, rk_ref, tl_some, tl_none, nb_int, nb_0, nb_1, nb_if, nb_if', o130_0, a131, q130, ib_4_132, tn_4, fX_k (show 131 ≠ 1 by omega), C_m_within, hk, and_self, if_true, one_ne, if_false, hn, C_mf3]
    · have hq2 : q < nC (M 131) := by
        rcases Nat.lt_or_ge q (nC (M 131)) with z | z
        · exact z
        · exact absurd (by rw [h8.2]; exact nI_le z (by omega)) hn
      have ec : M 18 q = M 131 (88 + q) := h.2.2 q hq2
      refine ⟨M, M, M 131 (88 + q), ?_, ?_, j⟩
      · rw [nX5_crop]
        simp only [sX5_crop_0, sX5_crop_1, sX5_crop_2, sX5_crop_4, sX5_crop_7, sX5_crop_10, sX5_crop_11, sX5_crop_12, sX5_crop_15, sX5_crop_16, sX5_crop_17, sX5_crop_18, sX5_crop_21, sX5_crop_24, sX5_crop_27, sX5_crop_30, sX5_crop_31, sX5_crop_34, sX5_crop_37, sX5_crop_40, sX5_crop_41, sX5_crop_42, sX5_crop_45, sX5_crop_46, sX5_crop_47, sX5_crop_50, opK_some, guK_true, calK_some, rk_nil, rk_int, rk_ref, tl_some, tl_none, nb_int, nb_0, nb_1, nb_if, nb_if', o0_0, o100_0, hs_9 hen10, hs_8 hen10, ha_8 hen10, q0, C_x_within, e4, hk, and_self, if_true, one_ne, if_false, hn, inb_nI (show q < 8 by omega) (by omega), nI_clamp (show q < 2 ^ 31 by omega)]
        rw [← ec]
      · rw [nX6_crop]
        simp only [sX6_crop_0, sX6_crop_1, sX6_crop_2, sX6_crop_4, sX6_crop_7, sX6_crop_10, sX6_crop_11, sX6_crop_13, sX6_crop_16, sX6_crop_17, sX6_crop_18, sX6_crop_19, sX6_crop_22, sX6_crop_23, sX6_crop_24, sX6_crop_27, sX6_crop_28, sX6_crop_31, sX6_crop_33, sX6_crop_34, sX6_crop_35, sX6_crop_36, sX6_crop_39, sX6_crop_40, sX6_crop_42, sX6_crop_45, opK_some, guK_true, calK_some, rk_nil, rk_int, rk_ref, tl_some, tl_none, nb_int, nb_0, nb_1, nb_if, nb_if', o130_0, a131, q130, ib_4_132, tn_4, C_m_within, hk, and_self, if_true, one_ne, if_false, hn, I88, inb_nI (show 88 + q < 132 by omega) (by omega), nI_clamp (show 88 + q < 2 ^ 31 by omega)]
  · refine ⟨fX M 0, fM (fX M 0) 0, -1000001, ?_, ?_, J_fin j (by omega)⟩
    · rw [nX5_crop]
      simp only [sX5_crop_0, sX5_crop_1, sX5_crop_2, sX5_crop_4, sX5_crop_7, sX5_crop_10, sX5_crop_11, sX5_crop_12, sX5_crop_15, sX5_crop_16, sX5_crop_17, sX5_crop_18, sX5_crop_21, sX5_crop_24, sX5_crop_27, sX5_crop_30, sX5_crop_31, sX5_crop_34, sX5_crop_37, sX5_crop_40, sX5_crop_41, sX5_crop_42, sX5_crop_45, sX5_crop_46, sX5_crop_47, sX5_crop_50, opK_some, guK_true, calK_some, rk_nil, rk_int, rk_ref, tl_some, tl_none, nb_int, nb_0, nb_1, nb_if, nb_if', q0, C_x_within, hk, if_true, if_false, zero_eq, C_xf0]
    · rw [nX6_crop]
      simp only [sX6_crop_0, sX6_crop_1, sX6_crop_2, sX6_crop_4, sX6_crop_7, sX6_crop_10, sX6_crop_11, sX6_crop_13, sX6_crop_16, sX6_crop_17, sX6_crop_18, sX6_crop_19, sX6_crop_22, sX6_crop_23, sX6_crop_24, sX6_crop_27, sX6_crop_28, sX6_crop_31, sX6_crop_33, sX6_crop_34, sX6_crop_35, sX6_crop_36, sX6_crop_39, sX6_crop_40, sX6_crop_42, sX6_crop_45, opK_some, guK_true, calK_some, rk_nil, rk_int, rk_ref, tl_some, tl_none, nb_int, nb_0, nb_1, nb_if, nb_if', q130, C_m_within, hk, if_true, if_false, zero_eq, C_mf0]

