/-! calls: image, undo, now -/
theorem IR_lt {r r' : Rw} (i : IR r) (e : ∀ k, k < 132 → r' k = r k) : IR r' := by
  refine ⟨⟨WR_cong i.1.1 (fun j hj => e j (by omega)), ?_, ?_⟩, KR_cong i.1.1 i.2 (fun j hj => e j (by omega))⟩
  · rw [e 0 (by omega)]
    exact i.1.2.1
  · rw [e 0 (by omega), e 5 (by omega)]
    exact i.1.2.2
theorem FR_lt {f : Nat} {M : Mem} {r r' : Rw} (h : FR M f r) (w : WR r) (e : ∀ k, k < 132 → r' k = r k) : FR M f r' :=
  FR_hen h (HR_congr h.1 (wr_C w).1 (fun j hj => e j (by have := (wr_C w).1; omega))) (fun _ _ _ => rfl) (fun j hj => e j (by omega))
theorem cp_lt {a b : Rw} {k : Nat} (h : k < 132) : cpR a b k = a k := by
  unfold cpR
  rw [if_pos h]
theorem X_image {d : Nat} {M : Mem} (j : J M) : Two (d + 3) 126 (d + 2) 241 [] M := by
  have i := j.1.1
  have w := j_wr j
  obtain ⟨M1, c1, h1, o1⟩ := C_farmBecome (d := d + 0) (show isFarm 110 from Or.inr rfl) farm100 (by omega) j.1.2 i.1
  rw [show d + 0 + 2 = d + 2 from rfl] at c1
  have ok : ∀ k, ¬ (20 ≤ k ∧ k < 29) → ¬ (110 ≤ k ∧ k < 115) → M1 k = M k := fun k a b => o1 k (by omega) (by omega)
  have hc := C_keep (d := d + 0) (M := mset M1 0 2 1)
  rw [show d + 0 + 1 = d + 1 from rfl] at hc
  have e131 : mset M1 0 2 1 131 = M 131 := by rw [mset_ne (by omega)]; exact ok 131 (by omega) (by omega)
  have e132 : mset M1 0 2 1 132 = M 132 := by rw [mset_ne (by omega)]; exact ok 132 (by omega) (by omega)
  rw [e131, e132] at hc
  obtain ⟨M2, hM2⟩ : ∃ M2, M2 = mset (mrow (mset M1 0 2 1) 132 (cpR (M 131) (M 132))) 130 3 1 := ⟨_, rfl⟩
  have e2 : ∀ k, k ≠ 0 → k ≠ 132 → k ≠ 130 → M2 k = M1 k := fun k a b c => by rw [hM2, mset_ne c, mrow_ne b, mset_ne a]
  have ek : ∀ k, k ≠ 0 → k ≠ 132 → k ≠ 130 → ¬ (20 ≤ k ∧ k < 29) → ¬ (110 ≤ k ∧ k < 115) → M2 k = M k := fun k a b c p q => (e2 k a b c).trans (ok k p q)
  refine ⟨mset M1 0 2 1, M2, 1, ?_, ?_, ?_⟩
  · rw [nX5_image]
    simp only [sX5_image_0, sX5_image_1, sX5_image_4, sX5_image_5, sX5_image_8, sX5_image_11, sX5_image_12, sX5_image_13, sX5_image_16, sX5_image_17, opK_some, guK_true, calK_some, rk_nil, rk_int, rk_ref, tl_some, tl_none, nb_int, nb_0, nb_1, nb_if, nb_if', o0_0, o0_1, p0_2, nb_1, guK_true, farm_c (show isFarm 110 from Or.inr rfl), farm_c farm100, c1]
  · rw [nX6_image]
    simp only [sX6_image_0, sX6_image_1, sX6_image_4, sX6_image_5, sX6_image_8, sX6_image_11, sX6_image_12, sX6_image_13, sX6_image_16, sX6_image_17, opK_some, guK_true, calK_some, rk_nil, rk_int, rk_ref, tl_some, tl_none, nb_int, nb_0, nb_1, nb_if, nb_if', o130_0, o130_1, p130_3, nb_1, guK_true, hc, ← hM2]
  · have z130 : M2 130 = upd (M 130) 3 1 := by rw [hM2, mset_at, mrow_ne (by omega), mset_ne (by omega), ok 130 (by omega) (by omega)]
    refine ⟨JA_ou j.1 (fun k hk => ek k (by omega) (by omega) (by omega) (by omega) (by omega)), ⟨?_, Or.inr ⟨?_, ?_, ?_⟩⟩, JF_ou j.2.2.1 (fun k hk => ek k (by omega) (by omega) (by omega) (by omega) (by omega)), JT_ou j.2.2.2.1 (by rw [ek 7 (by omega) (by omega) (by omega) (by omega) (by omega)]) (by rw [z130, upd_ne (by omega)]) (fun k hk => ek k (by omega) (by omega) (by omega) (by omega) (by omega)), JS_ou j.2.2.2.2 (fun k hk => ek k (by omega) (by omega) (by omega) (by omega) (by omega))⟩
    · rw [z130, upd_at, hM2, mset_ne (by omega), mrow_ne (by omega), mset_at, upd_at]
    · rw [z130, upd_at]
    · rw [hM2, mset_ne (by omega), mrow_at]
      exact IR_lt i (fun k hk => cp_lt hk)
    · have er : M2 132 = cpR (M 131) (M 132) := by rw [hM2, mset_ne (by omega), mrow_at]
      rw [er]
      exact FR_ou (Or.inr rfl) (FR_lt h1 w (fun k hk => cp_lt hk)) (fun k hk => e2 k (by omega) (by omega) (by omega))
theorem X_undo {d : Nat} {M : Mem} (j : J M) : Two (d + 3) 128 (d + 2) 242 [] M := by
  obtain ⟨k1, k2⟩ := j.2.1
  rcases k2 with q | ⟨q, i, h⟩
  · refine ⟨fX M 3, fM (fX M 3) 3, -1000004, ?_, ?_, J_fin j (by omega)⟩
    · rw [nX5_undo]
      simp only [sX5_undo_0, sX5_undo_1, sX5_undo_4, sX5_undo_7, sX5_undo_8, sX5_undo_9, sX5_undo_12, sX5_undo_13, sX5_undo_14, sX5_undo_17, sX5_undo_18, sX5_undo_21, sX5_undo_24, sX5_undo_25, sX5_undo_28, sX5_undo_31, opK_some, guK_true, calK_some, rk_nil, rk_int, rk_ref, tl_some, tl_none, nb_int, nb_0, nb_1, nb_if, nb_if', o0_2, q0, k1, q, zero_eq, if_true, C_xf3]
    · rw [nX6_undo]
      simp only [sX6_undo_0, sX6_undo_1, sX6_undo_4, sX6_undo_7, sX6_undo_8, sX6_undo_10, sX6_undo_13, sX6_undo_14, sX6_undo_15, sX6_undo_18, sX6_undo_19, sX6_undo_22, sX6_undo_25, sX6_undo_26, sX6_undo_29, sX6_undo_30, sX6_undo_31, opK_some, guK_true, calK_some, rk_nil, rk_int, rk_ref, tl_some, tl_none, nb_int, nb_0, nb_1, nb_if, nb_if', o130_3, q130, fX_k (show 130 ≠ 1 by omega), q, zero_eq, if_true, C_mf3]
  · obtain ⟨M1, c1, h1, o1⟩ := C_farmBecome (d := d + 0) farm100 (show isFarm 110 from Or.inr rfl) (by omega) h i.1
    rw [show d + 0 + 2 = d + 2 from rfl] at c1
    have ok : ∀ k, ¬ (10 ≤ k ∧ k < 19) → ¬ (100 ≤ k ∧ k < 105) → M1 k = M k := fun k a b => o1 k (by omega) (by omega)
    have e131 : M1 131 = M 131 := ok 131 (by omega) (by omega)
    have e132 : M1 132 = M 132 := ok 132 (by omega) (by omega)
    have e130 : M1 130 = M 130 := ok 130 (by omega) (by omega)
    have hc := C_undo (d := d + 0) (M := M1)
    rw [show d + 0 + 1 = d + 1 from rfl] at hc
    rw [e131, e132] at hc
    have ed : M1 100 1 = M 132 0 := h1.2.1.1
    have ec : cpR (M 132) (M 131) 0 = M 132 0 := cp_lt (by omega)
    refine ⟨M1, mrow M1 131 (cpR (M 132) (M 131)), M 132 0, ?_, ?_, ?_⟩
    · rw [nX5_undo]
      simp only [sX5_undo_0, sX5_undo_1, sX5_undo_4, sX5_undo_7, sX5_undo_8, sX5_undo_9, sX5_undo_12, sX5_undo_13, sX5_undo_14, sX5_undo_17, sX5_undo_18, sX5_undo_21, sX5_undo_24, sX5_undo_25, sX5_undo_28, sX5_undo_31, opK_some, guK_true, calK_some, rk_nil, rk_int, rk_ref, tl_some, tl_none, nb_int, nb_0, nb_1, nb_if, nb_if', o0_0, o0_1, o0_2, o100_1, q0, k1, q, one_ne, if_false, farm_c (show isFarm 110 from Or.inr rfl), farm_c farm100, c1, ed]
    · rw [nX6_undo]
      simp only [sX6_undo_0, sX6_undo_1, sX6_undo_4, sX6_undo_7, sX6_undo_8, sX6_undo_10, sX6_undo_13, sX6_undo_14, sX6_undo_15, sX6_undo_18, sX6_undo_19, sX6_undo_22, sX6_undo_25, sX6_undo_26, sX6_undo_29, sX6_undo_30, sX6_undo_31, opK_some, guK_true, calK_some, rk_nil, rk_int, rk_ref, tl_some, tl_none, nb_int, nb_0, nb_1, nb_if, nb_if', o130_0, o130_1, o130_3, a131, q130, e130, q, one_ne, if_false, hc, ib_0_132, tn_0, mrow_at, ec]
    · exact J_row j (IR_lt i (fun k hk => cp_lt hk)) (FR_lt h1 i.1.1 (fun k hk => cp_lt hk)) (fun k hk => ok k (by omega) (by omega)) (by rw [ok 0 (by omega) (by omega)]) (by rw [ok 7 (by omega) (by omega)]) mrow_at (fun k _ k2 _ => mrow_ne k2) (by rw [mrow_ne (by omega)]) (by rw [mrow_ne (by omega)])

