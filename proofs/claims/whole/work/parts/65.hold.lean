/-! calls: laid, hold, as -/
abbrev lpR (r : Rw) (x : Int32) : Nat → Bool := fun t => decide (r (at9 t 4) = 2 ∧ r (at9 t 3) = x)
theorem L_laid {d : Nat} {x : Int32} {M : Mem} {r : Rw} (h : HR M 10 r) (w : WR r) : ∀ (m i : Nat), i + m = nT r →
    lim (call (d + 1)) none 5 cX5_laid (some .int) 19 [some (.ref 0), some (.int x), some (.int (nI (tS (lpR r x) i))), some (.int (nI i))] [] M = some (some (.int (nI (tS (lpR r x) (nT r)))), M) := by
  have hT := wr_T w
  have e0 : M 10 0 = nI (nT r) := h.1.1.trans hT.2
  intro m
  induction m with
  | zero =>
    intro i hi
    obtain rfl : i = nT r := by omega
    rw [sX5_laid_19]
    simp only [sX5_laid_0, sX5_laid_1, sX5_laid_2, sX5_laid_3, sX5_laid_6, sX5_laid_9, sX5_laid_10, sX5_laid_11, sX5_laid_14, sX5_laid_15, sX5_laid_16, sX5_laid_17, sX5_laid_18, sX5_laid_20, sX5_laid_21, sX5_laid_24, sX5_laid_27, sX5_laid_30, sX5_laid_33, sX5_laid_34, sX5_laid_37, sX5_laid_40, sX5_laid_43, sX5_laid_44, sX5_laid_45, sX5_laid_46, sX5_laid_49, sX5_laid_50, sX5_laid_53, sX5_laid_56, sX5_laid_59, sX5_laid_60, sX5_laid_61, sX5_laid_62, sX5_laid_65, sX5_laid_66, sX5_laid_67, sX5_laid_68, sX5_laid_69, sX5_laid_70, sX5_laid_71, sX5_laid_74, sX5_laid_77, sX5_laid_78, opK_some, guK_true, calK_some, rk_nil, rk_int, rk_ref, tl_some, tl_none, nb_int, nb_0, nb_1, nb_if, nb_if', o0_0, o100_0, hs_0 hen10, e0]
    rw [if_pos (show nI (nT r) ≤ nI (nT r) from Int32.le_refl _)]
  | succ m ih =>
    intro i hi
    have i10 : i < 10 := by omega
    have e5 : M 15 i = r (at9 i 4) := h.2.1 4 (by omega) i i10
    have e4 : M 14 i = r (at9 i 3) := h.2.1 3 (by omega) i i10
    have fin := ih (i + 1) (by omega)
    have e1 := tS_1 (p := lpR r x) (n := i) (by omega)
    rw [sX5_laid_19]
    simp only [sX5_laid_0, sX5_laid_1, sX5_laid_2, sX5_laid_3, sX5_laid_6, sX5_laid_9, sX5_laid_10, sX5_laid_11, sX5_laid_14, sX5_laid_15, sX5_laid_16, sX5_laid_17, sX5_laid_18, sX5_laid_20, sX5_laid_21, sX5_laid_24, sX5_laid_27, sX5_laid_30, sX5_laid_33, sX5_laid_34, sX5_laid_37, sX5_laid_40, sX5_laid_43, sX5_laid_44, sX5_laid_45, sX5_laid_46, sX5_laid_49, sX5_laid_50, sX5_laid_53, sX5_laid_56, sX5_laid_59, sX5_laid_60, sX5_laid_61, sX5_laid_62, sX5_laid_65, sX5_laid_66, sX5_laid_67, sX5_laid_68, sX5_laid_69, sX5_laid_70, sX5_laid_71, sX5_laid_74, sX5_laid_77, sX5_laid_78, opK_some, guK_true, calK_some, rk_nil, rk_int, rk_ref, tl_some, tl_none, nb_int, nb_0, nb_1, nb_if, nb_if', o0_0, o100_0, hs_0 hen10, hs_4 hen10, hs_5 hen10, ha_4 hen10, ha_5 hen10, e0, inb_nI i10 (by omega), nI_clamp (show i < 2 ^ 31 by omega), e5, e4, nI_1]
    rw [if_neg (show ¬ nI (nT r) ≤ nI i from nI_ge (by omega) (by omega))]
    by_cases h1 : r (at9 i 4) = 2
    · by_cases h2 : r (at9 i 3) = x
      · rw [if_pos (decide_eq_true ⟨h1, h2⟩)] at e1
        rw [if_pos h1, if_pos h2, e1]
        exact fin
      · have e : tS (lpR r x) (i + 1) = tS (lpR r x) i := if_neg (fun z => h2 (of_decide_eq_true z).2)
        rw [e] at fin
        rw [if_pos h1, if_neg h2]
        exact fin
    · have e : tS (lpR r x) (i + 1) = tS (lpR r x) i := if_neg (fun z => h1 (of_decide_eq_true z).1)
      rw [e] at fin
      rw [if_neg h1]
      exact fin
theorem L_m_laid {d : Nat} {x : Int32} {M : Mem} (w : WR (M 131)) : ∀ (m i : Nat), i + m = nT (M 131) →
    lim (call (d + 3)) none 6 cX6_laid (some .int) 20 [some (.ref 130), some (.int x), some (.int (nI (tS (lpR (M 131) x) i))), some (.int (nI i))] [] M = some (some (.int (nI (tS (lpR (M 131) x) (nT (M 131))))), M) := by
  have hT := wr_T w
  intro m
  induction m with
  | zero =>
    intro i hi
    obtain rfl : i = nT (M 131) := by omega
    rw [sX6_laid_20]
    simp only [sX6_laid_0, sX6_laid_1, sX6_laid_2, sX6_laid_3, sX6_laid_6, sX6_laid_9, sX6_laid_10, sX6_laid_12, sX6_laid_15, sX6_laid_16, sX6_laid_17, sX6_laid_18, sX6_laid_19, sX6_laid_21, sX6_laid_22, sX6_laid_25, sX6_laid_26, sX6_laid_27, sX6_laid_30, sX6_laid_31, sX6_laid_32, sX6_laid_33, sX6_laid_34, sX6_laid_37, sX6_laid_40, sX6_laid_41, sX6_laid_42, sX6_laid_43, sX6_laid_46, sX6_laid_47, sX6_laid_50, sX6_laid_51, sX6_laid_52, sX6_laid_53, sX6_laid_56, sX6_laid_57, sX6_laid_58, sX6_laid_59, sX6_laid_62, sX6_laid_65, sX6_laid_66, opK_some, guK_true, calK_some, rk_nil, rk_int, rk_ref, tl_some, tl_none, nb_int, nb_0, nb_1, nb_if, nb_if', o130_0, a131, ib_3_132, tn_3]
    rw [if_pos (show M 131 3 ≤ nI (nT (M 131)) by rw [← hT.2]; exact Int32.le_refl _)]
  | succ m ih =>
    intro i hi
    have i10 : i < 10 := by omega
    have c1 := C_m_isHow (d := d + 0) (M := M) (x := 2) i10
    rw [show d + 0 + 3 = d + 3 from rfl] at c1
    have fin := ih (i + 1) (by omega)
    have e1 := tS_1 (p := lpR (M 131) x) (n := i) (by omega)
    rw [sX6_laid_20]
    simp only [sX6_laid_0, sX6_laid_1, sX6_laid_2, sX6_laid_3, sX6_laid_6, sX6_laid_9, sX6_laid_10, sX6_laid_12, sX6_laid_15, sX6_laid_16, sX6_laid_17, sX6_laid_18, sX6_laid_19, sX6_laid_21, sX6_laid_22, sX6_laid_25, sX6_laid_26, sX6_laid_27, sX6_laid_30, sX6_laid_31, sX6_laid_32, sX6_laid_33, sX6_laid_34, sX6_laid_37, sX6_laid_40, sX6_laid_41, sX6_laid_42, sX6_laid_43, sX6_laid_46, sX6_laid_47, sX6_laid_50, sX6_laid_51, sX6_laid_52, sX6_laid_53, sX6_laid_56, sX6_laid_57, sX6_laid_58, sX6_laid_59, sX6_laid_62, sX6_laid_65, sX6_laid_66, opK_some, guK_true, calK_some, rk_nil, rk_int, rk_ref, tl_some, tl_none, nb_int, nb_0, nb_1, nb_if, nb_if', o130_0, a131, ib_3_132, tn_3, q130, c1, T3 i10, nI_1]
    rw [if_neg (show ¬ M 131 3 ≤ nI i by rw [hT.2]; exact nI_ge (by omega) (by omega))]
    by_cases h1 : M 131 (at9 i 4) = 2
    · by_cases h2 : M 131 (at9 i 3) = x
      · rw [if_pos (decide_eq_true ⟨h1, h2⟩)] at e1
        simp only [h1, h2, if_true, one_ne, if_false, e1]
        exact fin
      · rw [if_neg (fun z => h2 (of_decide_eq_true z).2)] at e1
        simp only [h1, h2, if_true, one_ne, if_false, e1]
        exact fin
    · rw [if_neg (fun z => h1 (of_decide_eq_true z).1)] at e1
      simp only [h1, if_true, zero_eq, if_false, e1]
      exact fin
theorem X_laid {d : Nat} {M : Mem} {x : Int32} (j : J M) : Two (d + 2) 79 (d + 4) 211 [.int x] M := by
  have w := j_wr j
  by_cases hx : 0 ≤ x ∧ x ≤ 1
  · refine ⟨M, M, nI (tS (lpR (M 131) x) (nT (M 131))), ?_, ?_, j⟩
    · rw [nX5_laid]
      simp only [sX5_laid_0, sX5_laid_1, sX5_laid_2, sX5_laid_3, sX5_laid_6, sX5_laid_9, sX5_laid_10, sX5_laid_11, sX5_laid_14, sX5_laid_15, sX5_laid_16, sX5_laid_17, sX5_laid_18, sX5_laid_20, sX5_laid_21, sX5_laid_24, sX5_laid_27, sX5_laid_30, sX5_laid_33, sX5_laid_34, sX5_laid_37, sX5_laid_40, sX5_laid_43, sX5_laid_44, sX5_laid_45, sX5_laid_46, sX5_laid_49, sX5_laid_50, sX5_laid_53, sX5_laid_56, sX5_laid_59, sX5_laid_60, sX5_laid_61, sX5_laid_62, sX5_laid_65, sX5_laid_66, sX5_laid_67, sX5_laid_68, sX5_laid_69, sX5_laid_70, sX5_laid_71, sX5_laid_74, sX5_laid_77, sX5_laid_78, opK_some, guK_true, calK_some, rk_nil, rk_int, rk_ref, tl_some, tl_none, nb_int, nb_0, nb_1, nb_if, nb_if', q0, C_x_within, hx, and_self, if_true, one_ne, if_false]
      exact L_laid (j_hr j) w (nT (M 131)) 0 (by omega)
    · rw [nX6_laid]
      simp only [sX6_laid_0, sX6_laid_1, sX6_laid_2, sX6_laid_3, sX6_laid_6, sX6_laid_9, sX6_laid_10, sX6_laid_12, sX6_laid_15, sX6_laid_16, sX6_laid_17, sX6_laid_18, sX6_laid_19, sX6_laid_21, sX6_laid_22, sX6_laid_25, sX6_laid_26, sX6_laid_27, sX6_laid_30, sX6_laid_31, sX6_laid_32, sX6_laid_33, sX6_laid_34, sX6_laid_37, sX6_laid_40, sX6_laid_41, sX6_laid_42, sX6_laid_43, sX6_laid_46, sX6_laid_47, sX6_laid_50, sX6_laid_51, sX6_laid_52, sX6_laid_53, sX6_laid_56, sX6_laid_57, sX6_laid_58, sX6_laid_59, sX6_laid_62, sX6_laid_65, sX6_laid_66, opK_some, guK_true, calK_some, rk_nil, rk_int, rk_ref, tl_some, tl_none, nb_int, nb_0, nb_1, nb_if, nb_if', q130, C_m_within, hx, and_self, if_true, one_ne, if_false]
      exact L_m_laid w (nT (M 131)) 0 (by omega)
  · refine ⟨fX M 0, fM (fX M 0) 0, -1000001, ?_, ?_, J_fin j (by omega)⟩
    · rw [nX5_laid]
      simp only [sX5_laid_0, sX5_laid_1, sX5_laid_2, sX5_laid_3, sX5_laid_6, sX5_laid_9, sX5_laid_10, sX5_laid_11, sX5_laid_14, sX5_laid_15, sX5_laid_16, sX5_laid_17, sX5_laid_18, sX5_laid_20, sX5_laid_21, sX5_laid_24, sX5_laid_27, sX5_laid_30, sX5_laid_33, sX5_laid_34, sX5_laid_37, sX5_laid_40, sX5_laid_43, sX5_laid_44, sX5_laid_45, sX5_laid_46, sX5_laid_49, sX5_laid_50, sX5_laid_53, sX5_laid_56, sX5_laid_59, sX5_laid_60, sX5_laid_61, sX5_laid_62, sX5_laid_65, sX5_laid_66, sX5_laid_67, sX5_laid_68, sX5_laid_69, sX5_laid_70, sX5_laid_71, sX5_laid_74, sX5_laid_77, sX5_laid_78, opK_some, guK_true, calK_some, rk_nil, rk_int, rk_ref, tl_some, tl_none, nb_int, nb_0, nb_1, nb_if, nb_if', q0, C_x_within, hx, if_true, zero_eq, if_false, C_xf0]
    · rw [nX6_laid]
      simp only [sX6_laid_0, sX6_laid_1, sX6_laid_2, sX6_laid_3, sX6_laid_6, sX6_laid_9, sX6_laid_10, sX6_laid_12, sX6_laid_15, sX6_laid_16, sX6_laid_17, sX6_laid_18, sX6_laid_19, sX6_laid_21, sX6_laid_22, sX6_laid_25, sX6_laid_26, sX6_laid_27, sX6_laid_30, sX6_laid_31, sX6_laid_32, sX6_laid_33, sX6_laid_34, sX6_laid_37, sX6_laid_40, sX6_laid_41, sX6_laid_42, sX6_laid_43, sX6_laid_46, sX6_laid_47, sX6_laid_50, sX6_laid_51, sX6_laid_52, sX6_laid_53, sX6_laid_56, sX6_laid_57, sX6_laid_58, sX6_laid_59, sX6_laid_62, sX6_laid_65, sX6_laid_66, opK_some, guK_true, calK_some, rk_nil, rk_int, rk_ref, tl_some, tl_none, nb_int, nb_0, nb_1, nb_if, nb_if', q130, C_m_within, hx, if_true, zero_eq, if_false, C_mf0]
theorem spot_of {x : Int32} (h : 0 ≤ x ∧ x ≤ 9) : ∃ s, s < 10 ∧ x = nI s := by
  obtain ⟨s, h1, h2⟩ := nI_of2 (M := 9) (n := 9) rfl (Int32.not_lt.mpr h.1) h.2
  exact ⟨s, by omega, h2⟩
theorem I8 {k : Nat} : (8 : Int32) + nI k = nI (8 + k) := nI_add 8 k
theorem J_spot {M : Mem} {s : Nat} {v : Int32} (j : J M) (hs : s < 10) (hv : v = -1 ∨ ∃ k, k < nT (M 131) ∧ v = nI k) : J (mrow (mset M 104 s v) 131 (upd (M 131) (8 + s) v)) := by
  have i := j.1.1
  have e3 : nT (upd (M 131) (8 + s) v) = nT (M 131) := by unfold nT; rw [upd_ne (by omega)]
  have e4 : nC (upd (M 131) (8 + s) v) = nC (M 131) := by unfold nC; rw [upd_ne (by omega)]
  have ec : ∀ i, cr (upd (M 131) (8 + s) v) i = cr (M 131) i := fun i => by unfold cr; rw [upd_ne (by omega)]
  have ea : ∀ u f', upd (M 131) (8 + s) v (at9 u f') = M 131 (at9 u f') := fun u f' => upd_ne (by have := at9_ge u f'; omega)
  obtain ⟨⟨k1, k2, k3, k4, k5⟩, k6, k7⟩ := i.2
  have kr : KR (upd (M 131) (8 + s) v) := by
    refine ⟨⟨fun u hu => ?_, fun i hi => ?_, fun u hu h1 => ?_, fun i m him hm => ?_, fun q hq => ?_⟩, by rw [upd_ne (by omega)]; exact k6, by rw [upd_ne (by omega)]; exact k7⟩
    · rw [ea, ea, ea]
      exact k1 u hu
    · rw [e4] at hi
      rw [ec, e3, ea]
      exact k2 i hi
    · rw [ea] at h1
      obtain ⟨i, hi, e⟩ := k3 u hu h1
      exact ⟨i, by rw [e4]; exact hi, by rw [ec]; exact e⟩
    · rw [e4] at hm
      rw [ec, ec]
      exact k4 i m him hm
    · rw [e3]
      by_cases c : q = s
      · rw [c, upd_at]
        exact hv
      · rw [upd_ne (by omega)]
        exact k5 q hq
  have ir : IR (upd (M 131) (8 + s) v) := ⟨⟨WR_cong i.1.1 (fun q hq => upd_ne (by omega)), by rw [upd_ne (by omega)]; exact i.1.2.1, by rw [upd_ne (by omega), upd_ne (by omega)]; exact i.1.2.2⟩, kr⟩
  have h1 : HR (mset M 104 s v) 10 (M 131) := HR_ou (j_hr j) (fun k a b => mset_ne (by omega))
  obtain ⟨f0, f1, f2, f3⟩ := j.1.2
  have hf : FR (mset M 104 s v) 100 (upd (M 131) (8 + s) v) := by
    refine ⟨HR_congr h1 (wr_C i.1.1).1 (fun q hq => upd_ne (by omega)), ?_, fun c hc q hq hl => ?_, fun q hq => ?_⟩
    · rw [mset_ne (by omega), upd_ne (by omega), upd_ne (by omega), upd_ne (by omega), upd_ne (by omega)]
      exact f1
    · rw [upd_ne (by omega)] at hl
      rw [mset_ne (by omega), f2 c hc q hq hl]
      unfold egR
      rw [upd_ne (show 5 ≠ 8 + s by omega), upd_ne (by omega)]
    · rw [mset_at]
      by_cases c : q = s
      · rw [c, upd_at, upd_at]
      · rw [upd_ne c, upd_ne (by omega)]
        exact f3 q hq
  exact J_row j ir hf (fun q hq => mset_ne (by omega)) (by rw [mset_ne (by omega)]) (by rw [mset_ne (by omega)]) mrow_at (fun q _ k2 _ => mrow_ne k2) (by rw [mrow_ne (by omega)]) (by rw [mrow_ne (by omega)])
theorem X_hold {d : Nat} {M : Mem} {x y : Int32} (j : J M) : Two (d + 3) 113 (d + 3) 231 [.int x, .int y] M := by
  have w := j_wr j
  have e0 : M 10 0 = M 131 3 := (j_hr j).1.1
  have cs : ∀ (M2 : Mem), call (d + 2) 232 [.int x] M2 = some (some (.int (if 0 ≤ x ∧ x ≤ 9 then 1 else 0)), M2) := by
    intro M2
    rw [show d + 2 = d + 0 + 2 from rfl, nX6_isSpot]
    simp only [sX6_isSpot_0, sX6_isSpot_1, sX6_isSpot_2, sX6_isSpot_4, sX6_isSpot_7, opK_some, guK_true, calK_some, rk_nil, rk_int, rk_ref, tl_some, tl_none, nb_int, nb_0, nb_1, nb_if, nb_if', C_m_within]
  by_cases hx : 0 ≤ x ∧ x ≤ 9
  · have ok : ∀ v : Int32, (v = -1 ∨ ∃ k, k < nT (M 131) ∧ v = nI k) → (y = -1 ∨ (¬ y = -1 ∧ 0 ≤ y ∧ y ≤ M 131 3 - 1)) → y = v → Two (d + 3) 113 (d + 3) 231 [.int x, .int y] M := by
      intro v hv hy ey
      subst ey
      obtain ⟨s, hs, rfl⟩ := spot_of hx
      refine ⟨mset M 104 s y, mrow (mset M 104 s y) 131 (upd (M 131) (8 + s) y), 1, ?_, ?_, J_spot j hs hv⟩
      · rw [nX5_hold]
        rcases hy with hy | hy
        · simp only [sX5_hold_0, sX5_hold_1, sX5_hold_2, sX5_hold_4, sX5_hold_7, sX5_hold_10, sX5_hold_11, sX5_hold_12, sX5_hold_15, sX5_hold_16, sX5_hold_17, sX5_hold_20, sX5_hold_23, sX5_hold_24, sX5_hold_25, sX5_hold_28, sX5_hold_29, sX5_hold_30, sX5_hold_33, sX5_hold_36, sX5_hold_37, sX5_hold_38, sX5_hold_39, sX5_hold_40, opK_some, guK_true, calK_some, rk_nil, rk_int, rk_ref, tl_some, tl_none, nb_int, nb_0, nb_1, nb_if, nb_if', q0, o0_0, o100_8, b104, a104, C_x_within, hx, hy, and_self, if_true, one_ne, if_false, inb_nI hs (by omega), nI_clamp (show s < 2 ^ 31 by omega)]
        · simp only [sX5_hold_0, sX5_hold_1, sX5_hold_2, sX5_hold_4, sX5_hold_7, sX5_hold_10, sX5_hold_11, sX5_hold_12, sX5_hold_15, sX5_hold_16, sX5_hold_17, sX5_hold_20, sX5_hold_23, sX5_hold_24, sX5_hold_25, sX5_hold_28, sX5_hold_29, sX5_hold_30, sX5_hold_33, sX5_hold_36, sX5_hold_37, sX5_hold_38, sX5_hold_39, sX5_hold_40, opK_some, guK_true, calK_some, rk_nil, rk_int, rk_ref, tl_some, tl_none, nb_int, nb_0, nb_1, nb_if, nb_if', q0, o0_0, o100_8, b104, a104, C_x_within, C_x_isThing, e0, hx, hy.1, hy.2, and_self, if_true, one_ne, if_false, inb_nI hs (by omega), nI_clamp (show s < 2 ^ 31 by omega)]
      · rw [nX6_hold]
        have e131 : mset M 104 s y 131 = M 131 := mset_ne (by omega)
        rcases hy with hy | hy
        · simp only [sX6_hold_0, sX6_hold_1, sX6_hold_4, sX6_hold_7, sX6_hold_8, sX6_hold_9, sX6_hold_12, sX6_hold_13, sX6_hold_14, sX6_hold_17, sX6_hold_20, sX6_hold_21, sX6_hold_23, sX6_hold_26, sX6_hold_27, sX6_hold_28, sX6_hold_31, sX6_hold_33, sX6_hold_34, sX6_hold_35, sX6_hold_36, sX6_hold_37, sX6_hold_38, opK_some, guK_true, calK_some, rk_nil, rk_int, rk_ref, tl_some, tl_none, nb_int, nb_0, nb_1, nb_if, nb_if', q130, o130_0, a131, b131, cs, hx, hy, and_self, if_true, one_ne, if_false, I8, inb_nI (show 8 + s < 132 by omega) (by omega), nI_clamp (show 8 + s < 2 ^ 31 by omega)]
          rfl
        · simp only [sX6_hold_0, sX6_hold_1, sX6_hold_4, sX6_hold_7, sX6_hold_8, sX6_hold_9, sX6_hold_12, sX6_hold_13, sX6_hold_14, sX6_hold_17, sX6_hold_20, sX6_hold_21, sX6_hold_23, sX6_hold_26, sX6_hold_27, sX6_hold_28, sX6_hold_31, sX6_hold_33, sX6_hold_34, sX6_hold_35, sX6_hold_36, sX6_hold_37, sX6_hold_38, opK_some, guK_true, calK_some, rk_nil, rk_int, rk_ref, tl_some, tl_none, nb_int, nb_0, nb_1, nb_if, nb_if', q130, o130_0, a131, b131, cs, C_m_isThing, e131, hx, hy.1, hy.2, and_self, if_true, one_ne, if_false, I8, inb_nI (show 8 + s < 132 by omega) (by omega), nI_clamp (show 8 + s < 2 ^ 31 by omega)]
          rfl
    by_cases hy : y = -1
    · exact ok (-1) (Or.inl rfl) (Or.inl hy) hy
    · by_cases hT : 0 ≤ y ∧ y ≤ M 131 3 - 1
      · obtain ⟨t, h1, h2, h3⟩ := thing_of w hT
        exact ok (nI t) (Or.inr ⟨t, h1, rfl⟩) (Or.inr ⟨hy, hT⟩) h3
      · refine ⟨fX M 0, fM (fX M 0) 0, -1000001, ?_, ?_, J_fin j (by omega)⟩
        · rw [nX5_hold]
          simp only [sX5_hold_0, sX5_hold_1, sX5_hold_2, sX5_hold_4, sX5_hold_7, sX5_hold_10, sX5_hold_11, sX5_hold_12, sX5_hold_15, sX5_hold_16, sX5_hold_17, sX5_hold_20, sX5_hold_23, sX5_hold_24, sX5_hold_25, sX5_hold_28, sX5_hold_29, sX5_hold_30, sX5_hold_33, sX5_hold_36, sX5_hold_37, sX5_hold_38, sX5_hold_39, sX5_hold_40, opK_some, guK_true, calK_some, rk_nil, rk_int, rk_ref, tl_some, tl_none, nb_int, nb_0, nb_1, nb_if, nb_if', q0, C_x_within, C_x_isThing, e0, hx, hy, hT, and_self, if_true, one_ne, zero_eq, if_false, C_xf0]
        · rw [nX6_hold]
          simp only [sX6_hold_0, sX6_hold_1, sX6_hold_4, sX6_hold_7, sX6_hold_8, sX6_hold_9, sX6_hold_12, sX6_hold_13, sX6_hold_14, sX6_hold_17, sX6_hold_20, sX6_hold_21, sX6_hold_23, sX6_hold_26, sX6_hold_27, sX6_hold_28, sX6_hold_31, sX6_hold_33, sX6_hold_34, sX6_hold_35, sX6_hold_36, sX6_hold_37, sX6_hold_38, opK_some, guK_true, calK_some, rk_nil, rk_int, rk_ref, tl_some, tl_none, nb_int, nb_0, nb_1, nb_if, nb_if', q130, cs, C_m_isThing, fX_131, hx, hy, hT, and_self, if_true, one_ne, zero_eq, if_false, C_mf0]
  · refine ⟨fX M 0, fM (fX M 0) 0, -1000001, ?_, ?_, J_fin j (by omega)⟩
    · rw [nX5_hold]
      simp only [sX5_hold_0, sX5_hold_1, sX5_hold_2, sX5_hold_4, sX5_hold_7, sX5_hold_10, sX5_hold_11, sX5_hold_12, sX5_hold_15, sX5_hold_16, sX5_hold_17, sX5_hold_20, sX5_hold_23, sX5_hold_24, sX5_hold_25, sX5_hold_28, sX5_hold_29, sX5_hold_30, sX5_hold_33, sX5_hold_36, sX5_hold_37, sX5_hold_38, sX5_hold_39, sX5_hold_40, opK_some, guK_true, calK_some, rk_nil, rk_int, rk_ref, tl_some, tl_none, nb_int, nb_0, nb_1, nb_if, nb_if', q0, C_x_within, hx, if_true, zero_eq, if_false, C_xf0]
    · rw [nX6_hold]
      simp only [sX6_hold_0, sX6_hold_1, sX6_hold_4, sX6_hold_7, sX6_hold_8, sX6_hold_9, sX6_hold_12, sX6_hold_13, sX6_hold_14, sX6_hold_17, sX6_hold_20, sX6_hold_21, sX6_hold_23, sX6_hold_26, sX6_hold_27, sX6_hold_28, sX6_hold_31, sX6_hold_33, sX6_hold_34, sX6_hold_35, sX6_hold_36, sX6_hold_37, sX6_hold_38, opK_some, guK_true, calK_some, rk_nil, rk_int, rk_ref, tl_some, tl_none, nb_int, nb_0, nb_1, nb_if, nb_if', q130, cs, hx, if_true, zero_eq, if_false, C_mf0]
theorem kind_of {x : Int32} (h : 0 ≤ x ∧ x ≤ 6) : ∃ k, k ≤ 6 ∧ x = nI k := nI_of2 (M := 6) (n := 6) rfl (Int32.not_lt.mpr h.1) h.2
theorem X_as {d : Nat} {M : Mem} {x y : Int32} (j : J M) : Two (d + 3) 114 (d + 3) 233 [.int x, .int y] M := by
  have w := j_wr j
  have h := j_hr j
  have hT := wr_T w
  have e0 : M 10 0 = M 131 3 := h.1.1
  have cs : ∀ (M2 : Mem), call (d + 2) 232 [.int x] M2 = some (some (.int (if 0 ≤ x ∧ x ≤ 9 then 1 else 0)), M2) := by
    intro M2
    rw [show d + 2 = d + 0 + 2 from rfl, nX6_isSpot]
    simp only [sX6_isSpot_0, sX6_isSpot_1, sX6_isSpot_2, sX6_isSpot_4, sX6_isSpot_7, opK_some, guK_true, calK_some, rk_nil, rk_int, rk_ref, tl_some, tl_none, nb_int, nb_0, nb_1, nb_if, nb_if', C_m_within]
  by_cases hg : (0 ≤ x ∧ x ≤ 9) ∧ 0 ≤ y ∧ y ≤ 6
  · obtain ⟨hx, hy⟩ := hg
    obtain ⟨s, hs, rfl⟩ := spot_of hx
    obtain ⟨k, hk, rfl⟩ := kind_of hy
    have es : M 104 s = M 131 (8 + s) := j.1.2.2.2.2 s hs
    have i8 : inb (nI (8 + s)) 132 = true := inb_nI (by omega) (by omega)
    have c8 : (nI (8 + s)).toNatClampNeg = 8 + s := nI_clamp (by omega)
    rcases j.1.1.2.1.2.2.2.2 s hs with ev | ⟨t, ht, ev⟩
    · have nT' : ¬ ((0 : Int32) ≤ -1 ∧ (-1 : Int32) ≤ M 131 3 - 1) := fun z => absurd z.1 (by decide)
      refine ⟨fX M 5, fM (fX M 5) 5, -1000006, ?_, ?_, J_fin j (by omega)⟩
      · rw [nX5_as]
        simp only [sX5_as_0, sX5_as_1, sX5_as_2, sX5_as_4, sX5_as_7, sX5_as_10, sX5_as_11, sX5_as_12, sX5_as_14, sX5_as_17, sX5_as_20, sX5_as_21, sX5_as_22, sX5_as_25, sX5_as_26, sX5_as_27, sX5_as_30, sX5_as_33, sX5_as_34, sX5_as_35, sX5_as_36, sX5_as_37, sX5_as_38, sX5_as_41, sX5_as_44, sX5_as_45, sX5_as_46, sX5_as_49, sX5_as_50, sX5_as_51, sX5_as_54, sX5_as_57, sX5_as_60, sX5_as_61, sX5_as_62, sX5_as_63, sX5_as_66, sX5_as_69, sX5_as_70, sX5_as_73, sX5_as_74, sX5_as_75, sX5_as_78, opK_some, guK_true, calK_some, rk_nil, rk_int, rk_ref, tl_some, tl_none, nb_int, nb_0, nb_1, nb_if, nb_if', q0, o0_0, o100_8, a104, C_x_within, C_x_isThing, e0, hx, hy, and_self, if_true, one_ne, zero_eq, if_false, inb_nI hs (by omega), nI_clamp (show s < 2 ^ 31 by omega), es, ev, nT', C_xf5]
      · rw [nX6_as]
        simp only [sX6_as_0, sX6_as_1, sX6_as_4, sX6_as_7, sX6_as_8, sX6_as_11, sX6_as_14, sX6_as_15, sX6_as_17, sX6_as_20, sX6_as_21, sX6_as_22, sX6_as_25, sX6_as_27, sX6_as_28, sX6_as_29, sX6_as_30, sX6_as_31, sX6_as_32, sX6_as_35, sX6_as_36, sX6_as_39, sX6_as_42, sX6_as_43, sX6_as_44, sX6_as_45, sX6_as_46, sX6_as_49, sX6_as_50, sX6_as_53, sX6_as_56, sX6_as_57, sX6_as_60, sX6_as_61, sX6_as_64, sX6_as_67, opK_some, guK_true, calK_some, rk_nil, rk_int, rk_ref, tl_some, tl_none, nb_int, nb_0, nb_1, nb_if, nb_if', q130, o130_0, a131, cs, C_m_isKind, fX_131, hx, hy, and_self, if_true, one_ne, if_false, I8, i8, c8, ev, show ((0 : Int32) ≤ -1) = False from eq_false (by decide), C_mf5]
    · have t10 : t < 10 := by omega
      have isT : 0 ≤ nI t ∧ nI t ≤ M 131 3 - 1 := ⟨nI_le (a := 0) (by omega) (by omega), by rw [hT.2, pk_sub1 (by omega)]; exact nI_le (by omega) (by omega)⟩
      obtain ⟨a0, _⟩ := w.2.2.2 t t10
      obtain ⟨kk, hkk⟩ : ∃ kk, kk = iN (M 131 (at9 t 0)) := ⟨_, rfl⟩
      have ek : M 131 (at9 t 0) = nI kk := by rw [hkk]; exact a0.2
      have lk : kk ≤ 6 := by rw [hkk]; exact a0.1
      have e11 : M 11 t = nI kk := (h.2.1 0 (by omega) t t10).trans ek
      have cu := C_x_isUnder (d := d + 1) (M := M) lk hk
      rw [show d + 1 + 1 = d + 2 from rfl] at cu
      have cm : ∀ M2 : Mem, call (d + 2) 144 [.int (nI kk), .int (nI k)] M2 = some (some (.int (if unK kk k then 1 else 0)), M2) := by
        intro M2
        have := C_m_isUnder (d := d + 0) (M := M2) lk hk
        rw [show d + 0 + 2 = d + 2 from rfl] at this
        exact this
      have tp : ((0 : Int32) ≤ nI t) = True := eq_true isT.1
      by_cases hu : unK kk k = true
      · refine ⟨M, M, nI t, ?_, ?_, j⟩
        · rw [nX5_as]
          simp only [sX5_as_0, sX5_as_1, sX5_as_2, sX5_as_4, sX5_as_7, sX5_as_10, sX5_as_11, sX5_as_12, sX5_as_14, sX5_as_17, sX5_as_20, sX5_as_21, sX5_as_22, sX5_as_25, sX5_as_26, sX5_as_27, sX5_as_30, sX5_as_33, sX5_as_34, sX5_as_35, sX5_as_36, sX5_as_37, sX5_as_38, sX5_as_41, sX5_as_44, sX5_as_45, sX5_as_46, sX5_as_49, sX5_as_50, sX5_as_51, sX5_as_54, sX5_as_57, sX5_as_60, sX5_as_61, sX5_as_62, sX5_as_63, sX5_as_66, sX5_as_69, sX5_as_70, sX5_as_73, sX5_as_74, sX5_as_75, sX5_as_78, opK_some, guK_true, calK_some, rk_nil, rk_int, rk_ref, tl_some, tl_none, nb_int, nb_0, nb_1, nb_if, nb_if', q0, o0_0, o100_0, o100_8, hs_1 hen10, ha_1 hen10, a104, C_x_within, C_x_isThing, e0, hx, hy, and_self, if_true, one_ne, if_false, inb_nI hs (by omega), nI_clamp (show s < 2 ^ 31 by omega), es, ev, isT, inb_nI t10 (by omega), nI_clamp (show t < 2 ^ 31 by omega), e11, cu, hu]
        · rw [nX6_as]
          simp only [sX6_as_0, sX6_as_1, sX6_as_4, sX6_as_7, sX6_as_8, sX6_as_11, sX6_as_14, sX6_as_15, sX6_as_17, sX6_as_20, sX6_as_21, sX6_as_22, sX6_as_25, sX6_as_27, sX6_as_28, sX6_as_29, sX6_as_30, sX6_as_31, sX6_as_32, sX6_as_35, sX6_as_36, sX6_as_39, sX6_as_42, sX6_as_43, sX6_as_44, sX6_as_45, sX6_as_46, sX6_as_49, sX6_as_50, sX6_as_53, sX6_as_56, sX6_as_57, sX6_as_60, sX6_as_61, sX6_as_64, sX6_as_67, opK_some, guK_true, calK_some, rk_nil, rk_int, rk_ref, tl_some, tl_none, nb_int, nb_0, nb_1, nb_if, nb_if', q130, o130_0, a131, cs, C_m_isKind, hx, hy, and_self, if_true, one_ne, if_false, I8, i8, c8, ev, tp, T0 t10, ek, cm, hu]
      · refine ⟨fX M 2, fM (fX M 2) 2, -1000003, ?_, ?_, J_fin j (by omega)⟩
        · rw [nX5_as]
          simp only [sX5_as_0, sX5_as_1, sX5_as_2, sX5_as_4, sX5_as_7, sX5_as_10, sX5_as_11, sX5_as_12, sX5_as_14, sX5_as_17, sX5_as_20, sX5_as_21, sX5_as_22, sX5_as_25, sX5_as_26, sX5_as_27, sX5_as_30, sX5_as_33, sX5_as_34, sX5_as_35, sX5_as_36, sX5_as_37, sX5_as_38, sX5_as_41, sX5_as_44, sX5_as_45, sX5_as_46, sX5_as_49, sX5_as_50, sX5_as_51, sX5_as_54, sX5_as_57, sX5_as_60, sX5_as_61, sX5_as_62, sX5_as_63, sX5_as_66, sX5_as_69, sX5_as_70, sX5_as_73, sX5_as_74, sX5_as_75, sX5_as_78, opK_some, guK_true, calK_some, rk_nil, rk_int, rk_ref, tl_some, tl_none, nb_int, nb_0, nb_1, nb_if, nb_if', q0, o0_0, o100_0, o100_8, hs_1 hen10, ha_1 hen10, a104, C_x_within, C_x_isThing, e0, hx, hy, and_self, if_true, one_ne, zero_eq, if_false, inb_nI hs (by omega), nI_clamp (show s < 2 ^ 31 by omega), es, ev, isT, inb_nI t10 (by omega), nI_clamp (show t < 2 ^ 31 by omega), e11, cu, hu, Bool.false_eq_true, C_xf2]
        · rw [nX6_as]
          simp only [sX6_as_0, sX6_as_1, sX6_as_4, sX6_as_7, sX6_as_8, sX6_as_11, sX6_as_14, sX6_as_15, sX6_as_17, sX6_as_20, sX6_as_21, sX6_as_22, sX6_as_25, sX6_as_27, sX6_as_28, sX6_as_29, sX6_as_30, sX6_as_31, sX6_as_32, sX6_as_35, sX6_as_36, sX6_as_39, sX6_as_42, sX6_as_43, sX6_as_44, sX6_as_45, sX6_as_46, sX6_as_49, sX6_as_50, sX6_as_53, sX6_as_56, sX6_as_57, sX6_as_60, sX6_as_61, sX6_as_64, sX6_as_67, opK_some, guK_true, calK_some, rk_nil, rk_int, rk_ref, tl_some, tl_none, nb_int, nb_0, nb_1, nb_if, nb_if', q130, o130_0, a131, cs, C_m_isKind, fX_131, hx, hy, and_self, if_true, one_ne, zero_eq, if_false, I8, i8, c8, ev, tp, T0 t10, ek, cm, hu, Bool.false_eq_true, C_mf2]
  · refine ⟨fX M 0, fM (fX M 0) 0, -1000001, ?_, ?_, J_fin j (by omega)⟩
    · rw [nX5_as]
      by_cases hx : 0 ≤ x ∧ x ≤ 9
      · have hy : ¬ (0 ≤ y ∧ y ≤ 6) := fun z => hg ⟨hx, z⟩
        simp only [sX5_as_0, sX5_as_1, sX5_as_2, sX5_as_4, sX5_as_7, sX5_as_10, sX5_as_11, sX5_as_12, sX5_as_14, sX5_as_17, sX5_as_20, sX5_as_21, sX5_as_22, sX5_as_25, sX5_as_26, sX5_as_27, sX5_as_30, sX5_as_33, sX5_as_34, sX5_as_35, sX5_as_36, sX5_as_37, sX5_as_38, sX5_as_41, sX5_as_44, sX5_as_45, sX5_as_46, sX5_as_49, sX5_as_50, sX5_as_51, sX5_as_54, sX5_as_57, sX5_as_60, sX5_as_61, sX5_as_62, sX5_as_63, sX5_as_66, sX5_as_69, sX5_as_70, sX5_as_73, sX5_as_74, sX5_as_75, sX5_as_78, opK_some, guK_true, calK_some, rk_nil, rk_int, rk_ref, tl_some, tl_none, nb_int, nb_0, nb_1, nb_if, nb_if', q0, C_x_within, hx, hy, and_self, if_true, one_ne, zero_eq, if_false, C_xf0]
      · simp only [sX5_as_0, sX5_as_1, sX5_as_2, sX5_as_4, sX5_as_7, sX5_as_10, sX5_as_11, sX5_as_12, sX5_as_14, sX5_as_17, sX5_as_20, sX5_as_21, sX5_as_22, sX5_as_25, sX5_as_26, sX5_as_27, sX5_as_30, sX5_as_33, sX5_as_34, sX5_as_35, sX5_as_36, sX5_as_37, sX5_as_38, sX5_as_41, sX5_as_44, sX5_as_45, sX5_as_46, sX5_as_49, sX5_as_50, sX5_as_51, sX5_as_54, sX5_as_57, sX5_as_60, sX5_as_61, sX5_as_62, sX5_as_63, sX5_as_66, sX5_as_69, sX5_as_70, sX5_as_73, sX5_as_74, sX5_as_75, sX5_as_78, opK_some, guK_true, calK_some, rk_nil, rk_int, rk_ref, tl_some, tl_none, nb_int, nb_0, nb_1, nb_if, nb_if', q0, C_x_within, hx, if_true, zero_eq, if_false, C_xf0]
    · rw [nX6_as]
      by_cases hx : 0 ≤ x ∧ x ≤ 9
      · have hy : ¬ (0 ≤ y ∧ y ≤ 6) := fun z => hg ⟨hx, z⟩
        simp only [sX6_as_0, sX6_as_1, sX6_as_4, sX6_as_7, sX6_as_8, sX6_as_11, sX6_as_14, sX6_as_15, sX6_as_17, sX6_as_20, sX6_as_21, sX6_as_22, sX6_as_25, sX6_as_27, sX6_as_28, sX6_as_29, sX6_as_30, sX6_as_31, sX6_as_32, sX6_as_35, sX6_as_36, sX6_as_39, sX6_as_42, sX6_as_43, sX6_as_44, sX6_as_45, sX6_as_46, sX6_as_49, sX6_as_50, sX6_as_53, sX6_as_56, sX6_as_57, sX6_as_60, sX6_as_61, sX6_as_64, sX6_as_67, opK_some, guK_true, calK_some, rk_nil, rk_int, rk_ref, tl_some, tl_none, nb_int, nb_0, nb_1, nb_if, nb_if', q130, cs, C_m_isKind, hx, hy, and_self, if_true, one_ne, zero_eq, if_false, C_mf0]
      · simp only [sX6_as_0, sX6_as_1, sX6_as_4, sX6_as_7, sX6_as_8, sX6_as_11, sX6_as_14, sX6_as_15, sX6_as_17, sX6_as_20, sX6_as_21, sX6_as_22, sX6_as_25, sX6_as_27, sX6_as_28, sX6_as_29, sX6_as_30, sX6_as_31, sX6_as_32, sX6_as_35, sX6_as_36, sX6_as_39, sX6_as_42, sX6_as_43, sX6_as_44, sX6_as_45, sX6_as_46, sX6_as_49, sX6_as_50, sX6_as_53, sX6_as_56, sX6_as_57, sX6_as_60, sX6_as_61, sX6_as_64, sX6_as_67, opK_some, guK_true, calK_some, rk_nil, rk_int, rk_ref, tl_some, tl_none, nb_int, nb_0, nb_1, nb_if, nb_if', q130, cs, C_m_isKind, hx, if_true, zero_eq, if_false, C_mf0]

