/-! calls: what changes a row -/
theorem J_row {M M1 M2 : Mem} {r' : Rw} (j : J M) (hi : IR r') (hf : FR M1 100 r') (c : ∀ k, (k = 1 ∨ (20 ≤ k ∧ k < 29) ∨ k = 91 ∨ 105 ≤ k) → M1 k = M k) (c0 : M1 0 2 = M 0 2) (c7 : M1 7 1 = M 7 1) (e : M2 131 = r') (m : ∀ k, k ≠ 130 → k ≠ 131 → k ≠ 140 → M2 k = M1 k) (m3 : M2 130 3 = M1 130 3) (m17 : M2 130 17 = M1 130 17) : J M2 := by
  have c130 := c 130 (by omega)
  have cm : ∀ k, (k = 1 ∨ (20 ≤ k ∧ k < 29) ∨ k = 91 ∨ (105 ≤ k ∧ k ≠ 130 ∧ k ≠ 131 ∧ k ≠ 140)) → M2 k = M k := fun k hk => (m k (by omega) (by omega) (by omega)).trans (c k (by omega))
  refine ⟨⟨by rw [e]; exact hi, ?_⟩, JK_ou j.2.1 ?_ ?_ (fun k hk => cm k (by omega)), JF_ou j.2.2.1 (fun k hk => cm k (by omega)), JT_ou j.2.2.2.1 ?_ ?_ (fun k hk => cm k (by omega)), JS_ou j.2.2.2.2 (fun k hk => cm k (by omega))⟩
  · rw [e]
    exact FR_ou farm100 hf (fun k hk => m k (by omega) (by omega) (by omega))
  · rw [m 0 (by omega) (by omega) (by omega)]
    exact c0
  · rw [m3, c130]
  · rw [m 7 (by omega) (by omega) (by omega)]
    exact c7
  · rw [m17, c130]
theorem FR_hen {f : Nat} {M M' : Mem} {r r' : Rw} (h : FR M f r) (h1 : HR M' (f - 90) r') (e : ∀ k, f ≤ k → k < f + 5 → M' k = M k) (er : ∀ j, (j = 0 ∨ (5 ≤ j ∧ j < 18) ∨ (96 ≤ j ∧ j < 132)) → r' j = r j) : FR M' f r' := by
  refine ⟨h1, ?_, fun c hc i hi hn => ?_, fun s hs => ?_⟩
  · rw [e f (by omega) (by omega), er 0 (by omega), er 7 (by omega), er 5 (by omega), er 6 (by omega)]
    exact h.2.1
  · rw [er 5 (by omega)] at hn
    have hm : (iN (r 5) - 1 - i) % 12 < 12 := Nat.mod_lt _ (by omega)
    rw [e _ (by omega) (by omega), h.2.2.1 c hc i hi hn]
    unfold egR
    rw [er 5 (by omega), er _ (by omega)]
  · rw [e _ (by omega) (by omega), er _ (by omega)]
    exact h.2.2.2 s hs
theorem com_lo {r : Rw} {k bk wo ow : Int32} {j : Nat} (ht : nT r < 10) (h : j < 18 ∨ 88 ≤ j) (h3 : j ≠ 3) : comR r k bk wo ow j = r j := by
  have h0 := at9_lt (f := 0) ht (by omega)
  have h1 := at9_lt (f := 1) ht (by omega)
  have h2 := at9_lt (f := 2) ht (by omega)
  have h4 := at9_lt (f := 3) ht (by omega)
  have g0 := at9_ge (nT r) 0
  have g1 := at9_ge (nT r) 1
  have g2 := at9_ge (nT r) 2
  have g3 := at9_ge (nT r) 3
  unfold comR
  rw [upd_ne h3, bec_ne h ht, upd_ne (by omega), upd_ne (by omega), upd_ne (by omega), upd_ne (by omega)]
theorem com_at {r : Rw} {k bk wo ow : Int32} {t f : Nat} (hf : f < 7) : comR r k bk wo ow (at9 t f) = if t = nT r then (if f = 0 then k else if f = 1 then bk else if f = 2 then wo else if f = 3 then ow else 0) else r (at9 t f) := by
  have g := at9_ge t f
  unfold comR
  rw [upd_ne (by omega), bec_at hf]
  by_cases e : t = nT r
  · subst e
    rw [if_pos rfl, if_pos rfl]
    rcases (show f = 0 ∨ f = 1 ∨ f = 2 ∨ f = 3 ∨ f = 4 ∨ f = 5 ∨ f = 6 by omega) with rfl | rfl | rfl | rfl | rfl | rfl | rfl
    · rw [if_neg (by omega), if_neg (by omega), if_pos rfl, upd_ne (fun z => by have := (at9_inj (by omega) (by omega) z).2; omega), upd_ne (fun z => by have := (at9_inj (by omega) (by omega) z).2; omega), upd_ne (fun z => by have := (at9_inj (by omega) (by omega) z).2; omega), upd_at]
    · rw [if_neg (by omega), if_neg (by omega), if_neg (by omega), if_pos rfl, upd_ne (fun z => by have := (at9_inj (by omega) (by omega) z).2; omega), upd_ne (fun z => by have := (at9_inj (by omega) (by omega) z).2; omega), upd_at]
    · rw [if_neg (by omega), if_neg (by omega), if_neg (by omega), if_neg (by omega), if_pos rfl, upd_ne (fun z => by have := (at9_inj (by omega) (by omega) z).2; omega), upd_at]
    · rw [if_neg (by omega), if_neg (by omega), if_neg (by omega), if_neg (by omega), if_neg (by omega), if_pos rfl, upd_at]
    · rw [if_pos rfl, if_neg (by omega), if_neg (by omega), if_neg (by omega), if_neg (by omega)]
    · rw [if_neg (by omega), if_pos (by omega), if_neg (by omega), if_neg (by omega), if_neg (by omega), if_neg (by omega)]
    · rw [if_neg (by omega), if_pos (by omega), if_neg (by omega), if_neg (by omega), if_neg (by omega), if_neg (by omega)]
  · rw [if_neg e, if_neg e, upd_ne (fun z => e (at9_inj hf (by omega) z).1), upd_ne (fun z => e (at9_inj hf (by omega) z).1), upd_ne (fun z => e (at9_inj hf (by omega) z).1), upd_ne (fun z => e (at9_inj hf (by omega) z).1)]
theorem com_T {r : Rw} {k bk wo ow : Int32} (w : WR r) (h : r 3 < 10) : comR r k bk wo ow 3 = nI (nT r + 1) ∧ nT (comR r k bk wo ow) = nT r + 1 := by
  have ht := (wr_lt10 w).mp h
  have h9 := wr_T w
  have e : comR r k bk wo ow 3 = nI (nT r + 1) := by
    unfold comR
    rw [upd_at, h9.2]
    exact nI_1 _
  refine ⟨e, ?_⟩
  show iN _ = _
  rw [e, iN_nI (by omega)]
theorem IR_com {r : Rw} {k bk wo ow : Int32} (i : IR r) (h : r 3 < 10) (h0 : rg k 6) (h1 : rg bk 9) (h2 : rg wo 99) (h3 : rg ow 1) : IR (comR r k bk wo ow) := by
  obtain ⟨⟨w, x0, x5⟩, ⟨k1, k2, k3, k4, k5⟩, k6, k7⟩ := i
  have ht := (wr_lt10 w).mp h
  have h8 := wr_C w
  obtain ⟨eT, nT'⟩ := com_T (k := k) (bk := bk) (wo := wo) (ow := ow) w h
  have e4 : comR r k bk wo ow 4 = r 4 := com_lo ht (by omega) (by omega)
  have eC : nC (comR r k bk wo ow) = nC r := by unfold nC; rw [e4]
  have ecr : ∀ i, cr (comR r k bk wo ow) i = cr r i := by intro i; unfold cr; rw [com_lo ht (by omega) (by omega)]
  refine ⟨⟨⟨?_, ?_, fun i hi => ?_, fun t ht' => ?_⟩, ?_, ?_⟩, ⟨fun t ht' hn => ?_, fun i hi => ?_, fun t ht' hn => ?_, fun i q hi hq => ?_, fun s hs => ?_⟩, by rw [com_lo ht (by omega) (by omega)]; exact k6, by rw [com_lo ht (by omega) (by omega)]; exact k7⟩
  · rw [eT]
    exact rg_nI (by omega) (by omega)
  · rw [e4]
    exact w.2.1
  · rw [eC] at hi
    rw [com_lo ht (by omega) (by omega)]
    exact w.2.2.1 i hi
  · rw [com_at (by omega), com_at (by omega), com_at (by omega), com_at (by omega), com_at (by omega)]
    by_cases e : t = nT r
    · rw [if_pos e, if_pos e, if_pos e, if_pos e, if_pos e]
      exact ⟨h0, h1, h2, h3, rg_nI (j := 0) (by omega) (by omega)⟩
    · rw [if_neg e, if_neg e, if_neg e, if_neg e, if_neg e]
      exact w.2.2.2 t ht'
  · rw [com_lo ht (by omega) (by omega)]
    exact x0
  · rw [com_lo ht (by omega) (by omega), com_lo ht (by omega) (by omega)]
    exact x5
  · rw [com_at (by omega)] at hn
    rw [com_at (by omega), com_at (by omega)]
    by_cases e : t = nT r
    · rw [if_pos e, if_pos e]
      exact ⟨rfl, rfl⟩
    · rw [if_neg e] at hn
      rw [if_neg e, if_neg e]
      exact k1 t ht' hn
  · rw [eC] at hi
    obtain ⟨a, b⟩ := k2 i hi
    rw [ecr, nT', com_at (by omega), if_neg (by omega)]
    exact ⟨by omega, b⟩
  · rw [com_at (by omega)] at hn
    by_cases e : t = nT r
    · rw [if_pos e, if_neg (by omega), if_neg (by omega), if_neg (by omega), if_neg (by omega)] at hn
      exact absurd hn (by decide)
    · rw [if_neg e] at hn
      obtain ⟨i, a, b⟩ := k3 t ht' hn
      exact ⟨i, by rw [eC]; exact a, by rw [ecr]; exact b⟩
  · rw [eC] at hq
    rw [ecr, ecr]
    exact k4 i q hi hq
  · rw [com_lo ht (by omega) (by omega), nT']
    rcases k5 s hs with a | ⟨q, a, b⟩
    · exact Or.inl a
    · exact Or.inr ⟨q, by omega, b⟩
theorem X_thing {d : Nat} {M : Mem} {x : Int32} (j : J M) : Two (d + 3) 0 (d + 3) 134 [.int x] M := by
  have e0 : M 10 0 = M 131 3 := (j_hr j).1.1
  have w := j_wr j
  have h9 := wr_T w
  by_cases hk : 0 ≤ x ∧ x ≤ 6
  · by_cases h10 : M 131 3 < 10
    · obtain ⟨M1, c1, h1, o1⟩ := (C_addThing (d := d + 0) (k := x) hen10 (j_hr j) w).2 h10
      rw [show d + 0 + 2 = d + 2 from rfl] at c1
      have er : M1 131 = M 131 := o1 131 (by omega)
      have hne : ¬ M 131 3 = 10 := fun z => absurd h10 (by rw [z]; decide)
      have ht := (wr_lt10 w).mp h10
      obtain ⟨q, hq, rfl⟩ : ∃ q, q ≤ 6 ∧ x = nI q := nI_of2 (M := 6) (n := 6) rfl (Int32.not_lt.mpr hk.1) hk.2
      refine ⟨M1, mrow M1 131 (comR (M 131) (nI q) 2 10 0), M 131 3, ?_, ?_, ?_⟩
      · rw [nX5_thing]
        simp only [sX5_thing_0, sX5_thing_1, sX5_thing_2, sX5_thing_4, sX5_thing_7, sX5_thing_10, sX5_thing_11, sX5_thing_12, sX5_thing_15, sX5_thing_16, sX5_thing_17, sX5_thing_20, sX5_thing_23, sX5_thing_26, sX5_thing_28, sX5_thing_31, sX5_thing_32, sX5_thing_33, sX5_thing_36, sX5_thing_37, sX5_thing_38, sX5_thing_41, sX5_thing_44, sX5_thing_45, sX5_thing_48, opK_some, guK_true, calK_some, rk_nil, rk_int, rk_ref, tl_some, tl_none, nb_int, nb_0, nb_1, nb_if, nb_if', o0_0, o100_0, hs_0 hen10, q0, hen_c hen10, C_x_within, e0, hk, and_self, if_true, one_ne, if_false, h10, c1]
      · have hc := C_m_comes (d := d + 0) (M := M1) (k := nI q) (bk := 2) (wo := 10) (ow := 0) (by rw [er]; exact w) (by rw [er]; exact h10)
        rw [show d + 0 + 2 = d + 2 from rfl] at hc
        rw [er] at hc
        rw [nX6_thing]
        simp only [sX6_thing_0, sX6_thing_1, sX6_thing_4, sX6_thing_7, sX6_thing_8, sX6_thing_10, sX6_thing_13, sX6_thing_14, sX6_thing_15, sX6_thing_18, sX6_thing_19, sX6_thing_20, sX6_thing_22, sX6_thing_25, sX6_thing_26, sX6_thing_28, sX6_thing_31, sX6_thing_34, sX6_thing_35, sX6_thing_36, sX6_thing_37, sX6_thing_39, sX6_thing_40, sX6_thing_43, opK_some, guK_true, calK_some, rk_nil, rk_int, rk_ref, tl_some, tl_none, nb_int, nb_0, nb_1, nb_if, nb_if', o130_0, a131, q130, ib_3_132, tn_3, er, C_m_isKind, hk, and_self, if_true, one_ne, if_false, hne, hc]
      · have hf : FR M1 100 (comR (M 131) (nI q) 2 10 0) := FR_hen j.1.2 h1 (fun k k1 k2 => o1 k (by omega)) (fun i hi => com_lo ht (by omega) (by omega))
        exact J_row j (IR_com j.1.1 h10 (rg_nI hq (by omega)) (rg_nI (j := 2) (by omega) (by omega)) (rg_nI (j := 10) (by omega) (by omega)) (rg_nI (j := 0) (by omega) (by omega))) hf (fun k hk => o1 k (by omega)) (by rw [o1 0 (by omega)]) (by rw [o1 7 (by omega)]) mrow_at (fun k _ k2 _ => mrow_ne k2) (by rw [mrow_ne (by omega)]) (by rw [mrow_ne (by omega)])
    · have h10' : M 131 3 = 10 := by
        rw [h9.2] at h10 ⊢
        have := h9.1
        have : nT (M 131) = 10 := by
          rcases Nat.lt_or_ge (nT (M 131)) 10 with q | q
          · exact absurd (nI_lt (b := 10) q (by omega)) h10
          · omega
        rw [this]
        rfl
      refine ⟨fX M 1, fM (fX M 1) 1, -1000002, ?_, ?_, J_fin j (by omega)⟩
      · rw [nX5_thing]
        simp only [sX5_thing_0, sX5_thing_1, sX5_thing_2, sX5_thing_4, sX5_thing_7, sX5_thing_10, sX5_thing_11, sX5_thing_12, sX5_thing_15, sX5_thing_16, sX5_thing_17, sX5_thing_20, sX5_thing_23, sX5_thing_26, sX5_thing_28, sX5_thing_31, sX5_thing_32, sX5_thing_33, sX5_thing_36, sX5_thing_37, sX5_thing_38, sX5_thing_41, sX5_thing_44, sX5_thing_45, sX5_thing_48, opK_some, guK_true, calK_some, rk_nil, rk_int, rk_ref, tl_some, tl_none, nb_int, nb_0, nb_1, nb_if, nb_if', o0_0, o100_0, hs_0 hen10, q0, C_x_within, e0, hk, and_self, if_true, one_ne, if_false, h10, C_xf1]
      · rw [nX6_thing]
        simp only [sX6_thing_0, sX6_thing_1, sX6_thing_4, sX6_thing_7, sX6_thing_8, sX6_thing_10, sX6_thing_13, sX6_thing_14, sX6_thing_15, sX6_thing_18, sX6_thing_19, sX6_thing_20, sX6_thing_22, sX6_thing_25, sX6_thing_26, sX6_thing_28, sX6_thing_31, sX6_thing_34, sX6_thing_35, sX6_thing_36, sX6_thing_37, sX6_thing_39, sX6_thing_40, sX6_thing_43, opK_some, guK_true, calK_some, rk_nil, rk_int, rk_ref, tl_some, tl_none, nb_int, nb_0, nb_1, nb_if, nb_if', o130_0, a131, q130, ib_3_132, tn_3, fX_k (show 131 ≠ 1 by omega), C_m_isKind, hk, and_self, if_true, one_ne, if_false, h10', C_mf1]
  · refine ⟨fX M 0, fM (fX M 0) 0, -1000001, ?_, ?_, J_fin j (by omega)⟩
    · rw [nX5_thing]
      simp only [sX5_thing_0, sX5_thing_1, sX5_thing_2, sX5_thing_4, sX5_thing_7, sX5_thing_10, sX5_thing_11, sX5_thing_12, sX5_thing_15, sX5_thing_16, sX5_thing_17, sX5_thing_20, sX5_thing_23, sX5_thing_26, sX5_thing_28, sX5_thing_31, sX5_thing_32, sX5_thing_33, sX5_thing_36, sX5_thing_37, sX5_thing_38, sX5_thing_41, sX5_thing_44, sX5_thing_45, sX5_thing_48, opK_some, guK_true, calK_some, rk_nil, rk_int, rk_ref, tl_some, tl_none, nb_int, nb_0, nb_1, nb_if, nb_if', q0, C_x_within, hk, if_true, if_false, zero_eq, C_xf0]
    · rw [nX6_thing]
      simp only [sX6_thing_0, sX6_thing_1, sX6_thing_4, sX6_thing_7, sX6_thing_8, sX6_thing_10, sX6_thing_13, sX6_thing_14, sX6_thing_15, sX6_thing_18, sX6_thing_19, sX6_thing_20, sX6_thing_22, sX6_thing_25, sX6_thing_26, sX6_thing_28, sX6_thing_31, sX6_thing_34, sX6_thing_35, sX6_thing_36, sX6_thing_37, sX6_thing_39, sX6_thing_40, sX6_thing_43, opK_some, guK_true, calK_some, rk_nil, rk_int, rk_ref, tl_some, tl_none, nb_int, nb_0, nb_1, nb_if, nb_if', q130, C_m_isKind, hk, if_true, if_false, zero_eq, C_mf0]

