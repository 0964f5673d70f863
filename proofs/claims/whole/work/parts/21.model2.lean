/-! the reference: what feeds, comes, goes, is laid -/
theorem I88 {k : Nat} : (88 : Int32) + nI k = nI (88 + k) := by
  show nI 88 + nI k = _
  rw [nI_add]
theorem pk_sub1 {n : Nat} (h : 1 ≤ n) : nI n - 1 = nI (n - 1) := pk_sub (a := n) (b := 1) h
theorem U_m {d j : Nat} {M : Mem} {k0 : Int32} (hj : j ≤ 6) : ∀ (m k : Nat), k ≤ 6 → k ≤ m → lim (call (d + 1)) none 6 cX6_isUnder (some .boolean) 2 [some (.int k0), some (.int (nI j)), some (.int (nI k))] [] M = some (some (.int (if unK k j then 1 else 0)), M) := by
  have same : ∀ k, k = j → k ≤ 6 → lim (call (d + 1)) none 6 cX6_isUnder (some .boolean) 2 [some (.int k0), some (.int (nI j)), some (.int (nI k))] [] M = some (some (.int (if unK k j then 1 else 0)), M) := by
    intro k hk h6
    subst hk
    rw [sX6_isUnder_2]
    simp only [sX6_isUnder_0, sX6_isUnder_1, sX6_isUnder_3, sX6_isUnder_6, sX6_isUnder_7, sX6_isUnder_8, sX6_isUnder_11, sX6_isUnder_12, sX6_isUnder_15, sX6_isUnder_16, sX6_isUnder_19, sX6_isUnder_20, sX6_isUnder_23, sX6_isUnder_24, sX6_isUnder_27, sX6_isUnder_28, opK_some, guK_true, calK_some, rk_nil, rk_int, rk_ref, tl_some, tl_none, nb_int, nb_0, nb_1, nb_if, nb_if']
    rw [if_neg (nI_pos (by omega)), if_pos trivial, if_neg (nI_pos (by omega)), unK_0 k (by omega) k (by omega) (Or.inr rfl), decide_eq_true rfl]
    rfl
  intro m
  induction m with
  | zero =>
    intro k hk hm
    by_cases c : k = j
    · exact same k c hk
    · have k0 : k = 0 := by omega
      subst k0
      rw [sX6_isUnder_2]
      simp only [sX6_isUnder_0, sX6_isUnder_1, sX6_isUnder_3, sX6_isUnder_6, sX6_isUnder_7, sX6_isUnder_8, sX6_isUnder_11, sX6_isUnder_12, sX6_isUnder_15, sX6_isUnder_16, sX6_isUnder_19, sX6_isUnder_20, sX6_isUnder_23, sX6_isUnder_24, sX6_isUnder_27, sX6_isUnder_28, opK_some, guK_true, calK_some, rk_nil, rk_int, rk_ref, tl_some, tl_none, nb_int, nb_0, nb_1, nb_if, nb_if', C_m_above 0 (show 0 ≤ 6 by omega)]
      rw [if_neg (nI_pos (by omega)), if_neg (fun z => c (nI_inj (by omega) (by omega) z)), show (stI 152).getD 0 0 = (-1 : Int32) by decide, sX6_isUnder_2]
      simp only [sX6_isUnder_0, sX6_isUnder_1, sX6_isUnder_3, sX6_isUnder_6, sX6_isUnder_7, sX6_isUnder_8, sX6_isUnder_11, sX6_isUnder_12, sX6_isUnder_15, sX6_isUnder_16, sX6_isUnder_19, sX6_isUnder_20, sX6_isUnder_23, sX6_isUnder_24, sX6_isUnder_27, sX6_isUnder_28, opK_some, guK_true, calK_some, rk_nil, rk_int, rk_ref, tl_some, tl_none, nb_int, nb_0, nb_1, nb_if, nb_if']
      rw [if_pos (by decide), if_pos (by decide), unK_0 0 (by omega) j (by omega) (Or.inl rfl), decide_eq_false c]
      rfl
  | succ m ih =>
    intro k hk hm
    by_cases c : k = j
    · exact same k c hk
    · by_cases h0 : k = 0
      · exact ih k hk (by omega)
      · obtain ⟨a1, a2⟩ := abK_lt k (by omega) h0
        rw [sX6_isUnder_2]
        simp only [sX6_isUnder_0, sX6_isUnder_1, sX6_isUnder_3, sX6_isUnder_6, sX6_isUnder_7, sX6_isUnder_8, sX6_isUnder_11, sX6_isUnder_12, sX6_isUnder_15, sX6_isUnder_16, sX6_isUnder_19, sX6_isUnder_20, sX6_isUnder_23, sX6_isUnder_24, sX6_isUnder_27, sX6_isUnder_28, opK_some, guK_true, calK_some, rk_nil, rk_int, rk_ref, tl_some, tl_none, nb_int, nb_0, nb_1, nb_if, nb_if', C_m_above k hk, a2]
        rw [if_neg (nI_pos (by omega)), if_neg (fun z => c (nI_inj (by omega) (by omega) z)), unK_up k (by omega) j (by omega) h0 c]
        exact ih _ (by omega) (by omega)
theorem C_m_isUnder {d k j : Nat} {M : Mem} (hk : k ≤ 6) (hj : j ≤ 6) : call (d + 2) 144 [.int (nI k), .int (nI j)] M = some (some (.int (if unK k j then 1 else 0)), M) := by
  rw [nX6_isUnder]
  simp only [sX6_isUnder_0, sX6_isUnder_1, sX6_isUnder_3, sX6_isUnder_6, sX6_isUnder_7, sX6_isUnder_8, sX6_isUnder_11, sX6_isUnder_12, sX6_isUnder_15, sX6_isUnder_16, sX6_isUnder_19, sX6_isUnder_20, sX6_isUnder_23, sX6_isUnder_24, sX6_isUnder_27, sX6_isUnder_28, opK_some, guK_true, calK_some, rk_nil, rk_int, rk_ref, tl_some, tl_none, nb_int, nb_0, nb_1, nb_if, nb_if']
  exact U_m hj 6 k hk hk
theorem C_m_isUnder' {d k : Nat} {M : Mem} (hk : k ≤ 6) : (call (d + 2) 144 [.int (nI k), .int 1] M = some (some (.int (if unK k 1 then 1 else 0)), M)) ∧ (call (d + 2) 144 [.int (nI k), .int 2] M = some (some (.int (if unK k 2 then 1 else 0)), M)) ∧ (call (d + 2) 144 [.int (nI k), .int 3] M = some (some (.int (if unK k 3 then 1 else 0)), M)) := ⟨C_m_isUnder (j := 1) hk (by omega), C_m_isUnder (j := 2) hk (by omega), C_m_isUnder (j := 3) hk (by omega)⟩
theorem C_m_takes {d t : Nat} {M : Mem} (w : WR (M 131)) (ht : t < 10) : call (d + 3) 143 [.ref 130, .int (nI t)] M = some (some (.int (tkK (M 131 (at9 t 0)))), M) := by
  obtain ⟨k1, k2⟩ := (w.2.2.2 _ ht).1
  obtain ⟨k, hk⟩ : ∃ k, k = iN (M 131 (at9 t 0)) := ⟨_, rfl⟩
  rw [← hk] at k1 k2
  rw [nX6_takes]
  simp only [sX6_takes_0, sX6_takes_1, sX6_takes_2, sX6_takes_3, sX6_takes_6, sX6_takes_7, sX6_takes_8, sX6_takes_9, sX6_takes_12, sX6_takes_13, sX6_takes_16, sX6_takes_17, sX6_takes_18, sX6_takes_21, sX6_takes_22, sX6_takes_23, sX6_takes_26, sX6_takes_27, sX6_takes_30, sX6_takes_31, sX6_takes_32, sX6_takes_35, sX6_takes_38, sX6_takes_39, sX6_takes_42, sX6_takes_43, opK_some, guK_true, calK_some, rk_nil, rk_int, rk_ref, tl_some, tl_none, nb_int, nb_0, nb_1, nb_if, nb_if', q130, T0 ht, k2, (C_m_isUnder' k1).2.1]
  rcases (show k = 0 ∨ k = 1 ∨ k = 2 ∨ k = 3 ∨ k = 4 ∨ k = 5 ∨ k = 6 by omega) with rfl | rfl | rfl | rfl | rfl | rfl | rfl <;> rfl
theorem C_m_stains {d t : Nat} {M : Mem} (w : WR (M 131)) (ht : t < 10) : call (d + 3) 146 [.ref 130, .int (nI t)] M = some (some (.int (stK (M 131 (at9 t 0)))), M) := by
  obtain ⟨k1, k2⟩ := (w.2.2.2 _ ht).1
  obtain ⟨k, hk⟩ : ∃ k, k = iN (M 131 (at9 t 0)) := ⟨_, rfl⟩
  rw [← hk] at k1 k2
  rw [nX6_stains]
  simp only [sX6_stains_0, sX6_stains_1, sX6_stains_2, sX6_stains_3, sX6_stains_44, sX6_stains_45, sX6_stains_46, sX6_stains_47, sX6_stains_48, sX6_stains_49, sX6_stains_50, sX6_stains_51, opK_some, guK_true, calK_some, rk_nil, rk_int, rk_ref, tl_some, tl_none, nb_int, nb_0, nb_1, nb_if, nb_if', q130, T0 ht, k2]
  rcases (show k = 0 ∨ k = 1 ∨ k = 2 ∨ k = 3 ∨ k = 4 ∨ k = 5 ∨ k = 6 by omega) with rfl | rfl | rfl | rfl | rfl | rfl | rfl
  · rw [sX6_stains_6, if_pos (by decide)]
    simp only [sX6_stains_0, sX6_stains_1, sX6_stains_2, sX6_stains_3, sX6_stains_44, sX6_stains_45, sX6_stains_46, sX6_stains_47, sX6_stains_48, sX6_stains_49, sX6_stains_50, sX6_stains_51, opK_some, guK_true, calK_some, rk_nil, rk_int, rk_ref, tl_some, tl_none, nb_int, nb_0, nb_1, nb_if, nb_if']
    rfl
  · rw [sX6_stains_6, if_neg (by decide), show (([44, 46, 50, 50, 46, 48] : List Nat).getD ((nI 1).toInt - 1).toNat 0) = 44 by decide]
    simp only [sX6_stains_0, sX6_stains_1, sX6_stains_2, sX6_stains_3, sX6_stains_44, sX6_stains_45, sX6_stains_46, sX6_stains_47, sX6_stains_48, sX6_stains_49, sX6_stains_50, sX6_stains_51, opK_some, guK_true, calK_some, rk_nil, rk_int, rk_ref, tl_some, tl_none, nb_int, nb_0, nb_1, nb_if, nb_if']
    rfl
  · rw [sX6_stains_6, if_neg (by decide), show (([44, 46, 50, 50, 46, 48] : List Nat).getD ((nI 2).toInt - 1).toNat 0) = 46 by decide]
    simp only [sX6_stains_0, sX6_stains_1, sX6_stains_2, sX6_stains_3, sX6_stains_44, sX6_stains_45, sX6_stains_46, sX6_stains_47, sX6_stains_48, sX6_stains_49, sX6_stains_50, sX6_stains_51, opK_some, guK_true, calK_some, rk_nil, rk_int, rk_ref, tl_some, tl_none, nb_int, nb_0, nb_1, nb_if, nb_if']
    rfl
  · rw [sX6_stains_6, if_neg (by decide), show (([44, 46, 50, 50, 46, 48] : List Nat).getD ((nI 3).toInt - 1).toNat 0) = 50 by decide]
    simp only [sX6_stains_0, sX6_stains_1, sX6_stains_2, sX6_stains_3, sX6_stains_44, sX6_stains_45, sX6_stains_46, sX6_stains_47, sX6_stains_48, sX6_stains_49, sX6_stains_50, sX6_stains_51, opK_some, guK_true, calK_some, rk_nil, rk_int, rk_ref, tl_some, tl_none, nb_int, nb_0, nb_1, nb_if, nb_if']
    rfl
  · rw [sX6_stains_6, if_neg (by decide), show (([44, 46, 50, 50, 46, 48] : List Nat).getD ((nI 4).toInt - 1).toNat 0) = 50 by decide]
    simp only [sX6_stains_0, sX6_stains_1, sX6_stains_2, sX6_stains_3, sX6_stains_44, sX6_stains_45, sX6_stains_46, sX6_stains_47, sX6_stains_48, sX6_stains_49, sX6_stains_50, sX6_stains_51, opK_some, guK_true, calK_some, rk_nil, rk_int, rk_ref, tl_some, tl_none, nb_int, nb_0, nb_1, nb_if, nb_if']
    rfl
  · rw [sX6_stains_6, if_neg (by decide), show (([44, 46, 50, 50, 46, 48] : List Nat).getD ((nI 5).toInt - 1).toNat 0) = 46 by decide]
    simp only [sX6_stains_0, sX6_stains_1, sX6_stains_2, sX6_stains_3, sX6_stains_44, sX6_stains_45, sX6_stains_46, sX6_stains_47, sX6_stains_48, sX6_stains_49, sX6_stains_50, sX6_stains_51, opK_some, guK_true, calK_some, rk_nil, rk_int, rk_ref, tl_some, tl_none, nb_int, nb_0, nb_1, nb_if, nb_if']
    rfl
  · rw [sX6_stains_6, if_neg (by decide), show (([44, 46, 50, 50, 46, 48] : List Nat).getD ((nI 6).toInt - 1).toNat 0) = 48 by decide]
    simp only [sX6_stains_0, sX6_stains_1, sX6_stains_2, sX6_stains_3, sX6_stains_44, sX6_stains_45, sX6_stains_46, sX6_stains_47, sX6_stains_48, sX6_stains_49, sX6_stains_50, sX6_stains_51, opK_some, guK_true, calK_some, rk_nil, rk_int, rk_ref, tl_some, tl_none, nb_int, nb_0, nb_1, nb_if, nb_if']
    rfl
theorem leK_un {k : Nat} {x y : Int32} : ∀ (_ : k ≤ 6), leK (nI k) x y = if unK k 1 then x / 2 else if unK k 3 then mx0 (x - y / 2) + (if nI k = 4 then 5 else 0) else if nI k = 6 then (if y = 0 then x else 0) else mx0 (x - y) := by
  intro h
  rcases (show k = 0 ∨ k = 1 ∨ k = 2 ∨ k = 3 ∨ k = 4 ∨ k = 5 ∨ k = 6 by omega) with rfl | rfl | rfl | rfl | rfl | rfl | rfl
  · exact leK_0
  · exact leK_1
  · exact leK_2
  · rw [leK_3]
    show _ = mx0 (x - y / 2) + 0
    rw [Int32.add_zero]
  · exact leK_4
  · exact leK_5
  · exact leK_6
theorem C_m_left {d t : Nat} {M : Mem} (w : WR (M 131)) (ht : t < 10) : call (d + 3) 147 [.ref 130, .int (nI t)] M = some (some (.int (leK (M 131 (at9 t 0)) (M 131 (at9 t 2)) (M 131 (at9 t 6)))), M) := by
  obtain ⟨k1, k2⟩ := (w.2.2.2 _ ht).1
  obtain ⟨k, hk⟩ : ∃ k, k = iN (M 131 (at9 t 0)) := ⟨_, rfl⟩
  rw [← hk] at k1 k2
  rw [nX6_left]
  simp only [sX6_left_0, sX6_left_1, sX6_left_2, sX6_left_3, sX6_left_6, sX6_left_7, sX6_left_8, sX6_left_9, sX6_left_11, sX6_left_14, sX6_left_15, sX6_left_16, sX6_left_17, sX6_left_18, sX6_left_21, sX6_left_23, sX6_left_25, sX6_left_26, sX6_left_29, sX6_left_32, sX6_left_33, sX6_left_34, sX6_left_35, sX6_left_36, sX6_left_38, sX6_left_39, sX6_left_42, sX6_left_45, sX6_left_46, sX6_left_47, sX6_left_48, sX6_left_49, sX6_left_50, sX6_left_51, sX6_left_54, sX6_left_56, sX6_left_57, sX6_left_60, sX6_left_61, sX6_left_64, sX6_left_65, sX6_left_66, sX6_left_67, sX6_left_69, sX6_left_71, sX6_left_74, sX6_left_75, sX6_left_78, sX6_left_79, sX6_left_82, sX6_left_83, sX6_left_86, sX6_left_87, sX6_left_88, sX6_left_89, sX6_left_90, sX6_left_93, opK_some, guK_true, calK_some, rk_nil, rk_int, rk_ref, tl_some, tl_none, nb_int, nb_0, nb_1, nb_if, nb_if', q130, T0 ht, T2 ht, T6 ht, k2, (C_m_isUnder' k1).1, (C_m_isUnder' k1).2.2, show decide (¬ ((2 : Int32) = 0)) = true from rfl, mx0_fold]
  rw [leK_un k1]
  by_cases c1 : unK k 1 = true
  · rw [if_pos c1, if_neg (by decide), if_pos c1]
  · rw [if_neg c1, if_pos rfl, if_neg c1]
    by_cases c3 : unK k 3 = true
    · rw [if_pos c3, if_neg (by decide), if_pos c3]
      by_cases c4 : nI k = 4
      · simp only [c4, if_true]
      · simp only [c4, if_false]
    · rw [if_neg c3, if_pos rfl, if_neg c3]
      by_cases c6 : nI k = 6
      · simp only [c6, if_true]
        by_cases c0 : M 131 (at9 t 6) = 0
        · simp only [c0, if_true]
        · simp only [c0, if_false]
      · simp only [c6, if_false]
theorem C_m_stainsAt {d : Nat} {M : Mem} {x : Int32} (w : WR (M 131)) : call (d + 4) 166 [.ref 130, .int x] M = some (some (.int (saR (M 131) x)), M) := by
  have h8 := wr_C w
  rw [nX6_stainsAt]
  simp only [sX6_stainsAt_0, sX6_stainsAt_1, sX6_stainsAt_2, sX6_stainsAt_3, sX6_stainsAt_6, sX6_stainsAt_7, sX6_stainsAt_8, sX6_stainsAt_9, sX6_stainsAt_10, sX6_stainsAt_13, sX6_stainsAt_17, sX6_stainsAt_18, sX6_stainsAt_21, sX6_stainsAt_23, sX6_stainsAt_24, sX6_stainsAt_25, sX6_stainsAt_26, sX6_stainsAt_29, sX6_stainsAt_32, sX6_stainsAt_33, opK_some, guK_true, calK_some, rk_nil, rk_int, rk_ref, tl_some, tl_none, nb_int, nb_0, nb_1, nb_if, nb_if', o130_0, a131, ib_4_132, tn_4, C_m_within]
  unfold saR
  by_cases h : 0 ≤ x ∧ x < M 131 4
  · obtain ⟨j, hj, rfl⟩ := nI_of (Int32.not_lt.mpr h.1)
    have h2 := h.2
    rw [h8.2] at h2
    have hjn : j < nC (M 131) := (nI_ltI hj (by omega)).mp h2
    obtain ⟨c1, c2⟩ := wr_cr w hjn
    have hle : nI j ≤ M 131 4 - 1 := by rw [h8.2, pk_sub1 (by omega)]; exact nI_le (by omega) (by omega)
    rw [if_pos (And.intro h.1 hle), if_neg (by decide), if_pos h, sX6_stainsAt_16]
    simp only [sX6_stainsAt_0, sX6_stainsAt_1, sX6_stainsAt_2, sX6_stainsAt_3, sX6_stainsAt_6, sX6_stainsAt_7, sX6_stainsAt_8, sX6_stainsAt_9, sX6_stainsAt_10, sX6_stainsAt_13, sX6_stainsAt_17, sX6_stainsAt_18, sX6_stainsAt_21, sX6_stainsAt_23, sX6_stainsAt_24, sX6_stainsAt_25, sX6_stainsAt_26, sX6_stainsAt_29, sX6_stainsAt_32, sX6_stainsAt_33, opK_some, guK_true, calK_some, rk_nil, rk_int, rk_ref, tl_some, tl_none, nb_int, nb_0, nb_1, nb_if, nb_if', o130_0, a131, q130, I88, inb_nI (show 88 + j < 132 by omega) (by omega), nI_clamp (show 88 + j < 2 ^ 31 by omega), c2, C_m_stains w c1]
    rw [iN_nI hj]
  · rw [if_neg h]
    have hn : ¬ (0 ≤ x ∧ x ≤ M 131 4 - 1) := by
      intro z
      refine h ⟨z.1, ?_⟩
      obtain ⟨j, hj, rfl⟩ := nI_of (Int32.not_lt.mpr z.1)
      rcases Nat.eq_zero_or_pos (nC (M 131)) with q | q
      · have := z.2
        rw [h8.2, q] at this
        exact absurd this (Int32.not_le.mpr (Int32.lt_of_lt_of_le (show nI 0 - 1 < nI 0 by decide) (nI_le (by omega) hj)))
      · have h3 := z.2
        rw [h8.2, pk_sub1 (by omega)] at h3
        have := (nI_leI hj (by omega)).mp h3
        rw [h8.2]
        exact nI_lt (by omega) (by omega)
    rw [if_neg hn, if_pos rfl]
theorem C_m_becomesHow {d t : Nat} {M : Mem} {x : Int32} (ht : t < 10) : call (d + 2) 156 [.ref 130, .int (nI t), .int x] M = some (none, mrow M 131 (becR (M 131) t x)) := by
  have h4 := at9_lt (f := 4) ht (by omega)
  have h5 := at9_lt (f := 5) ht (by omega)
  have h6 := at9_lt (f := 6) ht (by omega)
  rw [nX6_becomesHow]
  simp only [sX6_becomesHow_0, sX6_becomesHow_1, sX6_becomesHow_4, sX6_becomesHow_5, sX6_becomesHow_6, sX6_becomesHow_9, sX6_becomesHow_10, sX6_becomesHow_11, sX6_becomesHow_12, sX6_becomesHow_15, sX6_becomesHow_16, sX6_becomesHow_17, sX6_becomesHow_20, sX6_becomesHow_21, sX6_becomesHow_22, sX6_becomesHow_23, sX6_becomesHow_26, sX6_becomesHow_27, sX6_becomesHow_29, sX6_becomesHow_32, sX6_becomesHow_33, sX6_becomesHow_34, opK_some, guK_true, calK_some, rk_nil, rk_int, rk_ref, tl_some, tl_none, nb_int, nb_0, nb_1, nb_if, nb_if', o130_0, b131, C_m_at, A9_4, A9_5, A9_6, inb_nI (show at9 t 4 < 132 by omega) (by omega), inb_nI (show at9 t 5 < 132 by omega) (by omega), inb_nI (show at9 t 6 < 132 by omega) (by omega), nI_clamp (show at9 t 4 < 2 ^ 31 by omega), nI_clamp (show at9 t 5 < 2 ^ 31 by omega), nI_clamp (show at9 t 6 < 2 ^ 31 by omega), mset_mrow, mrow_at, mrow_mrow]
  rfl
theorem C_m_feeds {d t : Nat} {M : Mem} (w : WR (M 131)) (ht : t < 10) (h8 : M 131 4 < 8) : call (d + 3) 155 [.ref 130, .int (nI t)] M = some (some (.int (M 131 4 + 1)), mrow M 131 (feedR (M 131) t)) := by
  have hn := (wr_lt8 w).mp h8
  have h9 := wr_C w
  have e4 : becR (M 131) t 1 4 = M 131 4 := bec_ne (by omega) ht
  have e4' : upd (becR (M 131) t 1) (88 + nC (M 131)) (nI t) 4 = M 131 4 := by rw [upd_ne (by omega)]; exact e4
  have ei : (88 : Int32) + M 131 4 = nI (88 + nC (M 131)) := by rw [h9.2]; exact I88
  rw [nX6_feeds]
  simp only [sX6_feeds_0, sX6_feeds_1, sX6_feeds_2, sX6_feeds_3, sX6_feeds_6, sX6_feeds_7, sX6_feeds_10, sX6_feeds_12, sX6_feeds_13, sX6_feeds_16, sX6_feeds_17, sX6_feeds_18, sX6_feeds_19, sX6_feeds_20, sX6_feeds_21, sX6_feeds_22, sX6_feeds_25, sX6_feeds_26, sX6_feeds_27, sX6_feeds_28, sX6_feeds_29, sX6_feeds_30, sX6_feeds_31, sX6_feeds_32, sX6_feeds_35, sX6_feeds_36, sX6_feeds_37, opK_some, guK_true, calK_some, rk_nil, rk_int, rk_ref, tl_some, tl_none, nb_int, nb_0, nb_1, nb_if, nb_if', o130_0, a131, b131, q130, C_m_becomesHow ht, ib_4_132, tn_4, mrow_at, e4, ei, inb_nI (show 88 + nC (M 131) < 132 by omega) (by omega), nI_clamp (show 88 + nC (M 131) < 2 ^ 31 by omega), mset_mrow, mrow_mrow, e4', upd_at]
  rfl
theorem C_m_comes {d : Nat} {M : Mem} {k bk wo ow : Int32} (w : WR (M 131)) (h8 : M 131 3 < 10) : call (d + 2) 138 [.ref 130, .int k, .int bk, .int wo, .int ow] M = some (some (.int (M 131 3)), mrow M 131 (comR (M 131) k bk wo ow)) := by
  have ht := (wr_lt10 w).mp h8
  have h9 := wr_T w
  obtain ⟨t, et⟩ : ∃ t, t = nT (M 131) := ⟨_, rfl⟩
  rw [← et] at ht h9
  have hl : ∀ f, f < 7 → at9 t f < 88 := fun f hf => at9_lt ht hf
  have h0 := hl 0 (by omega)
  have h1 := hl 1 (by omega)
  have h2 := hl 2 (by omega)
  have h3 := hl 3 (by omega)
  have h4 := hl 4 (by omega)
  have h5 := hl 5 (by omega)
  have h6 := hl 6 (by omega)
  rw [nX6_comes]
  simp only [sX6_comes_0, sX6_comes_1, sX6_comes_4, sX6_comes_5, sX6_comes_6, sX6_comes_8, sX6_comes_9, sX6_comes_12, sX6_comes_14, sX6_comes_15, sX6_comes_18, sX6_comes_19, sX6_comes_21, sX6_comes_24, sX6_comes_26, sX6_comes_27, sX6_comes_30, sX6_comes_31, sX6_comes_33, sX6_comes_36, sX6_comes_38, sX6_comes_39, sX6_comes_42, sX6_comes_43, sX6_comes_45, sX6_comes_48, sX6_comes_50, sX6_comes_51, sX6_comes_54, sX6_comes_56, sX6_comes_58, sX6_comes_61, sX6_comes_63, sX6_comes_64, sX6_comes_67, sX6_comes_68, sX6_comes_70, sX6_comes_73, sX6_comes_75, sX6_comes_76, sX6_comes_79, sX6_comes_80, sX6_comes_82, sX6_comes_85, sX6_comes_87, sX6_comes_89, sX6_comes_92, sX6_comes_93, sX6_comes_95, sX6_comes_98, sX6_comes_99, sX6_comes_100, sX6_comes_101, sX6_comes_102, sX6_comes_103, sX6_comes_104, sX6_comes_106, opK_some, guK_true, calK_some, rk_nil, rk_int, rk_ref, tl_some, tl_none, nb_int, nb_0, nb_1, nb_if, nb_if', o130_0, a131, b131, ib_3_132, tn_3, h9.2, C_m_at, A9_0, A9_1, A9_2, A9_3, A9_4, A9_5, A9_6, inb_nI (show at9 t 0 < 132 by omega) (by omega), inb_nI (show at9 t 1 < 132 by omega) (by omega), inb_nI (show at9 t 2 < 132 by omega) (by omega), inb_nI (show at9 t 3 < 132 by omega) (by omega), inb_nI (show at9 t 4 < 132 by omega) (by omega), inb_nI (show at9 t 5 < 132 by omega) (by omega), inb_nI (show at9 t 6 < 132 by omega) (by omega), nI_clamp (show at9 t 0 < 2 ^ 31 by omega), nI_clamp (show at9 t 1 < 2 ^ 31 by omega), nI_clamp (show at9 t 2 < 2 ^ 31 by omega), nI_clamp (show at9 t 3 < 2 ^ 31 by omega), nI_clamp (show at9 t 4 < 2 ^ 31 by omega), nI_clamp (show at9 t 5 < 2 ^ 31 by omega), nI_clamp (show at9 t 6 < 2 ^ 31 by omega), mset_mrow, mrow_at, mrow_mrow]
  rw [sX6_comes_20]
  simp only [sX6_comes_0, sX6_comes_1, sX6_comes_4, sX6_comes_5, sX6_comes_6, sX6_comes_8, sX6_comes_9, sX6_comes_12, sX6_comes_14, sX6_comes_15, sX6_comes_18, sX6_comes_19, sX6_comes_21, sX6_comes_24, sX6_comes_26, sX6_comes_27, sX6_comes_30, sX6_comes_31, sX6_comes_33, sX6_comes_36, sX6_comes_38, sX6_comes_39, sX6_comes_42, sX6_comes_43, sX6_comes_45, sX6_comes_48, sX6_comes_50, sX6_comes_51, sX6_comes_54, sX6_comes_56, sX6_comes_58, sX6_comes_61, sX6_comes_63, sX6_comes_64, sX6_comes_67, sX6_comes_68, sX6_comes_70, sX6_comes_73, sX6_comes_75, sX6_comes_76, sX6_comes_79, sX6_comes_80, sX6_comes_82, sX6_comes_85, sX6_comes_87, sX6_comes_89, sX6_comes_92, sX6_comes_93, sX6_comes_95, sX6_comes_98, sX6_comes_99, sX6_comes_100, sX6_comes_101, sX6_comes_102, sX6_comes_103, sX6_comes_104, sX6_comes_106, opK_some, guK_true, calK_some, rk_nil, rk_int, rk_ref, tl_some, tl_none, nb_int, nb_0, nb_1, nb_if, nb_if', o130_0, a131, b131, ib_3_132, tn_3, h9.2, C_m_at, A9_0, A9_1, A9_2, A9_3, A9_4, A9_5, A9_6, inb_nI (show at9 t 0 < 132 by omega) (by omega), inb_nI (show at9 t 1 < 132 by omega) (by omega), inb_nI (show at9 t 2 < 132 by omega) (by omega), inb_nI (show at9 t 3 < 132 by omega) (by omega), inb_nI (show at9 t 4 < 132 by omega) (by omega), inb_nI (show at9 t 5 < 132 by omega) (by omega), inb_nI (show at9 t 6 < 132 by omega) (by omega), nI_clamp (show at9 t 0 < 2 ^ 31 by omega), nI_clamp (show at9 t 1 < 2 ^ 31 by omega), nI_clamp (show at9 t 2 < 2 ^ 31 by omega), nI_clamp (show at9 t 3 < 2 ^ 31 by omega), nI_clamp (show at9 t 4 < 2 ^ 31 by omega), nI_clamp (show at9 t 5 < 2 ^ 31 by omega), nI_clamp (show at9 t 6 < 2 ^ 31 by omega), mset_mrow, mrow_at, mrow_mrow]
  rw [sX6_comes_32]
  simp only [sX6_comes_0, sX6_comes_1, sX6_comes_4, sX6_comes_5, sX6_comes_6, sX6_comes_8, sX6_comes_9, sX6_comes_12, sX6_comes_14, sX6_comes_15, sX6_comes_18, sX6_comes_19, sX6_comes_21, sX6_comes_24, sX6_comes_26, sX6_comes_27, sX6_comes_30, sX6_comes_31, sX6_comes_33, sX6_comes_36, sX6_comes_38, sX6_comes_39, sX6_comes_42, sX6_comes_43, sX6_comes_45, sX6_comes_48, sX6_comes_50, sX6_comes_51, sX6_comes_54, sX6_comes_56, sX6_comes_58, sX6_comes_61, sX6_comes_63, sX6_comes_64, sX6_comes_67, sX6_comes_68, sX6_comes_70, sX6_comes_73, sX6_comes_75, sX6_comes_76, sX6_comes_79, sX6_comes_80, sX6_comes_82, sX6_comes_85, sX6_comes_87, sX6_comes_89, sX6_comes_92, sX6_comes_93, sX6_comes_95, sX6_comes_98, sX6_comes_99, sX6_comes_100, sX6_comes_101, sX6_comes_102, sX6_comes_103, sX6_comes_104, sX6_comes_106, opK_some, guK_true, calK_some, rk_nil, rk_int, rk_ref, tl_some, tl_none, nb_int, nb_0, nb_1, nb_if, nb_if', o130_0, a131, b131, ib_3_132, tn_3, h9.2, C_m_at, A9_0, A9_1, A9_2, A9_3, A9_4, A9_5, A9_6, inb_nI (show at9 t 0 < 132 by omega) (by omega), inb_nI (show at9 t 1 < 132 by omega) (by omega), inb_nI (show at9 t 2 < 132 by omega) (by omega), inb_nI (show at9 t 3 < 132 by omega) (by omega), inb_nI (show at9 t 4 < 132 by omega) (by omega), inb_nI (show at9 t 5 < 132 by omega) (by omega), inb_nI (show at9 t 6 < 132 by omega) (by omega), nI_clamp (show at9 t 0 < 2 ^ 31 by omega), nI_clamp (show at9 t 1 < 2 ^ 31 by omega), nI_clamp (show at9 t 2 < 2 ^ 31 by omega), nI_clamp (show at9 t 3 < 2 ^ 31 by omega), nI_clamp (show at9 t 4 < 2 ^ 31 by omega), nI_clamp (show at9 t 5 < 2 ^ 31 by omega), nI_clamp (show at9 t 6 < 2 ^ 31 by omega), mset_mrow, mrow_at, mrow_mrow]
  rw [sX6_comes_44]
  simp only [sX6_comes_0, sX6_comes_1, sX6_comes_4, sX6_comes_5, sX6_comes_6, sX6_comes_8, sX6_comes_9, sX6_comes_12, sX6_comes_14, sX6_comes_15, sX6_comes_18, sX6_comes_19, sX6_comes_21, sX6_comes_24, sX6_comes_26, sX6_comes_27, sX6_comes_30, sX6_comes_31, sX6_comes_33, sX6_comes_36, sX6_comes_38, sX6_comes_39, sX6_comes_42, sX6_comes_43, sX6_comes_45, sX6_comes_48, sX6_comes_50, sX6_comes_51, sX6_comes_54, sX6_comes_56, sX6_comes_58, sX6_comes_61, sX6_comes_63, sX6_comes_64, sX6_comes_67, sX6_comes_68, sX6_comes_70, sX6_comes_73, sX6_comes_75, sX6_comes_76, sX6_comes_79, sX6_comes_80, sX6_comes_82, sX6_comes_85, sX6_comes_87, sX6_comes_89, sX6_comes_92, sX6_comes_93, sX6_comes_95, sX6_comes_98, sX6_comes_99, sX6_comes_100, sX6_comes_101, sX6_comes_102, sX6_comes_103, sX6_comes_104, sX6_comes_106, opK_some, guK_true, calK_some, rk_nil, rk_int, rk_ref, tl_some, tl_none, nb_int, nb_0, nb_1, nb_if, nb_if', o130_0, a131, b131, ib_3_132, tn_3, h9.2, C_m_at, A9_0, A9_1, A9_2, A9_3, A9_4, A9_5, A9_6, inb_nI (show at9 t 0 < 132 by omega) (by omega), inb_nI (show at9 t 1 < 132 by omega) (by omega), inb_nI (show at9 t 2 < 132 by omega) (by omega), inb_nI (show at9 t 3 < 132 by omega) (by omega), inb_nI (show at9 t 4 < 132 by omega) (by omega), inb_nI (show at9 t 5 < 132 by omega) (by omega), inb_nI (show at9 t 6 < 132 by omega) (by omega), nI_clamp (show at9 t 0 < 2 ^ 31 by omega), nI_clamp (show at9 t 1 < 2 ^ 31 by omega), nI_clamp (show at9 t 2 < 2 ^ 31 by omega), nI_clamp (show at9 t 3 < 2 ^ 31 by omega), nI_clamp (show at9 t 4 < 2 ^ 31 by omega), nI_clamp (show at9 t 5 < 2 ^ 31 by omega), nI_clamp (show at9 t 6 < 2 ^ 31 by omega), mset_mrow, mrow_at, mrow_mrow]
  rw [sX6_comes_57]
  simp only [sX6_comes_0, sX6_comes_1, sX6_comes_4, sX6_comes_5, sX6_comes_6, sX6_comes_8, sX6_comes_9, sX6_comes_12, sX6_comes_14, sX6_comes_15, sX6_comes_18, sX6_comes_19, sX6_comes_21, sX6_comes_24, sX6_comes_26, sX6_comes_27, sX6_comes_30, sX6_comes_31, sX6_comes_33, sX6_comes_36, sX6_comes_38, sX6_comes_39, sX6_comes_42, sX6_comes_43, sX6_comes_45, sX6_comes_48, sX6_comes_50, sX6_comes_51, sX6_comes_54, sX6_comes_56, sX6_comes_58, sX6_comes_61, sX6_comes_63, sX6_comes_64, sX6_comes_67, sX6_comes_68, sX6_comes_70, sX6_comes_73, sX6_comes_75, sX6_comes_76, sX6_comes_79, sX6_comes_80, sX6_comes_82, sX6_comes_85, sX6_comes_87, sX6_comes_89, sX6_comes_92, sX6_comes_93, sX6_comes_95, sX6_comes_98, sX6_comes_99, sX6_comes_100, sX6_comes_101, sX6_comes_102, sX6_comes_103, sX6_comes_104, sX6_comes_106, opK_some, guK_true, calK_some, rk_nil, rk_int, rk_ref, tl_some, tl_none, nb_int, nb_0, nb_1, nb_if, nb_if', o130_0, a131, b131, ib_3_132, tn_3, h9.2, C_m_at, A9_0, A9_1, A9_2, A9_3, A9_4, A9_5, A9_6, inb_nI (show at9 t 0 < 132 by omega) (by omega), inb_nI (show at9 t 1 < 132 by omega) (by omega), inb_nI (show at9 t 2 < 132 by omega) (by omega), inb_nI (show at9 t 3 < 132 by omega) (by omega), inb_nI (show at9 t 4 < 132 by omega) (by omega), inb_nI (show at9 t 5 < 132 by omega) (by omega), inb_nI (show at9 t 6 < 132 by omega) (by omega), nI_clamp (show at9 t 0 < 2 ^ 31 by omega), nI_clamp (show at9 t 1 < 2 ^ 31 by omega), nI_clamp (show at9 t 2 < 2 ^ 31 by omega), nI_clamp (show at9 t 3 < 2 ^ 31 by omega), nI_clamp (show at9 t 4 < 2 ^ 31 by omega), nI_clamp (show at9 t 5 < 2 ^ 31 by omega), nI_clamp (show at9 t 6 < 2 ^ 31 by omega), mset_mrow, mrow_at, mrow_mrow]
  rw [sX6_comes_69]
  simp only [sX6_comes_0, sX6_comes_1, sX6_comes_4, sX6_comes_5, sX6_comes_6, sX6_comes_8, sX6_comes_9, sX6_comes_12, sX6_comes_14, sX6_comes_15, sX6_comes_18, sX6_comes_19, sX6_comes_21, sX6_comes_24, sX6_comes_26, sX6_comes_27, sX6_comes_30, sX6_comes_31, sX6_comes_33, sX6_comes_36, sX6_comes_38, sX6_comes_39, sX6_comes_42, sX6_comes_43, sX6_comes_45, sX6_comes_48, sX6_comes_50, sX6_comes_51, sX6_comes_54, sX6_comes_56, sX6_comes_58, sX6_comes_61, sX6_comes_63, sX6_comes_64, sX6_comes_67, sX6_comes_68, sX6_comes_70, sX6_comes_73, sX6_comes_75, sX6_comes_76, sX6_comes_79, sX6_comes_80, sX6_comes_82, sX6_comes_85, sX6_comes_87, sX6_comes_89, sX6_comes_92, sX6_comes_93, sX6_comes_95, sX6_comes_98, sX6_comes_99, sX6_comes_100, sX6_comes_101, sX6_comes_102, sX6_comes_103, sX6_comes_104, sX6_comes_106, opK_some, guK_true, calK_some, rk_nil, rk_int, rk_ref, tl_some, tl_none, nb_int, nb_0, nb_1, nb_if, nb_if', o130_0, a131, b131, ib_3_132, tn_3, h9.2, C_m_at, A9_0, A9_1, A9_2, A9_3, A9_4, A9_5, A9_6, inb_nI (show at9 t 0 < 132 by omega) (by omega), inb_nI (show at9 t 1 < 132 by omega) (by omega), inb_nI (show at9 t 2 < 132 by omega) (by omega), inb_nI (show at9 t 3 < 132 by omega) (by omega), inb_nI (show at9 t 4 < 132 by omega) (by omega), inb_nI (show at9 t 5 < 132 by omega) (by omega), inb_nI (show at9 t 6 < 132 by omega) (by omega), nI_clamp (show at9 t 0 < 2 ^ 31 by omega), nI_clamp (show at9 t 1 < 2 ^ 31 by omega), nI_clamp (show at9 t 2 < 2 ^ 31 by omega), nI_clamp (show at9 t 3 < 2 ^ 31 by omega), nI_clamp (show at9 t 4 < 2 ^ 31 by omega), nI_clamp (show at9 t 5 < 2 ^ 31 by omega), nI_clamp (show at9 t 6 < 2 ^ 31 by omega), mset_mrow, mrow_at, mrow_mrow]
  rw [sX6_comes_81]
  simp only [sX6_comes_0, sX6_comes_1, sX6_comes_4, sX6_comes_5, sX6_comes_6, sX6_comes_8, sX6_comes_9, sX6_comes_12, sX6_comes_14, sX6_comes_15, sX6_comes_18, sX6_comes_19, sX6_comes_21, sX6_comes_24, sX6_comes_26, sX6_comes_27, sX6_comes_30, sX6_comes_31, sX6_comes_33, sX6_comes_36, sX6_comes_38, sX6_comes_39, sX6_comes_42, sX6_comes_43, sX6_comes_45, sX6_comes_48, sX6_comes_50, sX6_comes_51, sX6_comes_54, sX6_comes_56, sX6_comes_58, sX6_comes_61, sX6_comes_63, sX6_comes_64, sX6_comes_67, sX6_comes_68, sX6_comes_70, sX6_comes_73, sX6_comes_75, sX6_comes_76, sX6_comes_79, sX6_comes_80, sX6_comes_82, sX6_comes_85, sX6_comes_87, sX6_comes_89, sX6_comes_92, sX6_comes_93, sX6_comes_95, sX6_comes_98, sX6_comes_99, sX6_comes_100, sX6_comes_101, sX6_comes_102, sX6_comes_103, sX6_comes_104, sX6_comes_106, opK_some, guK_true, calK_some, rk_nil, rk_int, rk_ref, tl_some, tl_none, nb_int, nb_0, nb_1, nb_if, nb_if', o130_0, a131, b131, ib_3_132, tn_3, h9.2, C_m_at, A9_0, A9_1, A9_2, A9_3, A9_4, A9_5, A9_6, inb_nI (show at9 t 0 < 132 by omega) (by omega), inb_nI (show at9 t 1 < 132 by omega) (by omega), inb_nI (show at9 t 2 < 132 by omega) (by omega), inb_nI (show at9 t 3 < 132 by omega) (by omega), inb_nI (show at9 t 4 < 132 by omega) (by omega), inb_nI (show at9 t 5 < 132 by omega) (by omega), inb_nI (show at9 t 6 < 132 by omega) (by omega), nI_clamp (show at9 t 0 < 2 ^ 31 by omega), nI_clamp (show at9 t 1 < 2 ^ 31 by omega), nI_clamp (show at9 t 2 < 2 ^ 31 by omega), nI_clamp (show at9 t 3 < 2 ^ 31 by omega), nI_clamp (show at9 t 4 < 2 ^ 31 by omega), nI_clamp (show at9 t 5 < 2 ^ 31 by omega), nI_clamp (show at9 t 6 < 2 ^ 31 by omega), mset_mrow, mrow_at, mrow_mrow]
  rw [sX6_comes_94]
  simp only [sX6_comes_0, sX6_comes_1, sX6_comes_4, sX6_comes_5, sX6_comes_6, sX6_comes_8, sX6_comes_9, sX6_comes_12, sX6_comes_14, sX6_comes_15, sX6_comes_18, sX6_comes_19, sX6_comes_21, sX6_comes_24, sX6_comes_26, sX6_comes_27, sX6_comes_30, sX6_comes_31, sX6_comes_33, sX6_comes_36, sX6_comes_38, sX6_comes_39, sX6_comes_42, sX6_comes_43, sX6_comes_45, sX6_comes_48, sX6_comes_50, sX6_comes_51, sX6_comes_54, sX6_comes_56, sX6_comes_58, sX6_comes_61, sX6_comes_63, sX6_comes_64, sX6_comes_67, sX6_comes_68, sX6_comes_70, sX6_comes_73, sX6_comes_75, sX6_comes_76, sX6_comes_79, sX6_comes_80, sX6_comes_82, sX6_comes_85, sX6_comes_87, sX6_comes_89, sX6_comes_92, sX6_comes_93, sX6_comes_95, sX6_comes_98, sX6_comes_99, sX6_comes_100, sX6_comes_101, sX6_comes_102, sX6_comes_103, sX6_comes_104, sX6_comes_106, opK_some, guK_true, calK_some, rk_nil, rk_int, rk_ref, tl_some, tl_none, nb_int, nb_0, nb_1, nb_if, nb_if', o130_0, a131, b131, ib_3_132, tn_3, h9.2, C_m_at, A9_0, A9_1, A9_2, A9_3, A9_4, A9_5, A9_6, inb_nI (show at9 t 0 < 132 by omega) (by omega), inb_nI (show at9 t 1 < 132 by omega) (by omega), inb_nI (show at9 t 2 < 132 by omega) (by omega), inb_nI (show at9 t 3 < 132 by omega) (by omega), inb_nI (show at9 t 4 < 132 by omega) (by omega), inb_nI (show at9 t 5 < 132 by omega) (by omega), inb_nI (show at9 t 6 < 132 by omega) (by omega), nI_clamp (show at9 t 0 < 2 ^ 31 by omega), nI_clamp (show at9 t 1 < 2 ^ 31 by omega), nI_clamp (show at9 t 2 < 2 ^ 31 by omega), nI_clamp (show at9 t 3 < 2 ^ 31 by omega), nI_clamp (show at9 t 4 < 2 ^ 31 by omega), nI_clamp (show at9 t 5 < 2 ^ 31 by omega), nI_clamp (show at9 t 6 < 2 ^ 31 by omega), mset_mrow, mrow_at, mrow_mrow]
  have e3 : upd (upd (upd (upd (upd (upd (upd (M 131) (at9 t 0) k) (at9 t 1) bk) (at9 t 2) wo) (at9 t 3) ow) (at9 t 4) 0) (at9 t 5) 0) (at9 t 6) 0 3 = M 131 3 := by
    have := at9_ge t
    rw [upd_ne (by have := at9_ge t 6; omega), upd_ne (by have := at9_ge t 5; omega), upd_ne (by have := at9_ge t 4; omega), upd_ne (by have := at9_ge t 3; omega), upd_ne (by have := at9_ge t 2; omega), upd_ne (by have := at9_ge t 1; omega), upd_ne (by have := at9_ge t 0; omega)]
  rw [e3]
  unfold comR becR
  rw [← et]

