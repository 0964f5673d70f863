/-! the law's loop -/
def lwT : List Nat := [232, 255, 288, 331, 364, 387, 410, 433, 466, 489, 512, 545, 568, 591, 604, 637, 670, 713, 736, 759, 792, 815, 848, 881, 914, 947, 980, 1003, 1026, 1049, 1072, 1095, 1128, 1141, 1154, 1187, 1220, 1263, 1306, 1369, 1392, 1415, 1428, 1441, 1454, 1477]
theorem lB {L i : Nat} {xs : Nat → Int32} {M : Mem} (hi : i + 6 ≤ L) (hL : L ≤ 3072) (j : J M) : ∀ k, k < 46 → Blk L xs i (lwT.getD k 0) M := by
  intro k hk
  rcases (show k = 0 ∨ k = 1 ∨ k = 2 ∨ k = 3 ∨ k = 4 ∨ k = 5 ∨ k = 6 ∨ k = 7 ∨ k = 8 ∨ k = 9 ∨ k = 10 ∨ k = 11 ∨ k = 12 ∨ k = 13 ∨ k = 14 ∨ k = 15 ∨ k = 16 ∨ k = 17 ∨ k = 18 ∨ k = 19 ∨ k = 20 ∨ k = 21 ∨ k = 22 ∨ k = 23 ∨ k = 24 ∨ k = 25 ∨ k = 26 ∨ k = 27 ∨ k = 28 ∨ k = 29 ∨ k = 30 ∨ k = 31 ∨ k = 32 ∨ k = 33 ∨ k = 34 ∨ k = 35 ∨ k = 36 ∨ k = 37 ∨ k = 38 ∨ k = 39 ∨ k = 40 ∨ k = 41 ∨ k = 42 ∨ k = 43 ∨ k = 44 ∨ k = 45 by omega) with rfl | rfl | rfl | rfl | rfl | rfl | rfl | rfl | rfl | rfl | rfl | rfl | rfl | rfl | rfl | rfl | rfl | rfl | rfl | rfl | rfl | rfl | rfl | rfl | rfl | rfl | rfl | rfl | rfl | rfl | rfl | rfl | rfl | rfl | rfl | rfl | rfl | rfl | rfl | rfl | rfl | rfl | rfl | rfl | rfl | rfl
  · exact lB_0 hi hL j
  · exact lB_1 hi hL j
  · exact lB_2 hi hL j
  · exact lB_3 hi hL j
  · exact lB_4 hi hL j
  · exact lB_5 hi hL j
  · exact lB_6 hi hL j
  · exact lB_7 hi hL j
  · exact lB_8 hi hL j
  · exact lB_9 hi hL j
  · exact lB_10 hi hL j
  · exact lB_11 hi hL j
  · exact lB_12 hi hL j
  · exact lB_13 hi hL j
  · exact lB_14 hi hL j
  · exact lB_15 hi hL j
  · exact lB_16 hi hL j
  · exact lB_17 hi hL j
  · exact lB_18 hi hL j
  · exact lB_19 hi hL j
  · exact lB_20 hi hL j
  · exact lB_21 hi hL j
  · exact lB_22 hi hL j
  · exact lB_23 hi hL j
  · exact lB_24 hi hL j
  · exact lB_25 hi hL j
  · exact lB_26 hi hL j
  · exact lB_27 hi hL j
  · exact lB_28 hi hL j
  · exact lB_29 hi hL j
  · exact lB_30 hi hL j
  · exact lB_31 hi hL j
  · exact lB_32 hi hL j
  · exact lB_33 hi hL j
  · exact lB_34 hi hL j
  · exact lB_35 hi hL j
  · exact lB_36 hi hL j
  · exact lB_37 hi hL j
  · exact lB_38 hi hL j
  · exact lB_39 hi hL j
  · exact lB_40 hi hL j
  · exact lB_41 hi hL j
  · exact lB_42 hi hL j
  · exact lB_43 hi hL j
  · exact lB_44 hi hL j
  · exact lB_45 hi hL j
theorem law_end {L i : Nat} {xs : Nat → Int32} {M : Mem} (hL : L ≤ 3072) (hi : i ≤ 3072) (h : L < i + 6) : ∃ M', lim (call 40) (some (L, xs)) 7 cL_law (some .boolean) 18 (lvL i) [] M = some (some (.int 1), M') := by
  have lt : nI L - 6 < nI i := by
    by_cases c : 6 ≤ L
    · rw [show nI L - 6 = nI (L - 6) from pk_sub c]
      exact nI_lt (by omega) (by omega)
    · exact Int32.lt_of_lt_of_le (pk_sneg (a := L) (b := 6) (by omega) (by omega)) (nI_le (a := 0) (by omega) (by omega))
  rw [sL_law_18]
  simp only [sL_law_19, sL_law_20 (a198 (sc := some (L, xs))), sL_law_21, sL_law_23, sL_law_24, sL_law_1506, sL_law_1507, opK_some, guK_true, calK_some, rk_nil, rk_int, rk_ref, tl_some, tl_none, nb_int, nb_0, nb_1, nb_if, nb_if']
  rw [if_pos (show Int32.ofNat L - 6 < nI i from lt)]
  exact ⟨M, rfl⟩
theorem law_go {L : Nat} {xs : Nat → Int32} (hL : L ≤ 3072) : ∀ (m i : Nat) (M : Mem), L < i + 6 + m → i ≤ 3072 → J M → ∃ M', lim (call 40) (some (L, xs)) 7 cL_law (some .boolean) 18 (lvL i) [] M = some (some (.int 1), M') := by
  intro m
  induction m with
  | zero =>
    intro i M hm hi j
    exact law_end hL hi (by omega)
  | succ m ih =>
    intro i M hm hi j
    by_cases c : i + 6 ≤ L
    · have nlt : ¬ nI L - 6 < nI i := by
        rw [show nI L - 6 = nI (L - 6) from pk_sub (a := L) (b := 6) (by omega)]
        exact nI_nlt (by omega) (by omega)
      have go : ∃ M1, lim (call 40) (some (L, xs)) 7 cL_law (some .boolean) 33 (lvL i) [.int (xs i &&& 63)] M = lim (call 40) (some (L, xs)) 7 cL_law (some .boolean) 1500 (lvL i) [] M1 ∧ J M1 := by
        rw [sL_law_33]
        by_cases r : (xs i &&& 63).toInt < 0 ∨ 45 < (xs i &&& 63).toInt
        · rw [if_pos r]
          exact ⟨M, rfl, j⟩
        · rw [if_neg r]
          exact lB (xs := xs) c hL j ((xs i &&& 63).toInt - 0).toNat (by omega)
      obtain ⟨M1, c1, j1⟩ := go
      obtain ⟨M2, c2⟩ := ih (i + 6) M1 (by omega) (by omega) j1
      refine ⟨M2, ?_⟩
      rw [sL_law_18]
      simp only [sL_law_19, sL_law_20 (a198 (sc := some (L, xs))), sL_law_21, sL_law_23, sL_law_24, sL_law_27, sL_law_28, sL_law_29, sL_law_30, sL_law_32, opK_some, guK_true, calK_some, rk_nil, rk_int, rk_ref, tl_some, tl_none, nb_int, nb_0, nb_1, nb_if, nb_if', a198, inb_nI (show i < L by omega) (show L < 2 ^ 31 by omega), nI_clamp (show i < 2 ^ 31 by omega)]
      rw [if_neg (show ¬ Int32.ofNat L - 6 < nI i from nlt), c1, sL_law_1500]
      simp only [sL_law_1503, opK_some, guK_true, calK_some, rk_nil, rk_int, rk_ref, tl_some, tl_none, nb_int, nb_0, nb_1, nb_if, nb_if', show nI i + 6 = nI (i + 6) from nI_add i 6]
      exact c2
    · exact law_end hL hi (by omega)
