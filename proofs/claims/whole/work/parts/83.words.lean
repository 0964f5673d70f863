/-! words: strings of the machine -/
abbrev wl (w : Nat) : Nat := lenS.getD w 0
abbrev wc (w j : Nat) : Int32 := (bytS.getD w []).getD j 0
theorem str_lay : ∀ w, w < 12 → lay (160 + w) = (6, [180 + w]) := by decide +kernel
theorem str_cl : ∀ w, w < 12 → isCl 100 (160 + w) = true := by decide +kernel
theorem str_b {w : Nat} (h : w < 12) : arrB (180 + w) = some (wl w, fun j => wc w j) := by
  rcases (show w = 0 ∨ w = 1 ∨ w = 2 ∨ w = 3 ∨ w = 4 ∨ w = 5 ∨ w = 6 ∨ w = 7 ∨ w = 8 ∨ w = 9 ∨ w = 10 ∨ w = 11 by omega) with rfl | rfl | rfl | rfl | rfl | rfl | rfl | rfl | rfl | rfl | rfl | rfl <;> rfl
theorem str_v {w : Nat} {M : Mem} {sc : Scr} (h : w < 12) : arrV9 sc (180 + w) M = none := by
  rcases (show w = 0 ∨ w = 1 ∨ w = 2 ∨ w = 3 ∨ w = 4 ∨ w = 5 ∨ w = 6 ∨ w = 7 ∨ w = 8 ∨ w = 9 ∨ w = 10 ∨ w = 11 by omega) with rfl | rfl | rfl | rfl | rfl | rfl | rfl | rfl | rfl | rfl | rfl | rfl <;> rfl
theorem e_gf9 {cal : Cal} {sc : Scr} {ret : Option FieldType} {pc h b : Nat} {lv : Lv} {r : List Value} {M : Mem} {K : Nat → Lv → List Value → Mem → Option Rs} (hl : lay h = (6, [b])) : cont K (stp cal sc 9 ret (.getfield 9) 3 pc lv (.ref h :: r) M) = K (pc + 3) lv (.ref b :: r) M := by
  unfold stp
  simp only [popr, hl, if_true]
  rfl
theorem e_gf15 {cal : Cal} {sc : Scr} {ret : Option FieldType} {pc h b : Nat} {lv : Lv} {r : List Value} {M : Mem} {K : Nat → Lv → List Value → Mem → Option Rs} (hl : lay h = (6, [b])) : cont K (stp cal sc 9 ret (.getfield 15) 3 pc lv (.ref h :: r) M) = K (pc + 3) lv (.int 0 :: r) M := by
  unfold stp
  simp only [popr, hl, if_true]
  rfl
theorem e_lenB {cal : Cal} {sc : Scr} {oc : Nat} {ret : Option FieldType} {pc h : Nat} {lv : Lv} {r : List Value} {M : Mem} {K : Nat → Lv → List Value → Mem → Option Rs} {a : Nat × (Nat → Int32)} (h1 : arrV9 sc h M = none) (h2 : arrB h = some a) : cont K (stp cal sc oc ret .arraylength 1 pc lv (.ref h :: r) M) = K (pc + 1) lv (.int (Int32.ofNat a.1) :: r) M := by
  show cont K (match arrV9 sc h M with | some a => _ | none => _) = _
  rw [h1]
  show cont K (match arrB h with | some a => _ | none => _) = _
  rw [h2]
  rfl
theorem C_coder {d w : Nat} {M : Mem} (hw : w < 12) : call (d + 1) 98 [.ref (160 + w)] M = some (some (.int 0), M) := by
  have g : ∀ (st : List Value) (l : Lv), lim (call d) none 9 cJ0_coder_7d493 (some .byte) 7 l (.ref (160 + w) :: st) M = lim (call d) none 9 cJ0_coder_7d493 (some .byte) 10 l (.int 0 :: st) M := fun st l => (lim_step dJ0_coder_7d493_7).trans (e_gf15 (str_lay w hw))
  rw [nJ0_coder_7d493]
  simp only [sJ0_coder_7d493_0, sJ0_coder_7d493_3, sJ0_coder_7d493_6, sJ0_coder_7d493_10, sJ0_coder_7d493_13, sJ0_coder_7d493_14, opK_some, guK_true, calK_some, rk_nil, rk_int, rk_ref, tl_some, tl_none, nb_int, nb_0, nb_1, nb_if, nb_if', g, one_ne, if_false, show narB .byte 0 = true by decide]
theorem C_isLatin1 {d w : Nat} {M : Mem} (hw : w < 12) : call (d + 1) 100 [.ref (160 + w)] M = some (some (.int 1), M) := by
  have g : ∀ (st : List Value) (l : Lv), lim (call d) none 9 cJ0_isLatin1_aae02 (some .boolean) 7 l (.ref (160 + w) :: st) M = lim (call d) none 9 cJ0_isLatin1_aae02 (some .boolean) 10 l (.int 0 :: st) M := fun st l => (lim_step dJ0_isLatin1_aae02_7).trans (e_gf15 (str_lay w hw))
  rw [nJ0_isLatin1_aae02]
  simp only [sJ0_isLatin1_aae02_0, sJ0_isLatin1_aae02_3, sJ0_isLatin1_aae02_6, sJ0_isLatin1_aae02_10, sJ0_isLatin1_aae02_13, sJ0_isLatin1_aae02_14, sJ0_isLatin1_aae02_17, sJ0_isLatin1_aae02_18, opK_some, guK_true, calK_some, rk_nil, rk_int, rk_ref, tl_some, tl_none, nb_int, nb_0, nb_1, nb_if, nb_if', g, one_ne, zero_eq, if_true, if_false]
theorem C_length {d w : Nat} {M : Mem} (hw : w < 12) : call (d + 2) 97 [.ref (160 + w)] M = some (some (.int (nI (wl w))), M) := by
  have g : ∀ (st : List Value) (l : Lv), lim (call (d + 1)) none 9 cJ0_length_8abf5 (some .int) 1 l (.ref (160 + w) :: st) M = lim (call (d + 1)) none 9 cJ0_length_8abf5 (some .int) 4 l (.ref (180 + w) :: st) M := fun st l => (lim_step dJ0_length_8abf5_1).trans (e_gf9 (str_lay w hw))
  have g4 : ∀ (st : List Value) (l : Lv), lim (call (d + 1)) none 9 cJ0_length_8abf5 (some .int) 4 l (.ref (180 + w) :: st) M = lim (call (d + 1)) none 9 cJ0_length_8abf5 (some .int) 5 l (.int (nI (wl w)) :: st) M := fun st l => (lim_step dJ0_length_8abf5_4).trans (e_lenB (str_v hw) (str_b hw))
  rw [show d + 2 = d + 1 + 1 from rfl, nJ0_length_8abf5]
  simp only [sJ0_length_8abf5_0, sJ0_length_8abf5_5, sJ0_length_8abf5_6, sJ0_length_8abf5_9, sJ0_length_8abf5_10, opK_some, guK_true, calK_some, rk_nil, rk_int, rk_ref, tl_some, tl_none, nb_int, nb_0, nb_1, nb_if, nb_if', g, g4, str_cl w hw, C_coder hw, sb_shr0]
theorem C_checkIndex {d : Nat} {M : Mem} {x y : Int32} (h0 : ¬ x < 0) (h1 : x < y) : call (d + 2) 102 [.int x, .int y] M = some (none, M) := by
  have c3 : call (d + 1) 103 [.int x, .int y, .null] M = some (some (.int x), M) := by
    rw [nJ3_checkIndex_8e157]
    simp only [sJ3_checkIndex_8e157_0, sJ3_checkIndex_8e157_1, sJ3_checkIndex_8e157_4, sJ3_checkIndex_8e157_5, sJ3_checkIndex_8e157_6, sJ3_checkIndex_8e157_9, sJ3_checkIndex_8e157_10, sJ3_checkIndex_8e157_11, sJ3_checkIndex_8e157_16, sJ3_checkIndex_8e157_17, opK_some, guK_true, calK_some, rk_nil, rk_int, rk_ref, tl_some, tl_none, nb_int, nb_0, nb_1, nb_if, nb_if', h0, h1, if_true, if_false]
  rw [show d + 2 = d + 1 + 1 from rfl, nJ0_checkIndex_df160]
  simp only [sJ0_checkIndex_df160_0, sJ0_checkIndex_df160_1, sJ0_checkIndex_df160_2, sJ0_checkIndex_df160_5, sJ0_checkIndex_df160_8, sJ0_checkIndex_df160_9, opK_some, guK_true, calK_some, rk_nil, rk_int, rk_ref, tl_some, tl_none, nb_int, nb_0, nb_1, nb_if, nb_if', c3]
theorem wc_ok : ∀ w, w < 12 → ∀ j, j < 6 → wc w j &&& 255 = wc w j ∧ narB .char (wc w j) = true := by decide +kernel
theorem wl_le : ∀ w, w < 12 → wl w ≤ 6 ∧ 1 ≤ wl w := by decide +kernel
theorem C_charAt {d w j : Nat} {M : Mem} (hw : w < 12) (hj : j < wl w) : call (d + 4) 99 [.ref (160 + w), .int (nI j)] M = some (some (.int (wc w j)), M) := by
  have l6 := wl_le w hw
  obtain ⟨k1, k2⟩ := wc_ok w hw j (by omega)
  have g2 : ∀ (st : List Value) (l : Lv), lim (call (d + 2)) none 10 cJ1_charAt_3b067 (some .char) 2 l (.ref (180 + w) :: st) M = lim (call (d + 2)) none 10 cJ1_charAt_3b067 (some .char) 3 l (.int (nI (wl w)) :: st) M := fun st l => (lim_step dJ1_charAt_3b067_2).trans (e_lenB (str_v hw) (str_b hw))
  have c0 := C_checkIndex (d := d) (M := M) (x := nI j) (y := nI (wl w)) (nI_nlt (b := 0) (by omega) (by omega)) (nI_lt hj (by omega))
  have c1 : call (d + 3) 101 [.ref (180 + w), .int (nI j)] M = some (some (.int (wc w j)), M) := by
    rw [show d + 3 = d + 2 + 1 from rfl, nJ1_charAt_3b067]
    simp only [sJ1_charAt_3b067_0, sJ1_charAt_3b067_1, sJ1_charAt_3b067_3, sJ1_charAt_3b067_6, sJ1_charAt_3b067_7, sJ1_charAt_3b067_8, sJ1_charAt_3b067_9, sJ1_charAt_3b067_12, sJ1_charAt_3b067_13, sJ1_charAt_3b067_14, opK_some, guK_true, calK_some, rk_nil, rk_int, rk_ref, tl_some, tl_none, nb_int, nb_0, nb_1, nb_if, nb_if', g2, c0, str_b hw, inb_nI hj (by omega), nI_clamp (show j < 2 ^ 31 by omega), sc_c2, k1, k2]
  have g : ∀ (st : List Value) (l : Lv), lim (call (d + 3)) none 9 cJ0_charAt_5068e (some .char) 8 l (.ref (160 + w) :: st) M = lim (call (d + 3)) none 9 cJ0_charAt_5068e (some .char) 11 l (.ref (180 + w) :: st) M := fun st l => (lim_step dJ0_charAt_5068e_8).trans (e_gf9 (str_lay w hw))
  rw [show d + 4 = d + 3 + 1 from rfl, nJ0_charAt_5068e]
  simp only [sJ0_charAt_5068e_0, sJ0_charAt_5068e_1, sJ0_charAt_5068e_4, sJ0_charAt_5068e_7, sJ0_charAt_5068e_11, sJ0_charAt_5068e_12, sJ0_charAt_5068e_15, opK_some, guK_true, calK_some, rk_nil, rk_int, rk_ref, tl_some, tl_none, nb_int, nb_0, nb_1, nb_if, nb_if', g, str_cl w hw, C_isLatin1 hw, one_ne, if_false, c1, k2]
theorem C_wordOf {d : Nat} {M : Mem} : ∀ w, w < 12 → call (d + 1) 95 [.int (nI w)] M = some (some (.ref (160 + w)), M) := by
  intro w hw
  rw [nX4_wordOf]
  simp only [sX4_wordOf_0, sX4_wordOf_60, sX4_wordOf_62, sX4_wordOf_63, sX4_wordOf_65, sX4_wordOf_66, sX4_wordOf_68, sX4_wordOf_69, sX4_wordOf_71, sX4_wordOf_72, sX4_wordOf_74, sX4_wordOf_75, sX4_wordOf_77, sX4_wordOf_78, sX4_wordOf_80, sX4_wordOf_81, sX4_wordOf_83, sX4_wordOf_84, sX4_wordOf_86, sX4_wordOf_87, sX4_wordOf_89, sX4_wordOf_90, sX4_wordOf_92, sX4_wordOf_93, sX4_wordOf_95, opK_some, guK_true, calK_some, rk_nil, rk_int, rk_ref, tl_some, tl_none, nb_int, nb_0, nb_1, nb_if, nb_if']
  rcases (show w = 0 ∨ w = 1 ∨ w = 2 ∨ w = 3 ∨ w = 4 ∨ w = 5 ∨ w = 6 ∨ w = 7 ∨ w = 8 ∨ w = 9 ∨ w = 10 ∨ w = 11 by omega) with rfl | rfl | rfl | rfl | rfl | rfl | rfl | rfl | rfl | rfl | rfl | rfl
  · rw [sX4_wordOf_1, if_neg (by decide), show (([60, 63, 66, 69, 72, 75, 78, 81, 84, 87, 90] : List Nat).getD ((nI 0).toInt - 0).toNat 0) = 60 by decide]
    simp only [sX4_wordOf_0, sX4_wordOf_60, sX4_wordOf_62, sX4_wordOf_63, sX4_wordOf_65, sX4_wordOf_66, sX4_wordOf_68, sX4_wordOf_69, sX4_wordOf_71, sX4_wordOf_72, sX4_wordOf_74, sX4_wordOf_75, sX4_wordOf_77, sX4_wordOf_78, sX4_wordOf_80, sX4_wordOf_81, sX4_wordOf_83, sX4_wordOf_84, sX4_wordOf_86, sX4_wordOf_87, sX4_wordOf_89, sX4_wordOf_90, sX4_wordOf_92, sX4_wordOf_93, sX4_wordOf_95, opK_some, guK_true, calK_some, rk_nil, rk_int, rk_ref, tl_some, tl_none, nb_int, nb_0, nb_1, nb_if, nb_if']
  · rw [sX4_wordOf_1, if_neg (by decide), show (([60, 63, 66, 69, 72, 75, 78, 81, 84, 87, 90] : List Nat).getD ((nI 1).toInt - 0).toNat 0) = 63 by decide]
    simp only [sX4_wordOf_0, sX4_wordOf_60, sX4_wordOf_62, sX4_wordOf_63, sX4_wordOf_65, sX4_wordOf_66, sX4_wordOf_68, sX4_wordOf_69, sX4_wordOf_71, sX4_wordOf_72, sX4_wordOf_74, sX4_wordOf_75, sX4_wordOf_77, sX4_wordOf_78, sX4_wordOf_80, sX4_wordOf_81, sX4_wordOf_83, sX4_wordOf_84, sX4_wordOf_86, sX4_wordOf_87, sX4_wordOf_89, sX4_wordOf_90, sX4_wordOf_92, sX4_wordOf_93, sX4_wordOf_95, opK_some, guK_true, calK_some, rk_nil, rk_int, rk_ref, tl_some, tl_none, nb_int, nb_0, nb_1, nb_if, nb_if']
  · rw [sX4_wordOf_1, if_neg (by decide), show (([60, 63, 66, 69, 72, 75, 78, 81, 84, 87, 90] : List Nat).getD ((nI 2).toInt - 0).toNat 0) = 66 by decide]
    simp only [sX4_wordOf_0, sX4_wordOf_60, sX4_wordOf_62, sX4_wordOf_63, sX4_wordOf_65, sX4_wordOf_66, sX4_wordOf_68, sX4_wordOf_69, sX4_wordOf_71, sX4_wordOf_72, sX4_wordOf_74, sX4_wordOf_75, sX4_wordOf_77, sX4_wordOf_78, sX4_wordOf_80, sX4_wordOf_81, sX4_wordOf_83, sX4_wordOf_84, sX4_wordOf_86, sX4_wordOf_87, sX4_wordOf_89, sX4_wordOf_90, sX4_wordOf_92, sX4_wordOf_93, sX4_wordOf_95, opK_some, guK_true, calK_some, rk_nil, rk_int, rk_ref, tl_some, tl_none, nb_int, nb_0, nb_1, nb_if, nb_if']
  · rw [sX4_wordOf_1, if_neg (by decide), show (([60, 63, 66, 69, 72, 75, 78, 81, 84, 87, 90] : List Nat).getD ((nI 3).toInt - 0).toNat 0) = 69 by decide]
    simp only [sX4_wordOf_0, sX4_wordOf_60, sX4_wordOf_62, sX4_wordOf_63, sX4_wordOf_65, sX4_wordOf_66, sX4_wordOf_68, sX4_wordOf_69, sX4_wordOf_71, sX4_wordOf_72, sX4_wordOf_74, sX4_wordOf_75, sX4_wordOf_77, sX4_wordOf_78, sX4_wordOf_80, sX4_wordOf_81, sX4_wordOf_83, sX4_wordOf_84, sX4_wordOf_86, sX4_wordOf_87, sX4_wordOf_89, sX4_wordOf_90, sX4_wordOf_92, sX4_wordOf_93, sX4_wordOf_95, opK_some, guK_true, calK_some, rk_nil, rk_int, rk_ref, tl_some, tl_none, nb_int, nb_0, nb_1, nb_if, nb_if']
  · rw [sX4_wordOf_1, if_neg (by decide), show (([60, 63, 66, 69, 72, 75, 78, 81, 84, 87, 90] : List Nat).getD ((nI 4).toInt - 0).toNat 0) = 72 by decide]
    simp only [sX4_wordOf_0, sX4_wordOf_60, sX4_wordOf_62, sX4_wordOf_63, sX4_wordOf_65, sX4_wordOf_66, sX4_wordOf_68, sX4_wordOf_69, sX4_wordOf_71, sX4_wordOf_72, sX4_wordOf_74, sX4_wordOf_75, sX4_wordOf_77, sX4_wordOf_78, sX4_wordOf_80, sX4_wordOf_81, sX4_wordOf_83, sX4_wordOf_84, sX4_wordOf_86, sX4_wordOf_87, sX4_wordOf_89, sX4_wordOf_90, sX4_wordOf_92, sX4_wordOf_93, sX4_wordOf_95, opK_some, guK_true, calK_some, rk_nil, rk_int, rk_ref, tl_some, tl_none, nb_int, nb_0, nb_1, nb_if, nb_if']
  · rw [sX4_wordOf_1, if_neg (by decide), show (([60, 63, 66, 69, 72, 75, 78, 81, 84, 87, 90] : List Nat).getD ((nI 5).toInt - 0).toNat 0) = 75 by decide]
    simp only [sX4_wordOf_0, sX4_wordOf_60, sX4_wordOf_62, sX4_wordOf_63, sX4_wordOf_65, sX4_wordOf_66, sX4_wordOf_68, sX4_wordOf_69, sX4_wordOf_71, sX4_wordOf_72, sX4_wordOf_74, sX4_wordOf_75, sX4_wordOf_77, sX4_wordOf_78, sX4_wordOf_80, sX4_wordOf_81, sX4_wordOf_83, sX4_wordOf_84, sX4_wordOf_86, sX4_wordOf_87, sX4_wordOf_89, sX4_wordOf_90, sX4_wordOf_92, sX4_wordOf_93, sX4_wordOf_95, opK_some, guK_true, calK_some, rk_nil, rk_int, rk_ref, tl_some, tl_none, nb_int, nb_0, nb_1, nb_if, nb_if']
  · rw [sX4_wordOf_1, if_neg (by decide), show (([60, 63, 66, 69, 72, 75, 78, 81, 84, 87, 90] : List Nat).getD ((nI 6).toInt - 0).toNat 0) = 78 by decide]
    simp only [sX4_wordOf_0, sX4_wordOf_60, sX4_wordOf_62, sX4_wordOf_63, sX4_wordOf_65, sX4_wordOf_66, sX4_wordOf_68, sX4_wordOf_69, sX4_wordOf_71, sX4_wordOf_72, sX4_wordOf_74, sX4_wordOf_75, sX4_wordOf_77, sX4_wordOf_78, sX4_wordOf_80, sX4_wordOf_81, sX4_wordOf_83, sX4_wordOf_84, sX4_wordOf_86, sX4_wordOf_87, sX4_wordOf_89, sX4_wordOf_90, sX4_wordOf_92, sX4_wordOf_93, sX4_wordOf_95, opK_some, guK_true, calK_some, rk_nil, rk_int, rk_ref, tl_some, tl_none, nb_int, nb_0, nb_1, nb_if, nb_if']
  · rw [sX4_wordOf_1, if_neg (by decide), show (([60, 63, 66, 69, 72, 75, 78, 81, 84, 87, 90] : List Nat).getD ((nI 7).toInt - 0).toNat 0) = 81 by decide]
    simp only [sX4_wordOf_0, sX4_wordOf_60, sX4_wordOf_62, sX4_wordOf_63, sX4_wordOf_65, sX4_wordOf_66, sX4_wordOf_68, sX4_wordOf_69, sX4_wordOf_71, sX4_wordOf_72, sX4_wordOf_74, sX4_wordOf_75, sX4_wordOf_77, sX4_wordOf_78, sX4_wordOf_80, sX4_wordOf_81, sX4_wordOf_83, sX4_wordOf_84, sX4_wordOf_86, sX4_wordOf_87, sX4_wordOf_89, sX4_wordOf_90, sX4_wordOf_92, sX4_wordOf_93, sX4_wordOf_95, opK_some, guK_true, calK_some, rk_nil, rk_int, rk_ref, tl_some, tl_none, nb_int, nb_0, nb_1, nb_if, nb_if']
  · rw [sX4_wordOf_1, if_neg (by decide), show (([60, 63, 66, 69, 72, 75, 78, 81, 84, 87, 90] : List Nat).getD ((nI 8).toInt - 0).toNat 0) = 84 by decide]
    simp only [sX4_wordOf_0, sX4_wordOf_60, sX4_wordOf_62, sX4_wordOf_63, sX4_wordOf_65, sX4_wordOf_66, sX4_wordOf_68, sX4_wordOf_69, sX4_wordOf_71, sX4_wordOf_72, sX4_wordOf_74, sX4_wordOf_75, sX4_wordOf_77, sX4_wordOf_78, sX4_wordOf_80, sX4_wordOf_81, sX4_wordOf_83, sX4_wordOf_84, sX4_wordOf_86, sX4_wordOf_87, sX4_wordOf_89, sX4_wordOf_90, sX4_wordOf_92, sX4_wordOf_93, sX4_wordOf_95, opK_some, guK_true, calK_some, rk_nil, rk_int, rk_ref, tl_some, tl_none, nb_int, nb_0, nb_1, nb_if, nb_if']
  · rw [sX4_wordOf_1, if_neg (by decide), show (([60, 63, 66, 69, 72, 75, 78, 81, 84, 87, 90] : List Nat).getD ((nI 9).toInt - 0).toNat 0) = 87 by decide]
    simp only [sX4_wordOf_0, sX4_wordOf_60, sX4_wordOf_62, sX4_wordOf_63, sX4_wordOf_65, sX4_wordOf_66, sX4_wordOf_68, sX4_wordOf_69, sX4_wordOf_71, sX4_wordOf_72, sX4_wordOf_74, sX4_wordOf_75, sX4_wordOf_77, sX4_wordOf_78, sX4_wordOf_80, sX4_wordOf_81, sX4_wordOf_83, sX4_wordOf_84, sX4_wordOf_86, sX4_wordOf_87, sX4_wordOf_89, sX4_wordOf_90, sX4_wordOf_92, sX4_wordOf_93, sX4_wordOf_95, opK_some, guK_true, calK_some, rk_nil, rk_int, rk_ref, tl_some, tl_none, nb_int, nb_0, nb_1, nb_if, nb_if']
  · rw [sX4_wordOf_1, if_neg (by decide), show (([60, 63, 66, 69, 72, 75, 78, 81, 84, 87, 90] : List Nat).getD ((nI 10).toInt - 0).toNat 0) = 90 by decide]
    simp only [sX4_wordOf_0, sX4_wordOf_60, sX4_wordOf_62, sX4_wordOf_63, sX4_wordOf_65, sX4_wordOf_66, sX4_wordOf_68, sX4_wordOf_69, sX4_wordOf_71, sX4_wordOf_72, sX4_wordOf_74, sX4_wordOf_75, sX4_wordOf_77, sX4_wordOf_78, sX4_wordOf_80, sX4_wordOf_81, sX4_wordOf_83, sX4_wordOf_84, sX4_wordOf_86, sX4_wordOf_87, sX4_wordOf_89, sX4_wordOf_90, sX4_wordOf_92, sX4_wordOf_93, sX4_wordOf_95, opK_some, guK_true, calK_some, rk_nil, rk_int, rk_ref, tl_some, tl_none, nb_int, nb_0, nb_1, nb_if, nb_if']
  · rw [sX4_wordOf_1, if_pos (by decide)]
    simp only [sX4_wordOf_0, sX4_wordOf_60, sX4_wordOf_62, sX4_wordOf_63, sX4_wordOf_65, sX4_wordOf_66, sX4_wordOf_68, sX4_wordOf_69, sX4_wordOf_71, sX4_wordOf_72, sX4_wordOf_74, sX4_wordOf_75, sX4_wordOf_77, sX4_wordOf_78, sX4_wordOf_80, sX4_wordOf_81, sX4_wordOf_83, sX4_wordOf_84, sX4_wordOf_86, sX4_wordOf_87, sX4_wordOf_89, sX4_wordOf_90, sX4_wordOf_92, sX4_wordOf_93, sX4_wordOf_95, opK_some, guK_true, calK_some, rk_nil, rk_int, rk_ref, tl_some, tl_none, nb_int, nb_0, nb_1, nb_if, nb_if']
