/-! calls: sheet, write -/
theorem sheet_of {x : Int32} (h : 0 ≤ x ∧ x ≤ 3) : ∃ s, s < 4 ∧ x = nI s := by
  obtain ⟨s, h1, h2⟩ := nI_of2 (M := 3) (n := 3) rfl (Int32.not_lt.mpr h.1) h.2
  exact ⟨s, by omega, h2⟩
theorem sa_i {s : Nat} (hs : s < 4) : inb (nI s) ([120, 122, 124, 126] : List Nat).length = true := inb_nI hs (by decide)
theorem sa_g {s : Nat} (hs : s < 4) : ([120, 122, 124, 126] : List Nat).getD (nI s).toNatClampNeg 0 = 120 + 2 * s := by
  rw [nI_clamp (by omega)]
  rcases (show s = 0 ∨ s = 1 ∨ s = 2 ∨ s = 3 by omega) with rfl | rfl | rfl | rfl <;> rfl
theorem sh0 {s : Nat} {M : Mem} (hs : s < 4) : slotV 2 0 (120 + 2 * s) M = some (.int (M (120 + 2 * s) 0)) := by
  rcases (show s = 0 ∨ s = 1 ∨ s = 2 ∨ s = 3 by omega) with rfl | rfl | rfl | rfl <;> rfl
theorem sh1 {s : Nat} {M : Mem} (hs : s < 4) : slotV 2 1 (120 + 2 * s) M = some (.int (M (120 + 2 * s) 1)) := by
  rcases (show s = 0 ∨ s = 1 ∨ s = 2 ∨ s = 3 by omega) with rfl | rfl | rfl | rfl <;> rfl
theorem sh2 {s : Nat} {M : Mem} (hs : s < 4) : slotV 2 2 (120 + 2 * s) M = some (.ref (121 + 2 * s)) := by
  rcases (show s = 0 ∨ s = 1 ∨ s = 2 ∨ s = 3 by omega) with rfl | rfl | rfl | rfl <;> rfl
theorem shi0 {s : Nat} (hs : s < 4) : isInt 2 0 (120 + 2 * s) = true := by
  rcases (show s = 0 ∨ s = 1 ∨ s = 2 ∨ s = 3 by omega) with rfl | rfl | rfl | rfl <;> rfl
theorem shi1 {s : Nat} (hs : s < 4) : isInt 2 1 (120 + 2 * s) = true := by
  rcases (show s = 0 ∨ s = 1 ∨ s = 2 ∨ s = 3 by omega) with rfl | rfl | rfl | rfl <;> rfl
theorem shc {s : Nat} (hs : s < 4) : isCl 2 (120 + 2 * s) = true := by
  rcases (show s = 0 ∨ s = 1 ∨ s = 2 ∨ s = 3 by omega) with rfl | rfl | rfl | rfl <;> rfl
theorem sha {s : Nat} {M : Mem} {sc : Scr} (hs : s < 4) : arrV9 sc (121 + 2 * s) M = some (40, M (121 + 2 * s)) := by
  rcases (show s = 0 ∨ s = 1 ∨ s = 2 ∨ s = 3 by omega) with rfl | rfl | rfl | rfl <;> rfl
theorem shn {s : Nat} (hs : s < 4) : arrN (121 + 2 * s) = some 40 := by
  rcases (show s = 0 ∨ s = 1 ∨ s = 2 ∨ s = 3 by omega) with rfl | rfl | rfl | rfl <;> rfl
theorem I40 {s : Nat} : (40 : Int32) * nI s = nI (40 * s) := pk_mul 40 s
theorem J_sh {M M1 M2 : Mem} (j : J M) (c : ∀ k, (k < 120 ∨ 128 ≤ k) → M1 k = M k) (m : ∀ k, (k < 141 ∨ 145 ≤ k) → M2 k = M1 k) (js : JS M2) : J M2 := by
  have cm : ∀ k, (k < 120 ∨ (128 ≤ k ∧ k < 141) ∨ 145 ≤ k) → M2 k = M k := fun k hk => (m k (by omega)).trans (c k (by omega))
  exact ⟨JA_ou j.1 (fun k hk => cm k (by omega)), JK_ou j.2.1 (by rw [cm 0 (by omega)]) (by rw [cm 130 (by omega)]) (fun k hk => cm k (by omega)), JF_ou j.2.2.1 (fun k hk => cm k (by omega)), JT_ou j.2.2.2.1 (by rw [cm 7 (by omega)]) (by rw [cm 130 (by omega)]) (fun k hk => cm k (by omega)), js⟩
theorem C_isMissing {d s : Nat} {M : Mem} (hs : s < 4) : call (d + 1) 120 [.ref (120 + 2 * s)] M = some (some (.int (if M (120 + 2 * s) 0 = 0 then 1 else 0)), M) := by
  rw [nX3_isMissing]
  simp only [sX3_isMissing_0, sX3_isMissing_1, sX3_isMissing_4, sX3_isMissing_7, sX3_isMissing_8, sX3_isMissing_11, sX3_isMissing_12, opK_some, guK_true, calK_some, rk_nil, rk_int, rk_ref, tl_some, tl_none, nb_int, nb_0, nb_1, nb_if, nb_if', sh0 hs]
  by_cases h : M (120 + 2 * s) 0 = 0
  · rw [if_pos h, if_pos h]
  · rw [if_neg h, if_neg h]
theorem L_begin {d s : Nat} {M : Mem} {x y : Int32} (hs : s < 4) : ∀ (m i : Nat) (M1 : Mem), i + m = 40 → (∀ k, k ≠ 121 + 2 * s → M1 k = M k) → (∀ k, k < i → M1 (121 + 2 * s) k = 0) →
    ∃ M', lim (call (d + 0)) none 3 cX3_begin none 20 [some (.ref (120 + 2 * s)), some (.int x), some (.int y), some (.int (nI i))] [] M1 = some (none, M') ∧ (∀ k, k ≠ 121 + 2 * s → M' k = M k) ∧ ∀ k, k < 40 → M' (121 + 2 * s) k = 0 := by
  intro m
  induction m with
  | zero =>
    intro i M1 hi o z
    obtain rfl : i = 40 := by omega
    rw [sX3_begin_20]
    simp only [sX3_begin_0, sX3_begin_1, sX3_begin_2, sX3_begin_5, sX3_begin_6, sX3_begin_7, sX3_begin_10, sX3_begin_11, sX3_begin_14, sX3_begin_15, sX3_begin_18, sX3_begin_19, sX3_begin_21, sX3_begin_23, sX3_begin_26, sX3_begin_27, sX3_begin_30, sX3_begin_31, sX3_begin_32, sX3_begin_33, sX3_begin_36, sX3_begin_39, opK_some, guK_true, calK_some, rk_nil, rk_int, rk_ref, tl_some, tl_none, nb_int, nb_0, nb_1, nb_if, nb_if']
    rw [if_pos (show (40 : Int32) ≤ nI 40 by decide)]
    exact ⟨M1, rfl, o, z⟩
  | succ m ih =>
    intro i M1 hi o z
    rw [sX3_begin_20]
    simp only [sX3_begin_0, sX3_begin_1, sX3_begin_2, sX3_begin_5, sX3_begin_6, sX3_begin_7, sX3_begin_10, sX3_begin_11, sX3_begin_14, sX3_begin_15, sX3_begin_18, sX3_begin_19, sX3_begin_21, sX3_begin_23, sX3_begin_26, sX3_begin_27, sX3_begin_30, sX3_begin_31, sX3_begin_32, sX3_begin_33, sX3_begin_36, sX3_begin_39, opK_some, guK_true, calK_some, rk_nil, rk_int, rk_ref, tl_some, tl_none, nb_int, nb_0, nb_1, nb_if, nb_if', sh2 hs, shn hs, sha hs, inb_nI (show i < 40 by omega) (by omega), nI_clamp (show i < 2 ^ 31 by omega), nI_1]
    rw [if_neg (show ¬ (40 : Int32) ≤ nI i from nI_ge (b := 40) (by omega) (by omega))]
    refine ih (i + 1) _ (by omega) (fun k hk => by rw [mset_ne hk]; exact o k hk) (fun k hk => ?_)
    rw [mset_at]
    by_cases c : k = i
    · rw [c, upd_at]
    · rw [upd_ne c]
      exact z k (by omega)
theorem C_begin {d s : Nat} {M : Mem} {x y : Int32} (hs : s < 4) : ∃ M', call (d + 1) 118 [.ref (120 + 2 * s), .int x, .int y] M = some (none, M') ∧ (∀ k, k ≠ 120 + 2 * s → k ≠ 121 + 2 * s → M' k = M k) ∧ M' (120 + 2 * s) 0 = x ∧ M' (120 + 2 * s) 1 = (if x = 0 then 0 else y) ∧ ∀ k, k < 40 → M' (121 + 2 * s) k = 0 := by
  have en : ∀ z : Int32, ∃ M', lim (call (d + 0)) none 3 cX3_begin none 15 [some (.ref (120 + 2 * s)), some (.int x), some (.int y), none] [.int z, .ref (120 + 2 * s)] (mset M (120 + 2 * s) 0 x) = some (none, M') ∧ (∀ k, k ≠ 120 + 2 * s → k ≠ 121 + 2 * s → M' k = M k) ∧ M' (120 + 2 * s) 0 = x ∧ M' (120 + 2 * s) 1 = z ∧ ∀ k, k < 40 → M' (121 + 2 * s) k = 0 := by
    intro z
    obtain ⟨M1, hM1⟩ : ∃ M1, M1 = mset (mset M (120 + 2 * s) 0 x) (120 + 2 * s) 1 z := ⟨_, rfl⟩
    obtain ⟨M2, c2, o2, z2⟩ := L_begin (d := d) (M := M1) (x := x) (y := y) hs 40 0 M1 (by omega) (fun _ _ => rfl) (fun k hk => absurd hk (Nat.not_lt_zero k))
    rw [sX3_begin_15]
    simp only [sX3_begin_0, sX3_begin_1, sX3_begin_2, sX3_begin_5, sX3_begin_6, sX3_begin_7, sX3_begin_10, sX3_begin_11, sX3_begin_14, sX3_begin_18, sX3_begin_19, sX3_begin_21, sX3_begin_23, sX3_begin_26, sX3_begin_27, sX3_begin_30, sX3_begin_31, sX3_begin_32, sX3_begin_33, sX3_begin_36, sX3_begin_39, opK_some, guK_true, calK_some, rk_nil, rk_int, rk_ref, tl_some, tl_none, nb_int, nb_0, nb_1, nb_if, nb_if', shi1 hs, ← hM1]
    refine ⟨M2, c2, fun k h1 h2 => by rw [o2 k h2, hM1, mset_ne h1, mset_ne h1], ?_, ?_, z2⟩
    · rw [o2 _ (by omega), hM1, mset_at, upd_ne (by omega), mset_at, upd_at]
    · rw [o2 _ (by omega), hM1, mset_at, upd_at]
  rw [nX3_begin]
  simp only [sX3_begin_0, sX3_begin_1, sX3_begin_2, sX3_begin_5, sX3_begin_6, sX3_begin_7, sX3_begin_10, sX3_begin_11, sX3_begin_14, sX3_begin_18, sX3_begin_19, sX3_begin_21, sX3_begin_23, sX3_begin_26, sX3_begin_27, sX3_begin_30, sX3_begin_31, sX3_begin_32, sX3_begin_33, sX3_begin_36, sX3_begin_39, opK_some, guK_true, calK_some, rk_nil, rk_int, rk_ref, tl_some, tl_none, nb_int, nb_0, nb_1, nb_if, nb_if', shi0 hs]
  by_cases h : x = 0
  · rw [if_pos h, if_pos h]
    exact en 0
  · rw [if_neg h, if_neg h]
    exact en y
theorem L_m_sheet {d s : Nat} {M : Mem} {x y : Int32} (hs : s < 4) : ∀ (m i : Nat) (M1 : Mem), i + m = 40 → (∀ k, k ≠ 143 → M1 k = M k) → (∀ k, (k < 40 * s ∨ 40 * s + i ≤ k) → M1 143 k = M 143 k) → (∀ k, k < i → M1 143 (40 * s + k) = 0) →
    ∃ M', lim (call (d + 2)) none 6 cX6_sheet (some .int) 86 [some (.ref 130), some (.int (nI s)), some (.int x), some (.int y), some (.int (nI i))] [] M1 = some (some (.int (M 142 s)), M') ∧ (∀ k, k ≠ 143 → M' k = M k) ∧ (∀ k, (k < 40 * s ∨ 40 * s + 40 ≤ k) → M' 143 k = M 143 k) ∧ ∀ k, k < 40 → M' 143 (40 * s + k) = 0 := by
  intro m
  induction m with
  | zero =>
    intro i M1 hi o u v
    obtain rfl : i = 40 := by omega
    rw [sX6_sheet_86]
    simp only [sX6_sheet_0, sX6_sheet_1, sX6_sheet_4, sX6_sheet_7, sX6_sheet_8, sX6_sheet_11, sX6_sheet_12, sX6_sheet_14, sX6_sheet_17, sX6_sheet_18, sX6_sheet_20, sX6_sheet_23, sX6_sheet_24, sX6_sheet_26, sX6_sheet_29, sX6_sheet_30, sX6_sheet_32, sX6_sheet_35, sX6_sheet_36, sX6_sheet_37, sX6_sheet_40, sX6_sheet_41, sX6_sheet_44, sX6_sheet_47, sX6_sheet_48, sX6_sheet_49, sX6_sheet_51, sX6_sheet_54, sX6_sheet_55, sX6_sheet_57, sX6_sheet_60, sX6_sheet_61, sX6_sheet_62, sX6_sheet_65, sX6_sheet_66, sX6_sheet_67, sX6_sheet_68, sX6_sheet_69, sX6_sheet_72, sX6_sheet_73, sX6_sheet_74, sX6_sheet_77, sX6_sheet_78, sX6_sheet_81, sX6_sheet_82, sX6_sheet_83, sX6_sheet_84, sX6_sheet_88, sX6_sheet_90, sX6_sheet_93, sX6_sheet_94, sX6_sheet_97, sX6_sheet_99, sX6_sheet_100, sX6_sheet_101, sX6_sheet_103, sX6_sheet_104, sX6_sheet_105, sX6_sheet_106, sX6_sheet_109, sX6_sheet_112, sX6_sheet_113, sX6_sheet_116, sX6_sheet_117, sX6_sheet_118, opK_some, guK_true, calK_some, rk_nil, rk_int, rk_ref, tl_some, tl_none, nb_int, nb_0, nb_1, nb_if, nb_if', o130_28, a142, inb_nI hs (by omega), nI_clamp (show s < 2 ^ 31 by omega), o 142 (by omega)]
    rw [if_pos (show (40 : Int32) ≤ nI 40 by decide)]
    exact ⟨M1, rfl, o, u, v⟩
  | succ m ih =>
    intro i M1 hi o u v
    rw [sX6_sheet_86]
    simp only [sX6_sheet_0, sX6_sheet_1, sX6_sheet_4, sX6_sheet_7, sX6_sheet_8, sX6_sheet_11, sX6_sheet_12, sX6_sheet_14, sX6_sheet_17, sX6_sheet_18, sX6_sheet_20, sX6_sheet_23, sX6_sheet_24, sX6_sheet_26, sX6_sheet_29, sX6_sheet_30, sX6_sheet_32, sX6_sheet_35, sX6_sheet_36, sX6_sheet_37, sX6_sheet_40, sX6_sheet_41, sX6_sheet_44, sX6_sheet_47, sX6_sheet_48, sX6_sheet_49, sX6_sheet_51, sX6_sheet_54, sX6_sheet_55, sX6_sheet_57, sX6_sheet_60, sX6_sheet_61, sX6_sheet_62, sX6_sheet_65, sX6_sheet_66, sX6_sheet_67, sX6_sheet_68, sX6_sheet_69, sX6_sheet_72, sX6_sheet_73, sX6_sheet_74, sX6_sheet_77, sX6_sheet_78, sX6_sheet_81, sX6_sheet_82, sX6_sheet_83, sX6_sheet_84, sX6_sheet_88, sX6_sheet_90, sX6_sheet_93, sX6_sheet_94, sX6_sheet_97, sX6_sheet_99, sX6_sheet_100, sX6_sheet_101, sX6_sheet_103, sX6_sheet_104, sX6_sheet_105, sX6_sheet_106, sX6_sheet_109, sX6_sheet_112, sX6_sheet_113, sX6_sheet_116, sX6_sheet_117, sX6_sheet_118, opK_some, guK_true, calK_some, rk_nil, rk_int, rk_ref, tl_some, tl_none, nb_int, nb_0, nb_1, nb_if, nb_if', o130_29, a143, b143, I40, nI_add, inb_nI (show 40 * s + i < 160 by omega) (by omega), nI_clamp (show 40 * s + i < 2 ^ 31 by omega), nI_1]
    rw [if_neg (show ¬ (40 : Int32) ≤ nI i from nI_ge (b := 40) (by omega) (by omega))]
    refine ih (i + 1) _ (by omega) (fun k hk => by rw [mset_ne hk]; exact o k hk) (fun k hk => ?_) (fun k hk => ?_)
    · rw [mset_at, upd_ne (by omega)]
      exact u k (by omega)
    · rw [mset_at]
      by_cases c : k = i
      · rw [c, upd_at]
      · rw [upd_ne (by omega)]
        exact v k (by omega)
abbrev bitP (x : Int32) : Prop := x = 0 ∨ x = 8 ∨ x = 16 ∨ x = 32
theorem X_sheet {d : Nat} {M : Mem} {x y z : Int32} (j : J M) : Two (d + 3) 116 (d + 3) 234 [.int x, .int y, .int z] M := by
  have n80 : ((8 : Int32) = 0) = False := eq_false (by decide)
  have n160 : ((16 : Int32) = 0) = False := eq_false (by decide)
  have n168 : ((16 : Int32) = 8) = False := eq_false (by decide)
  have n320 : ((32 : Int32) = 0) = False := eq_false (by decide)
  have n328 : ((32 : Int32) = 8) = False := eq_false (by decide)
  have n3216 : ((32 : Int32) = 16) = False := eq_false (by decide)
  by_cases hg : (0 ≤ x ∧ x ≤ 3) ∧ bitP y
  · obtain ⟨hx, hy⟩ := hg
    have px : ∀ M2 : Mem, lim (call (d + 2)) none 5 cX5_sheet (some .int) 0 [some (.ref 0), some (.int x), some (.int y), some (.int z)] [] M2 = lim (call (d + 2)) none 5 cX5_sheet (some .int) 35 [some (.ref 0), some (.int x), some (.int y), some (.int z)] [] M2 := by
      intro M2
      rcases hy with rfl | rfl | rfl | rfl
      · simp only [sX5_sheet_0, sX5_sheet_1, sX5_sheet_4, sX5_sheet_7, sX5_sheet_8, sX5_sheet_11, sX5_sheet_12, sX5_sheet_14, sX5_sheet_17, sX5_sheet_18, sX5_sheet_20, sX5_sheet_23, sX5_sheet_24, sX5_sheet_26, sX5_sheet_29, sX5_sheet_30, sX5_sheet_31, sX5_sheet_34, sX5_sheet_36, sX5_sheet_39, sX5_sheet_40, sX5_sheet_42, sX5_sheet_45, sX5_sheet_46, sX5_sheet_47, sX5_sheet_49, sX5_sheet_52, sX5_sheet_53, sX5_sheet_54, sX5_sheet_57, sX5_sheet_58, sX5_sheet_59, sX5_sheet_62, sX5_sheet_63, sX5_sheet_64, sX5_sheet_65, sX5_sheet_66, sX5_sheet_69, sX5_sheet_70, sX5_sheet_73, sX5_sheet_74, sX5_sheet_75, sX5_sheet_78, opK_some, guK_true, calK_some, rk_nil, rk_int, rk_ref, tl_some, tl_none, nb_int, nb_0, nb_1, nb_if, nb_if', C_x_isSheet, hx, and_self, if_true, one_ne, if_false]
      · simp only [sX5_sheet_0, sX5_sheet_1, sX5_sheet_4, sX5_sheet_7, sX5_sheet_8, sX5_sheet_11, sX5_sheet_12, sX5_sheet_14, sX5_sheet_17, sX5_sheet_18, sX5_sheet_20, sX5_sheet_23, sX5_sheet_24, sX5_sheet_26, sX5_sheet_29, sX5_sheet_30, sX5_sheet_31, sX5_sheet_34, sX5_sheet_36, sX5_sheet_39, sX5_sheet_40, sX5_sheet_42, sX5_sheet_45, sX5_sheet_46, sX5_sheet_47, sX5_sheet_49, sX5_sheet_52, sX5_sheet_53, sX5_sheet_54, sX5_sheet_57, sX5_sheet_58, sX5_sheet_59, sX5_sheet_62, sX5_sheet_63, sX5_sheet_64, sX5_sheet_65, sX5_sheet_66, sX5_sheet_69, sX5_sheet_70, sX5_sheet_73, sX5_sheet_74, sX5_sheet_75, sX5_sheet_78, opK_some, guK_true, calK_some, rk_nil, rk_int, rk_ref, tl_some, tl_none, nb_int, nb_0, nb_1, nb_if, nb_if', C_x_isSheet, hx, and_self, if_true, one_ne, if_false, n80]
      · simp only [sX5_sheet_0, sX5_sheet_1, sX5_sheet_4, sX5_sheet_7, sX5_sheet_8, sX5_sheet_11, sX5_sheet_12, sX5_sheet_14, sX5_sheet_17, sX5_sheet_18, sX5_sheet_20, sX5_sheet_23, sX5_sheet_24, sX5_sheet_26, sX5_sheet_29, sX5_sheet_30, sX5_sheet_31, sX5_sheet_34, sX5_sheet_36, sX5_sheet_39, sX5_sheet_40, sX5_sheet_42, sX5_sheet_45, sX5_sheet_46, sX5_sheet_47, sX5_sheet_49, sX5_sheet_52, sX5_sheet_53, sX5_sheet_54, sX5_sheet_57, sX5_sheet_58, sX5_sheet_59, sX5_sheet_62, sX5_sheet_63, sX5_sheet_64, sX5_sheet_65, sX5_sheet_66, sX5_sheet_69, sX5_sheet_70, sX5_sheet_73, sX5_sheet_74, sX5_sheet_75, sX5_sheet_78, opK_some, guK_true, calK_some, rk_nil, rk_int, rk_ref, tl_some, tl_none, nb_int, nb_0, nb_1, nb_if, nb_if', C_x_isSheet, hx, and_self, if_true, one_ne, if_false, n160, n168]
      · simp only [sX5_sheet_0, sX5_sheet_1, sX5_sheet_4, sX5_sheet_7, sX5_sheet_8, sX5_sheet_11, sX5_sheet_12, sX5_sheet_14, sX5_sheet_17, sX5_sheet_18, sX5_sheet_20, sX5_sheet_23, sX5_sheet_24, sX5_sheet_26, sX5_sheet_29, sX5_sheet_30, sX5_sheet_31, sX5_sheet_34, sX5_sheet_36, sX5_sheet_39, sX5_sheet_40, sX5_sheet_42, sX5_sheet_45, sX5_sheet_46, sX5_sheet_47, sX5_sheet_49, sX5_sheet_52, sX5_sheet_53, sX5_sheet_54, sX5_sheet_57, sX5_sheet_58, sX5_sheet_59, sX5_sheet_62, sX5_sheet_63, sX5_sheet_64, sX5_sheet_65, sX5_sheet_66, sX5_sheet_69, sX5_sheet_70, sX5_sheet_73, sX5_sheet_74, sX5_sheet_75, sX5_sheet_78, opK_some, guK_true, calK_some, rk_nil, rk_int, rk_ref, tl_some, tl_none, nb_int, nb_0, nb_1, nb_if, nb_if', C_x_isSheet, hx, and_self, if_true, one_ne, if_false, n320, n328, n3216]
    have pm : ∀ M2 : Mem, lim (call (d + 2)) none 6 cX6_sheet (some .int) 0 [some (.ref 130), some (.int x), some (.int y), some (.int z), none] [] M2 = lim (call (d + 2)) none 6 cX6_sheet (some .int) 36 [some (.ref 130), some (.int x), some (.int y), some (.int z), none] [] M2 := by
      intro M2
      rcases hy with rfl | rfl | rfl | rfl
      · simp only [sX6_sheet_0, sX6_sheet_1, sX6_sheet_4, sX6_sheet_7, sX6_sheet_8, sX6_sheet_11, sX6_sheet_12, sX6_sheet_14, sX6_sheet_17, sX6_sheet_18, sX6_sheet_20, sX6_sheet_23, sX6_sheet_24, sX6_sheet_26, sX6_sheet_29, sX6_sheet_30, sX6_sheet_32, sX6_sheet_35, sX6_sheet_37, sX6_sheet_40, sX6_sheet_41, sX6_sheet_44, sX6_sheet_47, sX6_sheet_48, sX6_sheet_49, sX6_sheet_51, sX6_sheet_54, sX6_sheet_55, sX6_sheet_57, sX6_sheet_60, sX6_sheet_61, sX6_sheet_62, sX6_sheet_65, sX6_sheet_66, sX6_sheet_67, sX6_sheet_68, sX6_sheet_69, sX6_sheet_72, sX6_sheet_73, sX6_sheet_74, sX6_sheet_77, sX6_sheet_78, sX6_sheet_81, sX6_sheet_82, sX6_sheet_83, sX6_sheet_84, sX6_sheet_88, sX6_sheet_90, sX6_sheet_93, sX6_sheet_94, sX6_sheet_97, sX6_sheet_99, sX6_sheet_100, sX6_sheet_101, sX6_sheet_103, sX6_sheet_104, sX6_sheet_105, sX6_sheet_106, sX6_sheet_109, sX6_sheet_112, sX6_sheet_113, sX6_sheet_116, sX6_sheet_117, sX6_sheet_118, opK_some, guK_true, calK_some, rk_nil, rk_int, rk_ref, tl_some, tl_none, nb_int, nb_0, nb_1, nb_if, nb_if', C_m_isSheet, hx, and_self, if_true, one_ne, if_false]
      · simp only [sX6_sheet_0, sX6_sheet_1, sX6_sheet_4, sX6_sheet_7, sX6_sheet_8, sX6_sheet_11, sX6_sheet_12, sX6_sheet_14, sX6_sheet_17, sX6_sheet_18, sX6_sheet_20, sX6_sheet_23, sX6_sheet_24, sX6_sheet_26, sX6_sheet_29, sX6_sheet_30, sX6_sheet_32, sX6_sheet_35, sX6_sheet_37, sX6_sheet_40, sX6_sheet_41, sX6_sheet_44, sX6_sheet_47, sX6_sheet_48, sX6_sheet_49, sX6_sheet_51, sX6_sheet_54, sX6_sheet_55, sX6_sheet_57, sX6_sheet_60, sX6_sheet_61, sX6_sheet_62, sX6_sheet_65, sX6_sheet_66, sX6_sheet_67, sX6_sheet_68, sX6_sheet_69, sX6_sheet_72, sX6_sheet_73, sX6_sheet_74, sX6_sheet_77, sX6_sheet_78, sX6_sheet_81, sX6_sheet_82, sX6_sheet_83, sX6_sheet_84, sX6_sheet_88, sX6_sheet_90, sX6_sheet_93, sX6_sheet_94, sX6_sheet_97, sX6_sheet_99, sX6_sheet_100, sX6_sheet_101, sX6_sheet_103, sX6_sheet_104, sX6_sheet_105, sX6_sheet_106, sX6_sheet_109, sX6_sheet_112, sX6_sheet_113, sX6_sheet_116, sX6_sheet_117, sX6_sheet_118, opK_some, guK_true, calK_some, rk_nil, rk_int, rk_ref, tl_some, tl_none, nb_int, nb_0, nb_1, nb_if, nb_if', C_m_isSheet, hx, and_self, if_true, one_ne, if_false, n80]
      · simp only [sX6_sheet_0, sX6_sheet_1, sX6_sheet_4, sX6_sheet_7, sX6_sheet_8, sX6_sheet_11, sX6_sheet_12, sX6_sheet_14, sX6_sheet_17, sX6_sheet_18, sX6_sheet_20, sX6_sheet_23, sX6_sheet_24, sX6_sheet_26, sX6_sheet_29, sX6_sheet_30, sX6_sheet_32, sX6_sheet_35, sX6_sheet_37, sX6_sheet_40, sX6_sheet_41, sX6_sheet_44, sX6_sheet_47, sX6_sheet_48, sX6_sheet_49, sX6_sheet_51, sX6_sheet_54, sX6_sheet_55, sX6_sheet_57, sX6_sheet_60, sX6_sheet_61, sX6_sheet_62, sX6_sheet_65, sX6_sheet_66, sX6_sheet_67, sX6_sheet_68, sX6_sheet_69, sX6_sheet_72, sX6_sheet_73, sX6_sheet_74, sX6_sheet_77, sX6_sheet_78, sX6_sheet_81, sX6_sheet_82, sX6_sheet_83, sX6_sheet_84, sX6_sheet_88, sX6_sheet_90, sX6_sheet_93, sX6_sheet_94, sX6_sheet_97, sX6_sheet_99, sX6_sheet_100, sX6_sheet_101, sX6_sheet_103, sX6_sheet_104, sX6_sheet_105, sX6_sheet_106, sX6_sheet_109, sX6_sheet_112, sX6_sheet_113, sX6_sheet_116, sX6_sheet_117, sX6_sheet_118, opK_some, guK_true, calK_some, rk_nil, rk_int, rk_ref, tl_some, tl_none, nb_int, nb_0, nb_1, nb_if, nb_if', C_m_isSheet, hx, and_self, if_true, one_ne, if_false, n160, n168]
      · simp only [sX6_sheet_0, sX6_sheet_1, sX6_sheet_4, sX6_sheet_7, sX6_sheet_8, sX6_sheet_11, sX6_sheet_12, sX6_sheet_14, sX6_sheet_17, sX6_sheet_18, sX6_sheet_20, sX6_sheet_23, sX6_sheet_24, sX6_sheet_26, sX6_sheet_29, sX6_sheet_30, sX6_sheet_32, sX6_sheet_35, sX6_sheet_37, sX6_sheet_40, sX6_sheet_41, sX6_sheet_44, sX6_sheet_47, sX6_sheet_48, sX6_sheet_49, sX6_sheet_51, sX6_sheet_54, sX6_sheet_55, sX6_sheet_57, sX6_sheet_60, sX6_sheet_61, sX6_sheet_62, sX6_sheet_65, sX6_sheet_66, sX6_sheet_67, sX6_sheet_68, sX6_sheet_69, sX6_sheet_72, sX6_sheet_73, sX6_sheet_74, sX6_sheet_77, sX6_sheet_78, sX6_sheet_81, sX6_sheet_82, sX6_sheet_83, sX6_sheet_84, sX6_sheet_88, sX6_sheet_90, sX6_sheet_93, sX6_sheet_94, sX6_sheet_97, sX6_sheet_99, sX6_sheet_100, sX6_sheet_101, sX6_sheet_103, sX6_sheet_104, sX6_sheet_105, sX6_sheet_106, sX6_sheet_109, sX6_sheet_112, sX6_sheet_113, sX6_sheet_116, sX6_sheet_117, sX6_sheet_118, opK_some, guK_true, calK_some, rk_nil, rk_int, rk_ref, tl_some, tl_none, nb_int, nb_0, nb_1, nb_if, nb_if', C_m_isSheet, hx, and_self, if_true, one_ne, if_false, n320, n328, n3216]
    by_cases hn : z < 0
    · refine ⟨fX M 6, fM (fX M 6) 6, -1000007, ?_, ?_, J_fin j (by omega)⟩
      · rw [nX5_sheet, px, sX5_sheet_35]
        simp only [sX5_sheet_0, sX5_sheet_1, sX5_sheet_4, sX5_sheet_7, sX5_sheet_8, sX5_sheet_11, sX5_sheet_12, sX5_sheet_14, sX5_sheet_17, sX5_sheet_18, sX5_sheet_20, sX5_sheet_23, sX5_sheet_24, sX5_sheet_26, sX5_sheet_29, sX5_sheet_30, sX5_sheet_31, sX5_sheet_34, sX5_sheet_36, sX5_sheet_39, sX5_sheet_40, sX5_sheet_42, sX5_sheet_45, sX5_sheet_46, sX5_sheet_47, sX5_sheet_49, sX5_sheet_52, sX5_sheet_53, sX5_sheet_54, sX5_sheet_57, sX5_sheet_58, sX5_sheet_59, sX5_sheet_62, sX5_sheet_63, sX5_sheet_64, sX5_sheet_65, sX5_sheet_66, sX5_sheet_69, sX5_sheet_70, sX5_sheet_73, sX5_sheet_74, sX5_sheet_75, sX5_sheet_78, opK_some, guK_true, calK_some, rk_nil, rk_int, rk_ref, tl_some, tl_none, nb_int, nb_0, nb_1, nb_if, nb_if', q0, Int32.not_le.mpr hn, if_false, C_xf6]
      · rw [nX6_sheet, pm, sX6_sheet_36]
        simp only [sX6_sheet_0, sX6_sheet_1, sX6_sheet_4, sX6_sheet_7, sX6_sheet_8, sX6_sheet_11, sX6_sheet_12, sX6_sheet_14, sX6_sheet_17, sX6_sheet_18, sX6_sheet_20, sX6_sheet_23, sX6_sheet_24, sX6_sheet_26, sX6_sheet_29, sX6_sheet_30, sX6_sheet_32, sX6_sheet_35, sX6_sheet_37, sX6_sheet_40, sX6_sheet_41, sX6_sheet_44, sX6_sheet_47, sX6_sheet_48, sX6_sheet_49, sX6_sheet_51, sX6_sheet_54, sX6_sheet_55, sX6_sheet_57, sX6_sheet_60, sX6_sheet_61, sX6_sheet_62, sX6_sheet_65, sX6_sheet_66, sX6_sheet_67, sX6_sheet_68, sX6_sheet_69, sX6_sheet_72, sX6_sheet_73, sX6_sheet_74, sX6_sheet_77, sX6_sheet_78, sX6_sheet_81, sX6_sheet_82, sX6_sheet_83, sX6_sheet_84, sX6_sheet_88, sX6_sheet_90, sX6_sheet_93, sX6_sheet_94, sX6_sheet_97, sX6_sheet_99, sX6_sheet_100, sX6_sheet_101, sX6_sheet_103, sX6_sheet_104, sX6_sheet_105, sX6_sheet_106, sX6_sheet_109, sX6_sheet_112, sX6_sheet_113, sX6_sheet_116, sX6_sheet_117, sX6_sheet_118, opK_some, guK_true, calK_some, rk_nil, rk_int, rk_ref, tl_some, tl_none, nb_int, nb_0, nb_1, nb_if, nb_if', q130, Int32.not_le.mpr hn, if_false, C_mf6]
    · have hn' := Int32.not_lt.mp hn
      by_cases hb : 40 < z
      · refine ⟨fX M 0, fM (fX M 0) 0, -1000001, ?_, ?_, J_fin j (by omega)⟩
        · rw [nX5_sheet, px, sX5_sheet_35]
          simp only [sX5_sheet_0, sX5_sheet_1, sX5_sheet_4, sX5_sheet_7, sX5_sheet_8, sX5_sheet_11, sX5_sheet_12, sX5_sheet_14, sX5_sheet_17, sX5_sheet_18, sX5_sheet_20, sX5_sheet_23, sX5_sheet_24, sX5_sheet_26, sX5_sheet_29, sX5_sheet_30, sX5_sheet_31, sX5_sheet_34, sX5_sheet_36, sX5_sheet_39, sX5_sheet_40, sX5_sheet_42, sX5_sheet_45, sX5_sheet_46, sX5_sheet_47, sX5_sheet_49, sX5_sheet_52, sX5_sheet_53, sX5_sheet_54, sX5_sheet_57, sX5_sheet_58, sX5_sheet_59, sX5_sheet_62, sX5_sheet_63, sX5_sheet_64, sX5_sheet_65, sX5_sheet_66, sX5_sheet_69, sX5_sheet_70, sX5_sheet_73, sX5_sheet_74, sX5_sheet_75, sX5_sheet_78, opK_some, guK_true, calK_some, rk_nil, rk_int, rk_ref, tl_some, tl_none, nb_int, nb_0, nb_1, nb_if, nb_if', q0, hn', if_true, Int32.not_le.mpr hb, if_false, C_xf0]
        · rw [nX6_sheet, pm, sX6_sheet_36]
          simp only [sX6_sheet_0, sX6_sheet_1, sX6_sheet_4, sX6_sheet_7, sX6_sheet_8, sX6_sheet_11, sX6_sheet_12, sX6_sheet_14, sX6_sheet_17, sX6_sheet_18, sX6_sheet_20, sX6_sheet_23, sX6_sheet_24, sX6_sheet_26, sX6_sheet_29, sX6_sheet_30, sX6_sheet_32, sX6_sheet_35, sX6_sheet_37, sX6_sheet_40, sX6_sheet_41, sX6_sheet_44, sX6_sheet_47, sX6_sheet_48, sX6_sheet_49, sX6_sheet_51, sX6_sheet_54, sX6_sheet_55, sX6_sheet_57, sX6_sheet_60, sX6_sheet_61, sX6_sheet_62, sX6_sheet_65, sX6_sheet_66, sX6_sheet_67, sX6_sheet_68, sX6_sheet_69, sX6_sheet_72, sX6_sheet_73, sX6_sheet_74, sX6_sheet_77, sX6_sheet_78, sX6_sheet_81, sX6_sheet_82, sX6_sheet_83, sX6_sheet_84, sX6_sheet_88, sX6_sheet_90, sX6_sheet_93, sX6_sheet_94, sX6_sheet_97, sX6_sheet_99, sX6_sheet_100, sX6_sheet_101, sX6_sheet_103, sX6_sheet_104, sX6_sheet_105, sX6_sheet_106, sX6_sheet_109, sX6_sheet_112, sX6_sheet_113, sX6_sheet_116, sX6_sheet_117, sX6_sheet_118, opK_some, guK_true, calK_some, rk_nil, rk_int, rk_ref, tl_some, tl_none, nb_int, nb_0, nb_1, nb_if, nb_if', q130, hn', if_true, Int32.not_le.mpr hb, if_false, C_mf0]
      · have hb' := Int32.not_lt.mp hb
        obtain ⟨s, hs, rfl⟩ := sheet_of hx
        obtain ⟨M1, c1, o1, b0, b1, b2⟩ := C_begin (d := d + 1) (M := M) (x := y) (y := z) hs
        rw [show d + 1 + 1 = d + 2 from rfl] at c1
        obtain ⟨M2, hM2⟩ : ∃ M2, M2 = mset (mset M1 141 s y) 142 s (if y = 0 then 0 else z) := ⟨_, rfl⟩
        obtain ⟨M3, c3, o3, u3, v3⟩ := L_m_sheet (d := d) (M := M2) (x := y) (y := z) hs 40 0 M2 (by omega) (fun _ _ => rfl) (fun _ _ => rfl) (fun k hk => absurd hk (Nat.not_lt_zero k))
        have e142 : M2 142 s = if y = 0 then 0 else z := by rw [hM2, mset_at, upd_at]
        rw [e142] at c3
        have hz : rg z 40 := rg_cut ⟨hn', hb'⟩ (Int32.le_refl 0) rfl (by omega)
        have w141 : ∀ q, M3 141 q = if q = s then y else M1 141 q := by
          intro q
          rw [o3 141 (by omega), hM2, mset_ne (by omega), mset_at]
          by_cases c : q = s
          · rw [c, upd_at, if_pos rfl]
          · rw [upd_ne c, if_neg c]
        have w142 : ∀ q, M3 142 q = if q = s then (if y = 0 then 0 else z) else M1 142 q := by
          intro q
          rw [o3 142 (by omega), hM2, mset_at]
          by_cases c : q = s
          · rw [c, upd_at, if_pos rfl]
          · rw [upd_ne c, if_neg c, mset_ne (by omega)]
        have w143 : ∀ k, M2 143 k = M1 143 k := fun k => by rw [hM2, mset_ne (by omega), mset_ne (by omega)]
        have js : JS M3 := by
          intro q hq
          have ek : ∀ k, k < 128 → M3 k = M1 k := fun k hk => by rw [o3 k (by omega), hM2, mset_ne (by omega), mset_ne (by omega)]
          rw [w141, w142, ek _ (by omega), ek _ (by omega)]
          by_cases c : q = s
          · subst c
            rw [if_pos rfl, if_pos rfl]
            refine ⟨⟨b0, b1⟩, hy, ?_, fun e => if_pos e, fun i hi => ?_⟩
            · split
              · exact rg_of (j := 0) rfl (by omega) (by omega)
              · exact hz
            · rw [v3 i hi]
              exact b2 i hi
          · rw [if_neg c, if_neg c, o1 (120 + 2 * q) (by omega) (by omega), o1 141 (by omega) (by omega), o1 142 (by omega) (by omega)]
            obtain ⟨j1, j2, j3, j4, j5⟩ := j.2.2.2.2 q hq
            refine ⟨j1, j2, j3, j4, fun i hi => ?_⟩
            rw [o1 (121 + 2 * q) (by omega) (by omega), u3 _ (by omega), w143, o1 143 (by omega) (by omega)]
            exact j5 i hi
        refine ⟨M1, M3, if y = 0 then 0 else z, ?_, ?_, J_sh j (fun k hk => o1 k (by omega) (by omega)) (fun k hk => by rw [o3 k (by omega), hM2, mset_ne (by omega), mset_ne (by omega)]) js⟩
        · rw [nX5_sheet, px, sX5_sheet_35]
          simp only [sX5_sheet_0, sX5_sheet_1, sX5_sheet_4, sX5_sheet_7, sX5_sheet_8, sX5_sheet_11, sX5_sheet_12, sX5_sheet_14, sX5_sheet_17, sX5_sheet_18, sX5_sheet_20, sX5_sheet_23, sX5_sheet_24, sX5_sheet_26, sX5_sheet_29, sX5_sheet_30, sX5_sheet_31, sX5_sheet_34, sX5_sheet_36, sX5_sheet_39, sX5_sheet_40, sX5_sheet_42, sX5_sheet_45, sX5_sheet_46, sX5_sheet_47, sX5_sheet_49, sX5_sheet_52, sX5_sheet_53, sX5_sheet_54, sX5_sheet_57, sX5_sheet_58, sX5_sheet_59, sX5_sheet_62, sX5_sheet_63, sX5_sheet_64, sX5_sheet_65, sX5_sheet_66, sX5_sheet_69, sX5_sheet_70, sX5_sheet_73, sX5_sheet_74, sX5_sheet_75, sX5_sheet_78, opK_some, guK_true, calK_some, rk_nil, rk_int, rk_ref, tl_some, tl_none, nb_int, nb_0, nb_1, nb_if, nb_if', hn', if_true, hb', o0_4, r5, sa_i hs, sa_g hs, shc hs, sh1 hs, c1, b1]
        · have ex : ∀ v : Int32, v = (if y = 0 then 0 else z) → lim (call (d + 2)) none 6 cX6_sheet (some .int) 82 [some (.ref 130), some (.int (nI s)), some (.int y), some (.int z), none] [.int v, .int (nI s), .ref 142] (mset M1 141 s y) = some (some (.int (if y = 0 then 0 else z)), M3) := by
            intro v ev
            rw [sX6_sheet_82]
            simp only [sX6_sheet_0, sX6_sheet_1, sX6_sheet_4, sX6_sheet_7, sX6_sheet_8, sX6_sheet_11, sX6_sheet_12, sX6_sheet_14, sX6_sheet_17, sX6_sheet_18, sX6_sheet_20, sX6_sheet_23, sX6_sheet_24, sX6_sheet_26, sX6_sheet_29, sX6_sheet_30, sX6_sheet_32, sX6_sheet_35, sX6_sheet_37, sX6_sheet_40, sX6_sheet_41, sX6_sheet_44, sX6_sheet_47, sX6_sheet_48, sX6_sheet_49, sX6_sheet_51, sX6_sheet_54, sX6_sheet_55, sX6_sheet_57, sX6_sheet_60, sX6_sheet_61, sX6_sheet_62, sX6_sheet_65, sX6_sheet_66, sX6_sheet_67, sX6_sheet_68, sX6_sheet_69, sX6_sheet_72, sX6_sheet_73, sX6_sheet_74, sX6_sheet_77, sX6_sheet_78, sX6_sheet_81, sX6_sheet_83, sX6_sheet_84, sX6_sheet_88, sX6_sheet_90, sX6_sheet_93, sX6_sheet_94, sX6_sheet_97, sX6_sheet_99, sX6_sheet_100, sX6_sheet_101, sX6_sheet_103, sX6_sheet_104, sX6_sheet_105, sX6_sheet_106, sX6_sheet_109, sX6_sheet_112, sX6_sheet_113, sX6_sheet_116, sX6_sheet_117, sX6_sheet_118, opK_some, guK_true, calK_some, rk_nil, rk_int, rk_ref, tl_some, tl_none, nb_int, nb_0, nb_1, nb_if, nb_if', a142, show arrN 142 = some 4 from rfl, inb_nI hs (by omega), nI_clamp (show s < 2 ^ 31 by omega)]
            rw [ev, ← hM2]
            exact c3
          rw [nX6_sheet, pm, sX6_sheet_36]
          simp only [sX6_sheet_0, sX6_sheet_1, sX6_sheet_4, sX6_sheet_7, sX6_sheet_8, sX6_sheet_11, sX6_sheet_12, sX6_sheet_14, sX6_sheet_17, sX6_sheet_18, sX6_sheet_20, sX6_sheet_23, sX6_sheet_24, sX6_sheet_26, sX6_sheet_29, sX6_sheet_30, sX6_sheet_32, sX6_sheet_35, sX6_sheet_37, sX6_sheet_40, sX6_sheet_41, sX6_sheet_44, sX6_sheet_47, sX6_sheet_48, sX6_sheet_49, sX6_sheet_51, sX6_sheet_54, sX6_sheet_55, sX6_sheet_57, sX6_sheet_60, sX6_sheet_61, sX6_sheet_62, sX6_sheet_65, sX6_sheet_66, sX6_sheet_68, sX6_sheet_69, sX6_sheet_72, sX6_sheet_73, sX6_sheet_74, sX6_sheet_77, sX6_sheet_78, sX6_sheet_81, sX6_sheet_83, sX6_sheet_84, sX6_sheet_88, sX6_sheet_90, sX6_sheet_93, sX6_sheet_94, sX6_sheet_97, sX6_sheet_99, sX6_sheet_100, sX6_sheet_101, sX6_sheet_103, sX6_sheet_104, sX6_sheet_105, sX6_sheet_106, sX6_sheet_109, sX6_sheet_112, sX6_sheet_113, sX6_sheet_116, sX6_sheet_117, sX6_sheet_118, opK_some, guK_true, calK_some, rk_nil, rk_int, rk_ref, tl_some, tl_none, nb_int, nb_0, nb_1, nb_if, nb_if', hn', if_true, hb', o130_27]
          rw [sX6_sheet_67]
          simp only [sX6_sheet_0, sX6_sheet_1, sX6_sheet_4, sX6_sheet_7, sX6_sheet_8, sX6_sheet_11, sX6_sheet_12, sX6_sheet_14, sX6_sheet_17, sX6_sheet_18, sX6_sheet_20, sX6_sheet_23, sX6_sheet_24, sX6_sheet_26, sX6_sheet_29, sX6_sheet_30, sX6_sheet_32, sX6_sheet_35, sX6_sheet_37, sX6_sheet_40, sX6_sheet_41, sX6_sheet_44, sX6_sheet_47, sX6_sheet_48, sX6_sheet_49, sX6_sheet_51, sX6_sheet_54, sX6_sheet_55, sX6_sheet_57, sX6_sheet_60, sX6_sheet_61, sX6_sheet_62, sX6_sheet_65, sX6_sheet_66, sX6_sheet_68, sX6_sheet_69, sX6_sheet_72, sX6_sheet_73, sX6_sheet_74, sX6_sheet_77, sX6_sheet_78, sX6_sheet_81, sX6_sheet_83, sX6_sheet_84, sX6_sheet_88, sX6_sheet_90, sX6_sheet_93, sX6_sheet_94, sX6_sheet_97, sX6_sheet_99, sX6_sheet_100, sX6_sheet_101, sX6_sheet_103, sX6_sheet_104, sX6_sheet_105, sX6_sheet_106, sX6_sheet_109, sX6_sheet_112, sX6_sheet_113, sX6_sheet_116, sX6_sheet_117, sX6_sheet_118, opK_some, guK_true, calK_some, rk_nil, rk_int, rk_ref, tl_some, tl_none, nb_int, nb_0, nb_1, nb_if, nb_if', a141, show arrN 141 = some 4 from rfl, inb_nI hs (by omega), nI_clamp (show s < 2 ^ 31 by omega), o130_28]
          by_cases h0 : y = 0
          · rw [if_pos h0]
            exact ex 0 (if_pos h0).symm
          · rw [if_neg h0]
            exact ex z (if_neg h0).symm
  · refine ⟨fX M 0, fM (fX M 0) 0, -1000001, ?_, ?_, J_fin j (by omega)⟩
    · rw [nX5_sheet]
      by_cases hx : 0 ≤ x ∧ x ≤ 3
      · have h0 : ¬ y = 0 := fun e => hg ⟨hx, Or.inl e⟩
        have h8 : ¬ y = 8 := fun e => hg ⟨hx, Or.inr (Or.inl e)⟩
        have h16 : ¬ y = 16 := fun e => hg ⟨hx, Or.inr (Or.inr (Or.inl e))⟩
        have h32 : ¬ y = 32 := fun e => hg ⟨hx, Or.inr (Or.inr (Or.inr e))⟩
        simp only [sX5_sheet_0, sX5_sheet_1, sX5_sheet_4, sX5_sheet_7, sX5_sheet_8, sX5_sheet_11, sX5_sheet_12, sX5_sheet_14, sX5_sheet_17, sX5_sheet_18, sX5_sheet_20, sX5_sheet_23, sX5_sheet_24, sX5_sheet_26, sX5_sheet_29, sX5_sheet_30, sX5_sheet_31, sX5_sheet_34, sX5_sheet_35, sX5_sheet_36, sX5_sheet_39, sX5_sheet_40, sX5_sheet_42, sX5_sheet_45, sX5_sheet_46, sX5_sheet_47, sX5_sheet_49, sX5_sheet_52, sX5_sheet_53, sX5_sheet_54, sX5_sheet_57, sX5_sheet_58, sX5_sheet_59, sX5_sheet_62, sX5_sheet_63, sX5_sheet_64, sX5_sheet_65, sX5_sheet_66, sX5_sheet_69, sX5_sheet_70, sX5_sheet_73, sX5_sheet_74, sX5_sheet_75, sX5_sheet_78, opK_some, guK_true, calK_some, rk_nil, rk_int, rk_ref, tl_some, tl_none, nb_int, nb_0, nb_1, nb_if, nb_if', q0, C_x_isSheet, hx, and_self, if_true, one_ne, if_false, h0, h8, h16, h32, C_xf0]
      · simp only [sX5_sheet_0, sX5_sheet_1, sX5_sheet_4, sX5_sheet_7, sX5_sheet_8, sX5_sheet_11, sX5_sheet_12, sX5_sheet_14, sX5_sheet_17, sX5_sheet_18, sX5_sheet_20, sX5_sheet_23, sX5_sheet_24, sX5_sheet_26, sX5_sheet_29, sX5_sheet_30, sX5_sheet_31, sX5_sheet_34, sX5_sheet_35, sX5_sheet_36, sX5_sheet_39, sX5_sheet_40, sX5_sheet_42, sX5_sheet_45, sX5_sheet_46, sX5_sheet_47, sX5_sheet_49, sX5_sheet_52, sX5_sheet_53, sX5_sheet_54, sX5_sheet_57, sX5_sheet_58, sX5_sheet_59, sX5_sheet_62, sX5_sheet_63, sX5_sheet_64, sX5_sheet_65, sX5_sheet_66, sX5_sheet_69, sX5_sheet_70, sX5_sheet_73, sX5_sheet_74, sX5_sheet_75, sX5_sheet_78, opK_some, guK_true, calK_some, rk_nil, rk_int, rk_ref, tl_some, tl_none, nb_int, nb_0, nb_1, nb_if, nb_if', q0, C_x_isSheet, hx, if_true, zero_eq, if_false, C_xf0]
    · rw [nX6_sheet]
      by_cases hx : 0 ≤ x ∧ x ≤ 3
      · have h0 : ¬ y = 0 := fun e => hg ⟨hx, Or.inl e⟩
        have h8 : ¬ y = 8 := fun e => hg ⟨hx, Or.inr (Or.inl e)⟩
        have h16 : ¬ y = 16 := fun e => hg ⟨hx, Or.inr (Or.inr (Or.inl e))⟩
        have h32 : ¬ y = 32 := fun e => hg ⟨hx, Or.inr (Or.inr (Or.inr e))⟩
        simp only [sX6_sheet_0, sX6_sheet_1, sX6_sheet_4, sX6_sheet_7, sX6_sheet_8, sX6_sheet_11, sX6_sheet_12, sX6_sheet_14, sX6_sheet_17, sX6_sheet_18, sX6_sheet_20, sX6_sheet_23, sX6_sheet_24, sX6_sheet_26, sX6_sheet_29, sX6_sheet_30, sX6_sheet_32, sX6_sheet_35, sX6_sheet_36, sX6_sheet_37, sX6_sheet_40, sX6_sheet_41, sX6_sheet_44, sX6_sheet_47, sX6_sheet_48, sX6_sheet_49, sX6_sheet_51, sX6_sheet_54, sX6_sheet_55, sX6_sheet_57, sX6_sheet_60, sX6_sheet_61, sX6_sheet_62, sX6_sheet_65, sX6_sheet_66, sX6_sheet_67, sX6_sheet_68, sX6_sheet_69, sX6_sheet_72, sX6_sheet_73, sX6_sheet_74, sX6_sheet_77, sX6_sheet_78, sX6_sheet_81, sX6_sheet_82, sX6_sheet_83, sX6_sheet_84, sX6_sheet_88, sX6_sheet_90, sX6_sheet_93, sX6_sheet_94, sX6_sheet_97, sX6_sheet_99, sX6_sheet_100, sX6_sheet_101, sX6_sheet_103, sX6_sheet_104, sX6_sheet_105, sX6_sheet_106, sX6_sheet_109, sX6_sheet_112, sX6_sheet_113, sX6_sheet_116, sX6_sheet_117, sX6_sheet_118, opK_some, guK_true, calK_some, rk_nil, rk_int, rk_ref, tl_some, tl_none, nb_int, nb_0, nb_1, nb_if, nb_if', q130, C_m_isSheet, hx, and_self, if_true, one_ne, if_false, h0, h8, h16, h32, C_mf0]
      · simp only [sX6_sheet_0, sX6_sheet_1, sX6_sheet_4, sX6_sheet_7, sX6_sheet_8, sX6_sheet_11, sX6_sheet_12, sX6_sheet_14, sX6_sheet_17, sX6_sheet_18, sX6_sheet_20, sX6_sheet_23, sX6_sheet_24, sX6_sheet_26, sX6_sheet_29, sX6_sheet_30, sX6_sheet_32, sX6_sheet_35, sX6_sheet_36, sX6_sheet_37, sX6_sheet_40, sX6_sheet_41, sX6_sheet_44, sX6_sheet_47, sX6_sheet_48, sX6_sheet_49, sX6_sheet_51, sX6_sheet_54, sX6_sheet_55, sX6_sheet_57, sX6_sheet_60, sX6_sheet_61, sX6_sheet_62, sX6_sheet_65, sX6_sheet_66, sX6_sheet_67, sX6_sheet_68, sX6_sheet_69, sX6_sheet_72, sX6_sheet_73, sX6_sheet_74, sX6_sheet_77, sX6_sheet_78, sX6_sheet_81, sX6_sheet_82, sX6_sheet_83, sX6_sheet_84, sX6_sheet_88, sX6_sheet_90, sX6_sheet_93, sX6_sheet_94, sX6_sheet_97, sX6_sheet_99, sX6_sheet_100, sX6_sheet_101, sX6_sheet_103, sX6_sheet_104, sX6_sheet_105, sX6_sheet_106, sX6_sheet_109, sX6_sheet_112, sX6_sheet_113, sX6_sheet_116, sX6_sheet_117, sX6_sheet_118, opK_some, guK_true, calK_some, rk_nil, rk_int, rk_ref, tl_some, tl_none, nb_int, nb_0, nb_1, nb_if, nb_if', q130, C_m_isSheet, hx, if_true, zero_eq, if_false, C_mf0]
/-- a number cut to a sheet's width -/
def cutR (b v : Int32) : Int32 := if b = 8 then v.toInt8.toInt32 else if b = 16 then v.toInt16.toInt32 else v
theorem sw_p8 {f : Nat → Option Rs} : jmpK 4 (Op.lookupswitch.offset [(8, 28), (16, 39)] 50 (8 : Int32).toInt) f = f 32 := rfl
theorem sw_p16 {f : Nat → Option Rs} : jmpK 4 (Op.lookupswitch.offset [(8, 28), (16, 39)] 50 (16 : Int32).toInt) f = f 43 := rfl
theorem sw_p32 {f : Nat → Option Rs} : jmpK 4 (Op.lookupswitch.offset [(8, 28), (16, 39)] 50 (32 : Int32).toInt) f = f 54 := rfl
theorem C_put {d s i : Nat} {M : Mem} {v : Int32} (hs : s < 4) (hi : i < 40) (hb : M (120 + 2 * s) 0 = 8 ∨ M (120 + 2 * s) 0 = 16 ∨ M (120 + 2 * s) 0 = 32) : call (d + 1) 121 [.ref (120 + 2 * s), .int (nI i), .int v] M = some (none, mset M (121 + 2 * s) i (cutR (M (120 + 2 * s) 0) v)) := by
  rw [nX3_put]
  simp only [sX3_put_0, sX3_put_1, sX3_put_32, sX3_put_33, sX3_put_36, sX3_put_37, sX3_put_38, sX3_put_39, sX3_put_40, sX3_put_43, sX3_put_44, sX3_put_47, sX3_put_48, sX3_put_49, sX3_put_50, sX3_put_51, sX3_put_54, sX3_put_55, sX3_put_58, sX3_put_59, sX3_put_60, sX3_put_61, opK_some, guK_true, calK_some, rk_nil, rk_int, rk_ref, tl_some, tl_none, nb_int, nb_0, nb_1, nb_if, nb_if', sh0 hs]
  rcases hb with hb | hb | hb
  · rw [hb, sX3_put_4, sw_p8]
    simp only [sX3_put_0, sX3_put_1, sX3_put_32, sX3_put_33, sX3_put_36, sX3_put_37, sX3_put_38, sX3_put_39, sX3_put_40, sX3_put_43, sX3_put_44, sX3_put_47, sX3_put_48, sX3_put_49, sX3_put_50, sX3_put_51, sX3_put_54, sX3_put_55, sX3_put_58, sX3_put_59, sX3_put_60, sX3_put_61, opK_some, guK_true, calK_some, rk_nil, rk_int, rk_ref, tl_some, tl_none, nb_int, nb_0, nb_1, nb_if, nb_if', sh2 hs, shn hs, sha hs, inb_nI hi (by omega), nI_clamp (show i < 2 ^ 31 by omega)]
    rfl
  · rw [hb, sX3_put_4, sw_p16]
    simp only [sX3_put_0, sX3_put_1, sX3_put_32, sX3_put_33, sX3_put_36, sX3_put_37, sX3_put_38, sX3_put_39, sX3_put_40, sX3_put_43, sX3_put_44, sX3_put_47, sX3_put_48, sX3_put_49, sX3_put_50, sX3_put_51, sX3_put_54, sX3_put_55, sX3_put_58, sX3_put_59, sX3_put_60, sX3_put_61, opK_some, guK_true, calK_some, rk_nil, rk_int, rk_ref, tl_some, tl_none, nb_int, nb_0, nb_1, nb_if, nb_if', sh2 hs, shn hs, sha hs, inb_nI hi (by omega), nI_clamp (show i < 2 ^ 31 by omega)]
    rfl
  · rw [hb, sX3_put_4, sw_p32]
    simp only [sX3_put_0, sX3_put_1, sX3_put_32, sX3_put_33, sX3_put_36, sX3_put_37, sX3_put_38, sX3_put_39, sX3_put_40, sX3_put_43, sX3_put_44, sX3_put_47, sX3_put_48, sX3_put_49, sX3_put_50, sX3_put_51, sX3_put_54, sX3_put_55, sX3_put_58, sX3_put_59, sX3_put_60, sX3_put_61, opK_some, guK_true, calK_some, rk_nil, rk_int, rk_ref, tl_some, tl_none, nb_int, nb_0, nb_1, nb_if, nb_if', sh2 hs, shn hs, sha hs, inb_nI hi (by omega), nI_clamp (show i < 2 ^ 31 by omega)]
    rfl
theorem C_cutTo {d : Nat} {M : Mem} {b v : Int32} : call (d + 1) 237 [.int v, .int b] M = some (some (.int (cutR b v)), M) := by
  rw [nX6_cutTo]
  unfold cutR
  by_cases h8 : b = 8
  · simp only [sX6_cutTo_0, sX6_cutTo_1, sX6_cutTo_3, sX6_cutTo_6, sX6_cutTo_7, sX6_cutTo_8, sX6_cutTo_11, sX6_cutTo_12, sX6_cutTo_14, sX6_cutTo_17, sX6_cutTo_18, sX6_cutTo_19, sX6_cutTo_22, sX6_cutTo_23, opK_some, guK_true, calK_some, rk_nil, rk_int, rk_ref, tl_some, tl_none, nb_int, nb_0, nb_1, nb_if, nb_if', h8, if_true]
  · by_cases h16 : b = 16
    · simp only [sX6_cutTo_0, sX6_cutTo_1, sX6_cutTo_3, sX6_cutTo_6, sX6_cutTo_7, sX6_cutTo_8, sX6_cutTo_11, sX6_cutTo_12, sX6_cutTo_14, sX6_cutTo_17, sX6_cutTo_18, sX6_cutTo_19, sX6_cutTo_22, sX6_cutTo_23, opK_some, guK_true, calK_some, rk_nil, rk_int, rk_ref, tl_some, tl_none, nb_int, nb_0, nb_1, nb_if, nb_if', h16, if_true, show ((16 : Int32) = 8) = False from eq_false (by decide), if_false]
    · simp only [sX6_cutTo_0, sX6_cutTo_1, sX6_cutTo_3, sX6_cutTo_6, sX6_cutTo_7, sX6_cutTo_8, sX6_cutTo_11, sX6_cutTo_12, sX6_cutTo_14, sX6_cutTo_17, sX6_cutTo_18, sX6_cutTo_19, sX6_cutTo_22, sX6_cutTo_23, opK_some, guK_true, calK_some, rk_nil, rk_int, rk_ref, tl_some, tl_none, nb_int, nb_0, nb_1, nb_if, nb_if', h8, h16, if_false]

