/-! the class tells all -/
theorem C_tellRule {d i n b : Nat} {S V : Nat → Int32} {Bg : Nat → Nat} {M : Mem} {r : Rw} (tl : Tl S V Bg n M) (hn : n ≤ 120) (hS2 : ∀ i, S i = 2 → i ≤ n → i < n) (e6 : M 7 6 = nI i) (hi' : i < n) (w : WR r) (h : HR M 30 r) (hb : b = 0 ∨ b = 1) :
    ∃ M', call (d + 3) 112 [.ref 7, .ref 30, .int (nI b)] M = some (some (.int (if (piR S V (if b = 1 then 1 else 0) (if b = 1 then 40 else 9) (if b = 1 then 1 else 2) i r).1 = true then 1 else 0)), M') ∧ Tc M M' ∧ M' 7 6 = nI (piR S V (if b = 1 then 1 else 0) (if b = 1 then 40 else 9) (if b = 1 then 1 else 2) i r).2.1 ∧ (piR S V (if b = 1 then 1 else 0) (if b = 1 then 40 else 9) (if b = 1 then 1 else 2) i r).2.1 ≤ n ∧ ((piR S V (if b = 1 then 1 else 0) (if b = 1 then 40 else 9) (if b = 1 then 1 else 2) i r).1 = true → HR M' 30 (piR S V (if b = 1 then 1 else 0) (if b = 1 then 40 else 9) (if b = 1 then 1 else 2) i r).2.2) := by
  have c1 := C_step (d := d + 1) (M := M) tl.1 e6 hi' hn
  rw [show d + 1 + 1 = d + 2 from rfl] at c1
  obtain ⟨M1, hM1⟩ : ∃ M1, M1 = mset M 7 6 (nI (i + 1)) := ⟨_, rfl⟩
  rw [← hM1] at c1
  have t01 : Tc M M1 := by rw [hM1]; exact Tc.at
  have tl1 := tl.tc t01
  have f6 : M1 7 6 = nI (i + 1) := by rw [hM1, mset_at, upd_at]
  have h1 : HR M1 30 r := by rw [hM1]; exact HR_7 h
  obtain ⟨_, _, u3⟩ := tl1.2 (i + 1) (by omega)
  have fin : ∀ (b' : Int32) (lo hi : Int32) (k s : Nat), ((k = 1 ∧ s = 10) ∨ (k = 2 ∧ s = 11)) → nuP S V lo hi (i + 1) → lim (call (d + 2)) none 4 cX4_tellRule (some .boolean) 33 [some (.ref 7), some (.ref 30), some (.int b')] [] M1 = lim (call (d + 2)) none 4 cX4_tellRule (some .boolean) 66 [some (.ref 7), some (.ref 30), some (.int b')] [] (mset M1 30 s (V (i + 1))) → ∃ M', lim (call (d + 2)) none 4 cX4_tellRule (some .boolean) 33 [some (.ref 7), some (.ref 30), some (.int b')] [] M1 = some (some (.int 1), M') ∧ Tc M M' ∧ M' 7 6 = nI (i + 2) ∧ i + 2 ≤ n ∧ HR M' 30 (upd r k (V (i + 1))) := by
    intro b' lo hi k s hks hp e
    have hin2 := hS2 (i + 1) hp.1 (by omega)
    obtain ⟨M2, hM2⟩ : ∃ M2, M2 = mset M1 30 s (V (i + 1)) := ⟨_, rfl⟩
    have t12 : Tc M1 M2 := by rw [hM2]; exact Tc.ou Ou.set0
    have tl2 := tl1.tc t12
    have g6 : M2 7 6 = nI (i + 1) := by rw [hM2, mset_ne (by omega)]; exact f6
    have h2 : HR M2 30 (upd r k (V (i + 1))) := by
      rw [hM2]
      rcases hks with ⟨rfl, rfl⟩ | ⟨rfl, rfl⟩
      · exact (HR_12 h1 w).1
      · exact (HR_12 h1 w).2
    have c4 := C_step (d := d + 1) (M := M2) tl2.1 g6 (by omega) hn
    rw [show d + 1 + 1 = d + 2 from rfl] at c4
    rw [e, ← hM2, sX4_tellRule_66]
    simp only [sX4_tellRule_0, sX4_tellRule_1, sX4_tellRule_4, sX4_tellRule_5, sX4_tellRule_8, sX4_tellRule_9, sX4_tellRule_10, sX4_tellRule_12, sX4_tellRule_15, sX4_tellRule_18, sX4_tellRule_21, sX4_tellRule_22, sX4_tellRule_23, sX4_tellRule_25, sX4_tellRule_28, sX4_tellRule_31, sX4_tellRule_32, sX4_tellRule_34, sX4_tellRule_37, sX4_tellRule_38, sX4_tellRule_39, sX4_tellRule_42, sX4_tellRule_43, sX4_tellRule_46, sX4_tellRule_47, sX4_tellRule_50, sX4_tellRule_53, sX4_tellRule_54, sX4_tellRule_55, sX4_tellRule_58, sX4_tellRule_59, sX4_tellRule_62, sX4_tellRule_63, sX4_tellRule_67, sX4_tellRule_70, sX4_tellRule_71, opK_some, guK_true, calK_some, rk_nil, rk_int, rk_ref, tl_some, tl_none, nb_int, nb_0, nb_1, nb_if, nb_if', q7, c4]
    exact ⟨_, rfl, (t01.tr t12).tr Tc.at, by rw [mset_at, upd_at], by omega, HR_7 h2⟩
  rw [show d + 3 = d + 2 + 1 from rfl, nX4_tellRule]
  rcases hb with rfl | rfl
  · have c2 := C_isNumber (d := d) (lo := 0) (hi := 9) tl1 f6 (by omega) hn
    simp only [sX4_tellRule_0, sX4_tellRule_1, sX4_tellRule_4, sX4_tellRule_5, sX4_tellRule_8, sX4_tellRule_9, sX4_tellRule_10, sX4_tellRule_12, sX4_tellRule_15, sX4_tellRule_18, sX4_tellRule_21, sX4_tellRule_22, sX4_tellRule_23, sX4_tellRule_25, sX4_tellRule_28, sX4_tellRule_31, sX4_tellRule_32, sX4_tellRule_34, sX4_tellRule_37, sX4_tellRule_38, sX4_tellRule_39, sX4_tellRule_42, sX4_tellRule_43, sX4_tellRule_46, sX4_tellRule_47, sX4_tellRule_50, sX4_tellRule_53, sX4_tellRule_54, sX4_tellRule_55, sX4_tellRule_58, sX4_tellRule_59, sX4_tellRule_62, sX4_tellRule_63, sX4_tellRule_67, sX4_tellRule_70, sX4_tellRule_71, opK_some, guK_true, calK_some, rk_nil, rk_int, rk_ref, tl_some, tl_none, nb_int, nb_0, nb_1, nb_if, nb_if', q7, c1, nI_0, zero_eq, if_true, c2]
    show ∃ M', _ = some (some (Value.int (if (piR S V 0 9 2 i r).1 = true then 1 else 0)), M') ∧ Tc M M' ∧ M' 7 6 = nI (piR S V 0 9 2 i r).2.1 ∧ (piR S V 0 9 2 i r).2.1 ≤ n ∧ ((piR S V 0 9 2 i r).1 = true → HR M' 30 (piR S V 0 9 2 i r).2.2)
    by_cases hp : nuP S V 0 9 (i + 1)
    · have ep : piR S V 0 9 2 i r = (true, i + 2, upd r 2 (V (i + 1))) := if_pos hp
      rw [if_pos hp, if_neg (by decide), ep]
      obtain ⟨M', c, a1, a2, a3, a4⟩ := fin 0 0 9 2 11 (Or.inr ⟨rfl, rfl⟩) hp (by
        rw [sX4_tellRule_33]
        simp only [sX4_tellRule_0, sX4_tellRule_1, sX4_tellRule_4, sX4_tellRule_5, sX4_tellRule_8, sX4_tellRule_9, sX4_tellRule_10, sX4_tellRule_12, sX4_tellRule_15, sX4_tellRule_18, sX4_tellRule_21, sX4_tellRule_22, sX4_tellRule_23, sX4_tellRule_25, sX4_tellRule_28, sX4_tellRule_31, sX4_tellRule_32, sX4_tellRule_34, sX4_tellRule_37, sX4_tellRule_38, sX4_tellRule_39, sX4_tellRule_42, sX4_tellRule_43, sX4_tellRule_46, sX4_tellRule_47, sX4_tellRule_50, sX4_tellRule_53, sX4_tellRule_54, sX4_tellRule_55, sX4_tellRule_58, sX4_tellRule_59, sX4_tellRule_62, sX4_tellRule_63, sX4_tellRule_67, sX4_tellRule_70, sX4_tellRule_71, opK_some, guK_true, calK_some, rk_nil, rk_int, rk_ref, tl_some, tl_none, nb_int, nb_0, nb_1, nb_if, nb_if', zero_eq, if_true, o7_4, o7_6, a94, f6, inb_nI (show i + 1 < 121 by omega) (by omega), nI_clamp (show i + 1 < 2 ^ 31 by omega), u3, hi_11 hen30])
      exact ⟨M', c, a1, a2, a3, fun _ => a4⟩
    · have ep : piR S V 0 9 2 i r = (false, i + 1, r) := if_neg hp
      rw [if_neg hp, if_pos rfl, ep]
      exact ⟨M1, rfl, t01, f6, hi', fun z => absurd (show false = true from z) (by decide)⟩
  · have c2 := C_isNumber (d := d) (lo := 1) (hi := 40) tl1 f6 (by omega) hn
    simp only [sX4_tellRule_0, sX4_tellRule_1, sX4_tellRule_4, sX4_tellRule_5, sX4_tellRule_8, sX4_tellRule_9, sX4_tellRule_10, sX4_tellRule_12, sX4_tellRule_15, sX4_tellRule_18, sX4_tellRule_21, sX4_tellRule_22, sX4_tellRule_23, sX4_tellRule_25, sX4_tellRule_28, sX4_tellRule_31, sX4_tellRule_32, sX4_tellRule_34, sX4_tellRule_37, sX4_tellRule_38, sX4_tellRule_39, sX4_tellRule_42, sX4_tellRule_43, sX4_tellRule_46, sX4_tellRule_47, sX4_tellRule_50, sX4_tellRule_53, sX4_tellRule_54, sX4_tellRule_55, sX4_tellRule_58, sX4_tellRule_59, sX4_tellRule_62, sX4_tellRule_63, sX4_tellRule_67, sX4_tellRule_70, sX4_tellRule_71, opK_some, guK_true, calK_some, rk_nil, rk_int, rk_ref, tl_some, tl_none, nb_int, nb_0, nb_1, nb_if, nb_if', q7, c1, show nI 1 = 1 from rfl, one_ne, if_false, if_true, c2]
    show ∃ M', _ = some (some (Value.int (if (piR S V 1 40 1 i r).1 = true then 1 else 0)), M') ∧ Tc M M' ∧ M' 7 6 = nI (piR S V 1 40 1 i r).2.1 ∧ (piR S V 1 40 1 i r).2.1 ≤ n ∧ ((piR S V 1 40 1 i r).1 = true → HR M' 30 (piR S V 1 40 1 i r).2.2)
    by_cases hp : nuP S V 1 40 (i + 1)
    · have ep : piR S V 1 40 1 i r = (true, i + 2, upd r 1 (V (i + 1))) := if_pos hp
      rw [if_pos hp, if_neg (by decide), ep]
      obtain ⟨M', c, a1, a2, a3, a4⟩ := fin 1 1 40 1 10 (Or.inl ⟨rfl, rfl⟩) hp (by
        rw [sX4_tellRule_33]
        simp only [sX4_tellRule_0, sX4_tellRule_1, sX4_tellRule_4, sX4_tellRule_5, sX4_tellRule_8, sX4_tellRule_9, sX4_tellRule_10, sX4_tellRule_12, sX4_tellRule_15, sX4_tellRule_18, sX4_tellRule_21, sX4_tellRule_22, sX4_tellRule_23, sX4_tellRule_25, sX4_tellRule_28, sX4_tellRule_31, sX4_tellRule_32, sX4_tellRule_34, sX4_tellRule_37, sX4_tellRule_38, sX4_tellRule_39, sX4_tellRule_42, sX4_tellRule_43, sX4_tellRule_46, sX4_tellRule_47, sX4_tellRule_50, sX4_tellRule_53, sX4_tellRule_54, sX4_tellRule_55, sX4_tellRule_58, sX4_tellRule_59, sX4_tellRule_62, sX4_tellRule_63, sX4_tellRule_67, sX4_tellRule_70, sX4_tellRule_71, opK_some, guK_true, calK_some, rk_nil, rk_int, rk_ref, tl_some, tl_none, nb_int, nb_0, nb_1, nb_if, nb_if', one_ne, if_false, o7_4, o7_6, a94, f6, inb_nI (show i + 1 < 121 by omega) (by omega), nI_clamp (show i + 1 < 2 ^ 31 by omega), u3, hi_10 hen30])
      exact ⟨M', c, a1, a2, a3, fun _ => a4⟩
    · have ep : piR S V 1 40 1 i r = (false, i + 1, r) := if_neg hp
      rw [if_neg hp, if_pos rfl, ep]
      exact ⟨M1, rfl, t01, f6, hi', fun z => absurd (show false = true from z) (by decide)⟩
theorem pK_IR {S V : Nat → Int32} {i : Nat} {r : Rw} (ir : IR r) (hV : 0 ≤ V i ∧ V i ≤ 6) (h : (piK S V i r).1 = true) : IR (piK S V i r).2.2 := by
  unfold piK at h ⊢
  by_cases c0 : r 3 < 10
  · rw [if_neg (show ¬ ¬ r 3 < 10 from fun z => z c0)] at h ⊢
    by_cases k1 : (pB S V i).1 = true
    · rw [if_neg (show ¬ ¬ (pB S V i).1 = true from fun z => z k1)] at h ⊢
      by_cases k2 : (pW S V i).1 = true
      · rw [if_neg (show ¬ ¬ (pW S V i).1 = true from fun z => z k2)] at h ⊢
        by_cases k3 : (pO S V i).1 = true
        · rw [if_neg (show ¬ ¬ (pO S V i).1 = true from fun z => z k3)]
          exact IR_com ir c0 (rg_cut hV (Int32.le_refl 0) rfl (by omega)) (pt_rg (n := 9) (by decide) rfl (by omega) (rg_of (j := 2) rfl (by omega) (by omega))) (pt_rg (n := 99) (Int32.le_refl 0) rfl (by omega) (rg_of (j := 10) rfl (by omega) (by omega))) (pt_rg (n := 1) (Int32.le_refl 0) rfl (by omega) (rg_of (j := 0) rfl (by omega) (by omega)))
        · rw [if_pos k3] at h
          exact absurd (show false = true from h) (by decide)
      · rw [if_pos k2] at h
        exact absurd (show false = true from h) (by decide)
    · rw [if_pos k1] at h
      exact absurd (show false = true from h) (by decide)
  · rw [if_pos c0] at h
    exact absurd (show false = true from h) (by decide)
theorem pR_IR {S V : Nat → Int32} {lo hi : Int32} {k i : Nat} {r : Rw} (ir : IR r) (hk : k = 1 ∨ k = 2) (h0 : 0 ≤ lo) (h : (piR S V lo hi k i r).1 = true) : IR (piR S V lo hi k i r).2.2 := by
  unfold piR at h ⊢
  by_cases c : nuP S V lo hi (i + 1)
  · rw [if_pos c]
    exact IR_12 ir hk (Int32.le_trans h0 c.2.1)
  · rw [if_neg c] at h
    exact absurd (show false = true from h) (by decide)
theorem pT_IR {S V : Nat → Int32} {i : Nat} {r : Rw} (ir : IR r) (h : (piT S V i r).1 = true) : IR (piT S V i r).2.2 := by
  unfold piT at h ⊢
  by_cases c1 : S i = 1 ∧ 0 ≤ V i ∧ V i ≤ 6
  · rw [if_pos c1] at h ⊢
    exact pK_IR ir c1.2 h
  · rw [if_neg c1] at h ⊢
    by_cases c2 : S i = 1 ∧ V i = 10
    · rw [if_pos c2] at h ⊢
      exact pR_IR ir (Or.inl rfl) (by decide) h
    · rw [if_neg c2] at h ⊢
      by_cases c3 : S i = 1 ∧ V i = 11
      · rw [if_pos c3] at h ⊢
        exact pR_IR ir (Or.inr rfl) (Int32.le_refl 0) h
      · rw [if_neg c3] at h
        exact absurd (show false = true from h) (by decide)
theorem pT_ge {S V : Nat → Int32} {i : Nat} {r : Rw} (h : (piT S V i r).1 = true) : i + 1 ≤ (piT S V i r).2.1 := by
  have kR : ∀ lo hi k, (piR S V lo hi k i r).1 = true → i + 1 ≤ (piR S V lo hi k i r).2.1 := by
    intro lo hi k
    unfold piR
    split
    · intro _
      show i + 1 ≤ i + 2
      omega
    · intro _
      exact Nat.le_refl _
  unfold piT at h ⊢
  by_cases c1 : S i = 1 ∧ 0 ≤ V i ∧ V i ≤ 6
  · rw [if_pos c1] at h ⊢
    have g1 : i + 1 ≤ (pB S V i).2.1 := pt_ge
    have g2 : (pB S V i).2.1 ≤ (pW S V i).2.1 := pt_ge
    have g3 : (pW S V i).2.1 ≤ (pO S V i).2.1 := pt_ge
    unfold piK at h ⊢
    split at h
    · exact absurd (show false = true from h) (by decide)
    · rename_i n0
      rw [if_neg n0]
      split at h
      · exact absurd (show false = true from h) (by decide)
      · rename_i n1
        rw [if_neg n1]
        split at h
        · exact absurd (show false = true from h) (by decide)
        · rename_i n2
          rw [if_neg n2]
          split at h
          · exact absurd (show false = true from h) (by decide)
          · rename_i n3
            rw [if_neg n3]
            show i + 1 ≤ (pO S V i).2.1
            omega
  · rw [if_neg c1] at h ⊢
    by_cases c2 : S i = 1 ∧ V i = 10
    · rw [if_pos c2] at h ⊢
      exact kR _ _ _ h
    · rw [if_neg c2] at h ⊢
      by_cases c3 : S i = 1 ∧ V i = 11
      · rw [if_pos c3] at h ⊢
        exact kR _ _ _ h
      · rw [if_neg c3] at h
        exact absurd (show false = true from h) (by decide)
theorem C_tellItem {d i n : Nat} {S V : Nat → Int32} {Bg : Nat → Nat} {M : Mem} {r : Rw} (tl : Tl S V Bg n M) (hn : n ≤ 120) (hS : S n = 0) (hS2 : ∀ i, S i = 2 → i ≤ n → i < n) (hV : ∀ i, S i = 1 → V i = -1 ∨ ∃ k, k < 12 ∧ V i = nI k) (e6 : M 7 6 = nI i) (hi' : i ≤ n) (ir : IR r) (h : HR M 30 r) :
    ∃ M', call (d + 5) 107 [.ref 7, .ref 30] M = some (some (.int (if (piT S V i r).1 = true then 1 else 0)), M') ∧ Tc M M' ∧ M' 7 6 = nI (piT S V i r).2.1 ∧ (piT S V i r).2.1 ≤ n ∧ ((piT S V i r).1 = true → HR M' 30 (piT S V i r).2.2) := by
  obtain ⟨t1, _, t3⟩ := tl.2 i hi'
  have ia := inb_nI (show i < 121 by omega) (show 121 < 2 ^ 31 by omega)
  have ca := nI_clamp (show i < 2 ^ 31 by omega)
  rw [show d + 5 = d + 4 + 1 from rfl, nX4_tellItem]
  simp only [sX4_tellItem_0, sX4_tellItem_1, sX4_tellItem_4, sX4_tellItem_5, sX4_tellItem_8, sX4_tellItem_9, sX4_tellItem_10, sX4_tellItem_13, sX4_tellItem_14, sX4_tellItem_17, sX4_tellItem_18, sX4_tellItem_21, sX4_tellItem_22, sX4_tellItem_25, sX4_tellItem_27, sX4_tellItem_28, sX4_tellItem_31, sX4_tellItem_32, sX4_tellItem_33, sX4_tellItem_34, sX4_tellItem_36, sX4_tellItem_39, sX4_tellItem_40, sX4_tellItem_41, sX4_tellItem_42, sX4_tellItem_43, sX4_tellItem_46, sX4_tellItem_49, sX4_tellItem_50, sX4_tellItem_51, sX4_tellItem_53, sX4_tellItem_56, sX4_tellItem_57, sX4_tellItem_59, sX4_tellItem_62, sX4_tellItem_63, sX4_tellItem_64, sX4_tellItem_65, sX4_tellItem_67, sX4_tellItem_70, sX4_tellItem_71, sX4_tellItem_74, sX4_tellItem_75, sX4_tellItem_78, sX4_tellItem_81, sX4_tellItem_82, sX4_tellItem_85, sX4_tellItem_86, opK_some, guK_true, calK_some, rk_nil, rk_int, rk_ref, tl_some, tl_none, nb_int, nb_0, nb_1, nb_if, nb_if', o7_2, o7_4, o7_6, a92, a94, e6, ia, ca, t1, t3]
  have bad : ¬ (S i = 1 ∧ 0 ≤ V i ∧ V i ≤ 6) → ¬ (S i = 1 ∧ V i = 10) → ¬ (S i = 1 ∧ V i = 11) → ∀ x : Int32, (¬ (0 ≤ x ∧ x ≤ 6) ∧ ¬ x = 10 ∧ ¬ x = 11) → ∃ M', lim (call (d + 4)) none 4 cX4_tellItem (some .boolean) 26 [some (.ref 7), some (.ref 30), none] [.int x] M = some (some (.int (if (piT S V i r).1 = true then 1 else 0)), M') ∧ Tc M M' ∧ M' 7 6 = nI (piT S V i r).2.1 ∧ (piT S V i r).2.1 ≤ n ∧ ((piT S V i r).1 = true → HR M' 30 (piT S V i r).2.2) := by
    intro n1 n2 n3 x hx
    have ep : piT S V i r = (false, i, r) := by
      unfold piT
      rw [if_neg n1, if_neg n2, if_neg n3]
    rw [ep, sX4_tellItem_26]
    refine ⟨M, ?_, Tc.rf, e6, hi', fun z => absurd (show false = true from z) (by decide)⟩
    by_cases h0 : (0 : Int32) ≤ x
    · have h6 : 6 < x := Int32.not_le.mp (fun z => hx.1 ⟨h0, z⟩)
      simp only [sX4_tellItem_0, sX4_tellItem_1, sX4_tellItem_4, sX4_tellItem_5, sX4_tellItem_8, sX4_tellItem_9, sX4_tellItem_10, sX4_tellItem_13, sX4_tellItem_14, sX4_tellItem_17, sX4_tellItem_18, sX4_tellItem_21, sX4_tellItem_22, sX4_tellItem_25, sX4_tellItem_27, sX4_tellItem_28, sX4_tellItem_31, sX4_tellItem_32, sX4_tellItem_33, sX4_tellItem_34, sX4_tellItem_36, sX4_tellItem_39, sX4_tellItem_40, sX4_tellItem_41, sX4_tellItem_42, sX4_tellItem_43, sX4_tellItem_46, sX4_tellItem_49, sX4_tellItem_50, sX4_tellItem_51, sX4_tellItem_53, sX4_tellItem_56, sX4_tellItem_57, sX4_tellItem_59, sX4_tellItem_62, sX4_tellItem_63, sX4_tellItem_64, sX4_tellItem_65, sX4_tellItem_67, sX4_tellItem_70, sX4_tellItem_71, sX4_tellItem_74, sX4_tellItem_75, sX4_tellItem_78, sX4_tellItem_81, sX4_tellItem_82, sX4_tellItem_85, sX4_tellItem_86, opK_some, guK_true, calK_some, rk_nil, rk_int, rk_ref, tl_some, tl_none, nb_int, nb_0, nb_1, nb_if, nb_if', h0, if_true, h6, hx.2.1, hx.2.2, if_false]
      rfl
    · simp only [sX4_tellItem_0, sX4_tellItem_1, sX4_tellItem_4, sX4_tellItem_5, sX4_tellItem_8, sX4_tellItem_9, sX4_tellItem_10, sX4_tellItem_13, sX4_tellItem_14, sX4_tellItem_17, sX4_tellItem_18, sX4_tellItem_21, sX4_tellItem_22, sX4_tellItem_25, sX4_tellItem_27, sX4_tellItem_28, sX4_tellItem_31, sX4_tellItem_32, sX4_tellItem_33, sX4_tellItem_34, sX4_tellItem_36, sX4_tellItem_39, sX4_tellItem_40, sX4_tellItem_41, sX4_tellItem_42, sX4_tellItem_43, sX4_tellItem_46, sX4_tellItem_49, sX4_tellItem_50, sX4_tellItem_51, sX4_tellItem_53, sX4_tellItem_56, sX4_tellItem_57, sX4_tellItem_59, sX4_tellItem_62, sX4_tellItem_63, sX4_tellItem_64, sX4_tellItem_65, sX4_tellItem_67, sX4_tellItem_70, sX4_tellItem_71, sX4_tellItem_74, sX4_tellItem_75, sX4_tellItem_78, sX4_tellItem_81, sX4_tellItem_82, sX4_tellItem_85, sX4_tellItem_86, opK_some, guK_true, calK_some, rk_nil, rk_int, rk_ref, tl_some, tl_none, nb_int, nb_0, nb_1, nb_if, nb_if', h0, if_false]
      rfl
  by_cases h1 : S i = 1
  · have hin : i < n := by
      rcases Nat.lt_or_ge i n with c | c
      · exact c
      · have : i = n := by omega
        rw [this, hS] at h1
        exact absurd h1 (by decide)
    rw [if_pos h1]
    rcases hV i h1 with hv | ⟨k, hk, hv⟩
    · have e1 : ¬ (0 ≤ V i ∧ V i ≤ 6) := by rw [hv]; decide
      have e2 : ¬ V i = 10 := by rw [hv]; decide
      have e3 : ¬ V i = 11 := by rw [hv]; decide
      exact bad (fun z => e1 z.2) (fun z => e2 z.2) (fun z => e3 z.2) (V i) ⟨e1, e2, e3⟩
    · have h0 : (0 : Int32) ≤ V i := by rw [hv]; exact nI_le (a := 0) (by omega) (by omega)
      by_cases h6 : V i ≤ 6
      · have ep : piT S V i r = piK S V i r := if_pos ⟨h1, h0, h6⟩
        have n6 : ¬ 6 < V i := Int32.not_lt.mpr h6
        rw [ep, sX4_tellItem_26]
        by_cases hr : r 3 < 10
        · obtain ⟨M2, c2, h2, o2⟩ := (C_addThing (d := d + 2) (k := V i) hen30 h ir.1.1).2 hr
          rw [show d + 2 + 2 = d + 4 from rfl] at c2
          have t12 : Tc M M2 := Tc.ou o2
          obtain ⟨M3, c3, t23, g3, l3, h3⟩ := C_tellThing (d := d) (tl.tc t12) hn hS hS2 (by rw [o2 7 (by omega)]; exact e6) hin ir hr h2
          simp only [sX4_tellItem_0, sX4_tellItem_1, sX4_tellItem_4, sX4_tellItem_5, sX4_tellItem_8, sX4_tellItem_9, sX4_tellItem_10, sX4_tellItem_13, sX4_tellItem_14, sX4_tellItem_17, sX4_tellItem_18, sX4_tellItem_21, sX4_tellItem_22, sX4_tellItem_25, sX4_tellItem_27, sX4_tellItem_28, sX4_tellItem_31, sX4_tellItem_32, sX4_tellItem_33, sX4_tellItem_34, sX4_tellItem_36, sX4_tellItem_39, sX4_tellItem_40, sX4_tellItem_41, sX4_tellItem_42, sX4_tellItem_43, sX4_tellItem_46, sX4_tellItem_49, sX4_tellItem_50, sX4_tellItem_51, sX4_tellItem_53, sX4_tellItem_56, sX4_tellItem_57, sX4_tellItem_59, sX4_tellItem_62, sX4_tellItem_63, sX4_tellItem_64, sX4_tellItem_65, sX4_tellItem_67, sX4_tellItem_70, sX4_tellItem_71, sX4_tellItem_74, sX4_tellItem_75, sX4_tellItem_78, sX4_tellItem_81, sX4_tellItem_82, sX4_tellItem_85, sX4_tellItem_86, opK_some, guK_true, calK_some, rk_nil, rk_int, rk_ref, tl_some, tl_none, nb_int, nb_0, nb_1, nb_if, nb_if', q7, h0, if_true, n6, if_false, hen_c hen30, c2, c3]
          exact ⟨M3, rfl, t12.tr t23, g3, l3, h3⟩
        · have ek : piK S V i r = (false, i, r) := by
            unfold piK
            rw [if_pos hr]
          have c2 := (C_addThing (d := d + 2) (k := V i) hen30 h ir.1.1).1 (Int32.not_lt.mp hr)
          rw [show d + 2 + 2 = d + 4 from rfl] at c2
          have c3 : call (d + 4) 108 [.ref 7, .ref 30, .int (-1)] M = some (some (.int 0), M) := by
            rw [show d + 4 = d + 3 + 1 from rfl, nX4_tellThing]
            simp only [sX4_tellThing_0, sX4_tellThing_1, sX4_tellThing_4, sX4_tellThing_5, sX4_tellThing_6, sX4_tellThing_7, sX4_tellThing_10, sX4_tellThing_11, sX4_tellThing_12, sX4_tellThing_13, sX4_tellThing_15, sX4_tellThing_16, sX4_tellThing_18, sX4_tellThing_21, sX4_tellThing_24, sX4_tellThing_25, sX4_tellThing_26, sX4_tellThing_27, sX4_tellThing_29, sX4_tellThing_30, sX4_tellThing_32, sX4_tellThing_35, sX4_tellThing_38, sX4_tellThing_39, sX4_tellThing_40, sX4_tellThing_41, sX4_tellThing_43, sX4_tellThing_44, sX4_tellThing_45, sX4_tellThing_48, sX4_tellThing_51, sX4_tellThing_52, sX4_tellThing_55, sX4_tellThing_56, opK_some, guK_true, calK_some, rk_nil, rk_int, rk_ref, tl_some, tl_none, nb_int, nb_0, nb_1, nb_if, nb_if', show ((0 : Int32) ≤ -1) = False from eq_false (by decide), if_false]
          simp only [sX4_tellItem_0, sX4_tellItem_1, sX4_tellItem_4, sX4_tellItem_5, sX4_tellItem_8, sX4_tellItem_9, sX4_tellItem_10, sX4_tellItem_13, sX4_tellItem_14, sX4_tellItem_17, sX4_tellItem_18, sX4_tellItem_21, sX4_tellItem_22, sX4_tellItem_25, sX4_tellItem_27, sX4_tellItem_28, sX4_tellItem_31, sX4_tellItem_32, sX4_tellItem_33, sX4_tellItem_34, sX4_tellItem_36, sX4_tellItem_39, sX4_tellItem_40, sX4_tellItem_41, sX4_tellItem_42, sX4_tellItem_43, sX4_tellItem_46, sX4_tellItem_49, sX4_tellItem_50, sX4_tellItem_51, sX4_tellItem_53, sX4_tellItem_56, sX4_tellItem_57, sX4_tellItem_59, sX4_tellItem_62, sX4_tellItem_63, sX4_tellItem_64, sX4_tellItem_65, sX4_tellItem_67, sX4_tellItem_70, sX4_tellItem_71, sX4_tellItem_74, sX4_tellItem_75, sX4_tellItem_78, sX4_tellItem_81, sX4_tellItem_82, sX4_tellItem_85, sX4_tellItem_86, opK_some, guK_true, calK_some, rk_nil, rk_int, rk_ref, tl_some, tl_none, nb_int, nb_0, nb_1, nb_if, nb_if', q7, h0, if_true, n6, if_false, hen_c hen30, c2, c3, ek]
          exact ⟨M, rfl, Tc.rf, e6, hi', fun z => absurd (show false = true from z) (by decide)⟩
      · have n6 : 6 < V i := Int32.not_le.mp h6
        by_cases e10 : V i = 10
        · have ep : piT S V i r = piR S V 1 40 1 i r := by
            unfold piT
            rw [if_neg (fun z => h6 z.2.2), if_pos ⟨h1, e10⟩]
          obtain ⟨M2, c2, a1, a2, a3, a4⟩ := C_tellRule (d := d + 1) (b := 1) tl hn hS2 e6 hin ir.1.1 h (Or.inr rfl)
          rw [show d + 1 + 3 = d + 4 from rfl, show nI 1 = 1 from rfl] at c2
          rw [ep, sX4_tellItem_26]
          simp only [sX4_tellItem_0, sX4_tellItem_1, sX4_tellItem_4, sX4_tellItem_5, sX4_tellItem_8, sX4_tellItem_9, sX4_tellItem_10, sX4_tellItem_13, sX4_tellItem_14, sX4_tellItem_17, sX4_tellItem_18, sX4_tellItem_21, sX4_tellItem_22, sX4_tellItem_25, sX4_tellItem_27, sX4_tellItem_28, sX4_tellItem_31, sX4_tellItem_32, sX4_tellItem_33, sX4_tellItem_34, sX4_tellItem_36, sX4_tellItem_39, sX4_tellItem_40, sX4_tellItem_41, sX4_tellItem_42, sX4_tellItem_43, sX4_tellItem_46, sX4_tellItem_49, sX4_tellItem_50, sX4_tellItem_51, sX4_tellItem_53, sX4_tellItem_56, sX4_tellItem_57, sX4_tellItem_59, sX4_tellItem_62, sX4_tellItem_63, sX4_tellItem_64, sX4_tellItem_65, sX4_tellItem_67, sX4_tellItem_70, sX4_tellItem_71, sX4_tellItem_74, sX4_tellItem_75, sX4_tellItem_78, sX4_tellItem_81, sX4_tellItem_82, sX4_tellItem_85, sX4_tellItem_86, opK_some, guK_true, calK_some, rk_nil, rk_int, rk_ref, tl_some, tl_none, nb_int, nb_0, nb_1, nb_if, nb_if', q7, h0, if_true, n6, e10, show ((6 : Int32) < 10) = True from eq_true (by decide), show ((0 : Int32) ≤ 10) = True from eq_true (by decide), c2]
          refine ⟨M2, ?_, a1, a2, a3, a4⟩
          show _ = some (some (Value.int (if (piR S V 1 40 1 i r).1 = true then 1 else 0)), M2)
          by_cases k : (piR S V 1 40 1 i r).1 = true
          · rw [if_pos k, if_neg (show ¬ (1 : Int32) = 0 by decide)]
          · rw [if_neg k, if_pos (show (0 : Int32) = 0 from rfl)]
        · by_cases e11 : V i = 11
          · have ep : piT S V i r = piR S V 0 9 2 i r := by
              unfold piT
              rw [if_neg (fun z => h6 z.2.2), if_neg (fun z => e10 z.2), if_pos ⟨h1, e11⟩]
            obtain ⟨M2, c2, a1, a2, a3, a4⟩ := C_tellRule (d := d + 1) (b := 0) tl hn hS2 e6 hin ir.1.1 h (Or.inl rfl)
            rw [show d + 1 + 3 = d + 4 from rfl, nI_0] at c2
            rw [ep, sX4_tellItem_26]
            simp only [sX4_tellItem_0, sX4_tellItem_1, sX4_tellItem_4, sX4_tellItem_5, sX4_tellItem_8, sX4_tellItem_9, sX4_tellItem_10, sX4_tellItem_13, sX4_tellItem_14, sX4_tellItem_17, sX4_tellItem_18, sX4_tellItem_21, sX4_tellItem_22, sX4_tellItem_25, sX4_tellItem_27, sX4_tellItem_28, sX4_tellItem_31, sX4_tellItem_32, sX4_tellItem_33, sX4_tellItem_34, sX4_tellItem_36, sX4_tellItem_39, sX4_tellItem_40, sX4_tellItem_41, sX4_tellItem_42, sX4_tellItem_43, sX4_tellItem_46, sX4_tellItem_49, sX4_tellItem_50, sX4_tellItem_51, sX4_tellItem_53, sX4_tellItem_56, sX4_tellItem_57, sX4_tellItem_59, sX4_tellItem_62, sX4_tellItem_63, sX4_tellItem_64, sX4_tellItem_65, sX4_tellItem_67, sX4_tellItem_70, sX4_tellItem_71, sX4_tellItem_74, sX4_tellItem_75, sX4_tellItem_78, sX4_tellItem_81, sX4_tellItem_82, sX4_tellItem_85, sX4_tellItem_86, opK_some, guK_true, calK_some, rk_nil, rk_int, rk_ref, tl_some, tl_none, nb_int, nb_0, nb_1, nb_if, nb_if', q7, h0, if_true, n6, e11, show ((6 : Int32) < 11) = True from eq_true (by decide), show ((0 : Int32) ≤ 11) = True from eq_true (by decide), show ((11 : Int32) = 10) = False from eq_false (by decide), if_false, c2]
            refine ⟨M2, ?_, a1, a2, a3, a4⟩
            show _ = some (some (Value.int (if (piR S V 0 9 2 i r).1 = true then 1 else 0)), M2)
            by_cases k : (piR S V 0 9 2 i r).1 = true
            · rw [if_pos k]
              show (if (if (piR S V 0 9 2 i r).1 = true then (1 : Int32) else 0) = 0 then _ else _) = _
              rw [if_pos k, if_neg (by decide)]
            · rw [if_neg k]
              show (if (if (piR S V 0 9 2 i r).1 = true then (1 : Int32) else 0) = 0 then _ else _) = _
              rw [if_neg k, if_pos rfl]
          · exact bad (fun z => h6 z.2.2) (fun z => e10 z.2) (fun z => e11 z.2) (V i) ⟨fun z => h6 z.2, e10, e11⟩
  · rw [if_neg h1]
    exact bad (fun z => h1 z.1) (fun z => h1 z.1) (fun z => h1 z.1) (-1) ⟨by decide, by decide, by decide⟩

