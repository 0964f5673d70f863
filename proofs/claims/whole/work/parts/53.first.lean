/-! the first egg of two, fed one behind the other -/
def feR (r : Rw) (i j : Nat) : Nat → Nat → Int32
  | _, 0 => -1
  | k, n + 1 => if laiD (bF r (r2 i j) 2 k) = nI i ∨ laiD (bF r (r2 i j) 2 k) = nI j then worD (bF r (r2 i j) 2 k) else feR r i j (k + 1) n
theorem r2_lt {i j : Nat} (hi : i < 10) (hj : j < 10) : ∀ k, k < 2 → r2 i j k < 10 := by
  intro k _
  show (if k = 0 then i else j) < 10
  split <;> omega
theorem L_firstWorth {d i j n : Nat} {M : Mem} {r : Rw} (w : WR r) (hi : i < 10) (hj : j < 10) (hn : n < 2 ^ 31) : ∀ (m k : Nat) (M1 : Mem) (v : Option Value), k + m = n → HR M1 30 (bN r (r2 i j) 2 k) → Ro M1 (r2 i j) 2 → Cs M M1 →
    ∃ M', lim (call (d + 4)) none 5 cX5_firstWorth (some .int) 31 [some (.ref 0), some (.int (nI i)), some (.int (nI j)), some (.int (nI n)), some (.int (nI k)), v] [] M1 = some (some (.int (feR r i j k m)), M') ∧ Cs M M' := by
  intro m
  induction m with
  | zero =>
    intro k M1 v hk h ro c
    obtain rfl : k = n := by omega
    rw [sX5_firstWorth_31]
    simp only [sX5_firstWorth_0, sX5_firstWorth_1, sX5_firstWorth_4, sX5_firstWorth_5, sX5_firstWorth_6, sX5_firstWorth_7, sX5_firstWorth_8, sX5_firstWorth_11, sX5_firstWorth_12, sX5_firstWorth_13, sX5_firstWorth_14, sX5_firstWorth_15, sX5_firstWorth_18, sX5_firstWorth_19, sX5_firstWorth_22, sX5_firstWorth_25, sX5_firstWorth_28, sX5_firstWorth_29, sX5_firstWorth_33, sX5_firstWorth_34, sX5_firstWorth_37, sX5_firstWorth_38, sX5_firstWorth_39, sX5_firstWorth_41, sX5_firstWorth_44, sX5_firstWorth_46, sX5_firstWorth_47, sX5_firstWorth_50, sX5_firstWorth_53, sX5_firstWorth_54, sX5_firstWorth_57, sX5_firstWorth_58, sX5_firstWorth_61, sX5_firstWorth_64, sX5_firstWorth_65, sX5_firstWorth_68, sX5_firstWorth_70, sX5_firstWorth_71, sX5_firstWorth_74, sX5_firstWorth_77, sX5_firstWorth_78, opK_some, guK_true, calK_some, rk_nil, rk_int, rk_ref, tl_some, tl_none, nb_int, nb_0, nb_1, nb_if, nb_if']
    rw [if_pos (show nI k ≤ nI k from Int32.le_refl _)]
    exact ⟨M1, rfl, c⟩
  | succ m ih =>
    intro k M1 v hk h ro c
    have wk := WR_bN w (r2_lt hi hj) k
    obtain ⟨M2, c2, h2, o2, a12, a13⟩ := C_feedDay (d := d + 0) (k := k) h wk ro (by omega)
    rw [show d + 0 + 4 = d + 4 from rfl] at c2
    have c2' : call (d + 4) 47 [.ref 0, .int 2, .int (nI k)] M1 = some (some (.int (worD (bF r (r2 i j) 2 k))), M2) := c2
    have cs2 : Cs M M2 := c.tr (Cs.ou (by omega) (by omega) o2)
    rw [sX5_firstWorth_31]
    simp only [sX5_firstWorth_0, sX5_firstWorth_1, sX5_firstWorth_4, sX5_firstWorth_5, sX5_firstWorth_6, sX5_firstWorth_7, sX5_firstWorth_8, sX5_firstWorth_11, sX5_firstWorth_12, sX5_firstWorth_13, sX5_firstWorth_14, sX5_firstWorth_15, sX5_firstWorth_18, sX5_firstWorth_19, sX5_firstWorth_22, sX5_firstWorth_25, sX5_firstWorth_28, sX5_firstWorth_29, sX5_firstWorth_33, sX5_firstWorth_34, sX5_firstWorth_37, sX5_firstWorth_38, sX5_firstWorth_39, sX5_firstWorth_41, sX5_firstWorth_44, sX5_firstWorth_46, sX5_firstWorth_47, sX5_firstWorth_50, sX5_firstWorth_53, sX5_firstWorth_54, sX5_firstWorth_57, sX5_firstWorth_58, sX5_firstWorth_61, sX5_firstWorth_64, sX5_firstWorth_65, sX5_firstWorth_68, sX5_firstWorth_70, sX5_firstWorth_71, sX5_firstWorth_74, sX5_firstWorth_77, sX5_firstWorth_78, opK_some, guK_true, calK_some, rk_nil, rk_int, rk_ref, tl_some, tl_none, nb_int, nb_0, nb_1, nb_if, nb_if', o0_6, q0, hs_12 hen30, c2', a12, nI_1]
    rw [if_neg (show ¬ nI n ≤ nI k from nI_ge (by omega) hn)]
    have fin := ih (k + 1) M2 (some (.int (worD (bF r (r2 i j) 2 k)))) (by omega) h2 (ro.ou o2) cs2
    by_cases h1 : laiD (bF r (r2 i j) 2 k) = nI i
    · have ek : feR r i j k (m + 1) = worD (bF r (r2 i j) 2 k) := if_pos (Or.inl h1)
      rw [if_pos h1, ek]
      exact ⟨M2, rfl, cs2⟩
    · by_cases h3 : laiD (bF r (r2 i j) 2 k) = nI j
      · have ek : feR r i j k (m + 1) = worD (bF r (r2 i j) 2 k) := if_pos (Or.inr h3)
        rw [if_neg h1, ek]
        simp only [h3, if_true]
        exact ⟨M2, rfl, cs2⟩
      · have ek : feR r i j k (m + 1) = feR r i j (k + 1) m := if_neg (fun z => z.elim h1 h3)
        rw [if_neg h1, ek]
        simp only [h3, if_false]
        exact fin
theorem C_firstWorth {d i j n : Nat} {M : Mem} {r : Rw} (h : HR M 10 r) (w : WR r) (hi : i < 10) (hj : j < 10) (hn : n < 2 ^ 31) : ∃ M', call (d + 5) 77 [.ref 0, .int (nI i), .int (nI j), .int (nI n)] M = some (some (.int (feR r i j 0 n)), M') ∧ Cs M M' := by
  obtain ⟨M1, hM1⟩ : ∃ M1, M1 = mset M 2 0 (nI i) := ⟨_, rfl⟩
  obtain ⟨M2, hM2⟩ : ∃ M2, M2 = mset M1 2 1 (nI j) := ⟨_, rfl⟩
  have cc1 : Cs M M1 := by rw [hM1]; exact Cs.set (Or.inl rfl)
  have cc2 : Cs M1 M2 := by rw [hM2]; exact Cs.set (Or.inl rfl)
  have c2 := cc1.tr cc2
  obtain ⟨M3, c3, h3, o3⟩ := C_become (d := d + 3) hen30 hen10 (by omega) (c2.hr h) w
  rw [show d + 3 + 1 = d + 4 from rfl] at c3
  have cs3 : Cs M M3 := c2.tr (Cs.ou (by omega) (by omega) o3)
  have ro2 : Ro M2 (r2 i j) 2 := by
    refine ⟨by omega, fun k hk => ?_⟩
    rcases (show k = 0 ∨ k = 1 by omega) with rfl | rfl
    · exact ⟨hi, by rw [hM2, mset_at, upd_ne (by omega), hM1, mset_at, upd_at]; rfl⟩
    · exact ⟨hj, by rw [hM2, mset_at, upd_at]; rfl⟩
  obtain ⟨M4, c4, cs4⟩ := L_firstWorth (d := d) (n := n) w hi hj hn n 0 M3 none (by omega) h3 (ro2.ou o3) cs3
  rw [nX5_firstWorth]
  simp only [sX5_firstWorth_0, sX5_firstWorth_1, sX5_firstWorth_4, sX5_firstWorth_5, sX5_firstWorth_7, sX5_firstWorth_8, sX5_firstWorth_11, sX5_firstWorth_12, sX5_firstWorth_14, sX5_firstWorth_15, sX5_firstWorth_18, sX5_firstWorth_19, sX5_firstWorth_22, sX5_firstWorth_25, sX5_firstWorth_28, sX5_firstWorth_29, sX5_firstWorth_33, sX5_firstWorth_34, sX5_firstWorth_37, sX5_firstWorth_38, sX5_firstWorth_39, sX5_firstWorth_41, sX5_firstWorth_44, sX5_firstWorth_46, sX5_firstWorth_47, sX5_firstWorth_50, sX5_firstWorth_53, sX5_firstWorth_54, sX5_firstWorth_57, sX5_firstWorth_58, sX5_firstWorth_61, sX5_firstWorth_64, sX5_firstWorth_65, sX5_firstWorth_68, sX5_firstWorth_70, sX5_firstWorth_71, sX5_firstWorth_74, sX5_firstWorth_77, sX5_firstWorth_78, opK_some, guK_true, calK_some, rk_nil, rk_int, rk_ref, tl_some, tl_none, nb_int, nb_0, nb_1, nb_if, nb_if', o0_8]
  rw [sX5_firstWorth_6]
  simp only [sX5_firstWorth_0, sX5_firstWorth_1, sX5_firstWorth_4, sX5_firstWorth_5, sX5_firstWorth_7, sX5_firstWorth_8, sX5_firstWorth_11, sX5_firstWorth_12, sX5_firstWorth_14, sX5_firstWorth_15, sX5_firstWorth_18, sX5_firstWorth_19, sX5_firstWorth_22, sX5_firstWorth_25, sX5_firstWorth_28, sX5_firstWorth_29, sX5_firstWorth_33, sX5_firstWorth_34, sX5_firstWorth_37, sX5_firstWorth_38, sX5_firstWorth_39, sX5_firstWorth_41, sX5_firstWorth_44, sX5_firstWorth_46, sX5_firstWorth_47, sX5_firstWorth_50, sX5_firstWorth_53, sX5_firstWorth_54, sX5_firstWorth_57, sX5_firstWorth_58, sX5_firstWorth_61, sX5_firstWorth_64, sX5_firstWorth_65, sX5_firstWorth_68, sX5_firstWorth_70, sX5_firstWorth_71, sX5_firstWorth_74, sX5_firstWorth_77, sX5_firstWorth_78, opK_some, guK_true, calK_some, rk_nil, rk_int, rk_ref, tl_some, tl_none, nb_int, nb_0, nb_1, nb_if, nb_if', a2, b2, ib_0_10, tn_0, o0_8, ← hM1]
  rw [sX5_firstWorth_13]
  simp only [sX5_firstWorth_0, sX5_firstWorth_1, sX5_firstWorth_4, sX5_firstWorth_5, sX5_firstWorth_7, sX5_firstWorth_8, sX5_firstWorth_11, sX5_firstWorth_12, sX5_firstWorth_14, sX5_firstWorth_15, sX5_firstWorth_18, sX5_firstWorth_19, sX5_firstWorth_22, sX5_firstWorth_25, sX5_firstWorth_28, sX5_firstWorth_29, sX5_firstWorth_33, sX5_firstWorth_34, sX5_firstWorth_37, sX5_firstWorth_38, sX5_firstWorth_39, sX5_firstWorth_41, sX5_firstWorth_44, sX5_firstWorth_46, sX5_firstWorth_47, sX5_firstWorth_50, sX5_firstWorth_53, sX5_firstWorth_54, sX5_firstWorth_57, sX5_firstWorth_58, sX5_firstWorth_61, sX5_firstWorth_64, sX5_firstWorth_65, sX5_firstWorth_68, sX5_firstWorth_70, sX5_firstWorth_71, sX5_firstWorth_74, sX5_firstWorth_77, sX5_firstWorth_78, opK_some, guK_true, calK_some, rk_nil, rk_int, rk_ref, tl_some, tl_none, nb_int, nb_0, nb_1, nb_if, nb_if', a2, b2, ib_1_10, tn_1, o0_0, o0_6, o100_0, hen_c hen30, hen_c hen10, ← hM2, c3]
  exact ⟨M4, c4, cs4⟩
theorem L_firstEgg {d i j n : Nat} {r a : Rw} {M : Mem} (w : WX r 9999) (ha : M 133 = cpR r a) (hi : i < 10) (hj : j < 10) (hn : n ≤ 1000) : ∀ (m k : Nat) (M1 : Mem) (u v : Option Value), k + m = n → M1 131 = bN r (r2 i j) 2 k → Mo M M1 →
    ∃ M', lim (call (d + 5)) none 6 cX6_firstEgg (some .int) 6 [some (.ref 130), some (.int (nI i)), some (.int (nI j)), some (.int (nI n)), some (.int (-1)), some (.int (nI k)), u, v] [] M1 = some (some (.int (feR r i j k m)), M') ∧ Mo M M' ∧ M' 131 = r := by
  have hrow := r2_lt hi hj
  have out_ : ∀ (k : Nat) (M2 : Mem) (x y : Int32) (u v : Option Value), M2 131 = bN r (r2 i j) 2 k → Mo M M2 → ∃ M', lim (call (d + 5)) none 6 cX6_firstEgg (some .int) 92 [some (.ref 130), some (.int (nI i)), some (.int (nI j)), some (.int (nI n)), some (.int x), some (.int y), u, v] [] M2 = some (some (.int x), M') ∧ Mo M M' ∧ M' 131 = r := by
    intro k M2 x y u v e1 o
    have hp := C_back (d := d + 4) (M := M2)
    rw [show d + 4 + 1 = d + 5 from rfl] at hp
    rw [(o.1 133 (by omega) (by omega)).trans ha, e1, cp_back (fun q hq => bN_hi w.1 hrow (by omega) k)] at hp
    rw [sX6_firstEgg_92]
    simp only [sX6_firstEgg_0, sX6_firstEgg_1, sX6_firstEgg_3, sX6_firstEgg_4, sX6_firstEgg_8, sX6_firstEgg_9, sX6_firstEgg_12, sX6_firstEgg_14, sX6_firstEgg_17, sX6_firstEgg_19, sX6_firstEgg_22, sX6_firstEgg_23, sX6_firstEgg_26, sX6_firstEgg_27, sX6_firstEgg_29, sX6_firstEgg_31, sX6_firstEgg_32, sX6_firstEgg_35, sX6_firstEgg_36, sX6_firstEgg_38, sX6_firstEgg_41, sX6_firstEgg_44, sX6_firstEgg_45, sX6_firstEgg_46, sX6_firstEgg_48, sX6_firstEgg_51, sX6_firstEgg_54, sX6_firstEgg_56, sX6_firstEgg_57, sX6_firstEgg_60, sX6_firstEgg_62, sX6_firstEgg_63, sX6_firstEgg_66, sX6_firstEgg_67, sX6_firstEgg_70, sX6_firstEgg_71, sX6_firstEgg_74, sX6_firstEgg_75, sX6_firstEgg_78, sX6_firstEgg_80, sX6_firstEgg_83, sX6_firstEgg_84, sX6_firstEgg_86, sX6_firstEgg_89, sX6_firstEgg_93, sX6_firstEgg_96, sX6_firstEgg_97, sX6_firstEgg_100, sX6_firstEgg_103, sX6_firstEgg_105, opK_some, guK_true, calK_some, rk_nil, rk_int, rk_ref, tl_some, tl_none, nb_int, nb_0, nb_1, nb_if, nb_if', o130_0, o130_2, hp]
    exact ⟨_, rfl, o.tr Mo.row, mrow_at⟩
  intro m
  induction m with
  | zero =>
    intro k M1 u v hk e1 o
    obtain rfl : k = n := by omega
    rw [sX6_firstEgg_6]
    simp only [sX6_firstEgg_0, sX6_firstEgg_1, sX6_firstEgg_3, sX6_firstEgg_4, sX6_firstEgg_8, sX6_firstEgg_9, sX6_firstEgg_12, sX6_firstEgg_14, sX6_firstEgg_17, sX6_firstEgg_19, sX6_firstEgg_22, sX6_firstEgg_23, sX6_firstEgg_26, sX6_firstEgg_27, sX6_firstEgg_29, sX6_firstEgg_31, sX6_firstEgg_32, sX6_firstEgg_35, sX6_firstEgg_36, sX6_firstEgg_38, sX6_firstEgg_41, sX6_firstEgg_44, sX6_firstEgg_45, sX6_firstEgg_46, sX6_firstEgg_48, sX6_firstEgg_51, sX6_firstEgg_54, sX6_firstEgg_56, sX6_firstEgg_57, sX6_firstEgg_60, sX6_firstEgg_62, sX6_firstEgg_63, sX6_firstEgg_66, sX6_firstEgg_67, sX6_firstEgg_70, sX6_firstEgg_71, sX6_firstEgg_74, sX6_firstEgg_75, sX6_firstEgg_78, sX6_firstEgg_80, sX6_firstEgg_83, sX6_firstEgg_84, sX6_firstEgg_86, sX6_firstEgg_89, sX6_firstEgg_93, sX6_firstEgg_96, sX6_firstEgg_97, sX6_firstEgg_100, sX6_firstEgg_103, sX6_firstEgg_105, opK_some, guK_true, calK_some, rk_nil, rk_int, rk_ref, tl_some, tl_none, nb_int, nb_0, nb_1, nb_if, nb_if']
    rw [if_pos (show nI k ≤ nI k from Int32.le_refl _)]
    exact out_ k M1 _ _ u v e1 o
  | succ m ih =>
    intro k M1 u v hk e1 o
    have wi := WX_bN w hrow k (by omega)
    have m10 : ¬ (0 : Int32) ≤ -1 := by decide
    have day_ : ∀ (M2 : Mem) (x y : Int32) (v : Option Value), M2 131 = bF r (r2 i j) 2 k → Mo M M2 → ∃ M', lim (call (d + 5)) none 6 cX6_firstEgg (some .int) 56 [some (.ref 130), some (.int (nI i)), some (.int (nI j)), some (.int (nI n)), some (.int x), some (.int (nI k)), some (.int y), v] [] M2 = some (some (.int (feR r i j k (m + 1))), M') ∧ Mo M M' ∧ M' 131 = r := by
      intro M2 x y v e2 om
      have wf : WX (M2 131) (9999 + k) := by rw [e2]; exact WX_fs wi hrow
      obtain ⟨g1, g2⟩ := wx_5 wf (by omega)
      obtain ⟨M3, c3, o3, r3, f5, f6⟩ := C_m_day (d := d + 0) (M := M2) wf.1 g1 g2
      rw [show d + 0 + 5 = d + 5 from rfl] at c3
      rw [e2] at c3 r3 f5
      obtain ⟨jw, _, ejw⟩ := wor_le (WR_fs (row := r2 i j) (size := 2) (k := k) wi.1 hrow)
      have hw0 : (0 : Int32) ≤ worD (bF r (r2 i j) 2 k) := by
        show (0 : Int32) ≤ worD (fsR (bN r (r2 i j) 2 k) (r2 i j) 2 k)
        rw [ejw]
        exact nI_le (a := 0) (by omega) (by omega)
      rw [sX6_firstEgg_56]
      simp only [sX6_firstEgg_0, sX6_firstEgg_1, sX6_firstEgg_3, sX6_firstEgg_4, sX6_firstEgg_8, sX6_firstEgg_9, sX6_firstEgg_12, sX6_firstEgg_14, sX6_firstEgg_17, sX6_firstEgg_19, sX6_firstEgg_22, sX6_firstEgg_23, sX6_firstEgg_26, sX6_firstEgg_27, sX6_firstEgg_29, sX6_firstEgg_31, sX6_firstEgg_32, sX6_firstEgg_35, sX6_firstEgg_36, sX6_firstEgg_38, sX6_firstEgg_41, sX6_firstEgg_44, sX6_firstEgg_45, sX6_firstEgg_46, sX6_firstEgg_48, sX6_firstEgg_51, sX6_firstEgg_54, sX6_firstEgg_57, sX6_firstEgg_60, sX6_firstEgg_62, sX6_firstEgg_63, sX6_firstEgg_66, sX6_firstEgg_67, sX6_firstEgg_70, sX6_firstEgg_71, sX6_firstEgg_74, sX6_firstEgg_75, sX6_firstEgg_78, sX6_firstEgg_80, sX6_firstEgg_83, sX6_firstEgg_84, sX6_firstEgg_86, sX6_firstEgg_89, sX6_firstEgg_93, sX6_firstEgg_96, sX6_firstEgg_97, sX6_firstEgg_100, sX6_firstEgg_103, sX6_firstEgg_105, opK_some, guK_true, calK_some, rk_nil, rk_int, rk_ref, tl_some, tl_none, nb_int, nb_0, nb_1, nb_if, nb_if', q130, o130_5, c3, f5, nI_1]
      by_cases hh : laiD (bF r (r2 i j) 2 k) = nI i ∨ laiD (bF r (r2 i j) 2 k) = nI j
      · have ek : feR r i j k (m + 1) = worD (bF r (r2 i j) 2 k) := if_pos hh
        have fin := out_ (k + 1) M3 (worD (bF r (r2 i j) 2 k)) (nI (k + 1)) (some (.int y)) (some (.int (worD (bF r (r2 i j) 2 k)))) r3 (om.tr o3)
        rw [ek]
        have go : ∀ z : Option (Option Value × Mem), z = lim (call (d + 5)) none 6 cX6_firstEgg (some .int) 6 [some (.ref 130), some (.int (nI i)), some (.int (nI j)), some (.int (nI n)), some (.int (worD (bF r (r2 i j) 2 k))), some (.int (nI (k + 1))), some (.int y), some (.int (worD (bF r (r2 i j) 2 k)))] [] M3 → ∃ M', z = some (some (.int (worD (bF r (r2 i j) 2 k))), M') ∧ Mo M M' ∧ M' 131 = r := by
          intro z ez
          rw [sX6_firstEgg_6] at ez
          simp only [sX6_firstEgg_0, sX6_firstEgg_1, sX6_firstEgg_3, sX6_firstEgg_4, sX6_firstEgg_8, sX6_firstEgg_9, sX6_firstEgg_12, sX6_firstEgg_14, sX6_firstEgg_17, sX6_firstEgg_19, sX6_firstEgg_22, sX6_firstEgg_23, sX6_firstEgg_26, sX6_firstEgg_27, sX6_firstEgg_29, sX6_firstEgg_31, sX6_firstEgg_32, sX6_firstEgg_35, sX6_firstEgg_36, sX6_firstEgg_38, sX6_firstEgg_41, sX6_firstEgg_44, sX6_firstEgg_45, sX6_firstEgg_46, sX6_firstEgg_48, sX6_firstEgg_51, sX6_firstEgg_54, sX6_firstEgg_56, sX6_firstEgg_57, sX6_firstEgg_60, sX6_firstEgg_62, sX6_firstEgg_63, sX6_firstEgg_66, sX6_firstEgg_67, sX6_firstEgg_70, sX6_firstEgg_71, sX6_firstEgg_74, sX6_firstEgg_75, sX6_firstEgg_78, sX6_firstEgg_80, sX6_firstEgg_83, sX6_firstEgg_84, sX6_firstEgg_86, sX6_firstEgg_89, sX6_firstEgg_93, sX6_firstEgg_96, sX6_firstEgg_97, sX6_firstEgg_100, sX6_firstEgg_103, sX6_firstEgg_105, opK_some, guK_true, calK_some, rk_nil, rk_int, rk_ref, tl_some, tl_none, nb_int, nb_0, nb_1, nb_if, nb_if'] at ez
          rw [if_pos hw0, same_if] at ez
          rw [ez]
          exact fin
        by_cases h1 : laiD (bF r (r2 i j) 2 k) = nI i
        · rw [if_pos h1]
          exact go _ rfl
        · rw [if_neg h1]
          simp only [hh.resolve_left h1, if_true]
          exact go _ rfl
      · have ek : feR r i j k (m + 1) = feR r i j (k + 1) m := if_neg hh
        have fin := ih (k + 1) M3 (some (.int y)) (some (.int (worD (bF r (r2 i j) 2 k)))) (by omega) r3 (om.tr o3)
        rw [if_neg (fun z => hh (Or.inl z)), if_neg (fun z => hh (Or.inr z)), ek]
        exact fin
    rw [sX6_firstEgg_6]
    simp only [sX6_firstEgg_0, sX6_firstEgg_1, sX6_firstEgg_3, sX6_firstEgg_4, sX6_firstEgg_8, sX6_firstEgg_9, sX6_firstEgg_12, sX6_firstEgg_14, sX6_firstEgg_17, sX6_firstEgg_19, sX6_firstEgg_22, sX6_firstEgg_23, sX6_firstEgg_26, sX6_firstEgg_27, sX6_firstEgg_31, sX6_firstEgg_32, sX6_firstEgg_35, sX6_firstEgg_36, sX6_firstEgg_38, sX6_firstEgg_41, sX6_firstEgg_44, sX6_firstEgg_45, sX6_firstEgg_46, sX6_firstEgg_48, sX6_firstEgg_51, sX6_firstEgg_54, sX6_firstEgg_57, sX6_firstEgg_60, sX6_firstEgg_62, sX6_firstEgg_63, sX6_firstEgg_66, sX6_firstEgg_67, sX6_firstEgg_70, sX6_firstEgg_71, sX6_firstEgg_74, sX6_firstEgg_75, sX6_firstEgg_78, sX6_firstEgg_80, sX6_firstEgg_83, sX6_firstEgg_84, sX6_firstEgg_86, sX6_firstEgg_89, sX6_firstEgg_93, sX6_firstEgg_96, sX6_firstEgg_97, sX6_firstEgg_100, sX6_firstEgg_103, sX6_firstEgg_105, opK_some, guK_true, calK_some, rk_nil, rk_int, rk_ref, tl_some, tl_none, nb_int, nb_0, nb_1, nb_if, nb_if', m10, if_false]
    rw [if_neg (show ¬ nI n ≤ nI k from nI_ge (by omega) (by omega))]
    have step : ∀ t : Nat, t = r2 i j k → ∃ M', lim (call (d + 5)) none 6 cX6_firstEgg (some .int) 29 [some (.ref 130), some (.int (nI i)), some (.int (nI j)), some (.int (nI n)), some (.int (-1)), some (.int (nI k)), some (.int (nI t)), v] [] M1 = some (some (.int (feR r i j k (m + 1))), M') ∧ Mo M M' ∧ M' 131 = r := by
      intro t et
      have t10 : t < 10 := by
        rw [et]
        show (if k = 0 then i else j) < 10
        split <;> omega
      have c0 := C_m_hasRoom (d := d + 1) (M := M1) (by rw [e1]; exact wi.1) t10
      rw [show d + 1 + 4 = d + 5 from rfl] at c0
      rw [e1] at c0
      rw [sX6_firstEgg_29]
      simp only [sX6_firstEgg_0, sX6_firstEgg_1, sX6_firstEgg_3, sX6_firstEgg_4, sX6_firstEgg_8, sX6_firstEgg_9, sX6_firstEgg_12, sX6_firstEgg_14, sX6_firstEgg_17, sX6_firstEgg_19, sX6_firstEgg_22, sX6_firstEgg_23, sX6_firstEgg_26, sX6_firstEgg_27, sX6_firstEgg_31, sX6_firstEgg_32, sX6_firstEgg_35, sX6_firstEgg_36, sX6_firstEgg_38, sX6_firstEgg_41, sX6_firstEgg_44, sX6_firstEgg_45, sX6_firstEgg_46, sX6_firstEgg_48, sX6_firstEgg_51, sX6_firstEgg_54, sX6_firstEgg_57, sX6_firstEgg_60, sX6_firstEgg_62, sX6_firstEgg_63, sX6_firstEgg_66, sX6_firstEgg_67, sX6_firstEgg_70, sX6_firstEgg_71, sX6_firstEgg_74, sX6_firstEgg_75, sX6_firstEgg_78, sX6_firstEgg_80, sX6_firstEgg_83, sX6_firstEgg_84, sX6_firstEgg_86, sX6_firstEgg_89, sX6_firstEgg_93, sX6_firstEgg_96, sX6_firstEgg_97, sX6_firstEgg_100, sX6_firstEgg_103, sX6_firstEgg_105, opK_some, guK_true, calK_some, rk_nil, rk_int, rk_ref, tl_some, tl_none, nb_int, nb_0, nb_1, nb_if, nb_if', q130, c0]
      by_cases h2 : k < 2
      · rw [if_neg (show ¬ (2 : Int32) ≤ nI k from nI_ge (b := 2) h2 (by omega))]
        by_cases hr : roomR (bN r (r2 i j) 2 k) t
        · have ef : bF r (r2 i j) 2 k = feedR (bN r (r2 i j) 2 k) t := by rw [et]; exact if_pos ⟨h2, by rw [← et]; exact hr⟩
          have c1 := C_m_feeds (d := d + 2) (M := M1) (by rw [e1]; exact wi.1) t10 (by rw [e1]; exact hr.1)
          rw [show d + 2 + 3 = d + 5 from rfl] at c1
          rw [e1] at c1
          rw [if_pos hr, if_neg (by decide)]
          simp only [sX6_firstEgg_0, sX6_firstEgg_1, sX6_firstEgg_3, sX6_firstEgg_4, sX6_firstEgg_8, sX6_firstEgg_9, sX6_firstEgg_12, sX6_firstEgg_14, sX6_firstEgg_17, sX6_firstEgg_19, sX6_firstEgg_22, sX6_firstEgg_23, sX6_firstEgg_26, sX6_firstEgg_27, sX6_firstEgg_31, sX6_firstEgg_32, sX6_firstEgg_35, sX6_firstEgg_36, sX6_firstEgg_38, sX6_firstEgg_41, sX6_firstEgg_44, sX6_firstEgg_45, sX6_firstEgg_46, sX6_firstEgg_48, sX6_firstEgg_51, sX6_firstEgg_54, sX6_firstEgg_57, sX6_firstEgg_60, sX6_firstEgg_62, sX6_firstEgg_63, sX6_firstEgg_66, sX6_firstEgg_67, sX6_firstEgg_70, sX6_firstEgg_71, sX6_firstEgg_74, sX6_firstEgg_75, sX6_firstEgg_78, sX6_firstEgg_80, sX6_firstEgg_83, sX6_firstEgg_84, sX6_firstEgg_86, sX6_firstEgg_89, sX6_firstEgg_93, sX6_firstEgg_96, sX6_firstEgg_97, sX6_firstEgg_100, sX6_firstEgg_103, sX6_firstEgg_105, opK_some, guK_true, calK_some, rk_nil, rk_int, rk_ref, tl_some, tl_none, nb_int, nb_0, nb_1, nb_if, nb_if', q130, c1]
          exact day_ _ _ _ _ (by rw [mrow_at, ef]) (o.tr Mo.row)
        · have ef : bF r (r2 i j) 2 k = bN r (r2 i j) 2 k := if_neg (fun z => hr (by rw [et]; exact z.2))
          rw [if_neg hr, if_pos rfl]
          exact day_ M1 _ _ _ (by rw [ef]; exact e1) o
      · have ef : bF r (r2 i j) 2 k = bN r (r2 i j) 2 k := if_neg (fun z => h2 z.1)
        rw [if_pos (show (2 : Int32) ≤ nI k from nI_le (a := 2) (by omega) (by omega))]
        exact day_ M1 _ _ _ (by rw [ef]; exact e1) o
    by_cases hk0 : k = 0
    · have e0 : nI k = 0 := by rw [hk0]; rfl
      rw [if_pos e0]
      exact step i (by rw [hk0]; rfl)
    · have e0 : ¬ nI k = 0 := fun z => hk0 (nI_inj (i := k) (j := 0) (by omega) (by omega) z)
      rw [if_neg e0]
      exact step j (if_neg hk0).symm
theorem C_m_firstEgg {d i j n : Nat} {r a : Rw} {M : Mem} (w : WX r 9999) (e : M 131 = r) (ha : M 133 = cpR r a) (hi : i < 10) (hj : j < 10) (hn : n ≤ 1000) : ∃ M', call (d + 6) 209 [.ref 130, .int (nI i), .int (nI j), .int (nI n)] M = some (some (.int (feR r i j 0 n)), M') ∧ Mo M M' ∧ M' 131 = r := by
  rw [nX6_firstEgg]
  simp only [sX6_firstEgg_0, sX6_firstEgg_1, sX6_firstEgg_3, sX6_firstEgg_4, sX6_firstEgg_8, sX6_firstEgg_9, sX6_firstEgg_12, sX6_firstEgg_14, sX6_firstEgg_17, sX6_firstEgg_19, sX6_firstEgg_22, sX6_firstEgg_23, sX6_firstEgg_26, sX6_firstEgg_27, sX6_firstEgg_29, sX6_firstEgg_31, sX6_firstEgg_32, sX6_firstEgg_35, sX6_firstEgg_36, sX6_firstEgg_38, sX6_firstEgg_41, sX6_firstEgg_44, sX6_firstEgg_45, sX6_firstEgg_46, sX6_firstEgg_48, sX6_firstEgg_51, sX6_firstEgg_54, sX6_firstEgg_56, sX6_firstEgg_57, sX6_firstEgg_60, sX6_firstEgg_62, sX6_firstEgg_63, sX6_firstEgg_66, sX6_firstEgg_67, sX6_firstEgg_70, sX6_firstEgg_71, sX6_firstEgg_74, sX6_firstEgg_75, sX6_firstEgg_78, sX6_firstEgg_80, sX6_firstEgg_83, sX6_firstEgg_84, sX6_firstEgg_86, sX6_firstEgg_89, sX6_firstEgg_93, sX6_firstEgg_96, sX6_firstEgg_97, sX6_firstEgg_100, sX6_firstEgg_103, sX6_firstEgg_105, opK_some, guK_true, calK_some, rk_nil, rk_int, rk_ref, tl_some, tl_none, nb_int, nb_0, nb_1, nb_if, nb_if']
  exact L_firstEgg w ha hi hj hn n 0 M none none (by omega) e Mo.rf

