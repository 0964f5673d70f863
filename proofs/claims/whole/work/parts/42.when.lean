/-! calls: when, worth -/
theorem tl_le (r : Rw) (t : Int32) : ∀ n i, tlR r t i n ≤ i + n := by
  intro n
  induction n with
  | zero => intro i; exact Nat.zero_le _
  | succ n ih =>
    intro i
    show (if _ then _ else _) ≤ _
    split
    · show i + 1 ≤ i + (n + 1)
      omega
    · have := ih (i + 1)
      show _ ≤ i + (n + 1)
      omega
theorem X_when {d : Nat} {M : Mem} {x : Int32} (j : J M) : Two (d + 5) 37 (d + 8) 174 [.int x] M := by
  have w := j_wr j
  have hu' : call (d + 4) 38 [.ref 0, .int x] M = some (some (.int (unlR (M 131) x)), M) := C_unl (d := d + 1) j
  by_cases hT : 0 ≤ x ∧ x ≤ M 131 3 - 1
  · obtain ⟨t, _, ht, rfl⟩ := thing_of w hT
    by_cases hb : ¬ M 131 (at9 t 4) = 1 ∨ 9999 < M 131 0 + 60
    · have eu : unlR (M 131) (nI t) = 4 := by
        unfold unlR
        rw [if_pos hT, iN_nI (by omega), if_pos hb]
      refine ⟨fX M 4, fM (fX M 4) 4, -1000005, ?_, ?_, J_fin j (by omega)⟩
      · rw [nX5_when]
        simp only [sX5_when_0, sX5_when_1, sX5_when_2, sX5_when_5, sX5_when_6, sX5_when_7, sX5_when_10, sX5_when_11, sX5_when_12, sX5_when_15, sX5_when_16, sX5_when_17, sX5_when_18, sX5_when_21, sX5_when_22, sX5_when_23, sX5_when_26, sX5_when_27, sX5_when_30, sX5_when_31, sX5_when_32, sX5_when_35, opK_some, guK_true, calK_some, rk_nil, rk_int, rk_ref, tl_some, tl_none, nb_int, nb_0, nb_1, nb_if, nb_if', q0, hu', eu, show ((4 : Int32) < 0) = False from eq_false (by decide), if_false, C_xf4]
      · rw [nX6_when]
        simp only [sX6_when_0, sX6_when_1, sX6_when_2, sX6_when_3, sX6_when_6, opK_some, guK_true, calK_some, rk_nil, rk_int, rk_ref, tl_some, tl_none, nb_int, nb_0, nb_1, nb_if, nb_if', q130, nX6_laidTold]
        by_cases h1 : M 131 (at9 t 4) = 1
        · have hl : 9999 < M 131 0 + 60 := hb.resolve_left (fun z => z h1)
          simp only [sX6_when_0, sX6_when_1, sX6_when_2, sX6_when_3, sX6_when_6, sX6_laidTold_0, sX6_laidTold_1, sX6_laidTold_2, sX6_laidTold_5, sX6_laidTold_8, sX6_laidTold_9, sX6_laidTold_11, sX6_laidTold_14, sX6_laidTold_15, sX6_laidTold_16, sX6_laidTold_17, sX6_laidTold_18, sX6_laidTold_21, sX6_laidTold_24, sX6_laidTold_25, sX6_laidTold_28, sX6_laidTold_31, sX6_laidTold_32, sX6_laidTold_34, sX6_laidTold_37, sX6_laidTold_38, sX6_laidTold_39, sX6_laidTold_40, sX6_laidTold_43, sX6_laidTold_44, sX6_laidTold_45, sX6_laidTold_48, sX6_laidTold_49, sX6_laidTold_51, sX6_laidTold_54, sX6_laidTold_57, sX6_laidTold_58, sX6_laidTold_61, sX6_laidTold_62, sX6_laidTold_65, sX6_laidTold_68, sX6_laidTold_69, opK_some, guK_true, calK_some, rk_nil, rk_int, rk_ref, tl_some, tl_none, nb_int, nb_0, nb_1, nb_if, nb_if', q130, C_m_isThing, C_m_isHow ht, C_m_isLate, fX_131, hT, h1, hl, and_self, if_true, one_ne, if_false, C_mf4]
        · simp only [sX6_when_0, sX6_when_1, sX6_when_2, sX6_when_3, sX6_when_6, sX6_laidTold_0, sX6_laidTold_1, sX6_laidTold_2, sX6_laidTold_5, sX6_laidTold_8, sX6_laidTold_9, sX6_laidTold_11, sX6_laidTold_14, sX6_laidTold_15, sX6_laidTold_16, sX6_laidTold_17, sX6_laidTold_18, sX6_laidTold_21, sX6_laidTold_24, sX6_laidTold_25, sX6_laidTold_28, sX6_laidTold_31, sX6_laidTold_32, sX6_laidTold_34, sX6_laidTold_37, sX6_laidTold_38, sX6_laidTold_39, sX6_laidTold_40, sX6_laidTold_43, sX6_laidTold_44, sX6_laidTold_45, sX6_laidTold_48, sX6_laidTold_49, sX6_laidTold_51, sX6_laidTold_54, sX6_laidTold_57, sX6_laidTold_58, sX6_laidTold_61, sX6_laidTold_62, sX6_laidTold_65, sX6_laidTold_68, sX6_laidTold_69, opK_some, guK_true, calK_some, rk_nil, rk_int, rk_ref, tl_some, tl_none, nb_int, nb_0, nb_1, nb_if, nb_if', q130, C_m_isThing, C_m_isHow ht, fX_131, hT, h1, and_self, if_true, one_ne, zero_eq, if_false, C_mf4]
    · have h1 : M 131 (at9 t 4) = 1 := Decidable.byContradiction (fun z => hb (Or.inl z))
      have hl : ¬ 9999 < M 131 0 + 60 := fun z => hb (Or.inr z)
      have eu : unlR (M 131) (nI t) = -1 := by
        unfold unlR
        rw [if_pos hT, iN_nI (by omega), if_neg hb]
      obtain ⟨M1, c1, o1, v1⟩ := C_x_till (d := d + 0) (t := t) j
      rw [show d + 0 + 4 = d + 4 from rfl] at c1
      have cs : Cs M M1 := Cs.ou (by omega) (by omega) o1
      have j1 := cs.j j
      have e1 := cs.e
      by_cases hz : tlR (M 131) (nI t) 0 60 = 0
      · have hz' : call (d + 4) 39 [.ref 0, .int (nI t)] M = some (some (.int 0), M1) := by
          rw [c1, hz]
          rfl
        obtain ⟨M2, c2, k2, r2, s3, s17, v2⟩ := C_m_till (d := d + 0) (t := t) (M := fX M1 3) (by rw [fX_131]; exact j1.1.1)
        rw [show d + 0 + 6 = d + 6 from rfl] at c2
        rw [fX_131, e1, hz, nI_0] at c2
        refine ⟨fX M1 3, fM M2 3, -1000004, ?_, ?_, Ms.jf j1 (by omega) ⟨fun k hk => ?_, s3, s17⟩⟩
        · rw [nX5_when]
          simp only [sX5_when_0, sX5_when_1, sX5_when_2, sX5_when_5, sX5_when_6, sX5_when_7, sX5_when_10, sX5_when_11, sX5_when_12, sX5_when_15, sX5_when_16, sX5_when_17, sX5_when_18, sX5_when_21, sX5_when_22, sX5_when_23, sX5_when_26, sX5_when_27, sX5_when_30, sX5_when_31, sX5_when_32, sX5_when_35, opK_some, guK_true, calK_some, rk_nil, rk_int, rk_ref, tl_some, tl_none, nb_int, nb_0, nb_1, nb_if, nb_if', q0, hu', eu, show ((-1 : Int32) < 0) = True from eq_true (by decide), if_true, hz', Int32.le_refl, C_xf3]
        · rw [nX6_when]
          simp only [sX6_when_0, sX6_when_1, sX6_when_2, sX6_when_3, sX6_when_6, opK_some, guK_true, calK_some, rk_nil, rk_int, rk_ref, tl_some, tl_none, nb_int, nb_0, nb_1, nb_if, nb_if', q130, nX6_laidTold]
          simp only [sX6_when_0, sX6_when_1, sX6_when_2, sX6_when_3, sX6_when_6, sX6_laidTold_0, sX6_laidTold_1, sX6_laidTold_2, sX6_laidTold_5, sX6_laidTold_8, sX6_laidTold_9, sX6_laidTold_11, sX6_laidTold_14, sX6_laidTold_15, sX6_laidTold_16, sX6_laidTold_17, sX6_laidTold_18, sX6_laidTold_21, sX6_laidTold_24, sX6_laidTold_25, sX6_laidTold_28, sX6_laidTold_31, sX6_laidTold_32, sX6_laidTold_34, sX6_laidTold_37, sX6_laidTold_38, sX6_laidTold_39, sX6_laidTold_40, sX6_laidTold_43, sX6_laidTold_44, sX6_laidTold_45, sX6_laidTold_48, sX6_laidTold_49, sX6_laidTold_51, sX6_laidTold_54, sX6_laidTold_57, sX6_laidTold_58, sX6_laidTold_61, sX6_laidTold_62, sX6_laidTold_65, sX6_laidTold_68, sX6_laidTold_69, opK_some, guK_true, calK_some, rk_nil, rk_int, rk_ref, tl_some, tl_none, nb_int, nb_0, nb_1, nb_if, nb_if', q130, C_m_isThing, C_m_isHow ht, C_m_isLate, fX_131, e1, hT, h1, hl, and_self, if_true, one_ne, zero_eq, if_false, c2, C_mf3]
        · by_cases c : k = 131
          · subst c
            exact r2
          · exact k2 k (by omega) c (by omega)
      · obtain ⟨m, hm⟩ : ∃ m, m = tlR (M 131) (nI t) 0 60 := ⟨_, rfl⟩
        have hm60 : m ≤ 60 := by rw [hm]; exact tl_le (M 131) (nI t) 60 0
        obtain ⟨M2, c2, k2, r2, s3, s17, v2⟩ := C_m_till (d := d + 0) (t := t) (M := M1) j1.1.1
        rw [show d + 0 + 6 = d + 6 from rfl] at c2
        rw [e1] at c2 v2
        have v1' := v1 (by omega)
        have v2' := v2 (by omega)
        have n1 : ¬ nI (tlR (M 131) (nI t) 0 60) ≤ 0 := by rw [← hm]; exact nI_nle (by omega) (by omega)
        have n2 : ¬ nI (tlR (M 131) (nI t) 0 60) = 0 := fun z => n1 (by rw [z]; decide)
        refine ⟨M1, M2, nI (tlR (M 131) (nI t) 0 60), ?_, ?_, Ms.j j1 ⟨fun k hk => ?_, s3, s17⟩⟩
        · rw [nX5_when]
          simp only [sX5_when_0, sX5_when_1, sX5_when_2, sX5_when_5, sX5_when_6, sX5_when_7, sX5_when_10, sX5_when_11, sX5_when_12, sX5_when_15, sX5_when_16, sX5_when_17, sX5_when_18, sX5_when_21, sX5_when_22, sX5_when_23, sX5_when_26, sX5_when_27, sX5_when_30, sX5_when_31, sX5_when_32, sX5_when_35, opK_some, guK_true, calK_some, rk_nil, rk_int, rk_ref, tl_some, tl_none, nb_int, nb_0, nb_1, nb_if, nb_if', q0, o0_6, hs_13 hen30, hu', eu, show ((-1 : Int32) < 0) = True from eq_true (by decide), if_true, c1, n1, if_false, v1']
        · rw [nX6_when]
          simp only [sX6_when_0, sX6_when_1, sX6_when_2, sX6_when_3, sX6_when_6, opK_some, guK_true, calK_some, rk_nil, rk_int, rk_ref, tl_some, tl_none, nb_int, nb_0, nb_1, nb_if, nb_if', q130, nX6_laidTold]
          simp only [sX6_when_0, sX6_when_1, sX6_when_2, sX6_when_3, sX6_when_6, sX6_laidTold_0, sX6_laidTold_1, sX6_laidTold_2, sX6_laidTold_5, sX6_laidTold_8, sX6_laidTold_9, sX6_laidTold_11, sX6_laidTold_14, sX6_laidTold_15, sX6_laidTold_16, sX6_laidTold_17, sX6_laidTold_18, sX6_laidTold_21, sX6_laidTold_24, sX6_laidTold_25, sX6_laidTold_28, sX6_laidTold_31, sX6_laidTold_32, sX6_laidTold_34, sX6_laidTold_37, sX6_laidTold_38, sX6_laidTold_39, sX6_laidTold_40, sX6_laidTold_43, sX6_laidTold_44, sX6_laidTold_45, sX6_laidTold_48, sX6_laidTold_49, sX6_laidTold_51, sX6_laidTold_54, sX6_laidTold_57, sX6_laidTold_58, sX6_laidTold_61, sX6_laidTold_62, sX6_laidTold_65, sX6_laidTold_68, sX6_laidTold_69, opK_some, guK_true, calK_some, rk_nil, rk_int, rk_ref, tl_some, tl_none, nb_int, nb_0, nb_1, nb_if, nb_if', q130, p130_8, o130_8, C_m_isThing, C_m_isHow ht, C_m_isLate, e1, hT, h1, hl, and_self, if_true, one_ne, zero_eq, if_false, c2, n2, v2']
        · by_cases c : k = 131
          · subst c
            exact r2
          · exact k2 k (by omega) c (by omega)
  · have eu : unlR (M 131) x = 0 := by
      unfold unlR
      rw [if_neg hT]
    refine ⟨fX M 0, fM (fX M 0) 0, -1000001, ?_, ?_, J_fin j (by omega)⟩
    · rw [nX5_when]
      simp only [sX5_when_0, sX5_when_1, sX5_when_2, sX5_when_5, sX5_when_6, sX5_when_7, sX5_when_10, sX5_when_11, sX5_when_12, sX5_when_15, sX5_when_16, sX5_when_17, sX5_when_18, sX5_when_21, sX5_when_22, sX5_when_23, sX5_when_26, sX5_when_27, sX5_when_30, sX5_when_31, sX5_when_32, sX5_when_35, opK_some, guK_true, calK_some, rk_nil, rk_int, rk_ref, tl_some, tl_none, nb_int, nb_0, nb_1, nb_if, nb_if', q0, hu', eu, show ((0 : Int32) < 0) = False from eq_false (by decide), if_false, C_xf0]
    · rw [nX6_when]
      simp only [sX6_when_0, sX6_when_1, sX6_when_2, sX6_when_3, sX6_when_6, opK_some, guK_true, calK_some, rk_nil, rk_int, rk_ref, tl_some, tl_none, nb_int, nb_0, nb_1, nb_if, nb_if', q130, nX6_laidTold]
      simp only [sX6_when_0, sX6_when_1, sX6_when_2, sX6_when_3, sX6_when_6, sX6_laidTold_0, sX6_laidTold_1, sX6_laidTold_2, sX6_laidTold_5, sX6_laidTold_8, sX6_laidTold_9, sX6_laidTold_11, sX6_laidTold_14, sX6_laidTold_15, sX6_laidTold_16, sX6_laidTold_17, sX6_laidTold_18, sX6_laidTold_21, sX6_laidTold_24, sX6_laidTold_25, sX6_laidTold_28, sX6_laidTold_31, sX6_laidTold_32, sX6_laidTold_34, sX6_laidTold_37, sX6_laidTold_38, sX6_laidTold_39, sX6_laidTold_40, sX6_laidTold_43, sX6_laidTold_44, sX6_laidTold_45, sX6_laidTold_48, sX6_laidTold_49, sX6_laidTold_51, sX6_laidTold_54, sX6_laidTold_57, sX6_laidTold_58, sX6_laidTold_61, sX6_laidTold_62, sX6_laidTold_65, sX6_laidTold_68, sX6_laidTold_69, opK_some, guK_true, calK_some, rk_nil, rk_int, rk_ref, tl_some, tl_none, nb_int, nb_0, nb_1, nb_if, nb_if', q130, C_m_isThing, fX_131, hT, if_false, zero_eq, if_true, C_mf0]
theorem X_worth {d : Nat} {M : Mem} {x : Int32} (j : J M) : Two (d + 5) 40 (d + 8) 178 [.int x] M := by
  have w := j_wr j
  have hu' : call (d + 4) 38 [.ref 0, .int x] M = some (some (.int (unlR (M 131) x)), M) := C_unl (d := d + 1) j
  by_cases hT : 0 ≤ x ∧ x ≤ M 131 3 - 1
  · obtain ⟨t, _, ht, rfl⟩ := thing_of w hT
    by_cases hb : ¬ M 131 (at9 t 4) = 1 ∨ 9999 < M 131 0 + 60
    · have eu : unlR (M 131) (nI t) = 4 := by
        unfold unlR
        rw [if_pos hT, iN_nI (by omega), if_pos hb]
      refine ⟨fX M 4, fM (fX M 4) 4, -1000005, ?_, ?_, J_fin j (by omega)⟩
      · rw [nX5_worth]
        simp only [sX5_worth_0, sX5_worth_1, sX5_worth_2, sX5_worth_5, sX5_worth_6, sX5_worth_7, sX5_worth_10, sX5_worth_11, sX5_worth_12, sX5_worth_15, sX5_worth_16, sX5_worth_17, sX5_worth_18, sX5_worth_21, sX5_worth_24, sX5_worth_25, sX5_worth_28, sX5_worth_31, sX5_worth_34, sX5_worth_35, sX5_worth_36, sX5_worth_39, opK_some, guK_true, calK_some, rk_nil, rk_int, rk_ref, tl_some, tl_none, nb_int, nb_0, nb_1, nb_if, nb_if', q0, hu', eu, show ((4 : Int32) < 0) = False from eq_false (by decide), if_false, C_xf4]
      · rw [nX6_worth]
        simp only [sX6_worth_0, sX6_worth_1, sX6_worth_2, sX6_worth_3, sX6_worth_6, opK_some, guK_true, calK_some, rk_nil, rk_int, rk_ref, tl_some, tl_none, nb_int, nb_0, nb_1, nb_if, nb_if', q130, nX6_laidTold]
        by_cases h1 : M 131 (at9 t 4) = 1
        · have hl : 9999 < M 131 0 + 60 := hb.resolve_left (fun z => z h1)
          simp only [sX6_worth_0, sX6_worth_1, sX6_worth_2, sX6_worth_3, sX6_worth_6, sX6_laidTold_0, sX6_laidTold_1, sX6_laidTold_2, sX6_laidTold_5, sX6_laidTold_8, sX6_laidTold_9, sX6_laidTold_11, sX6_laidTold_14, sX6_laidTold_15, sX6_laidTold_16, sX6_laidTold_17, sX6_laidTold_18, sX6_laidTold_21, sX6_laidTold_24, sX6_laidTold_25, sX6_laidTold_28, sX6_laidTold_31, sX6_laidTold_32, sX6_laidTold_34, sX6_laidTold_37, sX6_laidTold_38, sX6_laidTold_39, sX6_laidTold_40, sX6_laidTold_43, sX6_laidTold_44, sX6_laidTold_45, sX6_laidTold_48, sX6_laidTold_49, sX6_laidTold_51, sX6_laidTold_54, sX6_laidTold_57, sX6_laidTold_58, sX6_laidTold_61, sX6_laidTold_62, sX6_laidTold_65, sX6_laidTold_68, sX6_laidTold_69, opK_some, guK_true, calK_some, rk_nil, rk_int, rk_ref, tl_some, tl_none, nb_int, nb_0, nb_1, nb_if, nb_if', q130, C_m_isThing, C_m_isHow ht, C_m_isLate, fX_131, hT, h1, hl, and_self, if_true, one_ne, if_false, C_mf4]
        · simp only [sX6_worth_0, sX6_worth_1, sX6_worth_2, sX6_worth_3, sX6_worth_6, sX6_laidTold_0, sX6_laidTold_1, sX6_laidTold_2, sX6_laidTold_5, sX6_laidTold_8, sX6_laidTold_9, sX6_laidTold_11, sX6_laidTold_14, sX6_laidTold_15, sX6_laidTold_16, sX6_laidTold_17, sX6_laidTold_18, sX6_laidTold_21, sX6_laidTold_24, sX6_laidTold_25, sX6_laidTold_28, sX6_laidTold_31, sX6_laidTold_32, sX6_laidTold_34, sX6_laidTold_37, sX6_laidTold_38, sX6_laidTold_39, sX6_laidTold_40, sX6_laidTold_43, sX6_laidTold_44, sX6_laidTold_45, sX6_laidTold_48, sX6_laidTold_49, sX6_laidTold_51, sX6_laidTold_54, sX6_laidTold_57, sX6_laidTold_58, sX6_laidTold_61, sX6_laidTold_62, sX6_laidTold_65, sX6_laidTold_68, sX6_laidTold_69, opK_some, guK_true, calK_some, rk_nil, rk_int, rk_ref, tl_some, tl_none, nb_int, nb_0, nb_1, nb_if, nb_if', q130, C_m_isThing, C_m_isHow ht, fX_131, hT, h1, and_self, if_true, one_ne, zero_eq, if_false, C_mf4]
    · have h1 : M 131 (at9 t 4) = 1 := Decidable.byContradiction (fun z => hb (Or.inl z))
      have hl : ¬ 9999 < M 131 0 + 60 := fun z => hb (Or.inr z)
      have eu : unlR (M 131) (nI t) = -1 := by
        unfold unlR
        rw [if_pos hT, iN_nI (by omega), if_neg hb]
      obtain ⟨M1, c1, o1, v1⟩ := C_x_till (d := d + 0) (t := t) j
      rw [show d + 0 + 4 = d + 4 from rfl] at c1
      have cs : Cs M M1 := Cs.ou (by omega) (by omega) o1
      have j1 := cs.j j
      have e1 := cs.e
      by_cases hz : tlR (M 131) (nI t) 0 60 = 0
      · have hz' : call (d + 4) 39 [.ref 0, .int (nI t)] M = some (some (.int 0), M1) := by
          rw [c1, hz]
          rfl
        obtain ⟨M2, c2, k2, r2, s3, s17, v2⟩ := C_m_till (d := d + 0) (t := t) (M := fX M1 3) (by rw [fX_131]; exact j1.1.1)
        rw [show d + 0 + 6 = d + 6 from rfl] at c2
        rw [fX_131, e1, hz, nI_0] at c2
        refine ⟨fX M1 3, fM M2 3, -1000004, ?_, ?_, Ms.jf j1 (by omega) ⟨fun k hk => ?_, s3, s17⟩⟩
        · rw [nX5_worth]
          simp only [sX5_worth_0, sX5_worth_1, sX5_worth_2, sX5_worth_5, sX5_worth_6, sX5_worth_7, sX5_worth_10, sX5_worth_11, sX5_worth_12, sX5_worth_15, sX5_worth_16, sX5_worth_17, sX5_worth_18, sX5_worth_21, sX5_worth_24, sX5_worth_25, sX5_worth_28, sX5_worth_31, sX5_worth_34, sX5_worth_35, sX5_worth_36, sX5_worth_39, opK_some, guK_true, calK_some, rk_nil, rk_int, rk_ref, tl_some, tl_none, nb_int, nb_0, nb_1, nb_if, nb_if', q0, hu', eu, show ((-1 : Int32) < 0) = True from eq_true (by decide), if_true, hz', Int32.le_refl, C_xf3]
        · rw [nX6_worth]
          simp only [sX6_worth_0, sX6_worth_1, sX6_worth_2, sX6_worth_3, sX6_worth_6, opK_some, guK_true, calK_some, rk_nil, rk_int, rk_ref, tl_some, tl_none, nb_int, nb_0, nb_1, nb_if, nb_if', q130, nX6_laidTold]
          simp only [sX6_worth_0, sX6_worth_1, sX6_worth_2, sX6_worth_3, sX6_worth_6, sX6_laidTold_0, sX6_laidTold_1, sX6_laidTold_2, sX6_laidTold_5, sX6_laidTold_8, sX6_laidTold_9, sX6_laidTold_11, sX6_laidTold_14, sX6_laidTold_15, sX6_laidTold_16, sX6_laidTold_17, sX6_laidTold_18, sX6_laidTold_21, sX6_laidTold_24, sX6_laidTold_25, sX6_laidTold_28, sX6_laidTold_31, sX6_laidTold_32, sX6_laidTold_34, sX6_laidTold_37, sX6_laidTold_38, sX6_laidTold_39, sX6_laidTold_40, sX6_laidTold_43, sX6_laidTold_44, sX6_laidTold_45, sX6_laidTold_48, sX6_laidTold_49, sX6_laidTold_51, sX6_laidTold_54, sX6_laidTold_57, sX6_laidTold_58, sX6_laidTold_61, sX6_laidTold_62, sX6_laidTold_65, sX6_laidTold_68, sX6_laidTold_69, opK_some, guK_true, calK_some, rk_nil, rk_int, rk_ref, tl_some, tl_none, nb_int, nb_0, nb_1, nb_if, nb_if', q130, C_m_isThing, C_m_isHow ht, C_m_isLate, fX_131, e1, hT, h1, hl, and_self, if_true, one_ne, zero_eq, if_false, c2, C_mf3]
        · by_cases c : k = 131
          · subst c
            exact r2
          · exact k2 k (by omega) c (by omega)
      · obtain ⟨m, hm⟩ : ∃ m, m = tlR (M 131) (nI t) 0 60 := ⟨_, rfl⟩
        have hm60 : m ≤ 60 := by rw [hm]; exact tl_le (M 131) (nI t) 60 0
        obtain ⟨M2, c2, k2, r2, s3, s17, v2⟩ := C_m_till (d := d + 0) (t := t) (M := M1) j1.1.1
        rw [show d + 0 + 6 = d + 6 from rfl] at c2
        rw [e1] at c2 v2
        have v1' := v1 (by omega)
        have v2' := v2 (by omega)
        have n1 : ¬ nI (tlR (M 131) (nI t) 0 60) ≤ 0 := by rw [← hm]; exact nI_nle (by omega) (by omega)
        have n2 : ¬ nI (tlR (M 131) (nI t) 0 60) = 0 := fun z => n1 (by rw [z]; decide)
        refine ⟨M1, M2, worD (dN (M 131) (tlR (M 131) (nI t) 0 60 - 1)), ?_, ?_, Ms.j j1 ⟨fun k hk => ?_, s3, s17⟩⟩
        · rw [nX5_worth]
          simp only [sX5_worth_0, sX5_worth_1, sX5_worth_2, sX5_worth_5, sX5_worth_6, sX5_worth_7, sX5_worth_10, sX5_worth_11, sX5_worth_12, sX5_worth_15, sX5_worth_16, sX5_worth_17, sX5_worth_18, sX5_worth_21, sX5_worth_24, sX5_worth_25, sX5_worth_28, sX5_worth_31, sX5_worth_34, sX5_worth_35, sX5_worth_36, sX5_worth_39, opK_some, guK_true, calK_some, rk_nil, rk_int, rk_ref, tl_some, tl_none, nb_int, nb_0, nb_1, nb_if, nb_if', q0, o0_6, hs_13 hen30, hu', eu, show ((-1 : Int32) < 0) = True from eq_true (by decide), if_true, c1, n1, if_false, v1']
        · rw [nX6_worth]
          simp only [sX6_worth_0, sX6_worth_1, sX6_worth_2, sX6_worth_3, sX6_worth_6, opK_some, guK_true, calK_some, rk_nil, rk_int, rk_ref, tl_some, tl_none, nb_int, nb_0, nb_1, nb_if, nb_if', q130, nX6_laidTold]
          simp only [sX6_worth_0, sX6_worth_1, sX6_worth_2, sX6_worth_3, sX6_worth_6, sX6_laidTold_0, sX6_laidTold_1, sX6_laidTold_2, sX6_laidTold_5, sX6_laidTold_8, sX6_laidTold_9, sX6_laidTold_11, sX6_laidTold_14, sX6_laidTold_15, sX6_laidTold_16, sX6_laidTold_17, sX6_laidTold_18, sX6_laidTold_21, sX6_laidTold_24, sX6_laidTold_25, sX6_laidTold_28, sX6_laidTold_31, sX6_laidTold_32, sX6_laidTold_34, sX6_laidTold_37, sX6_laidTold_38, sX6_laidTold_39, sX6_laidTold_40, sX6_laidTold_43, sX6_laidTold_44, sX6_laidTold_45, sX6_laidTold_48, sX6_laidTold_49, sX6_laidTold_51, sX6_laidTold_54, sX6_laidTold_57, sX6_laidTold_58, sX6_laidTold_61, sX6_laidTold_62, sX6_laidTold_65, sX6_laidTold_68, sX6_laidTold_69, opK_some, guK_true, calK_some, rk_nil, rk_int, rk_ref, tl_some, tl_none, nb_int, nb_0, nb_1, nb_if, nb_if', q130, p130_8, o130_8, C_m_isThing, C_m_isHow ht, C_m_isLate, e1, hT, h1, hl, and_self, if_true, one_ne, zero_eq, if_false, c2, n2, v2']
        · by_cases c : k = 131
          · subst c
            exact r2
          · exact k2 k (by omega) c (by omega)
  · have eu : unlR (M 131) x = 0 := by
      unfold unlR
      rw [if_neg hT]
    refine ⟨fX M 0, fM (fX M 0) 0, -1000001, ?_, ?_, J_fin j (by omega)⟩
    · rw [nX5_worth]
      simp only [sX5_worth_0, sX5_worth_1, sX5_worth_2, sX5_worth_5, sX5_worth_6, sX5_worth_7, sX5_worth_10, sX5_worth_11, sX5_worth_12, sX5_worth_15, sX5_worth_16, sX5_worth_17, sX5_worth_18, sX5_worth_21, sX5_worth_24, sX5_worth_25, sX5_worth_28, sX5_worth_31, sX5_worth_34, sX5_worth_35, sX5_worth_36, sX5_worth_39, opK_some, guK_true, calK_some, rk_nil, rk_int, rk_ref, tl_some, tl_none, nb_int, nb_0, nb_1, nb_if, nb_if', q0, hu', eu, show ((0 : Int32) < 0) = False from eq_false (by decide), if_false, C_xf0]
    · rw [nX6_worth]
      simp only [sX6_worth_0, sX6_worth_1, sX6_worth_2, sX6_worth_3, sX6_worth_6, opK_some, guK_true, calK_some, rk_nil, rk_int, rk_ref, tl_some, tl_none, nb_int, nb_0, nb_1, nb_if, nb_if', q130, nX6_laidTold]
      simp only [sX6_worth_0, sX6_worth_1, sX6_worth_2, sX6_worth_3, sX6_worth_6, sX6_laidTold_0, sX6_laidTold_1, sX6_laidTold_2, sX6_laidTold_5, sX6_laidTold_8, sX6_laidTold_9, sX6_laidTold_11, sX6_laidTold_14, sX6_laidTold_15, sX6_laidTold_16, sX6_laidTold_17, sX6_laidTold_18, sX6_laidTold_21, sX6_laidTold_24, sX6_laidTold_25, sX6_laidTold_28, sX6_laidTold_31, sX6_laidTold_32, sX6_laidTold_34, sX6_laidTold_37, sX6_laidTold_38, sX6_laidTold_39, sX6_laidTold_40, sX6_laidTold_43, sX6_laidTold_44, sX6_laidTold_45, sX6_laidTold_48, sX6_laidTold_49, sX6_laidTold_51, sX6_laidTold_54, sX6_laidTold_57, sX6_laidTold_58, sX6_laidTold_61, sX6_laidTold_62, sX6_laidTold_65, sX6_laidTold_68, sX6_laidTold_69, opK_some, guK_true, calK_some, rk_nil, rk_int, rk_ref, tl_some, tl_none, nb_int, nb_0, nb_1, nb_if, nb_if', q130, C_m_isThing, fX_131, hT, if_false, zero_eq, if_true, C_mf0]
