/-! calls: share -/
abbrev shP (q : Rw) (x : Int32) : Prop := 0 ≤ laiD q ∧ dayR q (at9 (iN (laiD q)) 3) = x
def shT (q : Rw) (x : Int32) : Int32 := if shP q x then worD q else 0
def shS (r : Rw) (x : Int32) (n : Nat) : Int32 := sm (fun k => shT (dN r k) x) n
theorem sh_0 {r : Rw} {x : Int32} {i : Nat} (w : WR r) (h0 : nC (dN r i) = 0) : ∀ m, shS r x (i + m) = shS r x i ∧ nC (dN r (i + m)) = 0 := by
  intro m
  induction m with
  | zero => exact ⟨rfl, h0⟩
  | succ m ih =>
    obtain ⟨d1, d2, d3⟩ := day_0 (WR_dN w (i + m)) ih.2
    constructor
    · show shS r x (i + m) + shT (dN r (i + m)) x = _
      have e : shT (dN r (i + m)) x = 0 := by
        unfold shT
        rw [if_neg (fun z => absurd z.1 (by rw [d3]; decide))]
      rw [e, Int32.add_zero, ih.1]
    · show nC (dayR (dN r (i + m))) = 0
      rw [d1, nC_0]
      exact ih.2
theorem L_share {d n : Nat} {x : Int32} {M : Mem} {r : Rw} (w : WR r) (hn : n < 2 ^ 31) : ∀ (m i : Nat) (M1 : Mem) (v : Option Value), i + m = n → HR M1 30 (dN r i) → Ou 30 M M1 →
    ∃ M', lim (call (d + 3)) none 5 cX5_share (some .int) 58 [some (.ref 0), some (.int x), some (.int (nI n)), some (.int (shS r x i)), some (.int (nI i)), v] [] M1 = some (some (.int (shS r x n)), M') ∧ Ou 30 M M' := by
  intro m
  induction m with
  | zero =>
    intro i M1 v hi h o
    obtain rfl : i = n := by omega
    rw [sX5_share_58]
    simp only [sX5_share_0, sX5_share_1, sX5_share_2, sX5_share_3, sX5_share_6, sX5_share_9, sX5_share_10, sX5_share_11, sX5_share_13, sX5_share_16, sX5_share_19, sX5_share_20, sX5_share_21, sX5_share_24, sX5_share_25, sX5_share_26, sX5_share_27, sX5_share_30, sX5_share_33, sX5_share_34, sX5_share_35, sX5_share_38, sX5_share_39, sX5_share_40, sX5_share_43, sX5_share_44, sX5_share_47, sX5_share_50, sX5_share_53, sX5_share_54, sX5_share_55, sX5_share_56, sX5_share_60, sX5_share_61, sX5_share_64, sX5_share_65, sX5_share_68, sX5_share_71, sX5_share_74, sX5_share_75, sX5_share_78, sX5_share_81, sX5_share_83, sX5_share_84, sX5_share_87, sX5_share_88, sX5_share_91, sX5_share_94, sX5_share_95, sX5_share_97, sX5_share_98, sX5_share_99, sX5_share_102, sX5_share_105, sX5_share_106, opK_some, guK_true, calK_some, rk_nil, rk_int, rk_ref, tl_some, tl_none, nb_int, nb_0, nb_1, nb_if, nb_if']
    rw [if_pos (show nI i ≤ nI i from Int32.le_refl _)]
    exact ⟨M1, rfl, o⟩
  | succ m ih =>
    intro i M1 v hi h o
    have wi := WR_dN w i
    have e39 : M1 30 9 = dN r i 4 := h.1.2.1
    obtain ⟨M2, c2, h2, o2, a12, a13, _⟩ := C_passDay (d := d + 0) hen30 h wi
    rw [show d + 0 + 3 = d + 3 from rfl] at c2
    have hl : M2 30 12 = -1 ∨ ∃ t, t < 10 ∧ M2 30 12 = nI t := by rw [a12]; exact lai_or wi
    have c3 := C_isLaidOf (d := d + 2) (x := x) hen30 h2 hl
    rw [show d + 2 + 1 = d + 3 from rfl] at c3
    rw [a12] at c3
    rw [sX5_share_58]
    simp only [sX5_share_0, sX5_share_1, sX5_share_2, sX5_share_3, sX5_share_6, sX5_share_9, sX5_share_10, sX5_share_11, sX5_share_13, sX5_share_16, sX5_share_19, sX5_share_20, sX5_share_21, sX5_share_24, sX5_share_25, sX5_share_26, sX5_share_27, sX5_share_30, sX5_share_33, sX5_share_34, sX5_share_35, sX5_share_38, sX5_share_39, sX5_share_40, sX5_share_43, sX5_share_44, sX5_share_47, sX5_share_50, sX5_share_53, sX5_share_54, sX5_share_55, sX5_share_56, sX5_share_60, sX5_share_61, sX5_share_64, sX5_share_65, sX5_share_68, sX5_share_71, sX5_share_74, sX5_share_75, sX5_share_78, sX5_share_81, sX5_share_83, sX5_share_84, sX5_share_87, sX5_share_88, sX5_share_91, sX5_share_94, sX5_share_95, sX5_share_97, sX5_share_98, sX5_share_99, sX5_share_102, sX5_share_105, sX5_share_106, opK_some, guK_true, calK_some, rk_nil, rk_int, rk_ref, tl_some, tl_none, nb_int, nb_0, nb_1, nb_if, nb_if', o0_6, hs_9 hen30, hen_c hen30, e39, c2, c3, nI_1]
    rw [if_neg (show ¬ nI n ≤ nI i from nI_ge (by omega) hn)]
    by_cases hz : nC (dN r i) = 0
    · rw [if_pos (Int32.not_lt.mp (fun z => absurd ((wr_pos wi).mp z) (by omega)))]
      have := (sh_0 (x := x) w hz (m + 1)).1
      rw [hi] at this
      rw [this]
      exact ⟨M1, rfl, o⟩
    · rw [if_neg (Int32.not_le.mpr ((wr_pos wi).mpr (by omega)))]
      have fin := ih (i + 1) M2 (some (.int (worD (dN r i)))) (by omega) h2 (o.tr o2)
      have ek : shS r x (i + 1) = shS r x i + shT (dN r i) x := rfl
      rw [ek] at fin
      by_cases hp : shP (dN r i) x
      · have et : shT (dN r i) x = worD (dN r i) := if_pos hp
        rw [et] at fin
        rw [if_pos (show 0 ≤ laiD (dN r i) ∧ dayR (dN r i) (at9 (iN (laiD (dN r i))) 3) = x from hp), if_neg (by decide)]
        exact fin
      · have et : shT (dN r i) x = 0 := if_neg hp
        rw [et, Int32.add_zero] at fin
        rw [if_neg (show ¬ (0 ≤ laiD (dN r i) ∧ dayR (dN r i) (at9 (iN (laiD (dN r i))) 3) = x) from hp), if_pos rfl]
        exact fin
theorem L_m_share {d n : Nat} {x : Int32} {r a : Rw} {M : Mem} (w : WX r 9999) (ha : M 133 = cpR r a) (hn : n ≤ 1000) : ∀ (m i : Nat) (M1 : Mem) (v : Option Value), i + m = n → M1 131 = dN r i → Mo M M1 →
    ∃ M', lim (call (d + 5)) none 6 cX6_share (some .int) 57 [some (.ref 130), some (.int x), some (.int (nI n)), some (.int (shS r x i)), some (.int (nI i)), v] [] M1 = some (some (.int (shS r x n)), M') ∧ Mo M M' ∧ M' 131 = r := by
  intro m
  induction m with
  | zero =>
    intro i M1 v hi e1 o
    obtain rfl : i = n := by omega
    have hp := fun x => m_back (d := d + 3) (x := x) w.1 e1 ((o.1 133 (by omega) (by omega)).trans ha)
    rw [show d + 3 + 2 = d + 5 from rfl] at hp
    rw [sX6_share_57]
    simp only [sX6_share_0, sX6_share_1, sX6_share_2, sX6_share_3, sX6_share_6, sX6_share_9, sX6_share_10, sX6_share_11, sX6_share_13, sX6_share_16, sX6_share_19, sX6_share_20, sX6_share_22, sX6_share_25, sX6_share_26, sX6_share_27, sX6_share_28, sX6_share_31, sX6_share_34, sX6_share_35, sX6_share_37, sX6_share_40, sX6_share_41, sX6_share_42, sX6_share_45, sX6_share_46, sX6_share_49, sX6_share_52, sX6_share_53, sX6_share_54, sX6_share_55, sX6_share_59, sX6_share_60, sX6_share_63, sX6_share_64, sX6_share_67, sX6_share_69, sX6_share_70, sX6_share_71, sX6_share_74, sX6_share_77, sX6_share_78, sX6_share_79, sX6_share_82, sX6_share_83, sX6_share_86, sX6_share_87, sX6_share_90, sX6_share_92, sX6_share_95, sX6_share_96, sX6_share_97, sX6_share_98, sX6_share_101, sX6_share_104, sX6_share_105, sX6_share_106, sX6_share_109, opK_some, guK_true, calK_some, rk_nil, rk_int, rk_ref, tl_some, tl_none, nb_int, nb_0, nb_1, nb_if, nb_if', q130, hp]
    rw [if_pos (show nI i ≤ nI i from Int32.le_refl _)]
    exact ⟨_, rfl, o.tr Mo.row, mrow_at⟩
  | succ m ih =>
    intro i M1 v hi e1 o
    obtain ⟨M2, c2, o2, r2, f5, f6⟩ := m_step (d := d + 0) w (by omega) e1
    rw [show d + 0 + 5 = d + 5 from rfl] at c2
    have om := o.tr o2
    have fin := ih (i + 1) M2 (some (.int (worD (dN r i)))) (by omega) r2 om
    have ek : shS r x (i + 1) = shS r x i + shT (dN r i) x := rfl
    rw [ek] at fin
    rw [sX6_share_57]
    simp only [sX6_share_0, sX6_share_1, sX6_share_2, sX6_share_3, sX6_share_6, sX6_share_9, sX6_share_10, sX6_share_11, sX6_share_13, sX6_share_16, sX6_share_19, sX6_share_20, sX6_share_22, sX6_share_25, sX6_share_26, sX6_share_27, sX6_share_28, sX6_share_31, sX6_share_34, sX6_share_35, sX6_share_37, sX6_share_40, sX6_share_41, sX6_share_42, sX6_share_45, sX6_share_46, sX6_share_49, sX6_share_52, sX6_share_53, sX6_share_54, sX6_share_55, sX6_share_59, sX6_share_60, sX6_share_63, sX6_share_64, sX6_share_67, sX6_share_69, sX6_share_70, sX6_share_71, sX6_share_74, sX6_share_77, sX6_share_78, sX6_share_79, sX6_share_82, sX6_share_83, sX6_share_86, sX6_share_87, sX6_share_90, sX6_share_92, sX6_share_95, sX6_share_96, sX6_share_97, sX6_share_98, sX6_share_101, sX6_share_104, sX6_share_105, sX6_share_106, sX6_share_109, opK_some, guK_true, calK_some, rk_nil, rk_int, rk_ref, tl_some, tl_none, nb_int, nb_0, nb_1, nb_if, nb_if', q130, o130_5, c2, f5, nI_1]
    rw [if_neg (show ¬ nI n ≤ nI i from nI_ge (by omega) (by omega))]
    rcases lai_or (WR_dN w.1 i) with hl | ⟨t, ht, hl⟩
    · have et : shT (dN r i) x = 0 := if_neg (fun z => absurd z.1 (by rw [hl]; decide))
      rw [et] at fin
      simp only [hl, show ((-1 : Int32) < 0) = True from eq_true (by decide), if_true]
      exact fin
    · have hn' : ¬ nI t < 0 := nI_nlt (b := 0) (by omega) (by omega)
      have ep : shP (dN r i) x ↔ dayR (dN r i) (at9 t 3) = x := by
        unfold shP
        rw [hl, iN_nI (by omega)]
        exact ⟨fun z => z.2, fun z => ⟨nI_le (a := 0) (by omega) (by omega), z⟩⟩
      have e3 : M2 131 (at9 t 3) = dayR (dN r i) (at9 t 3) := by rw [r2]; rfl
      simp only [sX6_share_0, sX6_share_1, sX6_share_2, sX6_share_3, sX6_share_6, sX6_share_9, sX6_share_10, sX6_share_11, sX6_share_13, sX6_share_16, sX6_share_19, sX6_share_20, sX6_share_22, sX6_share_25, sX6_share_26, sX6_share_27, sX6_share_28, sX6_share_31, sX6_share_34, sX6_share_35, sX6_share_37, sX6_share_40, sX6_share_41, sX6_share_42, sX6_share_45, sX6_share_46, sX6_share_49, sX6_share_52, sX6_share_53, sX6_share_54, sX6_share_55, sX6_share_59, sX6_share_60, sX6_share_63, sX6_share_64, sX6_share_67, sX6_share_69, sX6_share_70, sX6_share_71, sX6_share_74, sX6_share_77, sX6_share_78, sX6_share_79, sX6_share_82, sX6_share_83, sX6_share_86, sX6_share_87, sX6_share_90, sX6_share_92, sX6_share_95, sX6_share_96, sX6_share_97, sX6_share_98, sX6_share_101, sX6_share_104, sX6_share_105, sX6_share_106, sX6_share_109, opK_some, guK_true, calK_some, rk_nil, rk_int, rk_ref, tl_some, tl_none, nb_int, nb_0, nb_1, nb_if, nb_if', hl, hn', if_false, T3 ht, e3, nI_1]
      by_cases hp : dayR (dN r i) (at9 t 3) = x
      · have et : shT (dN r i) x = worD (dN r i) := if_pos (ep.mpr hp)
        rw [et] at fin
        rw [if_pos hp]
        exact fin
      · have et : shT (dN r i) x = 0 := if_neg (fun z => hp (ep.mp z))
        rw [et] at fin
        rw [if_neg hp]
        exact fin
theorem days0_of {x : Int32} (h : 0 ≤ x ∧ x ≤ 60) : ∃ n, n ≤ 60 ∧ x = nI n := nI_of2 (M := 60) (n := 60) rfl (Int32.not_lt.mpr h.1) h.2
theorem X_share {d : Nat} {M : Mem} {x y : Int32} (j : J M) : Two (d + 4) 73 (d + 6) 206 [.int x, .int y] M := by
  have w := j_wr j
  have ed : M 100 1 = M 131 0 := j.1.2.2.1.1
  by_cases hx : 0 ≤ x ∧ x ≤ 1
  · by_cases hy : 0 ≤ y ∧ y ≤ 60
    · by_cases hl : 9999 < M 131 0 + y
      · refine ⟨fX M 4, fM (fX M 4) 4, -1000005, ?_, ?_, J_fin j (by omega)⟩
        · rw [nX5_share]
          simp only [sX5_share_0, sX5_share_1, sX5_share_2, sX5_share_3, sX5_share_6, sX5_share_9, sX5_share_10, sX5_share_11, sX5_share_13, sX5_share_16, sX5_share_19, sX5_share_20, sX5_share_21, sX5_share_24, sX5_share_25, sX5_share_26, sX5_share_27, sX5_share_30, sX5_share_33, sX5_share_34, sX5_share_35, sX5_share_38, sX5_share_39, sX5_share_40, sX5_share_43, sX5_share_44, sX5_share_47, sX5_share_50, sX5_share_53, sX5_share_54, sX5_share_55, sX5_share_56, sX5_share_60, sX5_share_61, sX5_share_64, sX5_share_65, sX5_share_68, sX5_share_71, sX5_share_74, sX5_share_75, sX5_share_78, sX5_share_81, sX5_share_83, sX5_share_84, sX5_share_87, sX5_share_88, sX5_share_91, sX5_share_94, sX5_share_95, sX5_share_97, sX5_share_98, sX5_share_99, sX5_share_102, sX5_share_105, sX5_share_106, opK_some, guK_true, calK_some, rk_nil, rk_int, rk_ref, tl_some, tl_none, nb_int, nb_0, nb_1, nb_if, nb_if', q0, C_x_within, C_x_isTooLate, ed, hx, hy, hl, and_self, if_true, one_ne, if_false, C_xf4]
        · rw [nX6_share]
          simp only [sX6_share_0, sX6_share_1, sX6_share_2, sX6_share_3, sX6_share_6, sX6_share_9, sX6_share_10, sX6_share_11, sX6_share_13, sX6_share_16, sX6_share_19, sX6_share_20, sX6_share_22, sX6_share_25, sX6_share_26, sX6_share_27, sX6_share_28, sX6_share_31, sX6_share_34, sX6_share_35, sX6_share_37, sX6_share_40, sX6_share_41, sX6_share_42, sX6_share_45, sX6_share_46, sX6_share_49, sX6_share_52, sX6_share_53, sX6_share_54, sX6_share_55, sX6_share_59, sX6_share_60, sX6_share_63, sX6_share_64, sX6_share_67, sX6_share_69, sX6_share_70, sX6_share_71, sX6_share_74, sX6_share_77, sX6_share_78, sX6_share_79, sX6_share_82, sX6_share_83, sX6_share_86, sX6_share_87, sX6_share_90, sX6_share_92, sX6_share_95, sX6_share_96, sX6_share_97, sX6_share_98, sX6_share_101, sX6_share_104, sX6_share_105, sX6_share_106, sX6_share_109, opK_some, guK_true, calK_some, rk_nil, rk_int, rk_ref, tl_some, tl_none, nb_int, nb_0, nb_1, nb_if, nb_if', q130, C_m_within, C_m_isTooLate, fX_131, hx, hy, hl, and_self, if_true, one_ne, if_false, C_mf4]
      · obtain ⟨n, n60, rfl⟩ := days0_of hy
        obtain ⟨M1, c1, h1, o1⟩ := C_become (d := d + 2) hen30 hen10 (by omega) (j_hr j) w
        rw [show d + 2 + 1 = d + 3 from rfl] at c1
        obtain ⟨M2, c2, o2⟩ := L_share (d := d) (x := x) w (show n < 2 ^ 31 by omega) n 0 M1 none (by omega) h1 o1
        have cs : Cs M M2 := Cs.ou (by omega) (by omega) o2
        have e2 := cs.e
        have hc := C_aside (d := d + 4) (M := M2)
        rw [show d + 4 + 1 = d + 5 from rfl] at hc
        obtain ⟨M3, hM3⟩ : ∃ M3, M3 = mrow M2 133 (cpR (M2 131) (M2 133)) := ⟨_, rfl⟩
        rw [← hM3] at hc
        have ms3 : Ms M2 M3 := by rw [hM3]; exact Ms.as
        have r3 : M3 131 = M 131 := (ms3.1 131 (by omega)).trans e2
        have a3 : M3 133 = cpR (M 131) (M2 133) := by rw [hM3, mrow_at, e2]
        obtain ⟨M4, c4, o4, r4⟩ := L_m_share (d := d) (x := x) (M := M3) j.1.1.1 a3 (show n ≤ 1000 by omega) n 0 M3 none (by omega) r3 Mo.rf
        refine ⟨M2, M4, shS (M 131) x n, ?_, ?_, Ms.j (cs.j j) (ms3.tr (o4.ms (by rw [r4, r3])))⟩
        · rw [nX5_share]
          simp only [sX5_share_0, sX5_share_1, sX5_share_2, sX5_share_3, sX5_share_6, sX5_share_9, sX5_share_10, sX5_share_11, sX5_share_13, sX5_share_16, sX5_share_19, sX5_share_20, sX5_share_21, sX5_share_24, sX5_share_25, sX5_share_26, sX5_share_27, sX5_share_30, sX5_share_33, sX5_share_34, sX5_share_35, sX5_share_38, sX5_share_39, sX5_share_40, sX5_share_43, sX5_share_44, sX5_share_47, sX5_share_50, sX5_share_53, sX5_share_54, sX5_share_55, sX5_share_56, sX5_share_60, sX5_share_61, sX5_share_64, sX5_share_65, sX5_share_68, sX5_share_71, sX5_share_74, sX5_share_75, sX5_share_78, sX5_share_81, sX5_share_83, sX5_share_84, sX5_share_87, sX5_share_88, sX5_share_91, sX5_share_94, sX5_share_95, sX5_share_97, sX5_share_98, sX5_share_99, sX5_share_102, sX5_share_105, sX5_share_106, opK_some, guK_true, calK_some, rk_nil, rk_int, rk_ref, tl_some, tl_none, nb_int, nb_0, nb_1, nb_if, nb_if', q0, o0_0, o0_6, o100_0, hen_c hen30, hen_c hen10, C_x_within, C_x_isTooLate, ed, hx, hy, hl, and_self, if_true, one_ne, zero_eq, if_false, c1]
          exact c2
        · rw [nX6_share]
          simp only [sX6_share_0, sX6_share_1, sX6_share_2, sX6_share_3, sX6_share_6, sX6_share_9, sX6_share_10, sX6_share_11, sX6_share_13, sX6_share_16, sX6_share_19, sX6_share_20, sX6_share_22, sX6_share_25, sX6_share_26, sX6_share_27, sX6_share_28, sX6_share_31, sX6_share_34, sX6_share_35, sX6_share_37, sX6_share_40, sX6_share_41, sX6_share_42, sX6_share_45, sX6_share_46, sX6_share_49, sX6_share_52, sX6_share_53, sX6_share_54, sX6_share_55, sX6_share_59, sX6_share_60, sX6_share_63, sX6_share_64, sX6_share_67, sX6_share_69, sX6_share_70, sX6_share_71, sX6_share_74, sX6_share_77, sX6_share_78, sX6_share_79, sX6_share_82, sX6_share_83, sX6_share_86, sX6_share_87, sX6_share_90, sX6_share_92, sX6_share_95, sX6_share_96, sX6_share_97, sX6_share_98, sX6_share_101, sX6_share_104, sX6_share_105, sX6_share_106, sX6_share_109, opK_some, guK_true, calK_some, rk_nil, rk_int, rk_ref, tl_some, tl_none, nb_int, nb_0, nb_1, nb_if, nb_if', q130, o130_0, o130_2, C_m_within, C_m_isTooLate, e2, hx, hy, hl, and_self, if_true, one_ne, zero_eq, if_false, hc]
          exact c4
    · refine ⟨fX M 0, fM (fX M 0) 0, -1000001, ?_, ?_, J_fin j (by omega)⟩
      · rw [nX5_share]
        simp only [sX5_share_0, sX5_share_1, sX5_share_2, sX5_share_3, sX5_share_6, sX5_share_9, sX5_share_10, sX5_share_11, sX5_share_13, sX5_share_16, sX5_share_19, sX5_share_20, sX5_share_21, sX5_share_24, sX5_share_25, sX5_share_26, sX5_share_27, sX5_share_30, sX5_share_33, sX5_share_34, sX5_share_35, sX5_share_38, sX5_share_39, sX5_share_40, sX5_share_43, sX5_share_44, sX5_share_47, sX5_share_50, sX5_share_53, sX5_share_54, sX5_share_55, sX5_share_56, sX5_share_60, sX5_share_61, sX5_share_64, sX5_share_65, sX5_share_68, sX5_share_71, sX5_share_74, sX5_share_75, sX5_share_78, sX5_share_81, sX5_share_83, sX5_share_84, sX5_share_87, sX5_share_88, sX5_share_91, sX5_share_94, sX5_share_95, sX5_share_97, sX5_share_98, sX5_share_99, sX5_share_102, sX5_share_105, sX5_share_106, opK_some, guK_true, calK_some, rk_nil, rk_int, rk_ref, tl_some, tl_none, nb_int, nb_0, nb_1, nb_if, nb_if', q0, C_x_within, hx, hy, and_self, if_true, one_ne, zero_eq, if_false, C_xf0]
      · rw [nX6_share]
        simp only [sX6_share_0, sX6_share_1, sX6_share_2, sX6_share_3, sX6_share_6, sX6_share_9, sX6_share_10, sX6_share_11, sX6_share_13, sX6_share_16, sX6_share_19, sX6_share_20, sX6_share_22, sX6_share_25, sX6_share_26, sX6_share_27, sX6_share_28, sX6_share_31, sX6_share_34, sX6_share_35, sX6_share_37, sX6_share_40, sX6_share_41, sX6_share_42, sX6_share_45, sX6_share_46, sX6_share_49, sX6_share_52, sX6_share_53, sX6_share_54, sX6_share_55, sX6_share_59, sX6_share_60, sX6_share_63, sX6_share_64, sX6_share_67, sX6_share_69, sX6_share_70, sX6_share_71, sX6_share_74, sX6_share_77, sX6_share_78, sX6_share_79, sX6_share_82, sX6_share_83, sX6_share_86, sX6_share_87, sX6_share_90, sX6_share_92, sX6_share_95, sX6_share_96, sX6_share_97, sX6_share_98, sX6_share_101, sX6_share_104, sX6_share_105, sX6_share_106, sX6_share_109, opK_some, guK_true, calK_some, rk_nil, rk_int, rk_ref, tl_some, tl_none, nb_int, nb_0, nb_1, nb_if, nb_if', q130, C_m_within, hx, hy, and_self, if_true, one_ne, zero_eq, if_false, C_mf0]
  · refine ⟨fX M 0, fM (fX M 0) 0, -1000001, ?_, ?_, J_fin j (by omega)⟩
    · rw [nX5_share]
      simp only [sX5_share_0, sX5_share_1, sX5_share_2, sX5_share_3, sX5_share_6, sX5_share_9, sX5_share_10, sX5_share_11, sX5_share_13, sX5_share_16, sX5_share_19, sX5_share_20, sX5_share_21, sX5_share_24, sX5_share_25, sX5_share_26, sX5_share_27, sX5_share_30, sX5_share_33, sX5_share_34, sX5_share_35, sX5_share_38, sX5_share_39, sX5_share_40, sX5_share_43, sX5_share_44, sX5_share_47, sX5_share_50, sX5_share_53, sX5_share_54, sX5_share_55, sX5_share_56, sX5_share_60, sX5_share_61, sX5_share_64, sX5_share_65, sX5_share_68, sX5_share_71, sX5_share_74, sX5_share_75, sX5_share_78, sX5_share_81, sX5_share_83, sX5_share_84, sX5_share_87, sX5_share_88, sX5_share_91, sX5_share_94, sX5_share_95, sX5_share_97, sX5_share_98, sX5_share_99, sX5_share_102, sX5_share_105, sX5_share_106, opK_some, guK_true, calK_some, rk_nil, rk_int, rk_ref, tl_some, tl_none, nb_int, nb_0, nb_1, nb_if, nb_if', q0, C_x_within, hx, if_true, zero_eq, if_false, C_xf0]
    · rw [nX6_share]
      simp only [sX6_share_0, sX6_share_1, sX6_share_2, sX6_share_3, sX6_share_6, sX6_share_9, sX6_share_10, sX6_share_11, sX6_share_13, sX6_share_16, sX6_share_19, sX6_share_20, sX6_share_22, sX6_share_25, sX6_share_26, sX6_share_27, sX6_share_28, sX6_share_31, sX6_share_34, sX6_share_35, sX6_share_37, sX6_share_40, sX6_share_41, sX6_share_42, sX6_share_45, sX6_share_46, sX6_share_49, sX6_share_52, sX6_share_53, sX6_share_54, sX6_share_55, sX6_share_59, sX6_share_60, sX6_share_63, sX6_share_64, sX6_share_67, sX6_share_69, sX6_share_70, sX6_share_71, sX6_share_74, sX6_share_77, sX6_share_78, sX6_share_79, sX6_share_82, sX6_share_83, sX6_share_86, sX6_share_87, sX6_share_90, sX6_share_92, sX6_share_95, sX6_share_96, sX6_share_97, sX6_share_98, sX6_share_101, sX6_share_104, sX6_share_105, sX6_share_106, sX6_share_109, opK_some, guK_true, calK_some, rk_nil, rk_int, rk_ref, tl_some, tl_none, nb_int, nb_0, nb_1, nb_if, nb_if', q130, C_m_within, hx, if_true, zero_eq, if_false, C_mf0]

