/-! calls: next -/
def nxS (r : Rw) (n : Nat) : Nat → Int32 × Int32
  | 0 => (bS r (r1 0) 0 n, -1)
  | t + 1 => if r (at9 t 4) = 0 ∧ (nxS r n t).1 < bS r (r1 t) 1 n then (bS r (r1 t) 1 n, nI t) else nxS r n t
theorem nx_le {r : Rw} (w : WR r) (n : Nat) : ∀ t, t ≤ 10 → ∃ j, j ≤ 104 * n ∧ (nxS r n t).1 = nI j := by
  intro t
  induction t with
  | zero => intro _; exact bS_le w (fun k hk => absurd hk (by omega)) n
  | succ t ih =>
    intro ht
    unfold nxS
    split
    · exact bS_le w (fun _ _ => by show t < 10; omega) n
    · exact ih (by omega)
theorem L_next {d n : Nat} {M : Mem} {r : Rw} (h : HR M 10 r) (w : WR r) (hn : n < 2 ^ 31) : ∀ (m t : Nat) (M1 : Mem) (v : Option Value), t + m = nT r → Cs M M1 →
    ∃ M', lim (call (d + 5)) none 5 cX5_next (some .int) 39 [some (.ref 0), some (.int (nI n)), some (.int (nxS r n t).1), some (.int (nxS r n t).2), some (.int (nI t)), v] [] M1 = some (some (.int (nxS r n (nT r)).2), M') ∧ Cs M M' := by
  have hT := wr_T w
  intro m
  induction m with
  | zero =>
    intro t M1 v ht c
    obtain rfl : t = nT r := by omega
    have e0 : M1 10 0 = nI (nT r) := (c.hr h).1.1.trans hT.2
    rw [sX5_next_39]
    simp only [sX5_next_0, sX5_next_1, sX5_next_4, sX5_next_7, sX5_next_8, sX5_next_9, sX5_next_12, sX5_next_13, sX5_next_14, sX5_next_15, sX5_next_18, sX5_next_21, sX5_next_22, sX5_next_23, sX5_next_26, sX5_next_27, sX5_next_28, sX5_next_29, sX5_next_30, sX5_next_33, sX5_next_34, sX5_next_35, sX5_next_36, sX5_next_37, sX5_next_41, sX5_next_42, sX5_next_45, sX5_next_48, sX5_next_51, sX5_next_54, sX5_next_55, sX5_next_58, sX5_next_61, sX5_next_63, sX5_next_66, sX5_next_69, sX5_next_70, sX5_next_73, sX5_next_74, sX5_next_76, sX5_next_77, sX5_next_78, sX5_next_79, sX5_next_80, sX5_next_83, sX5_next_85, sX5_next_87, sX5_next_88, sX5_next_91, sX5_next_93, sX5_next_94, sX5_next_96, sX5_next_97, sX5_next_100, sX5_next_103, sX5_next_104, opK_some, guK_true, calK_some, rk_nil, rk_int, rk_ref, tl_some, tl_none, nb_int, nb_0, nb_1, nb_if, nb_if', o0_0, o100_0, hs_0 hen10, e0]
    rw [if_pos (show nI (nT r) ≤ nI (nT r) from Int32.le_refl _)]
    exact ⟨M1, rfl, c⟩
  | succ m ih =>
    intro t M1 v ht c
    have t10 : t < 10 := by omega
    have h1 := c.hr h
    have e0 : M1 10 0 = nI (nT r) := h1.1.1.trans hT.2
    have c1 := C_isOut (d := d + 4) hen10 h1 t10
    rw [show d + 4 + 1 = d + 5 from rfl] at c1
    rw [sX5_next_39]
    simp only [sX5_next_0, sX5_next_1, sX5_next_4, sX5_next_7, sX5_next_8, sX5_next_9, sX5_next_12, sX5_next_13, sX5_next_14, sX5_next_15, sX5_next_18, sX5_next_21, sX5_next_22, sX5_next_23, sX5_next_26, sX5_next_27, sX5_next_28, sX5_next_29, sX5_next_30, sX5_next_33, sX5_next_34, sX5_next_35, sX5_next_36, sX5_next_37, sX5_next_41, sX5_next_42, sX5_next_45, sX5_next_48, sX5_next_51, sX5_next_54, sX5_next_55, sX5_next_58, sX5_next_61, sX5_next_63, sX5_next_66, sX5_next_69, sX5_next_70, sX5_next_73, sX5_next_74, sX5_next_77, sX5_next_78, sX5_next_79, sX5_next_80, sX5_next_83, sX5_next_85, sX5_next_87, sX5_next_88, sX5_next_91, sX5_next_93, sX5_next_94, sX5_next_96, sX5_next_97, sX5_next_100, sX5_next_103, sX5_next_104, opK_some, guK_true, calK_some, rk_nil, rk_int, rk_ref, tl_some, tl_none, nb_int, nb_0, nb_1, nb_if, nb_if', o0_0, o0_8, o100_0, hs_0 hen10, hen_c hen10, e0, c1, nI_1]
    rw [if_neg (show ¬ nI (nT r) ≤ nI t from nI_ge (by omega) (by omega))]
    by_cases hz : r (at9 t 4) = 0
    · obtain ⟨M2, hM2⟩ : ∃ M2, M2 = mset M1 2 0 (nI t) := ⟨_, rfl⟩
      have cs2 : Cs M M2 := c.tr (by rw [hM2]; exact Cs.set (Or.inl rfl))
      obtain ⟨M3, c3, o3⟩ := C_x_one (d := d + 0) (t := t) (n := n) (cs2.hr h) w t10 hn (by rw [hM2, mset_at, upd_at])
      rw [show d + 0 + 5 = d + 5 from rfl] at c3
      have cs3 : Cs M M3 := cs2.tr (Cs.ou (by omega) (by omega) o3)
      rw [if_pos hz, if_neg (by decide), sX5_next_76]
      simp only [sX5_next_0, sX5_next_1, sX5_next_4, sX5_next_7, sX5_next_8, sX5_next_9, sX5_next_12, sX5_next_13, sX5_next_14, sX5_next_15, sX5_next_18, sX5_next_21, sX5_next_22, sX5_next_23, sX5_next_26, sX5_next_27, sX5_next_28, sX5_next_29, sX5_next_30, sX5_next_33, sX5_next_34, sX5_next_35, sX5_next_36, sX5_next_37, sX5_next_41, sX5_next_42, sX5_next_45, sX5_next_48, sX5_next_51, sX5_next_54, sX5_next_55, sX5_next_58, sX5_next_61, sX5_next_63, sX5_next_66, sX5_next_69, sX5_next_70, sX5_next_73, sX5_next_74, sX5_next_77, sX5_next_78, sX5_next_79, sX5_next_80, sX5_next_83, sX5_next_85, sX5_next_87, sX5_next_88, sX5_next_91, sX5_next_93, sX5_next_94, sX5_next_96, sX5_next_97, sX5_next_100, sX5_next_103, sX5_next_104, opK_some, guK_true, calK_some, rk_nil, rk_int, rk_ref, tl_some, tl_none, nb_int, nb_0, nb_1, nb_if, nb_if', a2, b2, ib_0_10, tn_0, q0, ← hM2, c3, nI_1]
      have fin := ih (t + 1) M3 (some (.int (bS r (r1 t) 1 n))) (by omega) cs3
      by_cases hl : (nxS r n t).1 < bS r (r1 t) 1 n
      · have ek : nxS r n (t + 1) = (bS r (r1 t) 1 n, nI t) := if_pos ⟨hz, hl⟩
        rw [ek] at fin
        rw [if_neg (Int32.not_le.mpr hl)]
        exact fin
      · have ek : nxS r n (t + 1) = nxS r n t := if_neg (fun z => hl z.2)
        rw [ek] at fin
        rw [if_pos (Int32.not_lt.mp hl)]
        exact fin
    · have ek : nxS r n (t + 1) = nxS r n t := if_neg (fun z => hz z.1)
      have fin := ih (t + 1) M1 v (by omega) c
      rw [ek] at fin
      rw [if_neg hz, if_pos rfl]
      exact fin
theorem L_m_next {d n : Nat} {r a : Rw} {M : Mem} {y : Int32} (w : WX r 9999) (e : M 131 = r) (ha : M 133 = cpR r a) (hn : n ≤ 1000) : ∀ (m t : Nat) (M1 : Mem) (v : Option Value), t + m = nT r → Mb M M1 →
    ∃ M', lim (call (d + 7)) none 6 cX6_next (some .int) 46 [some (.ref 130), some (.int (nI n)), some (.int y), some (.int (nxS r n t).2), some (.int (nxS r n t).1), some (.int (nI t)), v] [] M1 = some (some (.int (nxS r n (nT r)).2), M') ∧ Mb M M' := by
  have hT := wr_T w.1
  intro m
  induction m with
  | zero =>
    intro t M1 v ht b
    obtain rfl : t = nT r := by omega
    have e1 : M1 131 = r := (b.1 131 (by omega) (by omega)).trans e
    rw [sX6_next_46]
    simp only [sX6_next_0, sX6_next_1, sX6_next_2, sX6_next_3, sX6_next_4, sX6_next_7, sX6_next_8, sX6_next_9, sX6_next_12, sX6_next_13, sX6_next_14, sX6_next_17, sX6_next_18, sX6_next_19, sX6_next_22, sX6_next_23, sX6_next_26, sX6_next_29, sX6_next_30, sX6_next_31, sX6_next_34, sX6_next_35, sX6_next_36, sX6_next_37, sX6_next_38, sX6_next_41, sX6_next_43, sX6_next_44, sX6_next_48, sX6_next_49, sX6_next_52, sX6_next_53, sX6_next_54, sX6_next_57, sX6_next_58, sX6_next_60, sX6_next_61, sX6_next_64, sX6_next_67, sX6_next_68, sX6_next_70, sX6_next_71, sX6_next_72, sX6_next_75, sX6_next_78, sX6_next_79, sX6_next_81, sX6_next_83, sX6_next_85, sX6_next_88, sX6_next_90, sX6_next_93, sX6_next_94, sX6_next_95, sX6_next_97, sX6_next_99, sX6_next_102, sX6_next_104, sX6_next_107, sX6_next_110, sX6_next_111, opK_some, guK_true, calK_some, rk_nil, rk_int, rk_ref, tl_some, tl_none, nb_int, nb_0, nb_1, nb_if, nb_if', o130_0, a131, ib_3_132, tn_3, e1]
    rw [if_pos (show r 3 ≤ nI (nT r) by rw [← hT.2]; exact Int32.le_refl _)]
    exact ⟨M1, rfl, b⟩
  | succ m ih =>
    intro t M1 v ht b
    have t10 : t < 10 := by omega
    have e1 : M1 131 = r := (b.1 131 (by omega) (by omega)).trans e
    have a1 : M1 133 = cpR r a := (b.1 133 (by omega) (by omega)).trans ha
    obtain ⟨jm, hj, ej⟩ := nx_le w.1 n t (by omega)
    have c1 := C_m_isHow (d := d + 4) (M := M1) (x := 0) t10
    rw [show d + 4 + 3 = d + 7 from rfl] at c1
    rw [e1] at c1
    obtain ⟨M3, c3, o3⟩ := C_m_one (d := d + 0) (t := t) (n := n) w e1 a1 t10 hn
    rw [show d + 0 + 7 = d + 7 from rfl] at c3
    rw [sX6_next_46]
    simp only [sX6_next_0, sX6_next_1, sX6_next_2, sX6_next_3, sX6_next_4, sX6_next_7, sX6_next_8, sX6_next_9, sX6_next_12, sX6_next_13, sX6_next_14, sX6_next_17, sX6_next_18, sX6_next_19, sX6_next_22, sX6_next_23, sX6_next_26, sX6_next_29, sX6_next_30, sX6_next_31, sX6_next_34, sX6_next_35, sX6_next_36, sX6_next_37, sX6_next_38, sX6_next_41, sX6_next_43, sX6_next_44, sX6_next_48, sX6_next_49, sX6_next_52, sX6_next_53, sX6_next_54, sX6_next_57, sX6_next_58, sX6_next_60, sX6_next_61, sX6_next_64, sX6_next_67, sX6_next_68, sX6_next_70, sX6_next_71, sX6_next_72, sX6_next_75, sX6_next_78, sX6_next_79, sX6_next_81, sX6_next_83, sX6_next_85, sX6_next_88, sX6_next_90, sX6_next_93, sX6_next_94, sX6_next_95, sX6_next_97, sX6_next_99, sX6_next_102, sX6_next_104, sX6_next_107, sX6_next_110, sX6_next_111, opK_some, guK_true, calK_some, rk_nil, rk_int, rk_ref, tl_some, tl_none, nb_int, nb_0, nb_1, nb_if, nb_if', o130_0, a131, ib_3_132, tn_3, q130, e1, c1, nI_1]
    rw [if_neg (show ¬ r 3 ≤ nI t by rw [hT.2]; exact nI_ge (by omega) (by omega))]
    by_cases hz : r (at9 t 4) = 0
    · rw [if_pos hz, if_neg (by decide)]
      simp only [sX6_next_0, sX6_next_1, sX6_next_2, sX6_next_3, sX6_next_4, sX6_next_7, sX6_next_8, sX6_next_9, sX6_next_12, sX6_next_13, sX6_next_14, sX6_next_17, sX6_next_18, sX6_next_19, sX6_next_22, sX6_next_23, sX6_next_26, sX6_next_29, sX6_next_30, sX6_next_31, sX6_next_34, sX6_next_35, sX6_next_36, sX6_next_37, sX6_next_38, sX6_next_41, sX6_next_43, sX6_next_44, sX6_next_48, sX6_next_49, sX6_next_52, sX6_next_53, sX6_next_54, sX6_next_57, sX6_next_58, sX6_next_60, sX6_next_61, sX6_next_64, sX6_next_67, sX6_next_68, sX6_next_70, sX6_next_71, sX6_next_72, sX6_next_75, sX6_next_78, sX6_next_79, sX6_next_81, sX6_next_83, sX6_next_85, sX6_next_88, sX6_next_90, sX6_next_93, sX6_next_94, sX6_next_95, sX6_next_97, sX6_next_99, sX6_next_102, sX6_next_104, sX6_next_107, sX6_next_110, sX6_next_111, opK_some, guK_true, calK_some, rk_nil, rk_int, rk_ref, tl_some, tl_none, nb_int, nb_0, nb_1, nb_if, nb_if', c3, nI_1]
      have fin := ih (t + 1) M3 (some (.int (bS r (r1 t) 1 n))) (by omega) (b.tr o3)
      by_cases hl : (nxS r n t).1 < bS r (r1 t) 1 n
      · have ek : nxS r n (t + 1) = (bS r (r1 t) 1 n, nI t) := if_pos ⟨hz, hl⟩
        rw [ek] at fin
        rw [if_neg (Int32.not_le.mpr hl), if_pos hl]
        exact fin
      · have ek : nxS r n (t + 1) = nxS r n t := if_neg (fun z => hl z.2)
        rw [ek] at fin
        rw [if_pos (Int32.not_lt.mp hl), if_neg hl]
        exact fin
    · have ek : nxS r n (t + 1) = nxS r n t := if_neg (fun z => hz z.1)
      have fin := ih (t + 1) M1 (some (.int (-1))) (by omega) b
      rw [ek] at fin
      have hm : ¬ (nxS r n t).1 < -1 := by
        rw [ej]
        intro z
        exact absurd (Int32.lt_trans z (by decide : (-1 : Int32) < 0)) (nI_nlt (b := 0) (by omega) (by omega))
      rw [if_neg hz, if_pos rfl, if_pos (Int32.not_lt.mp hm), if_neg hm]
      exact fin
theorem days_of {x : Int32} (h : 1 ≤ x ∧ x ≤ 60) : ∃ n, 1 ≤ n ∧ n ≤ 60 ∧ x = nI n := by
  obtain ⟨n, h1, h2⟩ := nI_of2 (n := 60) (M := 60) rfl (Int32.not_lt.mpr (Int32.le_trans (by decide : (0 : Int32) ≤ 1) h.1)) h.2
  refine ⟨n, ?_, h1, h2⟩
  rcases Nat.eq_zero_or_pos n with z | z
  · rw [h2, z] at h
    exact absurd h.1 (by decide)
  · exact z
theorem C_m_refD {d : Nat} {M : Mem} {x : Int32} (w : WR (M 131)) : call (d + 5) 182 [.ref 130, .int 1, .int 0, .int x] M = some (some (.int (if ¬ (1 ≤ x ∧ x ≤ 60) then -1000001 else if 9999 < M 131 0 + x then -1000005 else 0)), M) := by
  have := C_m_ref1 (d := d) (s := 0) (n := x) w (Nat.pow_pos (by omega))
  have ho : outP (M 131) 0 := out_i.mpr (fun t _ hb => by rw [Nat.zero_testBit] at hb; exact absurd hb (by decide))
  have e : (¬ outP (M 131) 0 ∨ 9999 < M 131 0 + x) = (9999 < M 131 0 + x) := propext ⟨fun z => z.resolve_left (fun a => a ho), Or.inr⟩
  simp only [nI_0, e] at this
  exact this
theorem m5_ne : ((-1000005 : Int32) = 0) = False := eq_false (by decide)
theorem m1_ne : ((-1000001 : Int32) = 0) = False := eq_false (by decide)
theorem X_next {d : Nat} {M : Mem} {x : Int32} (j : J M) : Two (d + 6) 55 (d + 8) 193 [.int x] M := by
  have w := j_wr j
  have ed : M 100 1 = M 131 0 := j.1.2.2.1.1
  have hr : ∀ {M : Mem} {x : Int32} (_ : WR (M 131)), call (d + 7) 182 [.ref 130, .int 1, .int 0, .int x] M = some (some (.int (if ¬ (1 ≤ x ∧ x ≤ 60) then -1000001 else if 9999 < M 131 0 + x then -1000005 else 0)), M) := fun w => C_m_refD (d := d + 2) w
  by_cases hx : 1 ≤ x ∧ x ≤ 60
  · by_cases hl : 9999 < M 131 0 + x
    · refine ⟨fX M 4, fM (fX M 4) 4, -1000005, ?_, ?_, J_fin j (by omega)⟩
      · rw [nX5_next]
        simp only [sX5_next_0, sX5_next_1, sX5_next_4, sX5_next_7, sX5_next_8, sX5_next_9, sX5_next_12, sX5_next_13, sX5_next_14, sX5_next_15, sX5_next_18, sX5_next_21, sX5_next_22, sX5_next_23, sX5_next_26, sX5_next_27, sX5_next_28, sX5_next_29, sX5_next_30, sX5_next_33, sX5_next_34, sX5_next_35, sX5_next_36, sX5_next_37, sX5_next_41, sX5_next_42, sX5_next_45, sX5_next_48, sX5_next_51, sX5_next_54, sX5_next_55, sX5_next_58, sX5_next_61, sX5_next_63, sX5_next_66, sX5_next_69, sX5_next_70, sX5_next_73, sX5_next_74, sX5_next_76, sX5_next_77, sX5_next_78, sX5_next_79, sX5_next_80, sX5_next_83, sX5_next_85, sX5_next_87, sX5_next_88, sX5_next_91, sX5_next_93, sX5_next_94, sX5_next_96, sX5_next_97, sX5_next_100, sX5_next_103, sX5_next_104, opK_some, guK_true, calK_some, rk_nil, rk_int, rk_ref, tl_some, tl_none, nb_int, nb_0, nb_1, nb_if, nb_if', q0, C_x_isDays, C_x_isTooLate, ed, hx, hl, and_self, if_true, one_ne, if_false, ne_eq, not_false_eq_true, C_xf4]
      · rw [nX6_next]
        simp only [sX6_next_0, sX6_next_1, sX6_next_2, sX6_next_3, sX6_next_4, sX6_next_7, sX6_next_8, sX6_next_9, sX6_next_12, sX6_next_13, sX6_next_14, sX6_next_17, sX6_next_18, sX6_next_19, sX6_next_22, sX6_next_23, sX6_next_26, sX6_next_29, sX6_next_30, sX6_next_31, sX6_next_34, sX6_next_35, sX6_next_36, sX6_next_37, sX6_next_38, sX6_next_41, sX6_next_43, sX6_next_44, sX6_next_48, sX6_next_49, sX6_next_52, sX6_next_53, sX6_next_54, sX6_next_57, sX6_next_58, sX6_next_60, sX6_next_61, sX6_next_64, sX6_next_67, sX6_next_68, sX6_next_70, sX6_next_71, sX6_next_72, sX6_next_75, sX6_next_78, sX6_next_79, sX6_next_81, sX6_next_83, sX6_next_85, sX6_next_88, sX6_next_90, sX6_next_93, sX6_next_94, sX6_next_95, sX6_next_97, sX6_next_99, sX6_next_102, sX6_next_104, sX6_next_107, sX6_next_110, sX6_next_111, opK_some, guK_true, calK_some, rk_nil, rk_int, rk_ref, tl_some, tl_none, nb_int, nb_0, nb_1, nb_if, nb_if', q130, hr (M := fX M 4) (by rw [fX_131]; exact w), fX_131, hx, hl, and_self, not_true, if_true, if_false, m5_ne, C_mf4]
    · obtain ⟨n, n1, n60, rfl⟩ := days_of hx
      obtain ⟨M1, c1, o1⟩ := C_x_none (d := d + 0) (n := n) (j_hr j) w (by omega)
      rw [show d + 0 + 5 = d + 5 from rfl] at c1
      obtain ⟨M2, c2, o2⟩ := L_next (d := d) (n := n) (j_hr j) w (by omega) (nT (M 131)) 0 M1 none (by omega) (Cs.ou (by omega) (by omega) o1)
      have e2 := o2.e
      have hc := C_aside (d := d + 6) (M := M2)
      rw [show d + 6 + 1 = d + 7 from rfl] at hc
      obtain ⟨M3, hM3⟩ : ∃ M3, M3 = mrow M2 133 (cpR (M2 131) (M2 133)) := ⟨_, rfl⟩
      rw [← hM3] at hc
      obtain ⟨M4, hM4⟩ : ∃ M4, M4 = mset M3 130 10 0 := ⟨_, rfl⟩
      have r4 : M4 131 = M 131 := by rw [hM4, mset_ne (by omega), hM3, mrow_ne (by omega)]; exact e2
      have a4 : M4 133 = cpR (M 131) (M2 133) := by rw [hM4, mset_ne (by omega), hM3, mrow_at, e2]
      obtain ⟨M5, c5, o5, r5⟩ := C_m_brings (d := d + 1) (size := 0) (row := r1 0) (n := n) (M := M4) j.1.1.1 r4 a4 ⟨by omega, by rw [hM4, mset_at, upd_at]; rfl, fun k hk => absurd hk (by omega)⟩ (by omega)
      rw [show d + 1 + 6 = d + 7 from rfl] at c5
      have b5 : Mb M4 M5 := Mb.mo o5 (by rw [r5, r4])
      obtain ⟨M6, c6, b6⟩ := L_m_next (d := d) (n := n) (y := 0) (M := M5) j.1.1.1 r5 ((o5.1 133 (by omega) (by omega)).trans a4) (by omega) (nT (M 131)) 0 M5 none (by omega) Mb.rf
      have ms3 : Ms M2 M3 := by rw [hM3]; exact Ms.as
      have ms4 : Ms M3 M4 := by rw [hM4]; exact Mb.m10.ms
      have ms : Ms M2 M6 := (ms3.tr ms4).tr (b5.tr b6).ms
      refine ⟨M2, M6, (nxS (M 131) n (nT (M 131))).2, ?_, ?_, Ms.j (o2.j j) ms⟩
      · rw [nX5_next]
        simp only [sX5_next_0, sX5_next_1, sX5_next_4, sX5_next_7, sX5_next_8, sX5_next_9, sX5_next_12, sX5_next_13, sX5_next_14, sX5_next_15, sX5_next_18, sX5_next_21, sX5_next_22, sX5_next_23, sX5_next_26, sX5_next_27, sX5_next_28, sX5_next_29, sX5_next_30, sX5_next_33, sX5_next_34, sX5_next_35, sX5_next_36, sX5_next_37, sX5_next_41, sX5_next_42, sX5_next_45, sX5_next_48, sX5_next_51, sX5_next_54, sX5_next_55, sX5_next_58, sX5_next_61, sX5_next_63, sX5_next_66, sX5_next_69, sX5_next_70, sX5_next_73, sX5_next_74, sX5_next_76, sX5_next_77, sX5_next_78, sX5_next_79, sX5_next_80, sX5_next_83, sX5_next_85, sX5_next_87, sX5_next_88, sX5_next_91, sX5_next_93, sX5_next_94, sX5_next_96, sX5_next_97, sX5_next_100, sX5_next_103, sX5_next_104, opK_some, guK_true, calK_some, rk_nil, rk_int, rk_ref, tl_some, tl_none, nb_int, nb_0, nb_1, nb_if, nb_if', q0, C_x_isDays, C_x_isTooLate, ed, hx, hl, and_self, if_true, one_ne, zero_eq, if_false, ne_eq, not_false_eq_true, c1]
        exact c2
      · rw [nX6_next]
        simp only [sX6_next_0, sX6_next_1, sX6_next_2, sX6_next_3, sX6_next_4, sX6_next_7, sX6_next_8, sX6_next_9, sX6_next_12, sX6_next_13, sX6_next_14, sX6_next_17, sX6_next_18, sX6_next_19, sX6_next_22, sX6_next_23, sX6_next_26, sX6_next_29, sX6_next_30, sX6_next_34, sX6_next_35, sX6_next_36, sX6_next_37, sX6_next_38, sX6_next_41, sX6_next_43, sX6_next_44, sX6_next_48, sX6_next_49, sX6_next_52, sX6_next_53, sX6_next_54, sX6_next_57, sX6_next_58, sX6_next_60, sX6_next_61, sX6_next_64, sX6_next_67, sX6_next_68, sX6_next_70, sX6_next_71, sX6_next_72, sX6_next_75, sX6_next_78, sX6_next_79, sX6_next_81, sX6_next_83, sX6_next_85, sX6_next_88, sX6_next_90, sX6_next_93, sX6_next_94, sX6_next_95, sX6_next_97, sX6_next_99, sX6_next_102, sX6_next_104, sX6_next_107, sX6_next_110, sX6_next_111, opK_some, guK_true, calK_some, rk_nil, rk_int, rk_ref, tl_some, tl_none, nb_int, nb_0, nb_1, nb_if, nb_if', q130, o130_0, o130_2, hr (M := M2) (by rw [e2]; exact w), e2, hx, hl, and_self, not_true, if_true, if_false, zero_eq, hc]
        rw [sX6_next_31]
        simp only [sX6_next_0, sX6_next_1, sX6_next_2, sX6_next_3, sX6_next_4, sX6_next_7, sX6_next_8, sX6_next_9, sX6_next_12, sX6_next_13, sX6_next_14, sX6_next_17, sX6_next_18, sX6_next_19, sX6_next_22, sX6_next_23, sX6_next_26, sX6_next_29, sX6_next_30, sX6_next_34, sX6_next_35, sX6_next_36, sX6_next_37, sX6_next_38, sX6_next_41, sX6_next_43, sX6_next_44, sX6_next_48, sX6_next_49, sX6_next_52, sX6_next_53, sX6_next_54, sX6_next_57, sX6_next_58, sX6_next_60, sX6_next_61, sX6_next_64, sX6_next_67, sX6_next_68, sX6_next_70, sX6_next_71, sX6_next_72, sX6_next_75, sX6_next_78, sX6_next_79, sX6_next_81, sX6_next_83, sX6_next_85, sX6_next_88, sX6_next_90, sX6_next_93, sX6_next_94, sX6_next_95, sX6_next_97, sX6_next_99, sX6_next_102, sX6_next_104, sX6_next_107, sX6_next_110, sX6_next_111, opK_some, guK_true, calK_some, rk_nil, rk_int, rk_ref, tl_some, tl_none, nb_int, nb_0, nb_1, nb_if, nb_if', q130, p130_10, ← hM4, c5]
        exact c6
  · refine ⟨fX M 0, fM (fX M 0) 0, -1000001, ?_, ?_, J_fin j (by omega)⟩
    · rw [nX5_next]
      simp only [sX5_next_0, sX5_next_1, sX5_next_4, sX5_next_7, sX5_next_8, sX5_next_9, sX5_next_12, sX5_next_13, sX5_next_14, sX5_next_15, sX5_next_18, sX5_next_21, sX5_next_22, sX5_next_23, sX5_next_26, sX5_next_27, sX5_next_28, sX5_next_29, sX5_next_30, sX5_next_33, sX5_next_34, sX5_next_35, sX5_next_36, sX5_next_37, sX5_next_41, sX5_next_42, sX5_next_45, sX5_next_48, sX5_next_51, sX5_next_54, sX5_next_55, sX5_next_58, sX5_next_61, sX5_next_63, sX5_next_66, sX5_next_69, sX5_next_70, sX5_next_73, sX5_next_74, sX5_next_76, sX5_next_77, sX5_next_78, sX5_next_79, sX5_next_80, sX5_next_83, sX5_next_85, sX5_next_87, sX5_next_88, sX5_next_91, sX5_next_93, sX5_next_94, sX5_next_96, sX5_next_97, sX5_next_100, sX5_next_103, sX5_next_104, opK_some, guK_true, calK_some, rk_nil, rk_int, rk_ref, tl_some, tl_none, nb_int, nb_0, nb_1, nb_if, nb_if', q0, C_x_isDays, hx, if_true, if_false, ne_eq, zero_eq, not_true, C_xf0]
    · rw [nX6_next]
      simp only [sX6_next_0, sX6_next_1, sX6_next_2, sX6_next_3, sX6_next_4, sX6_next_7, sX6_next_8, sX6_next_9, sX6_next_12, sX6_next_13, sX6_next_14, sX6_next_17, sX6_next_18, sX6_next_19, sX6_next_22, sX6_next_23, sX6_next_26, sX6_next_29, sX6_next_30, sX6_next_31, sX6_next_34, sX6_next_35, sX6_next_36, sX6_next_37, sX6_next_38, sX6_next_41, sX6_next_43, sX6_next_44, sX6_next_48, sX6_next_49, sX6_next_52, sX6_next_53, sX6_next_54, sX6_next_57, sX6_next_58, sX6_next_60, sX6_next_61, sX6_next_64, sX6_next_67, sX6_next_68, sX6_next_70, sX6_next_71, sX6_next_72, sX6_next_75, sX6_next_78, sX6_next_79, sX6_next_81, sX6_next_83, sX6_next_85, sX6_next_88, sX6_next_90, sX6_next_93, sX6_next_94, sX6_next_95, sX6_next_97, sX6_next_99, sX6_next_102, sX6_next_104, sX6_next_107, sX6_next_110, sX6_next_111, opK_some, guK_true, calK_some, rk_nil, rk_int, rk_ref, tl_some, tl_none, nb_int, nb_0, nb_1, nb_if, nb_if', q130, hr (M := fX M 0) (by rw [fX_131]; exact w), hx, not_false_eq_true, if_true, if_false, m1_ne, C_mf0]

