/-! the reference: a day, days, rows kept aside, findings -/
theorem C_m_lays {d e : Nat} {M : Mem} (w : WR (M 131)) (hp : 0 < nC (M 131)) (he : M 131 5 = nI e) (h31 : e < 2 ^ 31) : ∃ M', call (d + 4) 167 [.ref 130] M = some (none, M') ∧ Mo M M' ∧ M' 131 = leavR (eggR (M 131) (if holG (M 131) then 0 else lefG (M 131) (cr (M 131) 0)) (if holG (M 131) then 1 else 0)) 0 2 ∧ M' 130 5 = M 131 88 ∧ M' 130 6 = (if holG (M 131) then 0 else lefG (M 131) (cr (M 131) 0)) := by
  obtain ⟨c1, c2⟩ := wr_cr w (i := 0) hp
  have c2' : M 131 88 = nI (cr (M 131) 0) := c2
  rw [nX6_lays]
  simp only [sX6_lays_0, sX6_lays_1, sX6_lays_4, sX6_lays_6, sX6_lays_7, sX6_lays_8, sX6_lays_9, sX6_lays_10, sX6_lays_13, sX6_lays_14, sX6_lays_17, sX6_lays_18, sX6_lays_19, sX6_lays_22, sX6_lays_23, sX6_lays_26, sX6_lays_27, sX6_lays_31, sX6_lays_32, sX6_lays_36, sX6_lays_37, sX6_lays_40, sX6_lays_43, sX6_lays_44, sX6_lays_47, sX6_lays_48, sX6_lays_49, sX6_lays_52, sX6_lays_57, sX6_lays_58, sX6_lays_59, sX6_lays_62, sX6_lays_63, sX6_lays_64, sX6_lays_66, sX6_lays_67, sX6_lays_68, sX6_lays_69, sX6_lays_70, sX6_lays_71, sX6_lays_74, sX6_lays_75, sX6_lays_76, sX6_lays_78, sX6_lays_81, sX6_lays_82, sX6_lays_83, sX6_lays_84, sX6_lays_85, sX6_lays_88, sX6_lays_90, sX6_lays_93, sX6_lays_94, sX6_lays_95, sX6_lays_96, sX6_lays_97, sX6_lays_100, sX6_lays_101, sX6_lays_102, sX6_lays_104, sX6_lays_107, sX6_lays_108, sX6_lays_109, sX6_lays_110, sX6_lays_111, sX6_lays_112, sX6_lays_114, sX6_lays_117, sX6_lays_119, sX6_lays_120, sX6_lays_121, sX6_lays_122, sX6_lays_125, sX6_lays_128, sX6_lays_129, sX6_lays_132, sX6_lays_133, sX6_lays_134, sX6_lays_136, sX6_lays_137, sX6_lays_138, sX6_lays_141, opK_some, guK_true, calK_some, rk_nil, rk_int, rk_ref, tl_some, tl_none, nb_int, nb_0, nb_1, nb_if, nb_if', o130_0, a131, q130, p130_7, ib_88_132, tn_88, ib_2_132, tn_2, C_m_bulkIn w, nb_0, nb_1, guK_true]
  have key : ∀ x, x = (if holG (M 131) then 1 else 0) → ∃ M', lim (call (d + 3)) none 6 cX6_lays none 30 [some (.ref 130), some (.int (M 131 88)), none] [] (mset M 130 7 x) = some (none, M') ∧ Mo M M' ∧ M' 131 = leavR (eggR (M 131) (if holG (M 131) then 0 else lefG (M 131) (cr (M 131) 0)) (if holG (M 131) then 1 else 0)) 0 2 ∧ M' 130 5 = M 131 88 ∧ M' 130 6 = (if holG (M 131) then 0 else lefG (M 131) (cr (M 131) 0)) := by
    intro x hx
    have e1 : mset M 130 7 x 131 = M 131 := mset_ne (by omega)
    have := L_lays (d := d) (e := e) (M := mset M 130 7 x) (v := none) (x := x)
    rw [e1] at this
    obtain ⟨M', a, b, c1, c2, c3⟩ := this w hp he h31 hx (by rw [mset_at, upd_at])
    exact ⟨M', a, (Mo.set (Or.inr (Or.inr rfl))).tr b, by rw [← hx]; exact c1, c2, c3⟩
  by_cases hh : M 131 2 ≤ bulkR (M 131)
  · rw [if_pos hh]
    exact key 0 (by rw [if_neg (Int32.not_lt.mpr hh)])
  · rw [if_neg hh]
    exact key 1 (by rw [if_pos (Int32.not_le.mp hh)])
theorem L_m_grow {d : Nat} {r : Rw} (w : WR r) : ∀ (n i : Nat) (M1 : Mem) (v : Option Value), i + n = nC r → M1 131 = gN r i →
    ∃ v', lim (call (d + 4)) none 6 cX6_day (some .int) 17 [some (.ref 130), some (.int (nI i)), v] [] M1 = lim (call (d + 4)) none 6 cX6_day (some .int) 96 [some (.ref 130), some (.int (nI (nC r))), v'] [] (mrow M1 131 (gN r (nC r))) := by
  have h8 := wr_C w
  intro n
  induction n with
  | zero =>
    intro i M1 v hi e
    have hc := wr_crs w (show i ≤ nC r by omega)
    have e4 : M1 131 4 = nI (nC r) := by rw [e, gN_lo hc (by omega)]; exact h8.2
    rw [sX6_day_17]
    simp only [sX6_day_0, sX6_day_1, sX6_day_2, sX6_day_5, sX6_day_6, sX6_day_7, sX6_day_10, sX6_day_11, sX6_day_12, sX6_day_15, sX6_day_16, sX6_day_18, sX6_day_19, sX6_day_22, sX6_day_23, sX6_day_24, sX6_day_27, sX6_day_28, sX6_day_31, sX6_day_33, sX6_day_34, sX6_day_35, sX6_day_36, sX6_day_37, sX6_day_38, sX6_day_41, sX6_day_42, sX6_day_43, sX6_day_46, sX6_day_47, sX6_day_48, sX6_day_49, sX6_day_50, sX6_day_51, sX6_day_52, sX6_day_55, sX6_day_56, sX6_day_58, sX6_day_61, sX6_day_63, sX6_day_64, sX6_day_65, sX6_day_67, sX6_day_70, sX6_day_71, sX6_day_72, sX6_day_73, sX6_day_74, sX6_day_77, sX6_day_78, sX6_day_79, sX6_day_80, sX6_day_81, sX6_day_82, sX6_day_85, sX6_day_86, sX6_day_89, sX6_day_90, sX6_day_93, sX6_day_97, sX6_day_100, sX6_day_101, sX6_day_102, sX6_day_105, sX6_day_106, sX6_day_107, sX6_day_110, sX6_day_112, sX6_day_113, sX6_day_114, sX6_day_117, sX6_day_118, sX6_day_119, sX6_day_122, sX6_day_124, sX6_day_125, sX6_day_128, sX6_day_131, sX6_day_132, sX6_day_135, sX6_day_136, sX6_day_139, sX6_day_140, sX6_day_141, sX6_day_142, sX6_day_143, sX6_day_144, sX6_day_145, sX6_day_146, sX6_day_149, opK_some, guK_true, calK_some, rk_nil, rk_int, rk_ref, tl_some, tl_none, nb_int, nb_0, nb_1, nb_if, nb_if', o130_0, a131, ib_4_132, tn_4, e4]
    rw [if_pos (nI_le (by omega) (by omega))]
    have ei : i = nC r := by omega
    rw [ei] at e ⊢
    refine ⟨v, ?_⟩
    rw [← e, mrow_self]
  | succ n ih =>
    intro i M1 v hi e
    have hc := wr_crs w (show i ≤ nC r by omega)
    have wi := WR_gN w i (by omega)
    have e4 : M1 131 4 = nI (nC r) := by rw [e, gN_lo hc (by omega)]; exact h8.2
    obtain ⟨c1, c2⟩ := wr_cr w (i := i) (by omega)
    have ec : M1 131 (88 + i) = nI (cr r i) := by rw [e, gN_lo hc (by omega)]; exact c2
    have h5 := at9_lt (f := 5) c1 (by omega)
    have h6 := at9_lt (f := 6) c1 (by omega)
    have r2 : mset M1 131 (at9 (cr r i) 5) (M1 131 (at9 (cr r i) 5) + 1) 131 = upd (gN r i) (at9 (cr r i) 5) (gN r i (at9 (cr r i) 5) + 1) := by rw [mset_at, e]
    obtain ⟨M2, hM2⟩ : ∃ M2, M2 = mset M1 131 (at9 (cr r i) 5) (M1 131 (at9 (cr r i) 5) + 1) := ⟨_, rfl⟩
    rw [← hM2] at r2
    have w2 : WR (M2 131) := by rw [r2]; exact WR_5 wi c1
    have hsa : ∀ x, call (d + 4) 166 [.ref 130, .int x] M2 = some (some (.int (saR r x)), M2) := by
      intro x
      rw [C_m_stainsAt w2, r2, saR_5 c1, saR_gN hc w]
    have e6 : M2 131 (at9 (cr r i) 6) = gN r i (at9 (cr r i) 6) := by rw [r2, at_5 (by omega) (by omega)]
    rw [sX6_day_17]
    simp only [sX6_day_0, sX6_day_1, sX6_day_2, sX6_day_5, sX6_day_6, sX6_day_7, sX6_day_10, sX6_day_11, sX6_day_12, sX6_day_15, sX6_day_16, sX6_day_18, sX6_day_19, sX6_day_22, sX6_day_23, sX6_day_24, sX6_day_27, sX6_day_28, sX6_day_31, sX6_day_33, sX6_day_34, sX6_day_35, sX6_day_36, sX6_day_37, sX6_day_38, sX6_day_41, sX6_day_42, sX6_day_43, sX6_day_46, sX6_day_47, sX6_day_48, sX6_day_49, sX6_day_50, sX6_day_52, sX6_day_55, sX6_day_56, sX6_day_58, sX6_day_61, sX6_day_63, sX6_day_64, sX6_day_65, sX6_day_67, sX6_day_70, sX6_day_71, sX6_day_72, sX6_day_73, sX6_day_74, sX6_day_77, sX6_day_78, sX6_day_79, sX6_day_80, sX6_day_81, sX6_day_82, sX6_day_85, sX6_day_86, sX6_day_89, sX6_day_90, sX6_day_93, sX6_day_97, sX6_day_100, sX6_day_101, sX6_day_102, sX6_day_105, sX6_day_106, sX6_day_107, sX6_day_110, sX6_day_112, sX6_day_113, sX6_day_114, sX6_day_117, sX6_day_118, sX6_day_119, sX6_day_122, sX6_day_124, sX6_day_125, sX6_day_128, sX6_day_131, sX6_day_132, sX6_day_135, sX6_day_136, sX6_day_139, sX6_day_140, sX6_day_141, sX6_day_142, sX6_day_143, sX6_day_144, sX6_day_145, sX6_day_146, sX6_day_149, opK_some, guK_true, calK_some, rk_nil, rk_int, rk_ref, tl_some, tl_none, nb_int, nb_0, nb_1, nb_if, nb_if', o130_0, a131, b131, ib_4_132, tn_4, e4, I88, inb_nI (show 88 + i < 132 by omega) (by omega), nI_clamp (show 88 + i < 2 ^ 31 by omega), ec, C_m_at, A9_5, inb_nI (show at9 (cr r i) 5 < 132 by omega) (by omega), nI_clamp (show at9 (cr r i) 5 < 2 ^ 31 by omega), ← hM2]
    rw [if_neg (nI_ge (by omega) (by omega)), sX6_day_51]
    simp only [sX6_day_0, sX6_day_1, sX6_day_2, sX6_day_5, sX6_day_6, sX6_day_7, sX6_day_10, sX6_day_11, sX6_day_12, sX6_day_15, sX6_day_16, sX6_day_18, sX6_day_19, sX6_day_22, sX6_day_23, sX6_day_24, sX6_day_27, sX6_day_28, sX6_day_31, sX6_day_33, sX6_day_34, sX6_day_35, sX6_day_36, sX6_day_37, sX6_day_38, sX6_day_41, sX6_day_42, sX6_day_43, sX6_day_46, sX6_day_47, sX6_day_48, sX6_day_49, sX6_day_50, sX6_day_52, sX6_day_55, sX6_day_56, sX6_day_58, sX6_day_61, sX6_day_63, sX6_day_64, sX6_day_65, sX6_day_67, sX6_day_70, sX6_day_71, sX6_day_72, sX6_day_73, sX6_day_74, sX6_day_77, sX6_day_78, sX6_day_79, sX6_day_80, sX6_day_81, sX6_day_82, sX6_day_85, sX6_day_86, sX6_day_89, sX6_day_90, sX6_day_93, sX6_day_97, sX6_day_100, sX6_day_101, sX6_day_102, sX6_day_105, sX6_day_106, sX6_day_107, sX6_day_110, sX6_day_112, sX6_day_113, sX6_day_114, sX6_day_117, sX6_day_118, sX6_day_119, sX6_day_122, sX6_day_124, sX6_day_125, sX6_day_128, sX6_day_131, sX6_day_132, sX6_day_135, sX6_day_136, sX6_day_139, sX6_day_140, sX6_day_141, sX6_day_142, sX6_day_143, sX6_day_144, sX6_day_145, sX6_day_146, sX6_day_149, opK_some, guK_true, calK_some, rk_nil, rk_int, rk_ref, tl_some, tl_none, nb_int, nb_0, nb_1, nb_if, nb_if', o130_0, q130, a131, b131, C_m_at, A9_6, T6 c1, hsa, e6, inb_nI (show at9 (cr r i) 6 < 132 by omega) (by omega), nI_clamp (show at9 (cr r i) 6 < 2 ^ 31 by omega), mn99_fold, nI_1]
    obtain ⟨v', hv⟩ := ih (i + 1) (mset M2 131 (at9 (cr r i) 6) (mn99 (gN r i (at9 (cr r i) 6) + saR r (nI i - 1) + saR r (nI (i + 1))))) (some (.int (nI (cr r i)))) (by omega) (by rw [mset_at, r2, gN_succ])
    refine ⟨v', ?_⟩
    rw [hv, mset_mrow, mrow_mrow, hM2, mset_mrow, mrow_mrow]
theorem C_m_day {d e : Nat} {M : Mem} (w : WR (M 131)) (he : M 131 5 = nI e) (h31 : e < 2 ^ 31) : ∃ M', call (d + 5) 165 [.ref 130] M = some (some (.int (worD (M 131))), M') ∧ Mo M M' ∧ M' 131 = dayR (M 131) ∧ M' 130 5 = laiD (M 131) ∧ M' 130 6 = worD (M 131) := by
  obtain ⟨r, er⟩ : ∃ r, r = M 131 := ⟨_, rfl⟩
  rw [← er] at w he ⊢
  have h8 := wr_C w
  have hcs := wr_crs w (Nat.le_refl (nC r))
  obtain ⟨M1, hM1⟩ : ∃ M1, M1 = mset (mset (mset M 130 5 (-1)) 130 6 0) 130 7 0 := ⟨_, rfl⟩
  have r1 : M1 131 = r := by rw [hM1, mset_ne (by omega), mset_ne (by omega), mset_ne (by omega)]; exact er.symm
  have o1 : Mo M M1 := by rw [hM1]; exact ((Mo.set (Or.inl rfl)).tr (Mo.set (Or.inr (Or.inl rfl)))).tr (Mo.set (Or.inr (Or.inr rfl)))
  have f5 : M1 130 5 = -1 := by rw [hM1, mset_at, upd_ne (by omega), mset_at, upd_ne (by omega), mset_at, upd_at]
  have f6 : M1 130 6 = 0 := by rw [hM1, mset_at, upd_ne (by omega), mset_at, upd_at]
  rw [nX6_day]
  simp only [sX6_day_0, sX6_day_1, sX6_day_2, sX6_day_5, sX6_day_6, sX6_day_7, sX6_day_10, sX6_day_11, sX6_day_12, sX6_day_15, sX6_day_16, sX6_day_18, sX6_day_19, sX6_day_22, sX6_day_23, sX6_day_24, sX6_day_27, sX6_day_28, sX6_day_31, sX6_day_33, sX6_day_34, sX6_day_35, sX6_day_36, sX6_day_37, sX6_day_38, sX6_day_41, sX6_day_42, sX6_day_43, sX6_day_46, sX6_day_47, sX6_day_48, sX6_day_49, sX6_day_50, sX6_day_51, sX6_day_52, sX6_day_55, sX6_day_56, sX6_day_58, sX6_day_61, sX6_day_63, sX6_day_64, sX6_day_65, sX6_day_67, sX6_day_70, sX6_day_71, sX6_day_72, sX6_day_73, sX6_day_74, sX6_day_77, sX6_day_78, sX6_day_79, sX6_day_80, sX6_day_81, sX6_day_82, sX6_day_85, sX6_day_86, sX6_day_89, sX6_day_90, sX6_day_93, sX6_day_97, sX6_day_100, sX6_day_101, sX6_day_102, sX6_day_105, sX6_day_106, sX6_day_107, sX6_day_110, sX6_day_112, sX6_day_113, sX6_day_114, sX6_day_117, sX6_day_118, sX6_day_119, sX6_day_122, sX6_day_124, sX6_day_125, sX6_day_128, sX6_day_131, sX6_day_132, sX6_day_135, sX6_day_136, sX6_day_139, sX6_day_140, sX6_day_141, sX6_day_142, sX6_day_143, sX6_day_144, sX6_day_145, sX6_day_146, sX6_day_149, opK_some, guK_true, calK_some, rk_nil, rk_int, rk_ref, tl_some, tl_none, nb_int, nb_0, nb_1, nb_if, nb_if', p130_5, p130_6, p130_7, nb_0, guK_true, ← hM1]
  obtain ⟨v', hv⟩ := L_m_grow (d := d) w (nC r) 0 M1 none (by omega) r1
  rw [nI_0] at hv
  rw [hv]
  obtain ⟨M2, hM2⟩ : ∃ M2, M2 = mrow M1 131 (gN r (nC r)) := ⟨_, rfl⟩
  rw [← hM2]
  have r2 : M2 131 = gR r := by rw [hM2, mrow_at]; rfl
  have o2 : Mo M M2 := by rw [hM2]; exact o1.tr Mo.row
  have g5 : M2 130 5 = -1 := by rw [hM2, mrow_ne (by omega)]; exact f5
  have g6 : M2 130 6 = 0 := by rw [hM2, mrow_ne (by omega)]; exact f6
  have wg : WR (gR r) := WR_gN w (nC r) (Nat.le_refl _)
  have w2 : WR (M2 131) := by rw [r2]; exact wg
  have g0 : gR r 0 = r 0 := gN_lo hcs (by omega)
  have ge5 : M2 131 5 = nI e := by rw [r2]; exact (gN_lo hcs (by omega)).trans he
  have fin : ∀ M3, Mo M M3 → M3 131 = layR (gR r) → M3 130 5 = laiD r → M3 130 6 = worD r → ∃ M', lim (call (d + 4)) none 6 cX6_day (some .int) 135 [some (.ref 130), some (.int (nI (nC r))), v'] [] M3 = some (some (.int (worD r)), M') ∧ Mo M M' ∧ M' 131 = dayR r ∧ M' 130 5 = laiD r ∧ M' 130 6 = worD r := by
    intro M3 o3 r3 q5 q6
    have z0 : M3 131 0 = r 0 := by
      rw [r3]
      unfold layR
      by_cases hr : readyG (gR r)
      · rw [if_pos hr, leav_lo (by omega) (by omega) (by unfold cr; rw [egg_keep (by omega)]; exact (wr_cr wg (i := 0) ((wr_pos wg).mp hr.1)).1), egg_keep (by omega)]
        exact g0
      · rw [if_neg hr]
        exact g0
    have q6' : mset M3 131 0 (r 0 + 1) 130 6 = worD r := by rw [mset_ne (by omega)]; exact q6
    rw [sX6_day_135]
    simp only [sX6_day_0, sX6_day_1, sX6_day_2, sX6_day_5, sX6_day_6, sX6_day_7, sX6_day_10, sX6_day_11, sX6_day_12, sX6_day_15, sX6_day_16, sX6_day_18, sX6_day_19, sX6_day_22, sX6_day_23, sX6_day_24, sX6_day_27, sX6_day_28, sX6_day_31, sX6_day_33, sX6_day_34, sX6_day_35, sX6_day_36, sX6_day_37, sX6_day_38, sX6_day_41, sX6_day_42, sX6_day_43, sX6_day_46, sX6_day_47, sX6_day_48, sX6_day_49, sX6_day_50, sX6_day_51, sX6_day_52, sX6_day_55, sX6_day_56, sX6_day_58, sX6_day_61, sX6_day_63, sX6_day_64, sX6_day_65, sX6_day_67, sX6_day_70, sX6_day_71, sX6_day_72, sX6_day_73, sX6_day_74, sX6_day_77, sX6_day_78, sX6_day_79, sX6_day_80, sX6_day_81, sX6_day_82, sX6_day_85, sX6_day_86, sX6_day_89, sX6_day_90, sX6_day_93, sX6_day_97, sX6_day_100, sX6_day_101, sX6_day_102, sX6_day_105, sX6_day_106, sX6_day_107, sX6_day_110, sX6_day_112, sX6_day_113, sX6_day_114, sX6_day_117, sX6_day_118, sX6_day_119, sX6_day_122, sX6_day_124, sX6_day_125, sX6_day_128, sX6_day_131, sX6_day_132, sX6_day_136, sX6_day_139, sX6_day_140, sX6_day_141, sX6_day_142, sX6_day_143, sX6_day_144, sX6_day_145, sX6_day_146, sX6_day_149, opK_some, guK_true, calK_some, rk_nil, rk_int, rk_ref, tl_some, tl_none, nb_int, nb_0, nb_1, nb_if, nb_if', o130_0, o130_6, a131, b131, ib_0_132, tn_0, z0, q6']
    refine ⟨_, rfl, o3.tr Mo.rset, ?_, ?_, ?_⟩
    · rw [mset_at, r3]
      rfl
    · rw [mset_ne (by omega)]
      exact q5
    · exact q6'
  have no : ¬ readyG (gR r) → ∃ M', lim (call (d + 4)) none 6 cX6_day (some .int) 135 [some (.ref 130), some (.int (nI (nC r))), v'] [] M2 = some (some (.int (worD r)), M') ∧ Mo M M' ∧ M' 131 = dayR r ∧ M' 130 5 = laiD r ∧ M' 130 6 = worD r := by
    intro hr
    refine fin M2 o2 ?_ ?_ ?_
    · unfold layR
      rw [if_neg hr]
      exact r2
    · unfold laiD laiG
      rw [if_neg hr]
      exact g5
    · unfold worD worG
      rw [if_neg hr]
      exact g6
  rw [sX6_day_96]
  by_cases h0 : gR r 4 ≤ 0
  · simp only [sX6_day_0, sX6_day_1, sX6_day_2, sX6_day_5, sX6_day_6, sX6_day_7, sX6_day_10, sX6_day_11, sX6_day_12, sX6_day_15, sX6_day_16, sX6_day_18, sX6_day_19, sX6_day_22, sX6_day_23, sX6_day_24, sX6_day_27, sX6_day_28, sX6_day_31, sX6_day_33, sX6_day_34, sX6_day_35, sX6_day_36, sX6_day_37, sX6_day_38, sX6_day_41, sX6_day_42, sX6_day_43, sX6_day_46, sX6_day_47, sX6_day_48, sX6_day_49, sX6_day_50, sX6_day_51, sX6_day_52, sX6_day_55, sX6_day_56, sX6_day_58, sX6_day_61, sX6_day_63, sX6_day_64, sX6_day_65, sX6_day_67, sX6_day_70, sX6_day_71, sX6_day_72, sX6_day_73, sX6_day_74, sX6_day_77, sX6_day_78, sX6_day_79, sX6_day_80, sX6_day_81, sX6_day_82, sX6_day_85, sX6_day_86, sX6_day_89, sX6_day_90, sX6_day_93, sX6_day_97, sX6_day_100, sX6_day_101, sX6_day_102, sX6_day_105, sX6_day_106, sX6_day_107, sX6_day_110, sX6_day_112, sX6_day_113, sX6_day_114, sX6_day_117, sX6_day_118, sX6_day_119, sX6_day_122, sX6_day_124, sX6_day_125, sX6_day_128, sX6_day_131, sX6_day_132, sX6_day_136, sX6_day_139, sX6_day_140, sX6_day_141, sX6_day_142, sX6_day_143, sX6_day_144, sX6_day_145, sX6_day_146, sX6_day_149, opK_some, guK_true, calK_some, rk_nil, rk_int, rk_ref, tl_some, tl_none, nb_int, nb_0, nb_1, nb_if, nb_if', o130_0, a131, ib_4_132, tn_4, r2, h0, if_true]
    exact no (fun z => Int32.not_lt.mpr h0 z.1)
  · have hp : 0 < nC (gR r) := (wr_pos wg).mp (Int32.not_le.mp h0)
    obtain ⟨c1, c2⟩ := wr_cr wg (i := 0) hp
    have c2' : M2 131 88 = nI (cr (gR r) 0) := by rw [r2]; exact c2
    have k4 : M2 131 4 = gR r 4 := by rw [r2]
    simp only [sX6_day_0, sX6_day_1, sX6_day_2, sX6_day_5, sX6_day_6, sX6_day_7, sX6_day_10, sX6_day_11, sX6_day_12, sX6_day_15, sX6_day_16, sX6_day_18, sX6_day_19, sX6_day_22, sX6_day_23, sX6_day_24, sX6_day_27, sX6_day_28, sX6_day_31, sX6_day_33, sX6_day_34, sX6_day_35, sX6_day_36, sX6_day_37, sX6_day_38, sX6_day_41, sX6_day_42, sX6_day_43, sX6_day_46, sX6_day_47, sX6_day_48, sX6_day_49, sX6_day_50, sX6_day_51, sX6_day_52, sX6_day_55, sX6_day_56, sX6_day_58, sX6_day_61, sX6_day_63, sX6_day_64, sX6_day_65, sX6_day_67, sX6_day_70, sX6_day_71, sX6_day_72, sX6_day_73, sX6_day_74, sX6_day_77, sX6_day_78, sX6_day_79, sX6_day_80, sX6_day_81, sX6_day_82, sX6_day_85, sX6_day_86, sX6_day_89, sX6_day_90, sX6_day_93, sX6_day_97, sX6_day_100, sX6_day_101, sX6_day_102, sX6_day_105, sX6_day_106, sX6_day_107, sX6_day_110, sX6_day_112, sX6_day_113, sX6_day_114, sX6_day_117, sX6_day_118, sX6_day_119, sX6_day_122, sX6_day_124, sX6_day_125, sX6_day_128, sX6_day_131, sX6_day_132, sX6_day_136, sX6_day_139, sX6_day_140, sX6_day_141, sX6_day_142, sX6_day_143, sX6_day_144, sX6_day_145, sX6_day_146, sX6_day_149, opK_some, guK_true, calK_some, rk_nil, rk_int, rk_ref, tl_some, tl_none, nb_int, nb_0, nb_1, nb_if, nb_if', o130_0, a131, q130, ib_4_132, tn_4, ib_88_132, tn_88, k4, h0, if_false, c2', T5 c1, C_m_takes w2 c1]
    rw [r2]
    by_cases h2 : gR r (at9 (cr (gR r) 0) 5) < tkK (gR r (at9 (cr (gR r) 0) 0))
    · rw [if_pos h2]
      exact no (fun z => Int32.not_lt.mpr z.2 h2)
    · have hr : readyG (gR r) := ⟨Int32.not_le.mp h0, Int32.not_lt.mp h2⟩
      obtain ⟨M3, c3, o3, r3, q5, q6⟩ := C_m_lays (d := d + 0) w2 (by rw [r2]; exact hp) ge5 h31
      rw [show d + 0 + 4 = d + 4 from rfl] at c3
      rw [if_neg h2, c3]
      simp only [sX6_day_0, sX6_day_1, sX6_day_2, sX6_day_5, sX6_day_6, sX6_day_7, sX6_day_10, sX6_day_11, sX6_day_12, sX6_day_15, sX6_day_16, sX6_day_18, sX6_day_19, sX6_day_22, sX6_day_23, sX6_day_24, sX6_day_27, sX6_day_28, sX6_day_31, sX6_day_33, sX6_day_34, sX6_day_35, sX6_day_36, sX6_day_37, sX6_day_38, sX6_day_41, sX6_day_42, sX6_day_43, sX6_day_46, sX6_day_47, sX6_day_48, sX6_day_49, sX6_day_50, sX6_day_51, sX6_day_52, sX6_day_55, sX6_day_56, sX6_day_58, sX6_day_61, sX6_day_63, sX6_day_64, sX6_day_65, sX6_day_67, sX6_day_70, sX6_day_71, sX6_day_72, sX6_day_73, sX6_day_74, sX6_day_77, sX6_day_78, sX6_day_79, sX6_day_80, sX6_day_81, sX6_day_82, sX6_day_85, sX6_day_86, sX6_day_89, sX6_day_90, sX6_day_93, sX6_day_97, sX6_day_100, sX6_day_101, sX6_day_102, sX6_day_105, sX6_day_106, sX6_day_107, sX6_day_110, sX6_day_112, sX6_day_113, sX6_day_114, sX6_day_117, sX6_day_118, sX6_day_119, sX6_day_122, sX6_day_124, sX6_day_125, sX6_day_128, sX6_day_131, sX6_day_132, sX6_day_136, sX6_day_139, sX6_day_140, sX6_day_141, sX6_day_142, sX6_day_143, sX6_day_144, sX6_day_145, sX6_day_146, sX6_day_149, opK_some, guK_true, calK_some, rk_nil, rk_int, rk_ref, tl_some, tl_none, nb_int, nb_0, nb_1, nb_if, nb_if']
      rw [r2] at r3 q5 q6
      have ew : worG (gR r) = (if holG (gR r) then 0 else lefG (gR r) (cr (gR r) 0)) := by unfold worG; rw [if_pos hr]
      have eh : hlwG (gR r) = (if holG (gR r) then 1 else 0) := by unfold hlwG; rw [if_pos hr]
      refine fin M3 (o2.tr o3) ?_ ?_ ?_
      · unfold layR
        rw [if_pos hr, ew, eh]
        exact r3
      · unfold laiD laiG
        rw [if_pos hr]
        exact q5
      · unfold worD
        rw [ew]
        exact q6

