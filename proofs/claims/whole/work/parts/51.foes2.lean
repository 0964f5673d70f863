/-! calls: foes, both -/
theorem C_worstPair {d n : Nat} {M : Mem} {r : Rw} (h : HR M 10 r) (w : WR r) (hn : n < 2 ^ 31) : ∃ M', call (d + 6) 57 [.ref 0, .int (nI n)] M = some (some (.int (foO r n (nT r)).2), M') ∧ Cs M M' := by
  obtain ⟨M1, c1, cs1, al1⟩ := L_alone (d := d) h w hn (nT r) 0 M (by omega) Cs.rf (fun t ht => absurd ht (by omega))
  obtain ⟨M2, c2, cs2⟩ := L_pairO (d := d) h w hn (nT r) 0 M1 none none (by omega) cs1 al1
  rw [nX5_worstPair]
  simp only [sX5_worstPair_0, sX5_worstPair_1, sX5_worstPair_4, sX5_worstPair_7, sX5_worstPair_8, sX5_worstPair_9, sX5_worstPair_11, sX5_worstPair_12, sX5_worstPair_15, sX5_worstPair_18, sX5_worstPair_19, sX5_worstPair_22, sX5_worstPair_23, sX5_worstPair_24, sX5_worstPair_25, sX5_worstPair_26, sX5_worstPair_29, sX5_worstPair_30, sX5_worstPair_31, sX5_worstPair_32, sX5_worstPair_35, sX5_worstPair_38, sX5_worstPair_39, sX5_worstPair_40, sX5_worstPair_41, sX5_worstPair_44, sX5_worstPair_47, sX5_worstPair_48, sX5_worstPair_49, sX5_worstPair_52, sX5_worstPair_56, sX5_worstPair_57, sX5_worstPair_58, sX5_worstPair_60, sX5_worstPair_61, sX5_worstPair_65, sX5_worstPair_66, sX5_worstPair_69, sX5_worstPair_72, sX5_worstPair_74, sX5_worstPair_75, sX5_worstPair_76, sX5_worstPair_80, sX5_worstPair_81, sX5_worstPair_84, sX5_worstPair_87, sX5_worstPair_88, sX5_worstPair_90, sX5_worstPair_93, sX5_worstPair_96, sX5_worstPair_97, sX5_worstPair_99, sX5_worstPair_102, sX5_worstPair_105, sX5_worstPair_106, sX5_worstPair_109, sX5_worstPair_110, sX5_worstPair_112, sX5_worstPair_113, sX5_worstPair_114, sX5_worstPair_117, sX5_worstPair_118, sX5_worstPair_120, sX5_worstPair_121, sX5_worstPair_122, sX5_worstPair_125, sX5_worstPair_127, sX5_worstPair_128, sX5_worstPair_129, sX5_worstPair_132, sX5_worstPair_134, sX5_worstPair_135, sX5_worstPair_136, sX5_worstPair_137, sX5_worstPair_138, sX5_worstPair_139, sX5_worstPair_142, sX5_worstPair_143, sX5_worstPair_145, sX5_worstPair_146, sX5_worstPair_149, sX5_worstPair_151, sX5_worstPair_153, sX5_worstPair_156, sX5_worstPair_158, sX5_worstPair_160, sX5_worstPair_162, sX5_worstPair_164, sX5_worstPair_165, sX5_worstPair_167, sX5_worstPair_168, sX5_worstPair_169, sX5_worstPair_172, sX5_worstPair_175, sX5_worstPair_178, sX5_worstPair_181, sX5_worstPair_182, opK_some, guK_true, calK_some, rk_nil, rk_int, rk_ref, tl_some, tl_none, nb_int, nb_0, nb_1, nb_if, nb_if', o0_0, o100_0]
  refine ⟨M2, c1.trans ?_, cs2⟩
  rw [sX5_worstPair_55]
  simp only [sX5_worstPair_0, sX5_worstPair_1, sX5_worstPair_4, sX5_worstPair_7, sX5_worstPair_8, sX5_worstPair_9, sX5_worstPair_11, sX5_worstPair_12, sX5_worstPair_15, sX5_worstPair_18, sX5_worstPair_19, sX5_worstPair_22, sX5_worstPair_23, sX5_worstPair_24, sX5_worstPair_25, sX5_worstPair_26, sX5_worstPair_29, sX5_worstPair_30, sX5_worstPair_31, sX5_worstPair_32, sX5_worstPair_35, sX5_worstPair_38, sX5_worstPair_39, sX5_worstPair_40, sX5_worstPair_41, sX5_worstPair_44, sX5_worstPair_47, sX5_worstPair_48, sX5_worstPair_49, sX5_worstPair_52, sX5_worstPair_56, sX5_worstPair_57, sX5_worstPair_58, sX5_worstPair_60, sX5_worstPair_61, sX5_worstPair_65, sX5_worstPair_66, sX5_worstPair_69, sX5_worstPair_72, sX5_worstPair_74, sX5_worstPair_75, sX5_worstPair_76, sX5_worstPair_80, sX5_worstPair_81, sX5_worstPair_84, sX5_worstPair_87, sX5_worstPair_88, sX5_worstPair_90, sX5_worstPair_93, sX5_worstPair_96, sX5_worstPair_97, sX5_worstPair_99, sX5_worstPair_102, sX5_worstPair_105, sX5_worstPair_106, sX5_worstPair_109, sX5_worstPair_110, sX5_worstPair_112, sX5_worstPair_113, sX5_worstPair_114, sX5_worstPair_117, sX5_worstPair_118, sX5_worstPair_120, sX5_worstPair_121, sX5_worstPair_122, sX5_worstPair_125, sX5_worstPair_127, sX5_worstPair_128, sX5_worstPair_129, sX5_worstPair_132, sX5_worstPair_134, sX5_worstPair_135, sX5_worstPair_136, sX5_worstPair_137, sX5_worstPair_138, sX5_worstPair_139, sX5_worstPair_142, sX5_worstPair_143, sX5_worstPair_145, sX5_worstPair_146, sX5_worstPair_149, sX5_worstPair_151, sX5_worstPair_153, sX5_worstPair_156, sX5_worstPair_158, sX5_worstPair_160, sX5_worstPair_162, sX5_worstPair_164, sX5_worstPair_165, sX5_worstPair_167, sX5_worstPair_168, sX5_worstPair_169, sX5_worstPair_172, sX5_worstPair_175, sX5_worstPair_178, sX5_worstPair_181, sX5_worstPair_182, opK_some, guK_true, calK_some, rk_nil, rk_int, rk_ref, tl_some, tl_none, nb_int, nb_0, nb_1, nb_if, nb_if']
  exact c2
theorem L_m_pairI {d n a : Nat} {M : Mem} {r b : Rw} {y : Int32} (w : WX r 9999) (e : M 131 = r) (hb : M 133 = cpR r b) (hn : n ≤ 1000) (ha : a < nT r) (s : Int32 × Int32) : ∀ (m k : Nat) (M1 : Mem) (v : Option Value), a + 1 + k + m = nT r → Mb M M1 →
    ∃ M' v', lim (call (d + 7)) none 6 cX6_foes (some .int) 54 [some (.ref 130), some (.int (nI n)), some (.int y), some (.int (foI r n a s k).2), some (.int (foI r n a s k).1), some (.int (nI a)), some (.int (nI (a + 1 + k))), v] [] M1 = lim (call (d + 7)) none 6 cX6_foes (some .int) 37 [some (.ref 130), some (.int (nI n)), some (.int y), some (.int (foI r n a s (nT r - (a + 1))).2), some (.int (foI r n a s (nT r - (a + 1))).1), some (.int (nI (a + 1))), some (.int (nI (nT r))), v'] [] M' ∧ Mb M M' := by
  have hT := wr_T w.1
  intro m
  induction m with
  | zero =>
    intro k M1 v hk c
    obtain rfl : k = nT r - (a + 1) := by omega
    have e1 : M1 131 = r := (c.1 131 (by omega) (by omega)).trans e
    have ek : a + 1 + (nT r - (a + 1)) = nT r := by omega
    rw [sX6_foes_54]
    simp only [sX6_foes_0, sX6_foes_1, sX6_foes_2, sX6_foes_3, sX6_foes_4, sX6_foes_7, sX6_foes_8, sX6_foes_9, sX6_foes_12, sX6_foes_13, sX6_foes_14, sX6_foes_17, sX6_foes_18, sX6_foes_19, sX6_foes_22, sX6_foes_23, sX6_foes_26, sX6_foes_29, sX6_foes_30, sX6_foes_31, sX6_foes_32, sX6_foes_34, sX6_foes_35, sX6_foes_39, sX6_foes_40, sX6_foes_43, sX6_foes_44, sX6_foes_45, sX6_foes_48, sX6_foes_50, sX6_foes_51, sX6_foes_52, sX6_foes_56, sX6_foes_57, sX6_foes_60, sX6_foes_61, sX6_foes_62, sX6_foes_65, sX6_foes_66, sX6_foes_68, sX6_foes_69, sX6_foes_72, sX6_foes_75, sX6_foes_76, sX6_foes_78, sX6_foes_79, sX6_foes_82, sX6_foes_85, sX6_foes_86, sX6_foes_88, sX6_foes_89, sX6_foes_90, sX6_foes_93, sX6_foes_94, sX6_foes_96, sX6_foes_97, sX6_foes_98, sX6_foes_101, sX6_foes_102, sX6_foes_103, sX6_foes_105, sX6_foes_107, sX6_foes_108, sX6_foes_111, sX6_foes_112, sX6_foes_114, sX6_foes_115, sX6_foes_118, sX6_foes_120, sX6_foes_122, sX6_foes_125, sX6_foes_127, sX6_foes_129, sX6_foes_130, sX6_foes_132, sX6_foes_133, sX6_foes_134, sX6_foes_136, sX6_foes_138, sX6_foes_141, sX6_foes_144, sX6_foes_147, sX6_foes_150, sX6_foes_151, sX6_foes_154, sX6_foes_155, sX6_foes_157, sX6_foes_160, sX6_foes_163, sX6_foes_164, opK_some, guK_true, calK_some, rk_nil, rk_int, rk_ref, tl_some, tl_none, nb_int, nb_0, nb_1, nb_if, nb_if', o130_0, a131, ib_3_132, tn_3, e1, ek, nI_1]
    rw [if_pos (show r 3 ≤ nI (nT r) by rw [← hT.2]; exact Int32.le_refl _)]
    exact ⟨M1, v, rfl, c⟩
  | succ m ih =>
    intro k M1 v hk c
    have a10 : a < 10 := by omega
    have b10 : a + 1 + k < 10 := by omega
    have e1 : M1 131 = r := (c.1 131 (by omega) (by omega)).trans e
    have f1 : M1 133 = cpR r b := (c.1 133 (by omega) (by omega)).trans hb
    have c1 := C_m_isHow (d := d + 4) (M := M1) (x := 0) a10
    rw [show d + 4 + 3 = d + 7 from rfl] at c1
    have c2 := C_m_isHow (d := d + 4) (M := M1) (x := 0) b10
    rw [show d + 4 + 3 = d + 7 from rfl] at c2
    rw [e1] at c1 c2
    have eb : a + 1 + k + 1 = a + 1 + (k + 1) := by omega
    rw [sX6_foes_54]
    simp only [sX6_foes_0, sX6_foes_1, sX6_foes_2, sX6_foes_3, sX6_foes_4, sX6_foes_7, sX6_foes_8, sX6_foes_9, sX6_foes_12, sX6_foes_13, sX6_foes_14, sX6_foes_17, sX6_foes_18, sX6_foes_19, sX6_foes_22, sX6_foes_23, sX6_foes_26, sX6_foes_29, sX6_foes_30, sX6_foes_31, sX6_foes_32, sX6_foes_34, sX6_foes_35, sX6_foes_39, sX6_foes_40, sX6_foes_43, sX6_foes_44, sX6_foes_45, sX6_foes_48, sX6_foes_50, sX6_foes_51, sX6_foes_52, sX6_foes_56, sX6_foes_57, sX6_foes_60, sX6_foes_61, sX6_foes_62, sX6_foes_65, sX6_foes_66, sX6_foes_68, sX6_foes_69, sX6_foes_72, sX6_foes_75, sX6_foes_76, sX6_foes_78, sX6_foes_79, sX6_foes_82, sX6_foes_86, sX6_foes_88, sX6_foes_89, sX6_foes_90, sX6_foes_93, sX6_foes_94, sX6_foes_96, sX6_foes_97, sX6_foes_98, sX6_foes_101, sX6_foes_102, sX6_foes_103, sX6_foes_105, sX6_foes_107, sX6_foes_108, sX6_foes_111, sX6_foes_112, sX6_foes_114, sX6_foes_115, sX6_foes_118, sX6_foes_120, sX6_foes_122, sX6_foes_125, sX6_foes_127, sX6_foes_129, sX6_foes_130, sX6_foes_132, sX6_foes_133, sX6_foes_134, sX6_foes_136, sX6_foes_141, sX6_foes_144, sX6_foes_147, sX6_foes_150, sX6_foes_151, sX6_foes_154, sX6_foes_155, sX6_foes_157, sX6_foes_160, sX6_foes_163, sX6_foes_164, opK_some, guK_true, calK_some, rk_nil, rk_int, rk_ref, tl_some, tl_none, nb_int, nb_0, nb_1, nb_if, nb_if', o130_0, a131, ib_3_132, tn_3, q130, e1, c1, c2]
    rw [if_neg (show ¬ r 3 ≤ nI (a + 1 + k) by rw [hT.2]; exact nI_ge (by omega) (by omega))]
    have skip : ∀ (M2 : Mem) (v2 : Option Value), Mb M M2 → foI r n a s (k + 1) = foI r n a s k → ∃ M' v', lim (call (d + 7)) none 6 cX6_foes (some .int) 138 [some (.ref 130), some (.int (nI n)), some (.int y), some (.int (foI r n a s k).2), some (.int (foI r n a s k).1), some (.int (nI a)), some (.int (nI (a + 1 + k))), v2] [] M2 = lim (call (d + 7)) none 6 cX6_foes (some .int) 37 [some (.ref 130), some (.int (nI n)), some (.int y), some (.int (foI r n a s (nT r - (a + 1))).2), some (.int (foI r n a s (nT r - (a + 1))).1), some (.int (nI (a + 1))), some (.int (nI (nT r))), v'] [] M' ∧ Mb M M' := by
      intro M2 v2 c2 e
      rw [sX6_foes_138]
      simp only [sX6_foes_0, sX6_foes_1, sX6_foes_2, sX6_foes_3, sX6_foes_4, sX6_foes_7, sX6_foes_8, sX6_foes_9, sX6_foes_12, sX6_foes_13, sX6_foes_14, sX6_foes_17, sX6_foes_18, sX6_foes_19, sX6_foes_22, sX6_foes_23, sX6_foes_26, sX6_foes_29, sX6_foes_30, sX6_foes_31, sX6_foes_32, sX6_foes_34, sX6_foes_35, sX6_foes_39, sX6_foes_40, sX6_foes_43, sX6_foes_44, sX6_foes_45, sX6_foes_48, sX6_foes_50, sX6_foes_51, sX6_foes_52, sX6_foes_56, sX6_foes_57, sX6_foes_60, sX6_foes_61, sX6_foes_62, sX6_foes_65, sX6_foes_66, sX6_foes_68, sX6_foes_69, sX6_foes_72, sX6_foes_75, sX6_foes_76, sX6_foes_78, sX6_foes_79, sX6_foes_82, sX6_foes_86, sX6_foes_88, sX6_foes_89, sX6_foes_90, sX6_foes_93, sX6_foes_94, sX6_foes_96, sX6_foes_97, sX6_foes_98, sX6_foes_101, sX6_foes_102, sX6_foes_103, sX6_foes_105, sX6_foes_107, sX6_foes_108, sX6_foes_111, sX6_foes_112, sX6_foes_114, sX6_foes_115, sX6_foes_118, sX6_foes_120, sX6_foes_122, sX6_foes_125, sX6_foes_127, sX6_foes_129, sX6_foes_130, sX6_foes_132, sX6_foes_133, sX6_foes_134, sX6_foes_136, sX6_foes_141, sX6_foes_144, sX6_foes_147, sX6_foes_150, sX6_foes_151, sX6_foes_154, sX6_foes_155, sX6_foes_157, sX6_foes_160, sX6_foes_163, sX6_foes_164, opK_some, guK_true, calK_some, rk_nil, rk_int, rk_ref, tl_some, tl_none, nb_int, nb_0, nb_1, nb_if, nb_if', nI_1, eb]
      have := ih (k + 1) M2 v2 (by omega) c2
      rw [e] at this
      exact this
    by_cases hA : r (at9 a 4) = 0
    · by_cases hB : r (at9 (a + 1 + k) 4) = 0
      · obtain ⟨M2, c3, b2⟩ := C_m_one (d := d + 0) (t := a) (n := n) w e1 f1 a10 hn
        rw [show d + 0 + 7 = d + 7 from rfl] at c3
        have c12 := c.tr b2
        obtain ⟨M3, c4, b3⟩ := C_m_one (d := d + 0) (t := a + 1 + k) (n := n) (M := M2) w ((c12.1 131 (by omega) (by omega)).trans e) ((c12.1 133 (by omega) (by omega)).trans hb) b10 hn
        rw [show d + 0 + 7 = d + 7 from rfl] at c4
        have c13 := c12.tr b3
        obtain ⟨M4, c5, b4⟩ := C_m_two (d := d + 0) (i := a) (j := a + 1 + k) (n := n) (M := M3) w ((c13.1 131 (by omega) (by omega)).trans e) ((c13.1 133 (by omega) (by omega)).trans hb) a10 b10 hn
        rw [show d + 0 + 7 = d + 7 from rfl] at c5
        have c14 := c13.tr b4
        rw [if_pos hA, if_neg (by decide), if_pos hB, if_neg (by decide), sX6_foes_85]
        simp only [sX6_foes_0, sX6_foes_1, sX6_foes_2, sX6_foes_3, sX6_foes_4, sX6_foes_7, sX6_foes_8, sX6_foes_9, sX6_foes_12, sX6_foes_13, sX6_foes_14, sX6_foes_17, sX6_foes_18, sX6_foes_19, sX6_foes_22, sX6_foes_23, sX6_foes_26, sX6_foes_29, sX6_foes_30, sX6_foes_31, sX6_foes_32, sX6_foes_34, sX6_foes_35, sX6_foes_39, sX6_foes_40, sX6_foes_43, sX6_foes_44, sX6_foes_45, sX6_foes_48, sX6_foes_50, sX6_foes_51, sX6_foes_52, sX6_foes_56, sX6_foes_57, sX6_foes_60, sX6_foes_61, sX6_foes_62, sX6_foes_65, sX6_foes_66, sX6_foes_68, sX6_foes_69, sX6_foes_72, sX6_foes_75, sX6_foes_76, sX6_foes_78, sX6_foes_79, sX6_foes_82, sX6_foes_86, sX6_foes_88, sX6_foes_89, sX6_foes_90, sX6_foes_93, sX6_foes_94, sX6_foes_96, sX6_foes_97, sX6_foes_98, sX6_foes_101, sX6_foes_102, sX6_foes_103, sX6_foes_105, sX6_foes_107, sX6_foes_108, sX6_foes_111, sX6_foes_112, sX6_foes_114, sX6_foes_115, sX6_foes_118, sX6_foes_120, sX6_foes_122, sX6_foes_125, sX6_foes_127, sX6_foes_129, sX6_foes_130, sX6_foes_132, sX6_foes_133, sX6_foes_134, sX6_foes_136, sX6_foes_141, sX6_foes_144, sX6_foes_147, sX6_foes_150, sX6_foes_151, sX6_foes_154, sX6_foes_155, sX6_foes_157, sX6_foes_160, sX6_foes_163, sX6_foes_164, opK_some, guK_true, calK_some, rk_nil, rk_int, rk_ref, tl_some, tl_none, nb_int, nb_0, nb_1, nb_if, nb_if', q130, c3, c4, c5]
        by_cases hc : (foI r n a s k).2 < 0 ∨ (foI r n a s k).1 < loS r n a (a + 1 + k)
        · have ek : foI r n a s (k + 1) = (loS r n a (a + 1 + k), 10 * nI a + nI (a + 1 + k)) := if_pos ⟨hA, hB, hc⟩
          have fin := ih (k + 1) M4 (some (.int (loS r n a (a + 1 + k)))) (by omega) c14
          rw [ek] at fin
          by_cases h2 : (foI r n a s k).2 < 0
          · rw [if_pos h2, sX6_foes_138]
            simp only [sX6_foes_0, sX6_foes_1, sX6_foes_2, sX6_foes_3, sX6_foes_4, sX6_foes_7, sX6_foes_8, sX6_foes_9, sX6_foes_12, sX6_foes_13, sX6_foes_14, sX6_foes_17, sX6_foes_18, sX6_foes_19, sX6_foes_22, sX6_foes_23, sX6_foes_26, sX6_foes_29, sX6_foes_30, sX6_foes_31, sX6_foes_32, sX6_foes_34, sX6_foes_35, sX6_foes_39, sX6_foes_40, sX6_foes_43, sX6_foes_44, sX6_foes_45, sX6_foes_48, sX6_foes_50, sX6_foes_51, sX6_foes_52, sX6_foes_56, sX6_foes_57, sX6_foes_60, sX6_foes_61, sX6_foes_62, sX6_foes_65, sX6_foes_66, sX6_foes_68, sX6_foes_69, sX6_foes_72, sX6_foes_75, sX6_foes_76, sX6_foes_78, sX6_foes_79, sX6_foes_82, sX6_foes_86, sX6_foes_88, sX6_foes_89, sX6_foes_90, sX6_foes_93, sX6_foes_94, sX6_foes_96, sX6_foes_97, sX6_foes_98, sX6_foes_101, sX6_foes_102, sX6_foes_103, sX6_foes_105, sX6_foes_107, sX6_foes_108, sX6_foes_111, sX6_foes_112, sX6_foes_114, sX6_foes_115, sX6_foes_118, sX6_foes_120, sX6_foes_122, sX6_foes_125, sX6_foes_127, sX6_foes_129, sX6_foes_130, sX6_foes_132, sX6_foes_133, sX6_foes_134, sX6_foes_136, sX6_foes_141, sX6_foes_144, sX6_foes_147, sX6_foes_150, sX6_foes_151, sX6_foes_154, sX6_foes_155, sX6_foes_157, sX6_foes_160, sX6_foes_163, sX6_foes_164, opK_some, guK_true, calK_some, rk_nil, rk_int, rk_ref, tl_some, tl_none, nb_int, nb_0, nb_1, nb_if, nb_if', nI_1, eb]
            exact fin
          · rw [if_neg h2, if_neg (Int32.not_le.mpr (hc.resolve_left h2)), sX6_foes_138]
            simp only [sX6_foes_0, sX6_foes_1, sX6_foes_2, sX6_foes_3, sX6_foes_4, sX6_foes_7, sX6_foes_8, sX6_foes_9, sX6_foes_12, sX6_foes_13, sX6_foes_14, sX6_foes_17, sX6_foes_18, sX6_foes_19, sX6_foes_22, sX6_foes_23, sX6_foes_26, sX6_foes_29, sX6_foes_30, sX6_foes_31, sX6_foes_32, sX6_foes_34, sX6_foes_35, sX6_foes_39, sX6_foes_40, sX6_foes_43, sX6_foes_44, sX6_foes_45, sX6_foes_48, sX6_foes_50, sX6_foes_51, sX6_foes_52, sX6_foes_56, sX6_foes_57, sX6_foes_60, sX6_foes_61, sX6_foes_62, sX6_foes_65, sX6_foes_66, sX6_foes_68, sX6_foes_69, sX6_foes_72, sX6_foes_75, sX6_foes_76, sX6_foes_78, sX6_foes_79, sX6_foes_82, sX6_foes_86, sX6_foes_88, sX6_foes_89, sX6_foes_90, sX6_foes_93, sX6_foes_94, sX6_foes_96, sX6_foes_97, sX6_foes_98, sX6_foes_101, sX6_foes_102, sX6_foes_103, sX6_foes_105, sX6_foes_107, sX6_foes_108, sX6_foes_111, sX6_foes_112, sX6_foes_114, sX6_foes_115, sX6_foes_118, sX6_foes_120, sX6_foes_122, sX6_foes_125, sX6_foes_127, sX6_foes_129, sX6_foes_130, sX6_foes_132, sX6_foes_133, sX6_foes_134, sX6_foes_136, sX6_foes_141, sX6_foes_144, sX6_foes_147, sX6_foes_150, sX6_foes_151, sX6_foes_154, sX6_foes_155, sX6_foes_157, sX6_foes_160, sX6_foes_163, sX6_foes_164, opK_some, guK_true, calK_some, rk_nil, rk_int, rk_ref, tl_some, tl_none, nb_int, nb_0, nb_1, nb_if, nb_if', nI_1, eb]
            exact fin
        · have ek : foI r n a s (k + 1) = foI r n a s k := if_neg (fun z => hc z.2.2)
          rw [if_neg (fun z => hc (Or.inl z)), if_pos (Int32.not_lt.mp (fun z => hc (Or.inr z)))]
          exact skip M4 _ c14 ek
      · rw [if_pos hA, if_neg (by decide), if_neg hB, if_pos rfl]
        exact skip M1 v c (if_neg (fun z => hB z.2.1))
    · rw [if_neg hA, if_pos rfl]
      exact skip M1 v c (if_neg (fun z => hA z.1))
theorem L_m_pairO {d n : Nat} {M : Mem} {r b : Rw} {y : Int32} (w : WX r 9999) (e : M 131 = r) (hb : M 133 = cpR r b) (hn : n ≤ 1000) : ∀ (m a : Nat) (M1 : Mem) (u v : Option Value), a + m = nT r → Mb M M1 →
    ∃ M', lim (call (d + 7)) none 6 cX6_foes (some .int) 37 [some (.ref 130), some (.int (nI n)), some (.int y), some (.int (foO r n a).2), some (.int (foO r n a).1), some (.int (nI a)), u, v] [] M1 = some (some (.int (if (foO r n (nT r)).2 < 0 then -1000004 else (foO r n (nT r)).2)), if (foO r n (nT r)).2 < 0 then fM M' 3 else M') ∧ Mb M M' := by
  have hT := wr_T w.1
  intro m
  induction m with
  | zero =>
    intro a M1 u v ha c
    obtain rfl : a = nT r := by omega
    have e1 : M1 131 = r := (c.1 131 (by omega) (by omega)).trans e
    rw [sX6_foes_37]
    simp only [sX6_foes_0, sX6_foes_1, sX6_foes_2, sX6_foes_3, sX6_foes_4, sX6_foes_7, sX6_foes_8, sX6_foes_9, sX6_foes_12, sX6_foes_13, sX6_foes_14, sX6_foes_17, sX6_foes_18, sX6_foes_19, sX6_foes_22, sX6_foes_23, sX6_foes_26, sX6_foes_29, sX6_foes_30, sX6_foes_31, sX6_foes_32, sX6_foes_34, sX6_foes_35, sX6_foes_39, sX6_foes_40, sX6_foes_43, sX6_foes_44, sX6_foes_45, sX6_foes_48, sX6_foes_50, sX6_foes_51, sX6_foes_52, sX6_foes_56, sX6_foes_57, sX6_foes_60, sX6_foes_61, sX6_foes_62, sX6_foes_65, sX6_foes_66, sX6_foes_68, sX6_foes_69, sX6_foes_72, sX6_foes_75, sX6_foes_76, sX6_foes_78, sX6_foes_79, sX6_foes_82, sX6_foes_85, sX6_foes_86, sX6_foes_88, sX6_foes_89, sX6_foes_90, sX6_foes_93, sX6_foes_94, sX6_foes_96, sX6_foes_97, sX6_foes_98, sX6_foes_101, sX6_foes_102, sX6_foes_103, sX6_foes_105, sX6_foes_107, sX6_foes_108, sX6_foes_111, sX6_foes_112, sX6_foes_114, sX6_foes_115, sX6_foes_118, sX6_foes_120, sX6_foes_122, sX6_foes_125, sX6_foes_127, sX6_foes_129, sX6_foes_130, sX6_foes_132, sX6_foes_133, sX6_foes_134, sX6_foes_136, sX6_foes_138, sX6_foes_141, sX6_foes_144, sX6_foes_147, sX6_foes_150, sX6_foes_151, sX6_foes_154, sX6_foes_155, sX6_foes_157, sX6_foes_160, sX6_foes_163, sX6_foes_164, opK_some, guK_true, calK_some, rk_nil, rk_int, rk_ref, tl_some, tl_none, nb_int, nb_0, nb_1, nb_if, nb_if', o130_0, a131, ib_3_132, tn_3, q130, e1, C_mf3]
    rw [if_pos (show r 3 ≤ nI (nT r) by rw [← hT.2]; exact Int32.le_refl _)]
    refine ⟨M1, ?_, c⟩
    by_cases z : (foO r n (nT r)).2 < 0
    · rw [if_neg (Int32.not_le.mpr z), if_pos z, if_pos z]
    · rw [if_pos (Int32.not_lt.mp z), if_neg z, if_neg z]
  | succ m ih =>
    intro a M1 u v ha c
    have e1 : M1 131 = r := (c.1 131 (by omega) (by omega)).trans e
    rw [sX6_foes_37]
    simp only [sX6_foes_0, sX6_foes_1, sX6_foes_2, sX6_foes_3, sX6_foes_4, sX6_foes_7, sX6_foes_8, sX6_foes_9, sX6_foes_12, sX6_foes_13, sX6_foes_14, sX6_foes_17, sX6_foes_18, sX6_foes_19, sX6_foes_22, sX6_foes_23, sX6_foes_26, sX6_foes_29, sX6_foes_30, sX6_foes_31, sX6_foes_32, sX6_foes_34, sX6_foes_35, sX6_foes_39, sX6_foes_40, sX6_foes_43, sX6_foes_44, sX6_foes_45, sX6_foes_48, sX6_foes_50, sX6_foes_51, sX6_foes_52, sX6_foes_56, sX6_foes_57, sX6_foes_60, sX6_foes_61, sX6_foes_62, sX6_foes_65, sX6_foes_66, sX6_foes_68, sX6_foes_69, sX6_foes_72, sX6_foes_75, sX6_foes_76, sX6_foes_78, sX6_foes_79, sX6_foes_82, sX6_foes_85, sX6_foes_86, sX6_foes_88, sX6_foes_89, sX6_foes_90, sX6_foes_93, sX6_foes_94, sX6_foes_96, sX6_foes_97, sX6_foes_98, sX6_foes_101, sX6_foes_102, sX6_foes_103, sX6_foes_105, sX6_foes_107, sX6_foes_108, sX6_foes_111, sX6_foes_112, sX6_foes_114, sX6_foes_115, sX6_foes_118, sX6_foes_120, sX6_foes_122, sX6_foes_125, sX6_foes_127, sX6_foes_129, sX6_foes_130, sX6_foes_132, sX6_foes_133, sX6_foes_134, sX6_foes_136, sX6_foes_138, sX6_foes_141, sX6_foes_144, sX6_foes_147, sX6_foes_150, sX6_foes_151, sX6_foes_154, sX6_foes_155, sX6_foes_157, sX6_foes_160, sX6_foes_163, sX6_foes_164, opK_some, guK_true, calK_some, rk_nil, rk_int, rk_ref, tl_some, tl_none, nb_int, nb_0, nb_1, nb_if, nb_if', o130_0, a131, ib_3_132, tn_3, e1, nI_1]
    rw [if_neg (show ¬ r 3 ≤ nI a by rw [hT.2]; exact nI_ge (by omega) (by omega))]
    obtain ⟨M2, v2, c2, b2⟩ := L_m_pairI (d := d) (y := y) w e hb hn (show a < nT r by omega) (foO r n a) (nT r - (a + 1)) 0 M1 v (by omega) c
    obtain ⟨M3, c3, b3⟩ := ih (a + 1) M2 _ v2 (by omega) b2
    exact ⟨M3, c2.trans c3, b3⟩
theorem X_foes {d : Nat} {M : Mem} {x : Int32} (j : J M) : Two (d + 7) 56 (d + 8) 195 [.int x] M := by
  have w := j_wr j
  have ed : M 100 1 = M 131 0 := j.1.2.2.1.1
  have hr : ∀ {M : Mem} {x : Int32} (_ : WR (M 131)), call (d + 7) 182 [.ref 130, .int 1, .int 0, .int x] M = some (some (.int (if ¬ (1 ≤ x ∧ x ≤ 60) then -1000001 else if 9999 < M 131 0 + x then -1000005 else 0)), M) := fun w => C_m_refD (d := d + 2) w
  by_cases hx : 1 ≤ x ∧ x ≤ 60
  · by_cases hl : 9999 < M 131 0 + x
    · refine ⟨fX M 4, fM (fX M 4) 4, -1000005, ?_, ?_, J_fin j (by omega)⟩
      · rw [nX5_foes]
        simp only [sX5_foes_0, sX5_foes_1, sX5_foes_4, sX5_foes_7, sX5_foes_8, sX5_foes_9, sX5_foes_12, sX5_foes_13, sX5_foes_14, sX5_foes_15, sX5_foes_18, sX5_foes_21, sX5_foes_22, sX5_foes_23, sX5_foes_26, sX5_foes_27, sX5_foes_28, sX5_foes_29, sX5_foes_32, sX5_foes_33, sX5_foes_34, sX5_foes_37, sX5_foes_38, sX5_foes_41, sX5_foes_42, sX5_foes_43, sX5_foes_46, opK_some, guK_true, calK_some, rk_nil, rk_int, rk_ref, tl_some, tl_none, nb_int, nb_0, nb_1, nb_if, nb_if', q0, C_x_isDays, C_x_isTooLate, ed, hx, hl, and_self, if_true, one_ne, if_false, ne_eq, not_false_eq_true, C_xf4]
      · rw [nX6_foes]
        simp only [sX6_foes_0, sX6_foes_1, sX6_foes_2, sX6_foes_3, sX6_foes_4, sX6_foes_7, sX6_foes_8, sX6_foes_9, sX6_foes_12, sX6_foes_13, sX6_foes_14, sX6_foes_17, sX6_foes_18, sX6_foes_19, sX6_foes_22, sX6_foes_23, sX6_foes_26, sX6_foes_29, sX6_foes_30, sX6_foes_31, sX6_foes_32, sX6_foes_34, sX6_foes_35, sX6_foes_39, sX6_foes_40, sX6_foes_43, sX6_foes_44, sX6_foes_45, sX6_foes_48, sX6_foes_50, sX6_foes_51, sX6_foes_52, sX6_foes_56, sX6_foes_57, sX6_foes_60, sX6_foes_61, sX6_foes_62, sX6_foes_65, sX6_foes_66, sX6_foes_68, sX6_foes_69, sX6_foes_72, sX6_foes_75, sX6_foes_76, sX6_foes_78, sX6_foes_79, sX6_foes_82, sX6_foes_85, sX6_foes_86, sX6_foes_88, sX6_foes_89, sX6_foes_90, sX6_foes_93, sX6_foes_94, sX6_foes_96, sX6_foes_97, sX6_foes_98, sX6_foes_101, sX6_foes_102, sX6_foes_103, sX6_foes_105, sX6_foes_107, sX6_foes_108, sX6_foes_111, sX6_foes_112, sX6_foes_114, sX6_foes_115, sX6_foes_118, sX6_foes_120, sX6_foes_122, sX6_foes_125, sX6_foes_127, sX6_foes_129, sX6_foes_130, sX6_foes_132, sX6_foes_133, sX6_foes_134, sX6_foes_136, sX6_foes_138, sX6_foes_141, sX6_foes_144, sX6_foes_147, sX6_foes_150, sX6_foes_151, sX6_foes_154, sX6_foes_155, sX6_foes_157, sX6_foes_160, sX6_foes_163, sX6_foes_164, opK_some, guK_true, calK_some, rk_nil, rk_int, rk_ref, tl_some, tl_none, nb_int, nb_0, nb_1, nb_if, nb_if', q130, hr (M := fX M 4) (by rw [fX_131]; exact w), fX_131, hx, hl, and_self, not_true, if_true, if_false, m5_ne, C_mf4]
    · obtain ⟨n, n1, n60, rfl⟩ := days_of hx
      obtain ⟨M2, c2, o2⟩ := C_worstPair (d := d + 0) (n := n) (j_hr j) w (by omega)
      rw [show d + 0 + 6 = d + 6 from rfl] at c2
      have j2 := o2.j j
      obtain ⟨M3, hM3⟩ : ∃ M3, M3 = if (foO (M 131) n (nT (M 131))).2 < 0 then fX M2 3 else M2 := ⟨_, rfl⟩
      have e3 : M3 131 = M 131 := by
        rw [hM3]
        split
        · rw [fX_131]; exact o2.e
        · exact o2.e
      have hc := C_aside (d := d + 6) (M := M3)
      rw [show d + 6 + 1 = d + 7 from rfl] at hc
      obtain ⟨M4, hM4⟩ : ∃ M4, M4 = mrow M3 133 (cpR (M3 131) (M3 133)) := ⟨_, rfl⟩
      rw [← hM4] at hc
      have r4 : M4 131 = M 131 := by rw [hM4, mrow_ne (by omega)]; exact e3
      have a4 : M4 133 = cpR (M 131) (M3 133) := by rw [hM4, mrow_at, e3]
      obtain ⟨M5, c5, b5⟩ := L_m_pairO (d := d) (n := n) (y := 0) (M := M4) j.1.1.1 r4 a4 (by omega) (nT (M 131)) 0 M4 none none (by omega) Mb.rf
      have ms : Ms M3 M5 := Ms.tr (by rw [hM4]; exact Ms.as) b5.ms
      refine ⟨M3, if (foO (M 131) n (nT (M 131))).2 < 0 then fM M5 3 else M5, if (foO (M 131) n (nT (M 131))).2 < 0 then -1000004 else (foO (M 131) n (nT (M 131))).2, ?_, ?_, ?_⟩
      · rw [nX5_foes]
        simp only [sX5_foes_0, sX5_foes_1, sX5_foes_4, sX5_foes_7, sX5_foes_8, sX5_foes_9, sX5_foes_12, sX5_foes_13, sX5_foes_14, sX5_foes_15, sX5_foes_18, sX5_foes_21, sX5_foes_22, sX5_foes_23, sX5_foes_26, sX5_foes_27, sX5_foes_28, sX5_foes_29, sX5_foes_32, sX5_foes_33, sX5_foes_34, sX5_foes_37, sX5_foes_38, sX5_foes_41, sX5_foes_42, sX5_foes_43, sX5_foes_46, opK_some, guK_true, calK_some, rk_nil, rk_int, rk_ref, tl_some, tl_none, nb_int, nb_0, nb_1, nb_if, nb_if', q0, C_x_isDays, C_x_isTooLate, ed, hx, hl, and_self, if_true, one_ne, zero_eq, if_false, ne_eq, not_false_eq_true, c2, C_xf3]
        rw [hM3]
        by_cases z : (foO (M 131) n (nT (M 131))).2 < 0
        · rw [if_pos z, if_pos z, if_pos z]
        · rw [if_neg z, if_neg z, if_neg z]
      · rw [nX6_foes]
        simp only [sX6_foes_0, sX6_foes_1, sX6_foes_2, sX6_foes_3, sX6_foes_4, sX6_foes_7, sX6_foes_8, sX6_foes_9, sX6_foes_12, sX6_foes_13, sX6_foes_14, sX6_foes_17, sX6_foes_18, sX6_foes_19, sX6_foes_22, sX6_foes_23, sX6_foes_26, sX6_foes_29, sX6_foes_30, sX6_foes_31, sX6_foes_32, sX6_foes_34, sX6_foes_35, sX6_foes_39, sX6_foes_40, sX6_foes_43, sX6_foes_44, sX6_foes_45, sX6_foes_48, sX6_foes_50, sX6_foes_51, sX6_foes_52, sX6_foes_56, sX6_foes_57, sX6_foes_60, sX6_foes_61, sX6_foes_62, sX6_foes_65, sX6_foes_66, sX6_foes_68, sX6_foes_69, sX6_foes_72, sX6_foes_75, sX6_foes_76, sX6_foes_78, sX6_foes_79, sX6_foes_82, sX6_foes_85, sX6_foes_86, sX6_foes_88, sX6_foes_89, sX6_foes_90, sX6_foes_93, sX6_foes_94, sX6_foes_96, sX6_foes_97, sX6_foes_98, sX6_foes_101, sX6_foes_102, sX6_foes_103, sX6_foes_105, sX6_foes_107, sX6_foes_108, sX6_foes_111, sX6_foes_112, sX6_foes_114, sX6_foes_115, sX6_foes_118, sX6_foes_120, sX6_foes_122, sX6_foes_125, sX6_foes_127, sX6_foes_129, sX6_foes_130, sX6_foes_132, sX6_foes_133, sX6_foes_134, sX6_foes_136, sX6_foes_138, sX6_foes_141, sX6_foes_144, sX6_foes_147, sX6_foes_150, sX6_foes_151, sX6_foes_154, sX6_foes_155, sX6_foes_157, sX6_foes_160, sX6_foes_163, sX6_foes_164, opK_some, guK_true, calK_some, rk_nil, rk_int, rk_ref, tl_some, tl_none, nb_int, nb_0, nb_1, nb_if, nb_if', q130, o130_0, o130_2, hr (M := M3) (by rw [e3]; exact w), e3, hx, hl, and_self, not_true, if_true, if_false, zero_eq, hc]
        exact c5
      · by_cases z : (foO (M 131) n (nT (M 131))).2 < 0
        · rw [if_pos z] at hM3 ⊢
          exact Ms.jf j2 (by omega) (by rw [← hM3]; exact ms)
        · rw [if_neg z] at hM3 ⊢
          exact Ms.j j2 (by rw [← hM3]; exact ms)
  · refine ⟨fX M 0, fM (fX M 0) 0, -1000001, ?_, ?_, J_fin j (by omega)⟩
    · rw [nX5_foes]
      simp only [sX5_foes_0, sX5_foes_1, sX5_foes_4, sX5_foes_7, sX5_foes_8, sX5_foes_9, sX5_foes_12, sX5_foes_13, sX5_foes_14, sX5_foes_15, sX5_foes_18, sX5_foes_21, sX5_foes_22, sX5_foes_23, sX5_foes_26, sX5_foes_27, sX5_foes_28, sX5_foes_29, sX5_foes_32, sX5_foes_33, sX5_foes_34, sX5_foes_37, sX5_foes_38, sX5_foes_41, sX5_foes_42, sX5_foes_43, sX5_foes_46, opK_some, guK_true, calK_some, rk_nil, rk_int, rk_ref, tl_some, tl_none, nb_int, nb_0, nb_1, nb_if, nb_if', q0, C_x_isDays, hx, if_true, if_false, ne_eq, zero_eq, not_true, C_xf0]
    · rw [nX6_foes]
      simp only [sX6_foes_0, sX6_foes_1, sX6_foes_2, sX6_foes_3, sX6_foes_4, sX6_foes_7, sX6_foes_8, sX6_foes_9, sX6_foes_12, sX6_foes_13, sX6_foes_14, sX6_foes_17, sX6_foes_18, sX6_foes_19, sX6_foes_22, sX6_foes_23, sX6_foes_26, sX6_foes_29, sX6_foes_30, sX6_foes_31, sX6_foes_32, sX6_foes_34, sX6_foes_35, sX6_foes_39, sX6_foes_40, sX6_foes_43, sX6_foes_44, sX6_foes_45, sX6_foes_48, sX6_foes_50, sX6_foes_51, sX6_foes_52, sX6_foes_56, sX6_foes_57, sX6_foes_60, sX6_foes_61, sX6_foes_62, sX6_foes_65, sX6_foes_66, sX6_foes_68, sX6_foes_69, sX6_foes_72, sX6_foes_75, sX6_foes_76, sX6_foes_78, sX6_foes_79, sX6_foes_82, sX6_foes_85, sX6_foes_86, sX6_foes_88, sX6_foes_89, sX6_foes_90, sX6_foes_93, sX6_foes_94, sX6_foes_96, sX6_foes_97, sX6_foes_98, sX6_foes_101, sX6_foes_102, sX6_foes_103, sX6_foes_105, sX6_foes_107, sX6_foes_108, sX6_foes_111, sX6_foes_112, sX6_foes_114, sX6_foes_115, sX6_foes_118, sX6_foes_120, sX6_foes_122, sX6_foes_125, sX6_foes_127, sX6_foes_129, sX6_foes_130, sX6_foes_132, sX6_foes_133, sX6_foes_134, sX6_foes_136, sX6_foes_138, sX6_foes_141, sX6_foes_144, sX6_foes_147, sX6_foes_150, sX6_foes_151, sX6_foes_154, sX6_foes_155, sX6_foes_157, sX6_foes_160, sX6_foes_163, sX6_foes_164, opK_some, guK_true, calK_some, rk_nil, rk_int, rk_ref, tl_some, tl_none, nb_int, nb_0, nb_1, nb_if, nb_if', q130, hr (M := fX M 0) (by rw [fX_131]; exact w), hx, not_false_eq_true, if_true, if_false, m1_ne, C_mf0]

