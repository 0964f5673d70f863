/-! calls: spoils, both -/
theorem X_spoils {d : Nat} {M : Mem} (j : J M) : Two (d + 4) 41 (d + 6) 179 [] M := by
  have w := j_wr j
  have ed : M 100 1 = M 131 0 := j.1.2.2.1.1
  by_cases hl : 9999 < M 131 0 + 60
  · refine ⟨fX M 4, fM (fX M 4) 4, -1000005, ?_, ?_, J_fin j (by omega)⟩
    · rw [nX5_spoils]
      simp only [sX5_spoils_0, sX5_spoils_1, sX5_spoils_3, sX5_spoils_6, sX5_spoils_9, sX5_spoils_10, sX5_spoils_11, sX5_spoils_14, sX5_spoils_15, sX5_spoils_16, sX5_spoils_19, sX5_spoils_20, sX5_spoils_23, sX5_spoils_26, sX5_spoils_29, sX5_spoils_30, sX5_spoils_32, sX5_spoils_34, sX5_spoils_37, sX5_spoils_38, sX5_spoils_41, sX5_spoils_44, sX5_spoils_45, sX5_spoils_46, sX5_spoils_49, sX5_spoils_52, sX5_spoils_55, sX5_spoils_56, sX5_spoils_59, sX5_spoils_62, sX5_spoils_63, sX5_spoils_66, sX5_spoils_69, sX5_spoils_70, sX5_spoils_73, sX5_spoils_76, sX5_spoils_77, sX5_spoils_80, sX5_spoils_81, sX5_spoils_82, sX5_spoils_85, sX5_spoils_88, sX5_spoils_89, sX5_spoils_90, sX5_spoils_93, opK_some, guK_true, calK_some, rk_nil, rk_int, rk_ref, tl_some, tl_none, nb_int, nb_0, nb_1, nb_if, nb_if', q0, C_x_isTooLate, ed, hl, if_true, one_ne, if_false, C_xf4]
    · rw [nX6_spoils]
      simp only [sX6_spoils_0, sX6_spoils_1, sX6_spoils_4, sX6_spoils_7, sX6_spoils_8, sX6_spoils_10, sX6_spoils_13, sX6_spoils_14, sX6_spoils_15, sX6_spoils_18, sX6_spoils_19, sX6_spoils_22, sX6_spoils_25, sX6_spoils_26, sX6_spoils_27, sX6_spoils_28, sX6_spoils_30, sX6_spoils_32, sX6_spoils_35, sX6_spoils_36, sX6_spoils_39, sX6_spoils_40, sX6_spoils_43, sX6_spoils_44, sX6_spoils_45, sX6_spoils_48, sX6_spoils_51, sX6_spoils_52, sX6_spoils_53, sX6_spoils_54, sX6_spoils_57, sX6_spoils_58, sX6_spoils_61, sX6_spoils_64, sX6_spoils_65, sX6_spoils_68, sX6_spoils_69, sX6_spoils_70, sX6_spoils_73, sX6_spoils_76, sX6_spoils_77, sX6_spoils_78, sX6_spoils_81, sX6_spoils_82, sX6_spoils_85, sX6_spoils_86, sX6_spoils_89, sX6_spoils_92, sX6_spoils_93, sX6_spoils_95, sX6_spoils_98, sX6_spoils_101, sX6_spoils_102, opK_some, guK_true, calK_some, rk_nil, rk_int, rk_ref, tl_some, tl_none, nb_int, nb_0, nb_1, nb_if, nb_if', q130, C_m_isLate, fX_131, hl, if_true, one_ne, if_false, C_mf4]
  · obtain ⟨M1, c1, h1, o1⟩ := C_become (d := d + 2) hen30 hen10 (by omega) (j_hr j) w
    rw [show d + 2 + 1 = d + 3 from rfl] at c1
    obtain ⟨M2, c2, o2⟩ := L_spoils (d := d) w 60 0 M1 (by omega) h1 o1
    have cs : Cs M M2 := Cs.ou (by omega) (by omega) o2
    have j2 := cs.j j
    obtain ⟨M3, hM3⟩ : ∃ M3, M3 = if spR (M 131) 0 60 = 0 then fX M2 3 else M2 := ⟨_, rfl⟩
    rw [← hM3] at c2
    have e3 : M3 131 = M 131 := by
      rw [hM3]
      split
      · rw [fX_131]; exact cs.e
      · exact cs.e
    have hc := C_aside (d := d + 4) (M := M3)
    rw [show d + 4 + 1 = d + 5 from rfl] at hc
    obtain ⟨M4, hM4⟩ : ∃ M4, M4 = mrow M3 133 (cpR (M3 131) (M3 133)) := ⟨_, rfl⟩
    rw [← hM4] at hc
    have r4 : M4 131 = M 131 := by rw [hM4, mrow_ne (by omega)]; exact e3
    have a4 : M4 133 = cpR (M 131) (M3 133) := by rw [hM4, mrow_at, e3]
    obtain ⟨M5, c5, o5, r5⟩ := L_m_spoils (d := d) (M := M4) j.1.1.1 a4 60 0 M4 none (by omega) r4 Mo.rf
    have ms : Ms M3 M5 := Ms.tr (by rw [hM4]; exact Ms.as) (o5.ms (by rw [r5, r4]))
    refine ⟨M3, if spR (M 131) 0 60 = 0 then fM M5 3 else M5, if spR (M 131) 0 60 = 0 then -1000004 else nI (spR (M 131) 0 60), ?_, ?_, ?_⟩
    · rw [nX5_spoils]
      simp only [sX5_spoils_0, sX5_spoils_1, sX5_spoils_3, sX5_spoils_6, sX5_spoils_9, sX5_spoils_10, sX5_spoils_11, sX5_spoils_14, sX5_spoils_15, sX5_spoils_16, sX5_spoils_19, sX5_spoils_20, sX5_spoils_23, sX5_spoils_26, sX5_spoils_29, sX5_spoils_30, sX5_spoils_32, sX5_spoils_34, sX5_spoils_37, sX5_spoils_38, sX5_spoils_41, sX5_spoils_44, sX5_spoils_45, sX5_spoils_46, sX5_spoils_49, sX5_spoils_52, sX5_spoils_55, sX5_spoils_56, sX5_spoils_59, sX5_spoils_62, sX5_spoils_63, sX5_spoils_66, sX5_spoils_69, sX5_spoils_70, sX5_spoils_73, sX5_spoils_76, sX5_spoils_77, sX5_spoils_80, sX5_spoils_81, sX5_spoils_82, sX5_spoils_85, sX5_spoils_88, sX5_spoils_89, sX5_spoils_90, sX5_spoils_93, opK_some, guK_true, calK_some, rk_nil, rk_int, rk_ref, tl_some, tl_none, nb_int, nb_0, nb_1, nb_if, nb_if', q0, o0_0, o0_6, o100_0, hen_c hen30, hen_c hen10, C_x_isTooLate, ed, hl, zero_eq, if_true, if_false, c1]
      exact c2
    · rw [nX6_spoils]
      simp only [sX6_spoils_0, sX6_spoils_1, sX6_spoils_4, sX6_spoils_7, sX6_spoils_8, sX6_spoils_10, sX6_spoils_13, sX6_spoils_14, sX6_spoils_15, sX6_spoils_18, sX6_spoils_19, sX6_spoils_22, sX6_spoils_25, sX6_spoils_26, sX6_spoils_27, sX6_spoils_28, sX6_spoils_30, sX6_spoils_32, sX6_spoils_35, sX6_spoils_36, sX6_spoils_39, sX6_spoils_40, sX6_spoils_43, sX6_spoils_44, sX6_spoils_45, sX6_spoils_48, sX6_spoils_51, sX6_spoils_52, sX6_spoils_53, sX6_spoils_54, sX6_spoils_57, sX6_spoils_58, sX6_spoils_61, sX6_spoils_64, sX6_spoils_65, sX6_spoils_68, sX6_spoils_69, sX6_spoils_70, sX6_spoils_73, sX6_spoils_76, sX6_spoils_77, sX6_spoils_78, sX6_spoils_81, sX6_spoils_82, sX6_spoils_85, sX6_spoils_86, sX6_spoils_89, sX6_spoils_92, sX6_spoils_93, sX6_spoils_95, sX6_spoils_98, sX6_spoils_101, sX6_spoils_102, opK_some, guK_true, calK_some, rk_nil, rk_int, rk_ref, tl_some, tl_none, nb_int, nb_0, nb_1, nb_if, nb_if', q130, o130_0, o130_2, C_m_isLate, e3, hl, zero_eq, if_true, if_false, hc]
      exact c5
    · by_cases z : spR (M 131) 0 60 = 0
      · rw [if_pos z] at hM3 ⊢
        exact Ms.jf j2 (by omega) (by rw [← hM3]; exact ms)
      · rw [if_neg z] at hM3 ⊢
        exact Ms.j j2 (by rw [← hM3]; exact ms)

