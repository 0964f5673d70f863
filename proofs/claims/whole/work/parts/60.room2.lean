/-! calls: room, both -/
theorem X_room {d : Nat} {M : Mem} {x : Int32} (j : J M) : Two (d + 6) 80 (d + 7) 212 [.int x] M := by
  have w := j_wr j
  have h := j_hr j
  have ed : M 100 1 = M 131 0 := j.1.2.2.1.1
  have hset := C_x_isSet (d := d + 4) (x := x) h w
  rw [show d + 4 + 1 = d + 5 from rfl] at hset
  have mset' : ∀ (M2 : Mem), M2 131 = M 131 → call (d + 6) 181 [.ref 130, .int x] M2 = some (some (.int (if setP (M 131) x then 1 else 0)), M2) := by
    intro M2 e
    have := C_m_isSet (d := d + 4) (M := M2) (x := x) (by rw [e]; exact w)
    rw [show d + 4 + 2 = d + 6 from rfl] at this
    rw [e] at this
    exact this
  have mthat : ∀ (M2 : Mem), M2 131 = M 131 → call (d + 6) 183 [.ref 130, .int 0] M2 = some (some (.int (nI (hoS (M 131) 0))), M2) := by
    intro M2 e
    have := C_m_thingsThat (d := d + 2) (M := M2) (x := 0) (by rw [e]; exact w)
    rw [show d + 2 + 4 = d + 6 from rfl] at this
    rw [e] at this
    exact this
  by_cases hx : setP (M 131) x
  · obtain ⟨s, hs, rfl⟩ := set_of w hx
    have hout := C_areOut (d := d + 3) h w hs
    rw [show d + 3 + 2 = d + 5 from rfl] at hout
    by_cases hb : ¬ outP (M 131) s ∨ 9999 < M 131 0 + 10
    · refine ⟨fX M 4, fM (fX M 4) 4, -1000005, ?_, ?_, J_fin j (by omega)⟩
      · rw [nX5_room]
        by_cases a : outP (M 131) s
        · have hl : 9999 < M 131 0 + 10 := hb.resolve_left (fun z => z a)
          simp only [sX5_room_0, sX5_room_1, sX5_room_2, sX5_room_5, sX5_room_8, sX5_room_9, sX5_room_10, sX5_room_13, sX5_room_14, sX5_room_15, sX5_room_16, sX5_room_19, sX5_room_22, sX5_room_23, sX5_room_25, sX5_room_28, sX5_room_31, sX5_room_32, sX5_room_33, sX5_room_36, sX5_room_37, sX5_room_38, sX5_room_39, sX5_room_42, sX5_room_43, sX5_room_44, sX5_room_46, sX5_room_48, sX5_room_51, sX5_room_52, sX5_room_53, sX5_room_54, sX5_room_57, sX5_room_60, sX5_room_61, sX5_room_62, sX5_room_65, sX5_room_68, sX5_room_69, sX5_room_70, sX5_room_73, opK_some, guK_true, calK_some, rk_nil, rk_int, rk_ref, tl_some, tl_none, nb_int, nb_0, nb_1, nb_if, nb_if', q0, hset, if_pos hx, if_pos a, hout, C_x_isTooLate, ed, hl, one_ne, if_true, if_false, C_xf4]
        · simp only [sX5_room_0, sX5_room_1, sX5_room_2, sX5_room_5, sX5_room_8, sX5_room_9, sX5_room_10, sX5_room_13, sX5_room_14, sX5_room_15, sX5_room_16, sX5_room_19, sX5_room_22, sX5_room_23, sX5_room_25, sX5_room_28, sX5_room_31, sX5_room_32, sX5_room_33, sX5_room_36, sX5_room_37, sX5_room_38, sX5_room_39, sX5_room_42, sX5_room_43, sX5_room_44, sX5_room_46, sX5_room_48, sX5_room_51, sX5_room_52, sX5_room_53, sX5_room_54, sX5_room_57, sX5_room_60, sX5_room_61, sX5_room_62, sX5_room_65, sX5_room_68, sX5_room_69, sX5_room_70, sX5_room_73, opK_some, guK_true, calK_some, rk_nil, rk_int, rk_ref, tl_some, tl_none, nb_int, nb_0, nb_1, nb_if, nb_if', q0, hset, if_pos hx, if_neg a, hout, zero_eq, one_ne, if_true, if_false, C_xf4]
      · rw [nX6_room]
        by_cases a : outP (M 131) s
        · have hl : 9999 < M 131 0 + 10 := hb.resolve_left (fun z => z a)
          simp only [sX6_room_0, sX6_room_1, sX6_room_2, sX6_room_5, sX6_room_8, sX6_room_9, sX6_room_11, sX6_room_14, sX6_room_15, sX6_room_16, sX6_room_17, sX6_room_18, sX6_room_21, sX6_room_22, sX6_room_23, sX6_room_24, sX6_room_27, sX6_room_28, sX6_room_30, sX6_room_33, sX6_room_36, sX6_room_37, sX6_room_39, sX6_room_42, sX6_room_43, sX6_room_44, sX6_room_47, sX6_room_48, sX6_room_51, sX6_room_54, sX6_room_55, sX6_room_56, sX6_room_59, sX6_room_60, sX6_room_61, sX6_room_62, sX6_room_64, sX6_room_66, sX6_room_69, sX6_room_70, sX6_room_73, sX6_room_74, sX6_room_77, sX6_room_78, sX6_room_79, sX6_room_80, sX6_room_81, sX6_room_84, sX6_room_87, sX6_room_88, sX6_room_91, sX6_room_92, sX6_room_93, sX6_room_96, sX6_room_99, sX6_room_100, sX6_room_103, sX6_room_104, sX6_room_106, sX6_room_109, sX6_room_112, sX6_room_113, opK_some, guK_true, calK_some, rk_nil, rk_int, rk_ref, tl_some, tl_none, nb_int, nb_0, nb_1, nb_if, nb_if', q130, mset' (fX M 4) fX_131, mthat (fX M 4) fX_131, if_pos hx, (out_m w hs).mpr a, C_m_isTooLate, fX_131, hl, one_ne, zero_eq, if_true, if_false, C_mf4]
        · have na := fun z => a ((out_m w hs).mp z)
          simp only [sX6_room_0, sX6_room_1, sX6_room_2, sX6_room_5, sX6_room_8, sX6_room_9, sX6_room_11, sX6_room_14, sX6_room_15, sX6_room_16, sX6_room_17, sX6_room_18, sX6_room_21, sX6_room_22, sX6_room_23, sX6_room_24, sX6_room_27, sX6_room_28, sX6_room_30, sX6_room_33, sX6_room_36, sX6_room_37, sX6_room_39, sX6_room_42, sX6_room_43, sX6_room_44, sX6_room_47, sX6_room_48, sX6_room_51, sX6_room_54, sX6_room_55, sX6_room_56, sX6_room_59, sX6_room_60, sX6_room_61, sX6_room_62, sX6_room_64, sX6_room_66, sX6_room_69, sX6_room_70, sX6_room_73, sX6_room_74, sX6_room_77, sX6_room_78, sX6_room_79, sX6_room_80, sX6_room_81, sX6_room_84, sX6_room_87, sX6_room_88, sX6_room_91, sX6_room_92, sX6_room_93, sX6_room_96, sX6_room_99, sX6_room_100, sX6_room_103, sX6_room_104, sX6_room_106, sX6_room_109, sX6_room_112, sX6_room_113, opK_some, guK_true, calK_some, rk_nil, rk_int, rk_ref, tl_some, tl_none, nb_int, nb_0, nb_1, nb_if, nb_if', q130, mset' (fX M 4) fX_131, mthat (fX M 4) fX_131, if_pos hx, if_neg na, one_ne, if_false, C_mf4]
    · have a : outP (M 131) s := Decidable.byContradiction (fun z => hb (Or.inl z))
      have hl : ¬ 9999 < M 131 0 + 10 := fun z => hb (Or.inr z)
      obtain ⟨M1, c1, cs1, ro⟩ := C_fillRow (d := d + 4) h w hs
      rw [show d + 4 + 1 = d + 5 from rfl] at c1
      obtain ⟨row, hrow⟩ : ∃ row, row = lrow (fl s (nT (M 131))) := ⟨_, rfl⟩
      obtain ⟨size, hsz⟩ : ∃ size, size = (fl s (nT (M 131))).length := ⟨_, rfl⟩
      rw [← hrow, ← hsz] at ro
      rw [← hsz] at c1
      obtain ⟨M2, c2, o2⟩ := L_room (d := d) (y := nI s) (cs1.hr h) j.1.1.1 ro 40 1 M1 (by omega) (by omega) Ou.rf
      have cs2 : Cs M M2 := cs1.tr (Cs.ou (by omega) (by omega) o2)
      have j2 := cs2.j j
      obtain ⟨M3, hM3⟩ : ∃ M3, M3 = if rmF (M 131) row size 1 40 = 0 then fX M2 3 else M2 := ⟨_, rfl⟩
      rw [← hM3] at c2
      have e3 : M3 131 = M 131 := by
        rw [hM3]
        split
        · rw [fX_131]; exact cs2.e
        · exact cs2.e
      have hc := C_aside (d := d + 5) (M := M3)
      rw [show d + 5 + 1 = d + 6 from rfl] at hc
      obtain ⟨M4, hM4⟩ : ∃ M4, M4 = mrow M3 133 (cpR (M3 131) (M3 133)) := ⟨_, rfl⟩
      rw [← hM4] at hc
      have ms4 : Ms M3 M4 := by rw [hM4]; exact Ms.as
      have r4 : M4 131 = M 131 := (ms4.1 131 (by omega)).trans e3
      have a4 : M4 133 = cpR (M 131) (M3 133) := by rw [hM4, mrow_at, e3]
      obtain ⟨M5, c5, b5, me5⟩ := C_m_mealOf (d := d + 4) (M := M4) (s := s) (by rw [r4]; exact w) (by rw [r4]; exact hs)
      rw [show d + 4 + 2 = d + 6 from rfl] at c5
      rw [r4, ← hrow, ← hsz] at me5
      have r5 : M5 131 = M 131 := (b5.1 131 (by omega) (by omega)).trans r4
      obtain ⟨M6, c6, o6, r6⟩ := L_m_room (d := d) (y := nI s) (M := M5) j.1.1.1 me5 ((b5.1 133 (by omega) (by omega)).trans a4) 40 1 M5 (by omega) (by omega) Mo.rf r5
      have ms : Ms M3 M6 := (ms4.tr b5.ms).tr (o6.ms (by rw [r6, r5]))
      refine ⟨M3, if rmF (M 131) row size 1 40 = 0 then fM M6 3 else M6, if rmF (M 131) row size 1 40 = 0 then -1000004 else nI (rmF (M 131) row size 1 40), ?_, ?_, ?_⟩
      · rw [nX5_room]
        simp only [sX5_room_0, sX5_room_1, sX5_room_2, sX5_room_5, sX5_room_8, sX5_room_9, sX5_room_10, sX5_room_13, sX5_room_14, sX5_room_15, sX5_room_16, sX5_room_19, sX5_room_22, sX5_room_23, sX5_room_25, sX5_room_28, sX5_room_31, sX5_room_32, sX5_room_33, sX5_room_36, sX5_room_37, sX5_room_38, sX5_room_39, sX5_room_42, sX5_room_43, sX5_room_44, sX5_room_46, sX5_room_48, sX5_room_51, sX5_room_52, sX5_room_53, sX5_room_54, sX5_room_57, sX5_room_60, sX5_room_61, sX5_room_62, sX5_room_65, sX5_room_68, sX5_room_69, sX5_room_70, sX5_room_73, opK_some, guK_true, calK_some, rk_nil, rk_int, rk_ref, tl_some, tl_none, nb_int, nb_0, nb_1, nb_if, nb_if', q0, hset, if_pos hx, if_pos a, hout, C_x_isTooLate, ed, hl, one_ne, zero_eq, if_true, if_false, c1]
        exact c2
      · rw [nX6_room]
        simp only [sX6_room_0, sX6_room_1, sX6_room_2, sX6_room_5, sX6_room_8, sX6_room_9, sX6_room_11, sX6_room_14, sX6_room_15, sX6_room_16, sX6_room_17, sX6_room_18, sX6_room_21, sX6_room_22, sX6_room_23, sX6_room_24, sX6_room_27, sX6_room_28, sX6_room_30, sX6_room_33, sX6_room_36, sX6_room_37, sX6_room_39, sX6_room_42, sX6_room_43, sX6_room_44, sX6_room_47, sX6_room_48, sX6_room_51, sX6_room_54, sX6_room_55, sX6_room_56, sX6_room_59, sX6_room_60, sX6_room_61, sX6_room_62, sX6_room_64, sX6_room_66, sX6_room_69, sX6_room_70, sX6_room_73, sX6_room_74, sX6_room_77, sX6_room_78, sX6_room_79, sX6_room_80, sX6_room_81, sX6_room_84, sX6_room_87, sX6_room_88, sX6_room_91, sX6_room_92, sX6_room_93, sX6_room_96, sX6_room_99, sX6_room_100, sX6_room_103, sX6_room_104, sX6_room_106, sX6_room_109, sX6_room_112, sX6_room_113, opK_some, guK_true, calK_some, rk_nil, rk_int, rk_ref, tl_some, tl_none, nb_int, nb_0, nb_1, nb_if, nb_if', q130, o130_0, o130_2, mset' M3 e3, mthat M3 e3, if_pos hx, (out_m w hs).mpr a, C_m_isTooLate, e3, hl, one_ne, zero_eq, if_true, if_false, hc, c5]
        exact c6
      · by_cases z : rmF (M 131) row size 1 40 = 0
        · rw [if_pos z] at hM3 ⊢
          exact Ms.jf j2 (by omega) (by rw [← hM3]; exact ms)
        · rw [if_neg z] at hM3 ⊢
          exact Ms.j j2 (by rw [← hM3]; exact ms)
  · refine ⟨fX M 0, fM (fX M 0) 0, -1000001, ?_, ?_, J_fin j (by omega)⟩
    · rw [nX5_room]
      simp only [sX5_room_0, sX5_room_1, sX5_room_2, sX5_room_5, sX5_room_8, sX5_room_9, sX5_room_10, sX5_room_13, sX5_room_14, sX5_room_15, sX5_room_16, sX5_room_19, sX5_room_22, sX5_room_23, sX5_room_25, sX5_room_28, sX5_room_31, sX5_room_32, sX5_room_33, sX5_room_36, sX5_room_37, sX5_room_38, sX5_room_39, sX5_room_42, sX5_room_43, sX5_room_44, sX5_room_46, sX5_room_48, sX5_room_51, sX5_room_52, sX5_room_53, sX5_room_54, sX5_room_57, sX5_room_60, sX5_room_61, sX5_room_62, sX5_room_65, sX5_room_68, sX5_room_69, sX5_room_70, sX5_room_73, opK_some, guK_true, calK_some, rk_nil, rk_int, rk_ref, tl_some, tl_none, nb_int, nb_0, nb_1, nb_if, nb_if', q0, hset, if_neg hx, zero_eq, if_true, C_xf0]
    · rw [nX6_room]
      simp only [sX6_room_0, sX6_room_1, sX6_room_2, sX6_room_5, sX6_room_8, sX6_room_9, sX6_room_11, sX6_room_14, sX6_room_15, sX6_room_16, sX6_room_17, sX6_room_18, sX6_room_21, sX6_room_22, sX6_room_23, sX6_room_24, sX6_room_27, sX6_room_28, sX6_room_30, sX6_room_33, sX6_room_36, sX6_room_37, sX6_room_39, sX6_room_42, sX6_room_43, sX6_room_44, sX6_room_47, sX6_room_48, sX6_room_51, sX6_room_54, sX6_room_55, sX6_room_56, sX6_room_59, sX6_room_60, sX6_room_61, sX6_room_62, sX6_room_64, sX6_room_66, sX6_room_69, sX6_room_70, sX6_room_73, sX6_room_74, sX6_room_77, sX6_room_78, sX6_room_79, sX6_room_80, sX6_room_81, sX6_room_84, sX6_room_87, sX6_room_88, sX6_room_91, sX6_room_92, sX6_room_93, sX6_room_96, sX6_room_99, sX6_room_100, sX6_room_103, sX6_room_104, sX6_room_106, sX6_room_109, sX6_room_112, sX6_room_113, opK_some, guK_true, calK_some, rk_nil, rk_int, rk_ref, tl_some, tl_none, nb_int, nb_0, nb_1, nb_if, nb_if', q130, mset' (fX M 0) fX_131, if_neg hx, zero_eq, if_true, C_mf0]

