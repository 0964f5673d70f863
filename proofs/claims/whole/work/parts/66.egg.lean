/-! calls: egg, home -/
theorem kept_x {e : Nat} (h : e < 2 ^ 31) : (if (12 : Int32) < nI e then (12 : Int32) else nI e) = nI (min e 12) := by
  by_cases c : 12 < e
  · rw [if_pos (show (12 : Int32) < nI e from nI_lt (a := 12) c h), Nat.min_eq_right (by omega)]
    rfl
  · rw [if_neg (show ¬ (12 : Int32) < nI e from nI_nlt (a := 12) (by omega) (by omega)), Nat.min_eq_left (by omega)]
theorem kept_m {e : Nat} (h : e < 2 ^ 31) : (if nI e < (12 : Int32) then nI e else (12 : Int32)) = nI (min e 12) := mn12_nI h
theorem C_x_eggsKept {d f e : Nat} {M : Mem} (hf : isFarm f) (he : M f 3 = nI e) (h : e < 2 ^ 31) : call (d + 1) 20 [.ref f] M = some (some (.int (nI (min e 12))), M) := by
  rw [nX0_eggsKept]
  simp only [sX0_eggsKept_0, sX0_eggsKept_1, sX0_eggsKept_4, sX0_eggsKept_6, sX0_eggsKept_9, opK_some, guK_true, calK_some, rk_nil, rk_int, rk_ref, tl_some, tl_none, nb_int, nb_0, nb_1, nb_if, nb_if', fs_3 hf, he, kept_x h]
theorem C_m_eggsKept {d e : Nat} {M : Mem} (he : M 131 5 = nI e) (h : e < 2 ^ 31) : call (d + 1) 158 [.ref 130] M = some (some (.int (nI (min e 12))), M) := by
  rw [nX6_eggsKept]
  simp only [sX6_eggsKept_0, sX6_eggsKept_2, sX6_eggsKept_3, sX6_eggsKept_6, sX6_eggsKept_7, sX6_eggsKept_8, sX6_eggsKept_11, opK_some, guK_true, calK_some, rk_nil, rk_int, rk_ref, tl_some, tl_none, nb_int, nb_0, nb_1, nb_if, nb_if', o130_0, a131, ib_5_132, tn_5, he, kept_m h]
theorem C_m_eggAt {d e i c : Nat} {M : Mem} (he : M 131 5 = nI e) (h : e < 2 ^ 31) (hi : i < e) (hc : c < 3) : call (d + 1) 159 [.ref 130, .int (nI i), .int (nI c)] M = some (some (.int (egR (M 131) i c)), M) := by
  have e1 : nI e - 1 - nI i = nI (e - 1 - i) := by rw [pk_sub1 (by omega), pk_sub (by omega)]
  have e2 : (96 : Int32) + 3 * (nI (e - 1 - i) - nI (e - 1 - i) / 12 * 12) + nI c = nI (96 + 3 * ((e - 1 - i) % 12) + c) := by rw [I96 (by omega), nI_add]
  have em := Nat.mod_lt (e - 1 - i) (show 0 < 12 by omega)
  have ei : iN (M 131 5) = e := by rw [he, iN_nI h]
  rw [nX6_eggAt]
  simp only [sX6_eggAt_0, sX6_eggAt_1, sX6_eggAt_4, sX6_eggAt_6, sX6_eggAt_7, sX6_eggAt_8, sX6_eggAt_11, sX6_eggAt_12, sX6_eggAt_13, sX6_eggAt_14, sX6_eggAt_15, sX6_eggAt_16, sX6_eggAt_17, sX6_eggAt_19, sX6_eggAt_20, sX6_eggAt_21, sX6_eggAt_22, sX6_eggAt_23, sX6_eggAt_24, sX6_eggAt_25, opK_some, guK_true, calK_some, rk_nil, rk_int, rk_ref, tl_some, tl_none, nb_int, nb_0, nb_1, nb_if, nb_if', o130_0, a131, ib_5_132, tn_5, he, e1, show decide (¬ ((12 : Int32) = 0)) = true from rfl, e2, inb_nI (show 96 + 3 * ((e - 1 - i) % 12) + c < 132 by omega) (by omega), nI_clamp (show 96 + 3 * ((e - 1 - i) % 12) + c < 2 ^ 31 by omega)]
  unfold egR
  rw [ei]
theorem j_eg {M : Mem} (j : J M) : ∃ e, e < 10000 ∧ M 131 5 = nI e ∧ M 100 3 = nI e ∧ ∀ c, c < 3 → ∀ i, i < 12 → i < e → M (101 + c) i = egR (M 131) i c := by
  have w := j.1.1.1
  refine ⟨iN (M 131 5), by have := w.2.2.1; have := w.2.1.1; omega, w.2.2.2, j.1.2.2.1.2.2.1.trans w.2.2.2, fun c hc i hi hl => j.1.2.2.2.1 c hc i hi hl⟩
theorem sw_e0 {f : Nat → Option Rs} : jmpK 37 (Op.lookupswitch.offset [(0, 27), (1, 37)] 47 (nI 0).toInt) f = f 64 := rfl
theorem sw_e1 {f : Nat → Option Rs} : jmpK 37 (Op.lookupswitch.offset [(0, 27), (1, 37)] 47 (nI 1).toInt) f = f 74 := rfl
theorem sw_e2 {f : Nat → Option Rs} : jmpK 37 (Op.lookupswitch.offset [(0, 27), (1, 37)] 47 (nI 2).toInt) f = f 84 := rfl
theorem X_egg {d : Nat} {M : Mem} {x y : Int32} (j : J M) : Two (d + 2) 22 (d + 2) 161 [.int x, .int y] M := by
  obtain ⟨e, he, em, ex, eg⟩ := j_eg j
  by_cases hg : ¬ x < 0 ∧ 0 ≤ y ∧ y ≤ 2
  · obtain ⟨hx, hy⟩ := hg
    obtain ⟨i, hi, rfl⟩ := nI_of hx
    obtain ⟨c, hc, rfl⟩ : ∃ c, c ≤ 2 ∧ y = nI c := nI_of2 (M := 2) (n := 2) rfl (Int32.not_lt.mpr hy.1) hy.2
    have kx := C_x_eggsKept (d := d + 0) farm100 ex (by omega)
    rw [show d + 0 + 1 = d + 1 from rfl] at kx
    have km : ∀ M2 : Mem, M2 131 = M 131 → call (d + 1) 158 [.ref 130] M2 = some (some (.int (nI (min e 12))), M2) := by
      intro M2 e2
      have := C_m_eggsKept (d := d + 0) (M := M2) (e := e) (by rw [e2]; exact em) (by omega)
      rw [show d + 0 + 1 = d + 1 from rfl] at this
      exact this
    by_cases hl : i < min e 12
    · have ca := C_m_eggAt (d := d + 0) (i := i) (c := c) em (by omega) (by omega) (by omega)
      rw [show d + 0 + 1 = d + 1 from rfl] at ca
      have i12 : i < 12 := by omega
      have lx : nI i < nI (min e 12) := nI_lt hl (by omega)
      have lm : ¬ nI (min e 12) ≤ nI i := nI_ge hl (by omega)
      refine ⟨M, M, egR (M 131) i c, ?_, ?_, j⟩
      · rw [nX5_egg]
        simp only [sX5_egg_0, sX5_egg_1, sX5_egg_4, sX5_egg_5, sX5_egg_6, sX5_egg_7, sX5_egg_10, sX5_egg_13, sX5_egg_14, sX5_egg_15, sX5_egg_18, sX5_egg_19, sX5_egg_20, sX5_egg_21, sX5_egg_24, sX5_egg_27, sX5_egg_30, sX5_egg_31, sX5_egg_32, sX5_egg_35, sX5_egg_36, sX5_egg_64, sX5_egg_65, sX5_egg_68, sX5_egg_71, sX5_egg_72, sX5_egg_73, sX5_egg_74, sX5_egg_75, sX5_egg_78, sX5_egg_81, sX5_egg_82, sX5_egg_83, sX5_egg_84, sX5_egg_85, sX5_egg_88, sX5_egg_91, sX5_egg_92, sX5_egg_93, opK_some, guK_true, calK_some, rk_nil, rk_int, rk_ref, tl_some, tl_none, nb_int, nb_0, nb_1, nb_if, nb_if', q0, o0_0, C_x_within, hx, hy, and_self, if_true, one_ne, if_false, farm_c farm100, kx, lx]
        rcases (show c = 0 ∨ c = 1 ∨ c = 2 by omega) with rfl | rfl | rfl
        · rw [sX5_egg_37, sw_e0]
          simp only [sX5_egg_0, sX5_egg_1, sX5_egg_4, sX5_egg_5, sX5_egg_6, sX5_egg_7, sX5_egg_10, sX5_egg_13, sX5_egg_14, sX5_egg_15, sX5_egg_18, sX5_egg_19, sX5_egg_20, sX5_egg_21, sX5_egg_24, sX5_egg_27, sX5_egg_30, sX5_egg_31, sX5_egg_32, sX5_egg_35, sX5_egg_36, sX5_egg_64, sX5_egg_65, sX5_egg_68, sX5_egg_71, sX5_egg_72, sX5_egg_73, sX5_egg_74, sX5_egg_75, sX5_egg_78, sX5_egg_81, sX5_egg_82, sX5_egg_83, sX5_egg_84, sX5_egg_85, sX5_egg_88, sX5_egg_91, sX5_egg_92, sX5_egg_93, opK_some, guK_true, calK_some, rk_nil, rk_int, rk_ref, tl_some, tl_none, nb_int, nb_0, nb_1, nb_if, nb_if', o0_0, o100_5, a101, inb_nI i12 (by omega), nI_clamp (show i < 2 ^ 31 by omega)]
          rw [← eg 0 (by omega) i i12 (by omega)]
        · rw [sX5_egg_37, sw_e1]
          simp only [sX5_egg_0, sX5_egg_1, sX5_egg_4, sX5_egg_5, sX5_egg_6, sX5_egg_7, sX5_egg_10, sX5_egg_13, sX5_egg_14, sX5_egg_15, sX5_egg_18, sX5_egg_19, sX5_egg_20, sX5_egg_21, sX5_egg_24, sX5_egg_27, sX5_egg_30, sX5_egg_31, sX5_egg_32, sX5_egg_35, sX5_egg_36, sX5_egg_64, sX5_egg_65, sX5_egg_68, sX5_egg_71, sX5_egg_72, sX5_egg_73, sX5_egg_74, sX5_egg_75, sX5_egg_78, sX5_egg_81, sX5_egg_82, sX5_egg_83, sX5_egg_84, sX5_egg_85, sX5_egg_88, sX5_egg_91, sX5_egg_92, sX5_egg_93, opK_some, guK_true, calK_some, rk_nil, rk_int, rk_ref, tl_some, tl_none, nb_int, nb_0, nb_1, nb_if, nb_if', o0_0, o100_6, a102, inb_nI i12 (by omega), nI_clamp (show i < 2 ^ 31 by omega)]
          rw [← eg 1 (by omega) i i12 (by omega)]
        · rw [sX5_egg_37, sw_e2]
          simp only [sX5_egg_0, sX5_egg_1, sX5_egg_4, sX5_egg_5, sX5_egg_6, sX5_egg_7, sX5_egg_10, sX5_egg_13, sX5_egg_14, sX5_egg_15, sX5_egg_18, sX5_egg_19, sX5_egg_20, sX5_egg_21, sX5_egg_24, sX5_egg_27, sX5_egg_30, sX5_egg_31, sX5_egg_32, sX5_egg_35, sX5_egg_36, sX5_egg_64, sX5_egg_65, sX5_egg_68, sX5_egg_71, sX5_egg_72, sX5_egg_73, sX5_egg_74, sX5_egg_75, sX5_egg_78, sX5_egg_81, sX5_egg_82, sX5_egg_83, sX5_egg_84, sX5_egg_85, sX5_egg_88, sX5_egg_91, sX5_egg_92, sX5_egg_93, opK_some, guK_true, calK_some, rk_nil, rk_int, rk_ref, tl_some, tl_none, nb_int, nb_0, nb_1, nb_if, nb_if', o0_0, o100_7, a103, inb_nI i12 (by omega), nI_clamp (show i < 2 ^ 31 by omega)]
          rw [← eg 2 (by omega) i i12 (by omega)]
      · rw [nX6_egg]
        simp only [sX6_egg_0, sX6_egg_1, sX6_egg_4, sX6_egg_5, sX6_egg_6, sX6_egg_7, sX6_egg_10, sX6_egg_13, sX6_egg_14, sX6_egg_16, sX6_egg_19, sX6_egg_20, sX6_egg_21, sX6_egg_22, sX6_egg_25, sX6_egg_28, sX6_egg_29, sX6_egg_30, sX6_egg_31, sX6_egg_34, sX6_egg_37, sX6_egg_38, sX6_egg_40, sX6_egg_43, opK_some, guK_true, calK_some, rk_nil, rk_int, rk_ref, tl_some, tl_none, nb_int, nb_0, nb_1, nb_if, nb_if', q130, C_m_within, hx, hy, and_self, if_true, one_ne, if_false, km M rfl, lm, ca]
    · have lx : ¬ nI i < nI (min e 12) := nI_nlt (by omega) (by omega)
      have lm : nI (min e 12) ≤ nI i := nI_le (by omega) hi
      refine ⟨fX M 3, fM (fX M 3) 3, -1000004, ?_, ?_, J_fin j (by omega)⟩
      · rw [nX5_egg]
        simp only [sX5_egg_0, sX5_egg_1, sX5_egg_4, sX5_egg_5, sX5_egg_6, sX5_egg_7, sX5_egg_10, sX5_egg_13, sX5_egg_14, sX5_egg_15, sX5_egg_18, sX5_egg_19, sX5_egg_20, sX5_egg_21, sX5_egg_24, sX5_egg_27, sX5_egg_30, sX5_egg_31, sX5_egg_32, sX5_egg_35, sX5_egg_36, sX5_egg_64, sX5_egg_65, sX5_egg_68, sX5_egg_71, sX5_egg_72, sX5_egg_73, sX5_egg_74, sX5_egg_75, sX5_egg_78, sX5_egg_81, sX5_egg_82, sX5_egg_83, sX5_egg_84, sX5_egg_85, sX5_egg_88, sX5_egg_91, sX5_egg_92, sX5_egg_93, opK_some, guK_true, calK_some, rk_nil, rk_int, rk_ref, tl_some, tl_none, nb_int, nb_0, nb_1, nb_if, nb_if', q0, o0_0, C_x_within, hx, hy, and_self, if_true, one_ne, if_false, farm_c farm100, kx, lx, C_xf3]
      · rw [nX6_egg]
        simp only [sX6_egg_0, sX6_egg_1, sX6_egg_4, sX6_egg_5, sX6_egg_6, sX6_egg_7, sX6_egg_10, sX6_egg_13, sX6_egg_14, sX6_egg_16, sX6_egg_19, sX6_egg_20, sX6_egg_21, sX6_egg_22, sX6_egg_25, sX6_egg_28, sX6_egg_29, sX6_egg_30, sX6_egg_31, sX6_egg_34, sX6_egg_37, sX6_egg_38, sX6_egg_40, sX6_egg_43, opK_some, guK_true, calK_some, rk_nil, rk_int, rk_ref, tl_some, tl_none, nb_int, nb_0, nb_1, nb_if, nb_if', q130, C_m_within, hx, hy, and_self, if_true, one_ne, if_false, km (fX M 3) fX_131, lm, C_mf3]
  · refine ⟨fX M 0, fM (fX M 0) 0, -1000001, ?_, ?_, J_fin j (by omega)⟩
    · rw [nX5_egg]
      by_cases hx : x < 0
      · simp only [sX5_egg_0, sX5_egg_1, sX5_egg_4, sX5_egg_5, sX5_egg_6, sX5_egg_7, sX5_egg_10, sX5_egg_13, sX5_egg_14, sX5_egg_15, sX5_egg_18, sX5_egg_19, sX5_egg_20, sX5_egg_21, sX5_egg_24, sX5_egg_27, sX5_egg_30, sX5_egg_31, sX5_egg_32, sX5_egg_35, sX5_egg_36, sX5_egg_64, sX5_egg_65, sX5_egg_68, sX5_egg_71, sX5_egg_72, sX5_egg_73, sX5_egg_74, sX5_egg_75, sX5_egg_78, sX5_egg_81, sX5_egg_82, sX5_egg_83, sX5_egg_84, sX5_egg_85, sX5_egg_88, sX5_egg_91, sX5_egg_92, sX5_egg_93, opK_some, guK_true, calK_some, rk_nil, rk_int, rk_ref, tl_some, tl_none, nb_int, nb_0, nb_1, nb_if, nb_if', q0, hx, if_true, C_xf0]
      · have hy : ¬ (0 ≤ y ∧ y ≤ 2) := fun z => hg ⟨hx, z⟩
        simp only [sX5_egg_0, sX5_egg_1, sX5_egg_4, sX5_egg_5, sX5_egg_6, sX5_egg_7, sX5_egg_10, sX5_egg_13, sX5_egg_14, sX5_egg_15, sX5_egg_18, sX5_egg_19, sX5_egg_20, sX5_egg_21, sX5_egg_24, sX5_egg_27, sX5_egg_30, sX5_egg_31, sX5_egg_32, sX5_egg_35, sX5_egg_36, sX5_egg_64, sX5_egg_65, sX5_egg_68, sX5_egg_71, sX5_egg_72, sX5_egg_73, sX5_egg_74, sX5_egg_75, sX5_egg_78, sX5_egg_81, sX5_egg_82, sX5_egg_83, sX5_egg_84, sX5_egg_85, sX5_egg_88, sX5_egg_91, sX5_egg_92, sX5_egg_93, opK_some, guK_true, calK_some, rk_nil, rk_int, rk_ref, tl_some, tl_none, nb_int, nb_0, nb_1, nb_if, nb_if', q0, C_x_within, hx, hy, if_true, zero_eq, if_false, C_xf0]
    · rw [nX6_egg]
      by_cases hx : x < 0
      · simp only [sX6_egg_0, sX6_egg_1, sX6_egg_4, sX6_egg_5, sX6_egg_6, sX6_egg_7, sX6_egg_10, sX6_egg_13, sX6_egg_14, sX6_egg_16, sX6_egg_19, sX6_egg_20, sX6_egg_21, sX6_egg_22, sX6_egg_25, sX6_egg_28, sX6_egg_29, sX6_egg_30, sX6_egg_31, sX6_egg_34, sX6_egg_37, sX6_egg_38, sX6_egg_40, sX6_egg_43, opK_some, guK_true, calK_some, rk_nil, rk_int, rk_ref, tl_some, tl_none, nb_int, nb_0, nb_1, nb_if, nb_if', q130, hx, if_true, C_mf0]
      · have hy : ¬ (0 ≤ y ∧ y ≤ 2) := fun z => hg ⟨hx, z⟩
        simp only [sX6_egg_0, sX6_egg_1, sX6_egg_4, sX6_egg_5, sX6_egg_6, sX6_egg_7, sX6_egg_10, sX6_egg_13, sX6_egg_14, sX6_egg_16, sX6_egg_19, sX6_egg_20, sX6_egg_21, sX6_egg_22, sX6_egg_25, sX6_egg_28, sX6_egg_29, sX6_egg_30, sX6_egg_31, sX6_egg_34, sX6_egg_37, sX6_egg_38, sX6_egg_40, sX6_egg_43, opK_some, guK_true, calK_some, rk_nil, rk_int, rk_ref, tl_some, tl_none, nb_int, nb_0, nb_1, nb_if, nb_if', q130, C_m_within, hx, hy, if_true, zero_eq, if_false, C_mf0]
theorem L_latest {d f e : Nat} {t : Int32} {M : Mem} {r : Rw} (hf : isFarm f) (he : M f 3 = nI e) (h31 : e < 2 ^ 31) (eg : ∀ c, c < 3 → ∀ i, i < 12 → i < e → M (f + 1 + c) i = egR r i c) : ∀ (m i : Nat), i + m = min e 12 →
    lim (call (d + 1)) none 0 cX0_latestWorth (some .int) 2 [some (.ref f), some (.int t), some (.int (nI i))] [] M = some (some (.int (latR r t i m)), M) := by
  have kx := C_x_eggsKept (d := d + 0) hf he h31
  rw [show d + 0 + 1 = d + 1 from rfl] at kx
  intro m
  induction m with
  | zero =>
    intro i hi
    rw [sX0_latestWorth_2]
    simp only [sX0_latestWorth_0, sX0_latestWorth_1, sX0_latestWorth_3, sX0_latestWorth_4, sX0_latestWorth_7, sX0_latestWorth_10, sX0_latestWorth_11, sX0_latestWorth_14, sX0_latestWorth_15, sX0_latestWorth_16, sX0_latestWorth_17, sX0_latestWorth_20, sX0_latestWorth_21, sX0_latestWorth_24, sX0_latestWorth_25, sX0_latestWorth_26, sX0_latestWorth_27, sX0_latestWorth_30, sX0_latestWorth_33, sX0_latestWorth_34, opK_some, guK_true, calK_some, rk_nil, rk_int, rk_ref, tl_some, tl_none, nb_int, nb_0, nb_1, nb_if, nb_if', farm_c hf, kx]
    rw [if_pos (show nI (min e 12) ≤ nI i from nI_le (by omega) (by omega))]
    rfl
  | succ m ih =>
    intro i hi
    have i12 : i < 12 := by omega
    have e0 : M (f + 1) i = egR r i 0 := eg 0 (by omega) i i12 (by omega)
    have e1 : M (f + 2) i = egR r i 1 := eg 1 (by omega) i i12 (by omega)
    rw [sX0_latestWorth_2]
    simp only [sX0_latestWorth_0, sX0_latestWorth_1, sX0_latestWorth_3, sX0_latestWorth_4, sX0_latestWorth_7, sX0_latestWorth_10, sX0_latestWorth_11, sX0_latestWorth_14, sX0_latestWorth_15, sX0_latestWorth_16, sX0_latestWorth_17, sX0_latestWorth_20, sX0_latestWorth_21, sX0_latestWorth_24, sX0_latestWorth_25, sX0_latestWorth_26, sX0_latestWorth_27, sX0_latestWorth_30, sX0_latestWorth_33, sX0_latestWorth_34, opK_some, guK_true, calK_some, rk_nil, rk_int, rk_ref, tl_some, tl_none, nb_int, nb_0, nb_1, nb_if, nb_if', farm_c hf, kx, fs_5 hf, fs_6 hf, fa_1 hf, fa_2 hf, inb_nI i12 (by omega), nI_clamp (show i < 2 ^ 31 by omega), e0, e1, nI_1]
    rw [if_neg (show ¬ nI (min e 12) ≤ nI i from nI_ge (by omega) (by omega))]
    by_cases c : egR r i 0 = t
    · have ek : latR r t i (m + 1) = egR r i 1 := if_pos c
      rw [if_pos c, ek]
    · have ek : latR r t i (m + 1) = latR r t (i + 1) m := if_neg c
      rw [if_neg c, ek]
      exact ih (i + 1) (by omega)
/-- from the oldest on: the later ones count -/
theorem L_m_home {d e t : Nat} {M : Mem} (he : M 131 5 = nI e) (h31 : e < 2 ^ 31) : ∀ (k m : Nat), k + m = min e 12 →
    lim (call (d + 3)) none 6 cX6_home (some .int) 46 [some (.ref 130), some (.int (nI t)), some (.int (latR (M 131) (nI t) k m)), some (.int (ixI k))] [] M = some (some (.int (latR (M 131) (nI t) 0 (min e 12))), M) := by
  intro k
  induction k with
  | zero =>
    intro m hm
    obtain rfl : m = min e 12 := by omega
    rw [sX6_home_46]
    simp only [sX6_home_0, sX6_home_1, sX6_home_2, sX6_home_5, sX6_home_8, sX6_home_9, sX6_home_11, sX6_home_14, sX6_home_15, sX6_home_16, sX6_home_17, sX6_home_18, sX6_home_21, sX6_home_24, sX6_home_25, sX6_home_27, sX6_home_30, sX6_home_31, sX6_home_32, sX6_home_33, sX6_home_34, sX6_home_37, sX6_home_38, sX6_home_39, sX6_home_40, sX6_home_43, sX6_home_44, sX6_home_45, sX6_home_47, sX6_home_50, sX6_home_51, sX6_home_52, sX6_home_53, sX6_home_56, sX6_home_57, sX6_home_60, sX6_home_61, sX6_home_62, sX6_home_63, sX6_home_66, sX6_home_69, sX6_home_70, sX6_home_71, sX6_home_74, sX6_home_77, sX6_home_78, opK_some, guK_true, calK_some, rk_nil, rk_int, rk_ref, tl_some, tl_none, nb_int, nb_0, nb_1, nb_if, nb_if']
    rw [show ixI 0 = -1 from rfl, if_pos (by decide)]
  | succ k ih =>
    intro m hm
    have hn : ¬ nI k < 0 := nI_nlt (b := 0) (by omega) (by omega)
    have c0 : call (d + 3) 159 [.ref 130, .int (nI k), .int 0] M = some (some (.int (egR (M 131) k 0)), M) := C_m_eggAt (d := d + 2) (i := k) (c := 0) he h31 (by omega) (by omega)
    have c1 : call (d + 3) 159 [.ref 130, .int (nI k), .int 1] M = some (some (.int (egR (M 131) k 1)), M) := C_m_eggAt (d := d + 2) (i := k) (c := 1) he h31 (by omega) (by omega)
    have fin := ih (m + 1) (by omega)
    rw [sX6_home_46]
    simp only [sX6_home_0, sX6_home_1, sX6_home_2, sX6_home_5, sX6_home_8, sX6_home_9, sX6_home_11, sX6_home_14, sX6_home_15, sX6_home_16, sX6_home_17, sX6_home_18, sX6_home_21, sX6_home_24, sX6_home_25, sX6_home_27, sX6_home_30, sX6_home_31, sX6_home_32, sX6_home_33, sX6_home_34, sX6_home_37, sX6_home_38, sX6_home_39, sX6_home_40, sX6_home_43, sX6_home_44, sX6_home_45, sX6_home_47, sX6_home_50, sX6_home_51, sX6_home_52, sX6_home_53, sX6_home_56, sX6_home_57, sX6_home_60, sX6_home_61, sX6_home_62, sX6_home_63, sX6_home_66, sX6_home_69, sX6_home_70, sX6_home_71, sX6_home_74, sX6_home_77, sX6_home_78, opK_some, guK_true, calK_some, rk_nil, rk_int, rk_ref, tl_some, tl_none, nb_int, nb_0, nb_1, nb_if, nb_if', show ixI (k + 1) = nI k from rfl, hn, if_false, q130, c0, c1, ix_dn]
    by_cases c : egR (M 131) k 0 = nI t
    · have ek : latR (M 131) (nI t) k (m + 1) = egR (M 131) k 1 := if_pos c
      rw [ek] at fin
      rw [if_pos c]
      exact fin
    · have ek : latR (M 131) (nI t) k (m + 1) = latR (M 131) (nI t) (k + 1) m := if_neg c
      rw [ek] at fin
      rw [if_neg c]
      exact fin
theorem upd_same {f : Nat → Int32} {k : Nat} {v : Int32} (h : f k = v) : upd f k v = f := by rw [← h, upd_self]
theorem bec_0 {r : Rw} {t : Nat} (k : KR r) (ht : t < 10) (h : ¬ r (at9 t 4) = 1) : becR r t 0 = upd r (at9 t 4) 0 := by
  obtain ⟨h5, h6⟩ := k.1.1 t ht h
  unfold becR
  rw [upd_same (show upd r (at9 t 4) 0 (at9 t 5) = 0 by rw [upd_ne (by unfold at9; omega)]; exact h5), upd_same (by rw [upd_ne (by unfold at9; omega)]; exact h6)]
theorem IR_home {r : Rw} {t : Nat} (i : IR r) (ht : t < 10) (h : r (at9 t 4) = 2) : IR (upd r (at9 t 4) 0) := by
  have g := at9_ge t 4
  have l := at9_lt (f := 4) ht (by omega)
  have e4 : nC (upd r (at9 t 4) 0) = nC r := by unfold nC; rw [upd_ne (by omega)]
  have e3 : nT (upd r (at9 t 4) 0) = nT r := by unfold nT; rw [upd_ne (by omega)]
  have ec : ∀ i, cr (upd r (at9 t 4) 0) i = cr r i := fun i => by unfold cr; rw [upd_ne (by omega)]
  have ea : ∀ u f', f' < 7 → f' ≠ 4 → upd r (at9 t 4) 0 (at9 u f') = r (at9 u f') := fun u f' h7 h4 => upd_ne (fun z => absurd (at9_inj h7 (by omega) z).2 h4)
  have e44 : ∀ u, upd r (at9 t 4) 0 (at9 u 4) = if u = t then 0 else r (at9 u 4) := by
    intro u
    by_cases c : u = t
    · rw [c, upd_at, if_pos rfl]
    · rw [upd_ne (fun z => c (at9_inj (by omega) (by omega) z).1), if_neg c]
  obtain ⟨w, i0, i5⟩ := i.1
  obtain ⟨⟨k1, k2, k3, k4, k5⟩, k6, k7⟩ := i.2
  refine ⟨⟨⟨by rw [upd_ne (by omega)]; exact w.1, by rw [upd_ne (by omega)]; exact w.2.1, fun q hq => ?_, fun u hu => ?_⟩, by rw [upd_ne (by omega)]; exact i0, by rw [upd_ne (by omega), upd_ne (by omega)]; exact i5⟩, ⟨fun u hu => ?_, fun q hq => ?_, fun u hu h1 => ?_, fun q m him hm => ?_, fun s hs => ?_⟩, by rw [upd_ne (by omega)]; exact k6, by rw [upd_ne (by omega)]; exact k7⟩
  · rw [e4] at hq
    rw [upd_ne (by omega)]
    exact w.2.2.1 q hq
  · rw [ea u 0 (by omega) (by omega), ea u 1 (by omega) (by omega), ea u 2 (by omega) (by omega), ea u 3 (by omega) (by omega), ea u 6 (by omega) (by omega)]
    exact w.2.2.2 u hu
  · rw [e44, ea u 5 (by omega) (by omega), ea u 6 (by omega) (by omega)]
    intro hn
    by_cases c : u = t
    · subst c
      exact k1 u hu (by rw [h]; decide)
    · rw [if_neg c] at hn
      exact k1 u hu hn
  · rw [e4] at hq
    obtain ⟨a, b⟩ := k2 q hq
    rw [ec, e3, e44]
    have c : ¬ cr r q = t := by
      intro z
      rw [z, h] at b
      exact absurd b (by decide)
    rw [if_neg c]
    exact ⟨a, b⟩
  · rw [e44] at h1
    by_cases c : u = t
    · rw [if_pos c] at h1
      exact absurd h1 (by decide)
    · rw [if_neg c] at h1
      obtain ⟨q, hq, e⟩ := k3 u hu h1
      exact ⟨q, by rw [e4]; exact hq, by rw [ec]; exact e⟩
  · rw [e4] at hm
    rw [ec, ec]
    exact k4 q m him hm
  · rw [upd_ne (by omega), e3]
    exact k5 s hs
theorem X_home {d : Nat} {M : Mem} {x : Int32} (j : J M) : Two (d + 3) 18 (d + 4) 157 [.int x] M := by
  have w := j_wr j
  have h := j_hr j
  have e0 : M 10 0 = M 131 3 := h.1.1
  by_cases hT : 0 ≤ x ∧ x ≤ M 131 3 - 1
  · obtain ⟨t, _, ht, rfl⟩ := thing_of w hT
    have e5 : M 15 t = M 131 (at9 t 4) := h.2.1 4 (by omega) t ht
    by_cases h2 : M 131 (at9 t 4) = 2
    · obtain ⟨e, he, em, ex, eg⟩ := j_eg j
      obtain ⟨M1, hM1⟩ : ∃ M1, M1 = mset M 15 t 0 := ⟨_, rfl⟩
      have o1 : Ou 10 M M1 := by rw [hM1]; exact Ou.set (b := 10) (j := 5) (by omega)
      have h1 : HR M1 10 (upd (M 131) (at9 t 4) 0) := by rw [hM1]; exact HR_cell (f := 4) h (by omega) ht
      have e131 : M1 131 = M 131 := o1 131 (by omega)
      have c1 : lim (call (d + 0 + 1)) none 0 cX0_latestWorth (some .int) 2 [some (.ref 100), some (.int (nI t)), some (.int (nI 0))] [] M1 = some (some (.int (latR (M 131) (nI t) 0 (min e 12))), M1) := L_latest (d := d + 0) farm100 (by rw [o1 100 (by omega)]; exact ex) (by omega) (fun c hc i hi hl => by rw [o1 (100 + 1 + c) (by omega)]; exact eg c hc i hi hl) (min e 12) 0 (by omega)
      have c1' : call (d + 2) 19 [.ref 100, .int (nI t)] M1 = some (some (.int (latR (M 131) (nI t) 0 (min e 12))), M1) := by
        rw [show d + 2 = d + 0 + 2 from rfl, nX0_latestWorth]
        simp only [sX0_latestWorth_0, sX0_latestWorth_1, sX0_latestWorth_3, sX0_latestWorth_4, sX0_latestWorth_7, sX0_latestWorth_10, sX0_latestWorth_11, sX0_latestWorth_14, sX0_latestWorth_15, sX0_latestWorth_16, sX0_latestWorth_17, sX0_latestWorth_20, sX0_latestWorth_21, sX0_latestWorth_24, sX0_latestWorth_25, sX0_latestWorth_26, sX0_latestWorth_27, sX0_latestWorth_30, sX0_latestWorth_33, sX0_latestWorth_34, opK_some, guK_true, calK_some, rk_nil, rk_int, rk_ref, tl_some, tl_none, nb_int, nb_0, nb_1, nb_if, nb_if']
        exact c1
      have cb := C_m_becomesHow (d := d + 1) (M := M1) (x := 0) ht
      rw [show d + 1 + 2 = d + 3 from rfl] at cb
      rw [e131, bec_0 j.1.1.2 ht (by rw [h2]; decide)] at cb
      obtain ⟨M2, hM2⟩ : ∃ M2, M2 = mrow M1 131 (upd (M 131) (at9 t 4) 0) := ⟨_, rfl⟩
      rw [← hM2] at cb
      have r2 : M2 131 = upd (M 131) (at9 t 4) 0 := by rw [hM2, mrow_at]
      have g := at9_ge t 4
      have l := at9_lt (f := 4) ht (by omega)
      have em2 : M2 131 5 = nI e := by rw [r2, upd_ne (by omega)]; exact em
      have ck := C_m_eggsKept (d := d + 2) (M := M2) em2 (by omega)
      rw [show d + 2 + 1 = d + 3 from rfl] at ck
      have elat : ∀ n i, latR (M2 131) (nI t) i n = latR (M 131) (nI t) i n := by
        intro n
        induction n with
        | zero => intro i; rfl
        | succ n ih =>
          intro i
          have ee : ∀ c, egR (M2 131) i c = egR (M 131) i c := fun c => by
            unfold egR
            rw [r2, upd_ne (show 5 ≠ at9 t 4 by omega), upd_ne (by omega)]
          show (if egR (M2 131) i 0 = nI t then egR (M2 131) i 1 else latR (M2 131) (nI t) (i + 1) n) = (if egR (M 131) i 0 = nI t then egR (M 131) i 1 else latR (M 131) (nI t) (i + 1) n)
          rw [ee, ee, ih]
      have cl := L_m_home (d := d) (t := t) em2 (by omega) (min e 12) 0 (by omega)
      rw [elat, elat] at cl
      have ei : nI (min e 12) - 1 = ixI (min e 12) := by
        cases min e 12 with
        | zero => rfl
        | succ k => exact pk_sub1 (by omega)
      have hfr : FR M1 100 (upd (M 131) (at9 t 4) 0) := FR_hen j.1.2 h1 (fun q k1 _ => o1 q (by omega)) (fun i hi => upd_ne (by omega))
      refine ⟨M1, M2, latR (M 131) (nI t) 0 (min e 12), ?_, ?_, ?_⟩
      · rw [nX5_home]
        simp only [sX5_home_0, sX5_home_1, sX5_home_2, sX5_home_5, sX5_home_8, sX5_home_9, sX5_home_10, sX5_home_13, sX5_home_14, sX5_home_15, sX5_home_18, sX5_home_21, sX5_home_24, sX5_home_25, sX5_home_26, sX5_home_27, sX5_home_30, sX5_home_31, sX5_home_32, sX5_home_35, sX5_home_36, sX5_home_37, sX5_home_40, sX5_home_43, sX5_home_46, sX5_home_47, sX5_home_49, sX5_home_50, sX5_home_53, sX5_home_54, sX5_home_57, opK_some, guK_true, calK_some, rk_nil, rk_int, rk_ref, tl_some, tl_none, nb_int, nb_0, nb_1, nb_if, nb_if', q0, o0_0, o100_0, hs_5 hen10, ha_5 hen10, C_x_isThing, e0, hT, and_self, if_true, one_ne, if_false, inb_nI ht (by omega), nI_clamp (show t < 2 ^ 31 by omega), e5, h2]
        rw [sX5_home_48]
        simp only [sX5_home_0, sX5_home_1, sX5_home_2, sX5_home_5, sX5_home_8, sX5_home_9, sX5_home_10, sX5_home_13, sX5_home_14, sX5_home_15, sX5_home_18, sX5_home_21, sX5_home_24, sX5_home_25, sX5_home_26, sX5_home_27, sX5_home_30, sX5_home_31, sX5_home_32, sX5_home_35, sX5_home_36, sX5_home_37, sX5_home_40, sX5_home_43, sX5_home_46, sX5_home_47, sX5_home_49, sX5_home_50, sX5_home_53, sX5_home_54, sX5_home_57, opK_some, guK_true, calK_some, rk_nil, rk_int, rk_ref, tl_some, tl_none, nb_int, nb_0, nb_1, nb_if, nb_if', o0_0, farm_c farm100, hn_5 hen10, ha_5 hen10, inb_nI ht (by omega), nI_clamp (show t < 2 ^ 31 by omega), ← hM1, c1']
      · rw [nX6_home]
        simp only [sX6_home_0, sX6_home_1, sX6_home_2, sX6_home_5, sX6_home_8, sX6_home_9, sX6_home_11, sX6_home_14, sX6_home_15, sX6_home_16, sX6_home_17, sX6_home_18, sX6_home_21, sX6_home_24, sX6_home_25, sX6_home_27, sX6_home_30, sX6_home_31, sX6_home_32, sX6_home_33, sX6_home_34, sX6_home_37, sX6_home_38, sX6_home_39, sX6_home_40, sX6_home_43, sX6_home_44, sX6_home_45, sX6_home_47, sX6_home_50, sX6_home_51, sX6_home_52, sX6_home_53, sX6_home_56, sX6_home_57, sX6_home_60, sX6_home_61, sX6_home_62, sX6_home_63, sX6_home_66, sX6_home_69, sX6_home_70, sX6_home_71, sX6_home_74, sX6_home_77, sX6_home_78, opK_some, guK_true, calK_some, rk_nil, rk_int, rk_ref, tl_some, tl_none, nb_int, nb_0, nb_1, nb_if, nb_if', q130, C_m_isThing, C_m_isHow ht, e131, hT, h2, and_self, if_true, one_ne, if_false, cb, ck, ei]
        exact cl
      · rw [hM2]
        exact J_row j (IR_home j.1.1 ht h2) hfr (fun q hq => o1 q (by omega)) (by rw [o1 0 (by omega)]) (by rw [o1 7 (by omega)]) mrow_at (fun q _ k2 _ => mrow_ne k2) (by rw [mrow_ne (by omega)]) (by rw [mrow_ne (by omega)])
    · refine ⟨fX M 4, fM (fX M 4) 4, -1000005, ?_, ?_, J_fin j (by omega)⟩
      · rw [nX5_home]
        simp only [sX5_home_0, sX5_home_1, sX5_home_2, sX5_home_5, sX5_home_8, sX5_home_9, sX5_home_10, sX5_home_13, sX5_home_14, sX5_home_15, sX5_home_18, sX5_home_21, sX5_home_24, sX5_home_25, sX5_home_26, sX5_home_27, sX5_home_30, sX5_home_31, sX5_home_32, sX5_home_35, sX5_home_36, sX5_home_37, sX5_home_40, sX5_home_43, sX5_home_46, sX5_home_47, sX5_home_48, sX5_home_49, sX5_home_50, sX5_home_53, sX5_home_54, sX5_home_57, opK_some, guK_true, calK_some, rk_nil, rk_int, rk_ref, tl_some, tl_none, nb_int, nb_0, nb_1, nb_if, nb_if', q0, o0_0, o100_0, hs_5 hen10, ha_5 hen10, C_x_isThing, e0, hT, and_self, if_true, one_ne, if_false, inb_nI ht (by omega), nI_clamp (show t < 2 ^ 31 by omega), e5, h2, C_xf4]
      · rw [nX6_home]
        simp only [sX6_home_0, sX6_home_1, sX6_home_2, sX6_home_5, sX6_home_8, sX6_home_9, sX6_home_11, sX6_home_14, sX6_home_15, sX6_home_16, sX6_home_17, sX6_home_18, sX6_home_21, sX6_home_24, sX6_home_25, sX6_home_27, sX6_home_30, sX6_home_31, sX6_home_32, sX6_home_33, sX6_home_34, sX6_home_37, sX6_home_38, sX6_home_39, sX6_home_40, sX6_home_43, sX6_home_44, sX6_home_45, sX6_home_47, sX6_home_50, sX6_home_51, sX6_home_52, sX6_home_53, sX6_home_56, sX6_home_57, sX6_home_60, sX6_home_61, sX6_home_62, sX6_home_63, sX6_home_66, sX6_home_69, sX6_home_70, sX6_home_71, sX6_home_74, sX6_home_77, sX6_home_78, opK_some, guK_true, calK_some, rk_nil, rk_int, rk_ref, tl_some, tl_none, nb_int, nb_0, nb_1, nb_if, nb_if', q130, C_m_isThing, C_m_isHow ht, fX_131, hT, h2, and_self, if_true, one_ne, zero_eq, if_false, C_mf4]
  · refine ⟨fX M 0, fM (fX M 0) 0, -1000001, ?_, ?_, J_fin j (by omega)⟩
    · rw [nX5_home]
      simp only [sX5_home_0, sX5_home_1, sX5_home_2, sX5_home_5, sX5_home_8, sX5_home_9, sX5_home_10, sX5_home_13, sX5_home_14, sX5_home_15, sX5_home_18, sX5_home_21, sX5_home_24, sX5_home_25, sX5_home_26, sX5_home_27, sX5_home_30, sX5_home_31, sX5_home_32, sX5_home_35, sX5_home_36, sX5_home_37, sX5_home_40, sX5_home_43, sX5_home_46, sX5_home_47, sX5_home_48, sX5_home_49, sX5_home_50, sX5_home_53, sX5_home_54, sX5_home_57, opK_some, guK_true, calK_some, rk_nil, rk_int, rk_ref, tl_some, tl_none, nb_int, nb_0, nb_1, nb_if, nb_if', q0, C_x_isThing, e0, hT, if_true, zero_eq, if_false, C_xf0]
    · rw [nX6_home]
      simp only [sX6_home_0, sX6_home_1, sX6_home_2, sX6_home_5, sX6_home_8, sX6_home_9, sX6_home_11, sX6_home_14, sX6_home_15, sX6_home_16, sX6_home_17, sX6_home_18, sX6_home_21, sX6_home_24, sX6_home_25, sX6_home_27, sX6_home_30, sX6_home_31, sX6_home_32, sX6_home_33, sX6_home_34, sX6_home_37, sX6_home_38, sX6_home_39, sX6_home_40, sX6_home_43, sX6_home_44, sX6_home_45, sX6_home_47, sX6_home_50, sX6_home_51, sX6_home_52, sX6_home_53, sX6_home_56, sX6_home_57, sX6_home_60, sX6_home_61, sX6_home_62, sX6_home_63, sX6_home_66, sX6_home_69, sX6_home_70, sX6_home_71, sX6_home_74, sX6_home_77, sX6_home_78, opK_some, guK_true, calK_some, rk_nil, rk_int, rk_ref, tl_some, tl_none, nb_int, nb_0, nb_1, nb_if, nb_if', q130, C_m_isThing, fX_131, hT, if_true, zero_eq, if_false, C_mf0]

