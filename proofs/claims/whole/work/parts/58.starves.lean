/-! calls: starves -/
abbrev rdD (q : Rw) : Prop := readyG (gR q)
abbrev bkD (q : Rw) : Nat := iN (bulkR q)
theorem bk_e {q : Rw} (w : WR q) : bkD q ≤ 72 ∧ bulkR q = nI (bkD q) := by
  obtain ⟨j, h1, h2⟩ := bulk_le w
  have : bkD q = j := by
    show iN (bulkR q) = j
    rw [h2, iN_nI (by omega)]
  exact ⟨by omega, by rw [this]; exact h2⟩
def lsN (r : Rw) : Nat → Nat
  | 0 => 9
  | i + 1 => if rdD (dN r i) ∧ bkD (dN r i) < lsN r i then bkD (dN r i) else lsN r i
def hoN (r : Rw) (v : Nat) : Nat → Nat
  | 0 => 0
  | i + 1 => if rdD (dN r i) ∧ bkD (dN r i) < v then hoN r v i + 1 else hoN r v i
theorem ls_le (r : Rw) : ∀ i, lsN r i ≤ 9 := by
  intro i
  induction i with
  | zero => exact Nat.le_refl _
  | succ i ih =>
    show (if rdD (dN r i) ∧ bkD (dN r i) < lsN r i then bkD (dN r i) else lsN r i) ≤ 9
    split
    · rename_i h
      omega
    · exact ih
theorem ho_le (r : Rw) (v : Nat) : ∀ i, hoN r v i ≤ i := by
  intro i
  induction i with
  | zero => exact Nat.le_refl _
  | succ i ih =>
    show (if rdD (dN r i) ∧ bkD (dN r i) < v then hoN r v i + 1 else hoN r v i) ≤ i + 1
    split <;> omega
theorem ho_ls {r : Rw} {v : Nat} (hv : v ≤ 9) : ∀ i, hoN r v i = 0 ↔ v ≤ lsN r i := by
  intro i
  induction i with
  | zero => exact ⟨fun _ => hv, fun _ => rfl⟩
  | succ i ih =>
    show (if rdD (dN r i) ∧ bkD (dN r i) < v then hoN r v i + 1 else hoN r v i) = 0 ↔ v ≤ (if rdD (dN r i) ∧ bkD (dN r i) < lsN r i then bkD (dN r i) else lsN r i)
    by_cases h : rdD (dN r i)
    · by_cases h1 : bkD (dN r i) < v
      · rw [if_pos ⟨h, h1⟩]
        by_cases h2 : bkD (dN r i) < lsN r i
        · rw [if_pos ⟨h, h2⟩]
          omega
        · rw [if_neg (fun z => h2 z.2)]
          omega
      · rw [if_neg (fun z => h1 z.2), ih]
        by_cases h2 : bkD (dN r i) < lsN r i
        · rw [if_pos ⟨h, h2⟩]
          omega
        · rw [if_neg (fun z => h2 z.2)]
    · rw [if_neg (fun z => h z.1), if_neg (fun z => h z.1)]
      exact ih
theorem ls_0 {r : Rw} {i : Nat} (w : WR r) (h0 : nC (dN r i) = 0) : ∀ m, lsN r (i + m) = lsN r i ∧ nC (dN r (i + m)) = 0 := by
  intro m
  induction m with
  | zero => exact ⟨rfl, h0⟩
  | succ m ih =>
    obtain ⟨d1, d2, d3⟩ := day_0 (WR_dN w (i + m)) ih.2
    constructor
    · have hn : ¬ rdD (dN r (i + m)) := by
        intro z
        obtain ⟨t, ht, et⟩ := (lai_ready (WR_dN w (i + m))).1 z
        rw [d3] at et
        exact absurd et.symm (fun y => absurd (show (0 : Int32) ≤ -1 by rw [← y]; exact nI_le (a := 0) (by omega) (by omega)) (by decide))
      have e : lsN r (i + m + 1) = lsN r (i + m) := if_neg (fun z => hn z.1)
      exact e.trans ih.1
    · show nC (dayR (dN r (i + m))) = 0
      rw [d1, nC_0]
      exact ih.2
theorem Eh_2 {r : Rw} {v : Int32} : Eh r (upd r 2 v) := fun j _ h2 _ => upd_ne h2
theorem WX_2 {r : Rw} {m : Nat} {v : Int32} (w : WX r m) : WX (upd r 2 v) m := by
  refine ⟨WR_cong w.1 (fun j hj => upd_ne (by omega)), by rw [upd_ne (by omega)]; exact w.2.1, by rw [upd_ne (by omega), upd_ne (by omega)]; exact w.2.2⟩
theorem ho_6 {r : Rw} {v : Nat} (w : WR r) (hv : v ≤ 9) : ∀ n, n < 2 ^ 30 → dN (upd r 2 (nI v)) n 6 = r 6 + nI (hoN r v n) := by
  have w' : WR (upd r 2 (nI v)) := WR_cong w (fun j hj => upd_ne (by omega))
  intro n
  induction n with
  | zero =>
    intro _
    show upd r 2 (nI v) 6 = r 6 + 0
    rw [upd_ne (by omega), Int32.add_zero]
  | succ n ih =>
    intro hn
    have wq := WR_dN w n
    have wq' := WR_dN w' n
    have eh := (Eh_2 (r := r) (v := nI v)).x_dN w n
    have ehg := eh.x_gR wq
    have wg : WR (gR (dN r n)) := WR_gN wq (nC (dN r n)) (Nat.le_refl _)
    show dayR (dN (upd r 2 (nI v)) n) 6 = _
    rw [(day_5 wq').2, ih (by omega)]
    have eb : bulkR (gR (dN (upd r 2 (nI v)) n)) = nI (bkD (dN r n)) := by rw [bulk_gR wq', eh.x_bulk wq, (bk_e wq).2]
    have e2 : gR (dN (upd r 2 (nI v)) n) 2 = nI v := by
      show gN (dN (upd r 2 (nI v)) n) (nC (dN (upd r 2 (nI v)) n)) 2 = _
      rw [gN_lo (wr_crs wq' (Nat.le_refl _)) (by omega), dN_hi w' (by omega), upd_at]
    have bl := (bk_e wq).1
    have eh' : hlwG (gR (dN (upd r 2 (nI v)) n)) = if rdD (dN r n) ∧ bkD (dN r n) < v then 1 else 0 := by
      unfold hlwG
      by_cases h : rdD (dN r n)
      · rw [if_pos ((ehg.x_ready wg).mpr h)]
        show (if bulkR (gR (dN (upd r 2 (nI v)) n)) < gR (dN (upd r 2 (nI v)) n) 2 then (1 : Int32) else 0) = _
        rw [eb, e2]
        by_cases h1 : bkD (dN r n) < v
        · rw [if_pos (nI_lt h1 (by omega)), if_pos ⟨h, h1⟩]
        · rw [if_neg (nI_nlt (by omega) (by omega)), if_neg (fun z => h1 z.2)]
      · rw [if_neg (fun z => h ((ehg.x_ready wg).mp z)), if_neg (fun z => h z.1)]
    rw [eh', Int32.add_assoc]
    show r 6 + (nI (hoN r v n) + _) = r 6 + nI (if rdD (dN r n) ∧ bkD (dN r n) < v then hoN r v n + 1 else hoN r v n)
    by_cases h : rdD (dN r n) ∧ bkD (dN r n) < v
    · rw [if_pos h, if_pos h, nI_1]
    · rw [if_neg h, if_neg h, Int32.add_zero]
theorem L_starves {d n : Nat} {M : Mem} {r : Rw} (w : WR r) (hn : n < 2 ^ 31) : ∀ (m i : Nat) (M1 : Mem) (v : Option Value), i + m = n → HR M1 30 (dN r i) → Ou 30 M M1 →
    ∃ M', lim (call (d + 3)) none 5 cX5_starves (some .int) 46 [some (.ref 0), some (.int (nI n)), some (.int (nI (lsN r i))), some (.int (nI i)), v] [] M1 = some (some (.int (nI (lsN r n))), M') ∧ Ou 30 M M' := by
  intro m
  induction m with
  | zero =>
    intro i M1 v hi h o
    obtain rfl : i = n := by omega
    rw [sX5_starves_46]
    simp only [sX5_starves_0, sX5_starves_1, sX5_starves_4, sX5_starves_7, sX5_starves_8, sX5_starves_9, sX5_starves_12, sX5_starves_13, sX5_starves_14, sX5_starves_15, sX5_starves_18, sX5_starves_21, sX5_starves_22, sX5_starves_23, sX5_starves_26, sX5_starves_27, sX5_starves_28, sX5_starves_31, sX5_starves_32, sX5_starves_35, sX5_starves_38, sX5_starves_41, sX5_starves_43, sX5_starves_44, sX5_starves_45, sX5_starves_47, sX5_starves_48, sX5_starves_51, sX5_starves_52, sX5_starves_55, sX5_starves_58, sX5_starves_61, sX5_starves_62, sX5_starves_65, sX5_starves_68, sX5_starves_70, sX5_starves_71, sX5_starves_74, sX5_starves_77, sX5_starves_78, sX5_starves_79, sX5_starves_82, sX5_starves_85, sX5_starves_88, sX5_starves_89, sX5_starves_91, sX5_starves_94, sX5_starves_95, sX5_starves_98, sX5_starves_101, sX5_starves_102, opK_some, guK_true, calK_some, rk_nil, rk_int, rk_ref, tl_some, tl_none, nb_int, nb_0, nb_1, nb_if, nb_if']
    rw [if_pos (show nI i ≤ nI i from Int32.le_refl _)]
    exact ⟨M1, rfl, o⟩
  | succ m ih =>
    intro i M1 v hi h o
    have wi := WR_dN w i
    have e39 : M1 30 9 = dN r i 4 := h.1.2.1
    have c0 := C_bulkIn (d := d + 2) hen30 h wi
    rw [show d + 2 + 1 = d + 3 from rfl] at c0
    obtain ⟨M2, c2, h2, o2, a12, a13, _⟩ := C_passDay (d := d + 0) hen30 h wi
    rw [show d + 0 + 3 = d + 3 from rfl] at c2
    obtain ⟨bl, be⟩ := bk_e wi
    have ll := ls_le r i
    rw [sX5_starves_46]
    simp only [sX5_starves_0, sX5_starves_1, sX5_starves_4, sX5_starves_7, sX5_starves_8, sX5_starves_9, sX5_starves_12, sX5_starves_13, sX5_starves_14, sX5_starves_15, sX5_starves_18, sX5_starves_21, sX5_starves_22, sX5_starves_23, sX5_starves_26, sX5_starves_27, sX5_starves_28, sX5_starves_31, sX5_starves_32, sX5_starves_35, sX5_starves_38, sX5_starves_41, sX5_starves_43, sX5_starves_44, sX5_starves_45, sX5_starves_47, sX5_starves_48, sX5_starves_51, sX5_starves_52, sX5_starves_55, sX5_starves_58, sX5_starves_61, sX5_starves_62, sX5_starves_65, sX5_starves_68, sX5_starves_70, sX5_starves_71, sX5_starves_74, sX5_starves_77, sX5_starves_78, sX5_starves_79, sX5_starves_82, sX5_starves_85, sX5_starves_88, sX5_starves_89, sX5_starves_91, sX5_starves_94, sX5_starves_95, sX5_starves_98, sX5_starves_101, sX5_starves_102, opK_some, guK_true, calK_some, rk_nil, rk_int, rk_ref, tl_some, tl_none, nb_int, nb_0, nb_1, nb_if, nb_if', o0_6, hs_9 hen30, hs_12 hen30, hen_c hen30, e39, c0, c2, a12, be, nI_1]
    rw [if_neg (show ¬ nI n ≤ nI i from nI_ge (by omega) hn)]
    by_cases hz : nC (dN r i) = 0
    · rw [if_pos (Int32.not_lt.mp (fun z => absurd ((wr_pos wi).mp z) (by omega)))]
      have := (ls_0 w hz (m + 1)).1
      rw [hi] at this
      rw [this]
      exact ⟨M1, rfl, o⟩
    · rw [if_neg (Int32.not_le.mpr ((wr_pos wi).mpr (by omega)))]
      have fin := ih (i + 1) M2 (some (.int (nI (bkD (dN r i))))) (by omega) h2 (o.tr o2)
      by_cases hr : rdD (dN r i)
      · obtain ⟨t, ht, et⟩ := (lai_ready wi).1 hr
        have hn' : ¬ nI t < 0 := nI_nlt (b := 0) (by omega) (by omega)
        simp only [et, hn', if_false]
        by_cases hb : bkD (dN r i) < lsN r i
        · have ek : lsN r (i + 1) = bkD (dN r i) := if_pos ⟨hr, hb⟩
          rw [ek] at fin
          rw [if_pos (nI_lt hb (by omega))]
          exact fin
        · have ek : lsN r (i + 1) = lsN r i := if_neg (fun z => hb z.2)
          rw [ek] at fin
          rw [if_neg (nI_nlt (by omega) (by omega))]
          exact fin
      · have el := (lai_ready wi).2 hr
        have ek : lsN r (i + 1) = lsN r i := if_neg (fun z => hr z.1)
        rw [ek] at fin
        simp only [el, show ((-1 : Int32) < 0) = True from eq_true (by decide), if_true]
        exact fin
theorem L_m_starves {d n : Nat} {y : Int32} {r a : Rw} {M : Mem} (w : WX r 9999) (ha : M 133 = cpR r a) (hn : n ≤ 1000) : ∀ (k : Nat) (M1 : Mem) (u v : Option Value), k ≤ 9 → lsN r n ≤ k → M1 131 = r → Mo M M1 →
    ∃ M', lim (call (d + 6)) none 6 cX6_starves (some .int) 35 [some (.ref 130), some (.int (nI n)), some (.int y), some (.int (-1)), some (.int (nI k)), u, v] [] M1 = some (some (.int (nI (lsN r n))), M') ∧ Mo M M' ∧ M' 131 = r := by
  intro k
  induction k with
  | zero =>
    intro M1 u v hk hl e1 o
    obtain ⟨M2, hM2⟩ : ∃ M2, M2 = mset M1 131 2 (nI 0) := ⟨_, rfl⟩
    have r2 : M2 131 = upd r 2 (nI 0) := by rw [hM2, mset_at, e1]
    have o2 : Mo M1 M2 := by rw [hM2]; exact Mo.rset
    have wq : WX (upd r 2 (nI 0)) 9999 := WX_2 w
    obtain ⟨M3, c3, o3, r3⟩ := C_m_daysGo (d := d + 0) (n := n) (M := M2) (m := 9999) (by rw [r2]; exact wq) (by omega)
    rw [show d + 0 + 6 = d + 6 from rfl] at c3
    rw [r2] at c3 r3
    have o13 := (o.tr o2).tr o3
    obtain ⟨js, hjs, ejs⟩ := sW_le wq.1 n
    have e6 : dN (upd r 2 (nI 0)) n 6 = r 6 := by rw [ho_6 w.1 (by omega) n (by omega), (ho_ls (by omega) n).mpr (by omega), nI_0, Int32.add_zero]
    have e26 : M2 131 6 = r 6 := by rw [r2, upd_ne (by omega)]
    have hs0 : ¬ sW (upd r 2 (nI 0)) n < 0 := by rw [ejs]; exact nI_nlt (b := 0) (by omega) (by omega)
    have hp := C_back (d := d + 5) (M := M3)
    rw [show d + 5 + 1 = d + 6 from rfl] at hp
    rw [(o13.1 133 (by omega) (by omega)).trans ha, r3, cp_back (fun q hq => (dN_hi wq.1 (by omega) n).trans (upd_ne (by omega)))] at hp
    have rfl' : lsN r n = 0 := by omega
    rw [rfl', sX6_starves_35]
    simp only [sX6_starves_0, sX6_starves_1, sX6_starves_2, sX6_starves_3, sX6_starves_4, sX6_starves_7, sX6_starves_8, sX6_starves_9, sX6_starves_12, sX6_starves_13, sX6_starves_14, sX6_starves_17, sX6_starves_18, sX6_starves_19, sX6_starves_22, sX6_starves_23, sX6_starves_26, sX6_starves_29, sX6_starves_30, sX6_starves_31, sX6_starves_33, sX6_starves_37, sX6_starves_40, sX6_starves_41, sX6_starves_44, sX6_starves_45, sX6_starves_48, sX6_starves_49, sX6_starves_52, sX6_starves_53, sX6_starves_56, sX6_starves_58, sX6_starves_59, sX6_starves_61, sX6_starves_62, sX6_starves_63, sX6_starves_66, sX6_starves_68, sX6_starves_70, sX6_starves_73, sX6_starves_74, sX6_starves_77, sX6_starves_79, sX6_starves_80, sX6_starves_82, sX6_starves_85, sX6_starves_87, sX6_starves_90, sX6_starves_91, sX6_starves_92, sX6_starves_93, sX6_starves_96, sX6_starves_97, sX6_starves_100, sX6_starves_103, sX6_starves_106, sX6_starves_109, sX6_starves_110, opK_some, guK_true, calK_some, rk_nil, rk_int, rk_ref, tl_some, tl_none, nb_int, nb_0, nb_1, nb_if, nb_if', o130_0, show ((0 : Int32) ≤ -1) = False from eq_false (by decide), if_false]
    rw [if_neg (show ¬ nI 0 < 0 by decide), sX6_starves_51]
    simp only [sX6_starves_0, sX6_starves_1, sX6_starves_2, sX6_starves_3, sX6_starves_4, sX6_starves_7, sX6_starves_8, sX6_starves_9, sX6_starves_12, sX6_starves_13, sX6_starves_14, sX6_starves_17, sX6_starves_18, sX6_starves_19, sX6_starves_22, sX6_starves_23, sX6_starves_26, sX6_starves_29, sX6_starves_30, sX6_starves_31, sX6_starves_33, sX6_starves_37, sX6_starves_40, sX6_starves_41, sX6_starves_44, sX6_starves_45, sX6_starves_48, sX6_starves_49, sX6_starves_52, sX6_starves_53, sX6_starves_56, sX6_starves_58, sX6_starves_59, sX6_starves_61, sX6_starves_62, sX6_starves_63, sX6_starves_66, sX6_starves_68, sX6_starves_70, sX6_starves_73, sX6_starves_74, sX6_starves_77, sX6_starves_79, sX6_starves_80, sX6_starves_82, sX6_starves_85, sX6_starves_87, sX6_starves_90, sX6_starves_91, sX6_starves_92, sX6_starves_93, sX6_starves_96, sX6_starves_97, sX6_starves_100, sX6_starves_103, sX6_starves_106, sX6_starves_109, sX6_starves_110, opK_some, guK_true, calK_some, rk_nil, rk_int, rk_ref, tl_some, tl_none, nb_int, nb_0, nb_1, nb_if, nb_if', o130_0, o130_2, a131, b131, ib_2_132, tn_2, ib_6_132, tn_6, q130, ← hM2, e26, c3, hs0, r3, e6, if_true, if_false, hp]
    rw [sX6_starves_35]
    simp only [sX6_starves_0, sX6_starves_1, sX6_starves_2, sX6_starves_3, sX6_starves_4, sX6_starves_7, sX6_starves_8, sX6_starves_9, sX6_starves_12, sX6_starves_13, sX6_starves_14, sX6_starves_17, sX6_starves_18, sX6_starves_19, sX6_starves_22, sX6_starves_23, sX6_starves_26, sX6_starves_29, sX6_starves_30, sX6_starves_31, sX6_starves_33, sX6_starves_37, sX6_starves_40, sX6_starves_41, sX6_starves_44, sX6_starves_45, sX6_starves_48, sX6_starves_49, sX6_starves_52, sX6_starves_53, sX6_starves_56, sX6_starves_58, sX6_starves_59, sX6_starves_61, sX6_starves_62, sX6_starves_63, sX6_starves_66, sX6_starves_68, sX6_starves_70, sX6_starves_73, sX6_starves_74, sX6_starves_77, sX6_starves_79, sX6_starves_80, sX6_starves_82, sX6_starves_85, sX6_starves_87, sX6_starves_90, sX6_starves_91, sX6_starves_92, sX6_starves_93, sX6_starves_96, sX6_starves_97, sX6_starves_100, sX6_starves_103, sX6_starves_106, sX6_starves_109, sX6_starves_110, opK_some, guK_true, calK_some, rk_nil, rk_int, rk_ref, tl_some, tl_none, nb_int, nb_0, nb_1, nb_if, nb_if']
    rw [if_pos (show nI 0 + (-1) < 0 by decide)]
    exact ⟨_, rfl, o13.tr Mo.row, mrow_at⟩
  | succ k ih =>
    intro M1 u v hk hl e1 o
    obtain ⟨M2, hM2⟩ : ∃ M2, M2 = mset M1 131 2 (nI (k + 1)) := ⟨_, rfl⟩
    have r2 : M2 131 = upd r 2 (nI (k + 1)) := by rw [hM2, mset_at, e1]
    have o2 : Mo M1 M2 := by rw [hM2]; exact Mo.rset
    have wq : WX (upd r 2 (nI (k + 1))) 9999 := WX_2 w
    obtain ⟨M3, c3, o3, r3⟩ := C_m_daysGo (d := d + 0) (n := n) (M := M2) (m := 9999) (by rw [r2]; exact wq) (by omega)
    rw [show d + 0 + 6 = d + 6 from rfl] at c3
    rw [r2] at c3 r3
    have o13 := (o.tr o2).tr o3
    obtain ⟨js, hjs, ejs⟩ := sW_le wq.1 n
    have e6 : dN (upd r 2 (nI (k + 1))) n 6 = r 6 + nI (hoN r (k + 1) n) := ho_6 w.1 hk n (by omega)
    have e26 : M2 131 6 = r 6 := by rw [r2, upd_ne (by omega)]
    have hs0 : ¬ sW (upd r 2 (nI (k + 1))) n < 0 := by rw [ejs]; exact nI_nlt (b := 0) (by omega) (by omega)
    have hp := C_back (d := d + 5) (M := M3)
    rw [show d + 5 + 1 = d + 6 from rfl] at hp
    rw [(o13.1 133 (by omega) (by omega)).trans ha, r3, cp_back (fun q hq => (dN_hi wq.1 (by omega) n).trans (upd_ne (by omega)))] at hp
    have hv0 : ¬ nI (k + 1) < 0 := nI_nlt (b := 0) (by omega) (by omega)
    have hv0' : (0 : Int32) ≤ nI (k + 1) := nI_le (a := 0) (by omega) (by omega)
    have hole := ho_le r (k + 1) n
    rw [sX6_starves_35]
    simp only [sX6_starves_0, sX6_starves_1, sX6_starves_2, sX6_starves_3, sX6_starves_4, sX6_starves_7, sX6_starves_8, sX6_starves_9, sX6_starves_12, sX6_starves_13, sX6_starves_14, sX6_starves_17, sX6_starves_18, sX6_starves_19, sX6_starves_22, sX6_starves_23, sX6_starves_26, sX6_starves_29, sX6_starves_30, sX6_starves_31, sX6_starves_33, sX6_starves_37, sX6_starves_40, sX6_starves_41, sX6_starves_44, sX6_starves_45, sX6_starves_48, sX6_starves_49, sX6_starves_52, sX6_starves_53, sX6_starves_56, sX6_starves_58, sX6_starves_59, sX6_starves_61, sX6_starves_62, sX6_starves_63, sX6_starves_66, sX6_starves_68, sX6_starves_70, sX6_starves_73, sX6_starves_74, sX6_starves_77, sX6_starves_79, sX6_starves_80, sX6_starves_82, sX6_starves_85, sX6_starves_87, sX6_starves_90, sX6_starves_91, sX6_starves_92, sX6_starves_93, sX6_starves_96, sX6_starves_97, sX6_starves_100, sX6_starves_103, sX6_starves_106, sX6_starves_109, sX6_starves_110, opK_some, guK_true, calK_some, rk_nil, rk_int, rk_ref, tl_some, tl_none, nb_int, nb_0, nb_1, nb_if, nb_if', o130_0, hv0, show ((0 : Int32) ≤ -1) = False from eq_false (by decide), if_false]
    rw [sX6_starves_51]
    simp only [sX6_starves_0, sX6_starves_1, sX6_starves_2, sX6_starves_3, sX6_starves_4, sX6_starves_7, sX6_starves_8, sX6_starves_9, sX6_starves_12, sX6_starves_13, sX6_starves_14, sX6_starves_17, sX6_starves_18, sX6_starves_19, sX6_starves_22, sX6_starves_23, sX6_starves_26, sX6_starves_29, sX6_starves_30, sX6_starves_31, sX6_starves_33, sX6_starves_37, sX6_starves_40, sX6_starves_41, sX6_starves_44, sX6_starves_45, sX6_starves_48, sX6_starves_49, sX6_starves_52, sX6_starves_53, sX6_starves_56, sX6_starves_58, sX6_starves_59, sX6_starves_61, sX6_starves_62, sX6_starves_63, sX6_starves_66, sX6_starves_68, sX6_starves_70, sX6_starves_73, sX6_starves_74, sX6_starves_77, sX6_starves_79, sX6_starves_80, sX6_starves_82, sX6_starves_85, sX6_starves_87, sX6_starves_90, sX6_starves_91, sX6_starves_92, sX6_starves_93, sX6_starves_96, sX6_starves_97, sX6_starves_100, sX6_starves_103, sX6_starves_106, sX6_starves_109, sX6_starves_110, opK_some, guK_true, calK_some, rk_nil, rk_int, rk_ref, tl_some, tl_none, nb_int, nb_0, nb_1, nb_if, nb_if', o130_0, o130_2, a131, b131, ib_2_132, tn_2, ib_6_132, tn_6, q130, ← hM2, e26, c3, hs0, r3, e6, if_true, if_false, hp, pk_m1]
    by_cases hc : hoN r (k + 1) n = 0
    · have hle : k + 1 ≤ lsN r n := (ho_ls hk n).mp hc
      have el : lsN r n = k + 1 := by omega
      rw [hc, nI_0, Int32.add_zero, if_pos rfl, el]
      rw [sX6_starves_35]
      simp only [sX6_starves_0, sX6_starves_1, sX6_starves_2, sX6_starves_3, sX6_starves_4, sX6_starves_7, sX6_starves_8, sX6_starves_9, sX6_starves_12, sX6_starves_13, sX6_starves_14, sX6_starves_17, sX6_starves_18, sX6_starves_19, sX6_starves_22, sX6_starves_23, sX6_starves_26, sX6_starves_29, sX6_starves_30, sX6_starves_31, sX6_starves_33, sX6_starves_37, sX6_starves_40, sX6_starves_41, sX6_starves_44, sX6_starves_45, sX6_starves_48, sX6_starves_49, sX6_starves_52, sX6_starves_53, sX6_starves_56, sX6_starves_58, sX6_starves_59, sX6_starves_61, sX6_starves_62, sX6_starves_63, sX6_starves_66, sX6_starves_68, sX6_starves_70, sX6_starves_73, sX6_starves_74, sX6_starves_77, sX6_starves_79, sX6_starves_80, sX6_starves_82, sX6_starves_85, sX6_starves_87, sX6_starves_90, sX6_starves_91, sX6_starves_92, sX6_starves_93, sX6_starves_96, sX6_starves_97, sX6_starves_100, sX6_starves_103, sX6_starves_106, sX6_starves_109, sX6_starves_110, opK_some, guK_true, calK_some, rk_nil, rk_int, rk_ref, tl_some, tl_none, nb_int, nb_0, nb_1, nb_if, nb_if', hv0', if_true]
      rw [same_if]
      exact ⟨_, rfl, o13.tr Mo.row, mrow_at⟩
    · have hne : ¬ r 6 + nI (hoN r (k + 1) n) = r 6 := by
        intro z
        have z2 : nI (hoN r (k + 1) n) = 0 := by
          have := congrArg (fun x => x - r 6) z
          rw [show r 6 + nI (hoN r (k + 1) n) = nI (hoN r (k + 1) n) + r 6 from Int32.add_comm _ _] at this
          simp only [Int32.add_sub_cancel, Int32.sub_self] at this
          exact this
        exact hc (nI_inj (j := 0) (by omega) (by omega) z2)
      have hlt : lsN r n ≤ k := by
        have : ¬ k + 1 ≤ lsN r n := fun z => hc ((ho_ls hk n).mpr z)
        omega
      rw [if_neg hne]
      exact ih _ _ _ (by omega) hlt mrow_at (o13.tr Mo.row)
theorem X_starves {d : Nat} {M : Mem} {x : Int32} (j : J M) : Two (d + 4) 82 (d + 7) 214 [.int x] M := by
  have w := j_wr j
  have ed : M 100 1 = M 131 0 := j.1.2.2.1.1
  have hr : ∀ {M : Mem} {x : Int32} (_ : WR (M 131)), call (d + 6) 182 [.ref 130, .int 1, .int 0, .int x] M = some (some (.int (if ¬ (1 ≤ x ∧ x ≤ 60) then -1000001 else if 9999 < M 131 0 + x then -1000005 else 0)), M) := fun w => C_m_refD (d := d + 1) w
  by_cases hx : 1 ≤ x ∧ x ≤ 60
  · by_cases hl : 9999 < M 131 0 + x
    · refine ⟨fX M 4, fM (fX M 4) 4, -1000005, ?_, ?_, J_fin j (by omega)⟩
      · rw [nX5_starves]
        simp only [sX5_starves_0, sX5_starves_1, sX5_starves_4, sX5_starves_7, sX5_starves_8, sX5_starves_9, sX5_starves_12, sX5_starves_13, sX5_starves_14, sX5_starves_15, sX5_starves_18, sX5_starves_21, sX5_starves_22, sX5_starves_23, sX5_starves_26, sX5_starves_27, sX5_starves_28, sX5_starves_31, sX5_starves_32, sX5_starves_35, sX5_starves_38, sX5_starves_41, sX5_starves_43, sX5_starves_44, sX5_starves_45, sX5_starves_47, sX5_starves_48, sX5_starves_51, sX5_starves_52, sX5_starves_55, sX5_starves_58, sX5_starves_61, sX5_starves_62, sX5_starves_65, sX5_starves_68, sX5_starves_70, sX5_starves_71, sX5_starves_74, sX5_starves_77, sX5_starves_78, sX5_starves_79, sX5_starves_82, sX5_starves_85, sX5_starves_88, sX5_starves_89, sX5_starves_91, sX5_starves_94, sX5_starves_95, sX5_starves_98, sX5_starves_101, sX5_starves_102, opK_some, guK_true, calK_some, rk_nil, rk_int, rk_ref, tl_some, tl_none, nb_int, nb_0, nb_1, nb_if, nb_if', q0, C_x_isDays, C_x_isTooLate, ed, hx, hl, and_self, if_true, one_ne, if_false, C_xf4]
      · rw [nX6_starves]
        simp only [sX6_starves_0, sX6_starves_1, sX6_starves_2, sX6_starves_3, sX6_starves_4, sX6_starves_7, sX6_starves_8, sX6_starves_9, sX6_starves_12, sX6_starves_13, sX6_starves_14, sX6_starves_17, sX6_starves_18, sX6_starves_19, sX6_starves_22, sX6_starves_23, sX6_starves_26, sX6_starves_29, sX6_starves_30, sX6_starves_31, sX6_starves_33, sX6_starves_37, sX6_starves_40, sX6_starves_41, sX6_starves_44, sX6_starves_45, sX6_starves_48, sX6_starves_49, sX6_starves_51, sX6_starves_52, sX6_starves_53, sX6_starves_56, sX6_starves_58, sX6_starves_59, sX6_starves_61, sX6_starves_62, sX6_starves_63, sX6_starves_66, sX6_starves_68, sX6_starves_70, sX6_starves_73, sX6_starves_74, sX6_starves_77, sX6_starves_79, sX6_starves_80, sX6_starves_82, sX6_starves_85, sX6_starves_87, sX6_starves_90, sX6_starves_91, sX6_starves_92, sX6_starves_93, sX6_starves_96, sX6_starves_97, sX6_starves_100, sX6_starves_103, sX6_starves_106, sX6_starves_109, sX6_starves_110, opK_some, guK_true, calK_some, rk_nil, rk_int, rk_ref, tl_some, tl_none, nb_int, nb_0, nb_1, nb_if, nb_if', q130, hr (M := fX M 4) (by rw [fX_131]; exact w), fX_131, hx, hl, and_self, not_true, if_true, if_false, m5_ne, C_mf4]
    · obtain ⟨n, n1, n60, rfl⟩ := days_of hx
      obtain ⟨M1, c1, h1, o1⟩ := C_become (d := d + 2) hen30 hen10 (by omega) (j_hr j) w
      rw [show d + 2 + 1 = d + 3 from rfl] at c1
      obtain ⟨M2, c2, o2⟩ := L_starves (d := d) w (show n < 2 ^ 31 by omega) n 0 M1 none (by omega) h1 o1
      have cs : Cs M M2 := Cs.ou (by omega) (by omega) o2
      have e2 := cs.e
      have hc := C_aside (d := d + 5) (M := M2)
      rw [show d + 5 + 1 = d + 6 from rfl] at hc
      obtain ⟨M3, hM3⟩ : ∃ M3, M3 = mrow M2 133 (cpR (M2 131) (M2 133)) := ⟨_, rfl⟩
      rw [← hM3] at hc
      have ms3 : Ms M2 M3 := by rw [hM3]; exact Ms.as
      have r3 : M3 131 = M 131 := (ms3.1 131 (by omega)).trans e2
      have a3 : M3 133 = cpR (M 131) (M2 133) := by rw [hM3, mrow_at, e2]
      obtain ⟨M4, c4, o4, r4⟩ := L_m_starves (d := d) (y := 0) (M := M3) j.1.1.1 a3 (show n ≤ 1000 by omega) 9 M3 none none (by omega) (ls_le _ n) r3 Mo.rf
      refine ⟨M2, M4, nI (lsN (M 131) n), ?_, ?_, Ms.j (cs.j j) (ms3.tr (o4.ms (by rw [r4, r3])))⟩
      · rw [nX5_starves]
        simp only [sX5_starves_0, sX5_starves_1, sX5_starves_4, sX5_starves_7, sX5_starves_8, sX5_starves_9, sX5_starves_12, sX5_starves_13, sX5_starves_14, sX5_starves_15, sX5_starves_18, sX5_starves_21, sX5_starves_22, sX5_starves_23, sX5_starves_26, sX5_starves_27, sX5_starves_28, sX5_starves_31, sX5_starves_32, sX5_starves_35, sX5_starves_38, sX5_starves_41, sX5_starves_43, sX5_starves_44, sX5_starves_45, sX5_starves_47, sX5_starves_48, sX5_starves_51, sX5_starves_52, sX5_starves_55, sX5_starves_58, sX5_starves_61, sX5_starves_62, sX5_starves_65, sX5_starves_68, sX5_starves_70, sX5_starves_71, sX5_starves_74, sX5_starves_77, sX5_starves_78, sX5_starves_79, sX5_starves_82, sX5_starves_85, sX5_starves_88, sX5_starves_89, sX5_starves_91, sX5_starves_94, sX5_starves_95, sX5_starves_98, sX5_starves_101, sX5_starves_102, opK_some, guK_true, calK_some, rk_nil, rk_int, rk_ref, tl_some, tl_none, nb_int, nb_0, nb_1, nb_if, nb_if', q0, o0_0, o0_6, o100_0, hen_c hen30, hen_c hen10, C_x_isDays, C_x_isTooLate, ed, hx, hl, and_self, if_true, one_ne, zero_eq, if_false, c1]
        exact c2
      · rw [nX6_starves]
        simp only [sX6_starves_0, sX6_starves_1, sX6_starves_2, sX6_starves_3, sX6_starves_4, sX6_starves_7, sX6_starves_8, sX6_starves_9, sX6_starves_12, sX6_starves_13, sX6_starves_14, sX6_starves_17, sX6_starves_18, sX6_starves_19, sX6_starves_22, sX6_starves_23, sX6_starves_26, sX6_starves_29, sX6_starves_30, sX6_starves_31, sX6_starves_33, sX6_starves_37, sX6_starves_40, sX6_starves_41, sX6_starves_44, sX6_starves_45, sX6_starves_48, sX6_starves_49, sX6_starves_51, sX6_starves_52, sX6_starves_53, sX6_starves_56, sX6_starves_58, sX6_starves_59, sX6_starves_61, sX6_starves_62, sX6_starves_63, sX6_starves_66, sX6_starves_68, sX6_starves_70, sX6_starves_73, sX6_starves_74, sX6_starves_77, sX6_starves_79, sX6_starves_80, sX6_starves_82, sX6_starves_85, sX6_starves_87, sX6_starves_90, sX6_starves_91, sX6_starves_92, sX6_starves_93, sX6_starves_96, sX6_starves_97, sX6_starves_100, sX6_starves_103, sX6_starves_106, sX6_starves_109, sX6_starves_110, opK_some, guK_true, calK_some, rk_nil, rk_int, rk_ref, tl_some, tl_none, nb_int, nb_0, nb_1, nb_if, nb_if', q130, o130_0, o130_2, hr (M := M2) (by rw [e2]; exact w), e2, hx, hl, and_self, not_true, if_true, if_false, zero_eq, hc]
        exact c4
  · refine ⟨fX M 0, fM (fX M 0) 0, -1000001, ?_, ?_, J_fin j (by omega)⟩
    · rw [nX5_starves]
      simp only [sX5_starves_0, sX5_starves_1, sX5_starves_4, sX5_starves_7, sX5_starves_8, sX5_starves_9, sX5_starves_12, sX5_starves_13, sX5_starves_14, sX5_starves_15, sX5_starves_18, sX5_starves_21, sX5_starves_22, sX5_starves_23, sX5_starves_26, sX5_starves_27, sX5_starves_28, sX5_starves_31, sX5_starves_32, sX5_starves_35, sX5_starves_38, sX5_starves_41, sX5_starves_43, sX5_starves_44, sX5_starves_45, sX5_starves_47, sX5_starves_48, sX5_starves_51, sX5_starves_52, sX5_starves_55, sX5_starves_58, sX5_starves_61, sX5_starves_62, sX5_starves_65, sX5_starves_68, sX5_starves_70, sX5_starves_71, sX5_starves_74, sX5_starves_77, sX5_starves_78, sX5_starves_79, sX5_starves_82, sX5_starves_85, sX5_starves_88, sX5_starves_89, sX5_starves_91, sX5_starves_94, sX5_starves_95, sX5_starves_98, sX5_starves_101, sX5_starves_102, opK_some, guK_true, calK_some, rk_nil, rk_int, rk_ref, tl_some, tl_none, nb_int, nb_0, nb_1, nb_if, nb_if', q0, C_x_isDays, hx, if_true, if_false, zero_eq, C_xf0]
    · rw [nX6_starves]
      simp only [sX6_starves_0, sX6_starves_1, sX6_starves_2, sX6_starves_3, sX6_starves_4, sX6_starves_7, sX6_starves_8, sX6_starves_9, sX6_starves_12, sX6_starves_13, sX6_starves_14, sX6_starves_17, sX6_starves_18, sX6_starves_19, sX6_starves_22, sX6_starves_23, sX6_starves_26, sX6_starves_29, sX6_starves_30, sX6_starves_31, sX6_starves_33, sX6_starves_37, sX6_starves_40, sX6_starves_41, sX6_starves_44, sX6_starves_45, sX6_starves_48, sX6_starves_49, sX6_starves_51, sX6_starves_52, sX6_starves_53, sX6_starves_56, sX6_starves_58, sX6_starves_59, sX6_starves_61, sX6_starves_62, sX6_starves_63, sX6_starves_66, sX6_starves_68, sX6_starves_70, sX6_starves_73, sX6_starves_74, sX6_starves_77, sX6_starves_79, sX6_starves_80, sX6_starves_82, sX6_starves_85, sX6_starves_87, sX6_starves_90, sX6_starves_91, sX6_starves_92, sX6_starves_93, sX6_starves_96, sX6_starves_97, sX6_starves_100, sX6_starves_103, sX6_starves_106, sX6_starves_109, sX6_starves_110, opK_some, guK_true, calK_some, rk_nil, rk_int, rk_ref, tl_some, tl_none, nb_int, nb_0, nb_1, nb_if, nb_if', q130, hr (M := fX M 0) (by rw [fX_131]; exact w), hx, not_false_eq_true, if_true, if_false, m1_ne, C_mf0]

