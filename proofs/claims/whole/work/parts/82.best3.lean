/-! calls: best, ith, both -/
theorem fl_nodup (s : Nat) : ∀ n, (fl s n).Nodup := by
  intro n
  induction n with
  | zero => exact List.nodup_nil
  | succ n ih =>
    by_cases c : s.testBit n = true
    · rw [fl_1 c]
      refine List.nodup_append.mpr ⟨ih, List.nodup_cons.mpr ⟨List.not_mem_nil, List.nodup_nil⟩, fun a ha b hb => ?_⟩
      have h1 := fl_mem s n a ha
      have h2 := List.mem_singleton.mp hb
      omega
    · rw [fl_0 c]
      exact ih
theorem bS_n0 {r : Rw} {row : Nat → Nat} {size n : Nat} (w : WR r) (hr : ∀ k, k < size → row k < 10) (hn : n ≤ 1000) : ¬ bS r row size n < 0 := by
  obtain ⟨j, h1, h2⟩ := bS_le w hr n
  rw [h2]
  exact nI_nlt (b := 0) (by omega) (by omega)
/-- values of rows that aren't the set's don't matter -/
theorem pm_mem : ∀ m xs p, p ∈ pmF m xs → ∀ x, x ∈ p → x ∈ xs := by
  intro m
  induction m with
  | zero =>
    intro xs p hp x hx
    have : p = [] := List.mem_singleton.mp hp
    rw [this] at hx
    exact absurd hx List.not_mem_nil
  | succ m ih =>
    intro xs p hp x hx
    obtain ⟨y, hy, hp'⟩ := List.mem_flatMap.mp hp
    obtain ⟨q, hq, e⟩ := List.mem_map.mp hp'
    rw [← e] at hx
    rcases List.mem_cons.mp hx with h | h
    · rw [h]
      exact hy
    · exact (List.mem_filter.mp (ih _ q hq x h)).1
theorem ob_v {v v' : List Nat → Int32} : ∀ (ps : List (List Nat)) (b : Int32 × List Nat), (∀ p, p ∈ ps → v p = v' p) → obF v ps b = obF v' ps b := by
  intro ps
  induction ps with
  | nil => intro b _; rfl
  | cons p ps ih =>
    intro b h
    show obF v ps (if b.1 < v p then (v p, p) else b) = obF v' ps (if b.1 < v' p then (v' p, p) else b)
    rw [h p (List.mem_cons_self ..), ih _ (fun q hq => h q (List.mem_cons_of_mem _ hq))]
theorem lrow_in {p : List Nat} {k : Nat} : lrow p k = 0 ∨ lrow p k ∈ p := by
  by_cases h : k < p.length
  · right
    have : lrow p k = p[k] := by
      show p.getD k 0 = _
      rw [List.getD_eq_getElem?_getD, List.getElem?_eq_getElem h]
      rfl
    rw [this]
    exact List.getElem_mem h
  · left
    show p.getD k 0 = 0
    rw [List.getD_eq_getElem?_getD, List.getElem?_eq_none (by omega)]
    rfl
theorem be_ne {r : Rw} {s n : Nat} (w : WR r) (hn : n ≤ 1000) : ¬ (beS r s n).1 = -1 := by
  have hv : ∀ p, p ∈ pmF (fl s 10).length (fl s 10) → bS r (lrow p) (fl s 10).length n = (if bS r (lrow p) (fl s 10).length n < 0 then 0 else bS r (lrow p) (fl s 10).length n) := by
    intro p hp
    rw [if_neg (bS_n0 w (fun k _ => ?_) hn)]
    rcases lrow_in (p := p) (k := k) with h | h
    · omega
    · have := fl_mem s 10 _ (pm_mem _ _ p hp _ h)
      omega
  show ¬ (obF (fun ys => bS r (lrow ys) (fl s 10).length n) (pmF (fl s 10).length (fl s 10)) (-1, [])).1 = -1
  rw [ob_v (v' := fun ys => if bS r (lrow ys) (fl s 10).length n < 0 then 0 else bS r (lrow ys) (fl s 10).length n) _ _ hv]
  refine ob_b _ _ (fun _ => pm_ne _ _ rfl (fl_nodup s 10)) (fun p => ?_) (Or.inl rfl)
  show ¬ (if bS r (lrow p) (fl s 10).length n < 0 then (0 : Int32) else bS r (lrow p) (fl s 10).length n) < 0
  split
  · decide
  · assumption
theorem X_best {d : Nat} {M : Mem} {x y : Int32} (j : J M) : Two (d + 21) 48 (d + 21) 187 [.int x, .int y] M := by
  have w := j_wr j
  have h10 := p2_10 (wr_T w).1
  have cu := C_unorderable (d := d + 17) (x := x) (n := y) j
  rw [show d + 17 + 3 = d + 20 from rfl] at cu
  have cf : ∀ M2 : Mem, M2 131 = M 131 → call (d + 20) 188 [.ref 130, .int x] M2 = some (some (.int (if setP (M 131) x ∧ bcI x ≤ 5 then 1 else 0)), M2) := by
    intro M2 e
    have := C_isFew (d := d + 17) (M := M2) (x := x) (by rw [e]; exact w)
    rw [e] at this
    exact this
  by_cases hf : setP (M 131) x ∧ bcI x ≤ 5
  · obtain ⟨s, hs, rfl⟩ := set_of w hf.1
    have ei : iN (nI s) = s := iN_nI (by omega)
    have href : ∀ M2 : Mem, M2 131 = M 131 → call (d + 20) 182 [.ref 130, .int 1, .int (nI s), .int y] M2 = some (some (.int (if ¬ (1 ≤ y ∧ y ≤ 60) then -1000001 else if ¬ outP (M 131) s ∨ 9999 < M 131 0 + y then -1000005 else 0)), M2) := by
      intro M2 e
      have := C_m_ref1 (d := d + 20 - 5) (M := M2) (s := s) (n := y) (by rw [e]; exact w) (by rw [e]; exact hs)
      rw [e] at this
      exact this
    by_cases hy : 1 ≤ y ∧ y ≤ 60
    · by_cases hb : ¬ outP (M 131) s ∨ 9999 < M 131 0 + y
      · have e1 : uoR (M 131) (nI s) y = 4 := by
          show (if _ then _ else _) = _
          rw [if_pos ⟨hy, hf⟩, ei, if_pos hb]
        refine ⟨fX M 4, fM (fX M 4) 4, -1000005, ?_, ?_, J_fin j (by omega)⟩
        · rw [show d + 21 = d + 20 + 1 from rfl, nX5_best]
          simp only [sX5_best_0, sX5_best_1, sX5_best_2, sX5_best_3, sX5_best_6, sX5_best_7, sX5_best_8, sX5_best_11, sX5_best_12, sX5_best_13, sX5_best_16, sX5_best_19, sX5_best_20, sX5_best_21, sX5_best_22, sX5_best_25, opK_some, guK_true, calK_some, rk_nil, rk_int, rk_ref, tl_some, tl_none, nb_int, nb_0, nb_1, nb_if, nb_if', q0, cu, e1, show ((4 : Int32) < 0) = False from eq_false (by decide), if_false, C_xf4]
        · rw [show d + 21 = d + 20 + 1 from rfl, nX6_best]
          simp only [sX6_best_0, sX6_best_1, sX6_best_2, sX6_best_3, sX6_best_6, sX6_best_7, sX6_best_8, sX6_best_11, sX6_best_12, sX6_best_13, sX6_best_16, sX6_best_17, sX6_best_18, sX6_best_21, sX6_best_22, sX6_best_23, sX6_best_24, sX6_best_25, sX6_best_28, sX6_best_29, sX6_best_32, opK_some, guK_true, calK_some, rk_nil, rk_int, rk_ref, tl_some, tl_none, nb_int, nb_0, nb_1, nb_if, nb_if', q130, cf (fX M 4) fX_131, if_pos hf, href (fX M 4) fX_131, if_neg (show ¬ ¬ (1 ≤ y ∧ y ≤ 60) from fun z => z hy), if_pos hb, m5_ne, if_false, C_mf4]
      · have e1 : uoR (M 131) (nI s) y = -1 := by
          show (if _ then _ else _) = _
          rw [if_pos ⟨hy, hf⟩, ei, if_neg hb]
        obtain ⟨n, n1, n60, rfl⟩ := days_of hy
        have hl5 : (fl s 10).length ≤ 5 := by
          have h5 := hf.2
          rw [bc_ok s (by omega)] at h5
          have := fl_le10 s
          exact (nI_leI (b := 5) (by omega) (by omega)).mp h5
        obtain ⟨M1, c1, cs1, b1⟩ := C_findBestRow (d := d + 20 - 6) (n := n) (j_hr j) w hs hl5 (by omega)
        rw [show d + 20 - 6 + 6 = d + 20 by omega] at c1
        have e131 := cs1.e
        obtain ⟨M2, c2, ms2, s2⟩ := C_findBest (d := d) (M := M1) (n := n) (by rw [e131]; exact j.1.1.1) (by omega) hl5 (by omega)
        rw [e131] at s2
        refine ⟨M1, M2, (beS (M 131) s n).1, ?_, ?_, Ms.j (cs1.j j) ms2⟩
        · rw [show d + 21 = d + 20 + 1 from rfl, nX5_best]
          simp only [sX5_best_0, sX5_best_1, sX5_best_2, sX5_best_3, sX5_best_6, sX5_best_7, sX5_best_8, sX5_best_11, sX5_best_12, sX5_best_13, sX5_best_16, sX5_best_19, sX5_best_20, sX5_best_21, sX5_best_22, sX5_best_25, opK_some, guK_true, calK_some, rk_nil, rk_int, rk_ref, tl_some, tl_none, nb_int, nb_0, nb_1, nb_if, nb_if', q0, cu, e1, show ((-1 : Int32) < 0) = True from eq_true (by decide), if_true, c1]
        · rw [show d + 21 = d + 20 + 1 from rfl, nX6_best]
          simp only [sX6_best_0, sX6_best_1, sX6_best_2, sX6_best_3, sX6_best_6, sX6_best_7, sX6_best_8, sX6_best_11, sX6_best_12, sX6_best_13, sX6_best_16, sX6_best_17, sX6_best_18, sX6_best_21, sX6_best_22, sX6_best_23, sX6_best_24, sX6_best_25, sX6_best_28, sX6_best_29, sX6_best_32, opK_some, guK_true, calK_some, rk_nil, rk_int, rk_ref, tl_some, tl_none, nb_int, nb_0, nb_1, nb_if, nb_if', q130, o130_12, cf M1 e131, if_pos hf, href M1 e131, if_neg (show ¬ ¬ (1 ≤ nI n ∧ nI n ≤ 60) from fun z => z hy), if_neg hb, zero_eq, if_true, c2, s2.1]
    · have e1 : uoR (M 131) (nI s) y = 0 := by
        show (if _ then _ else _) = _
        rw [if_neg (fun z => hy z.1)]
      refine ⟨fX M 0, fM (fX M 0) 0, -1000001, ?_, ?_, J_fin j (by omega)⟩
      · rw [show d + 21 = d + 20 + 1 from rfl, nX5_best]
        simp only [sX5_best_0, sX5_best_1, sX5_best_2, sX5_best_3, sX5_best_6, sX5_best_7, sX5_best_8, sX5_best_11, sX5_best_12, sX5_best_13, sX5_best_16, sX5_best_19, sX5_best_20, sX5_best_21, sX5_best_22, sX5_best_25, opK_some, guK_true, calK_some, rk_nil, rk_int, rk_ref, tl_some, tl_none, nb_int, nb_0, nb_1, nb_if, nb_if', q0, cu, e1, show ((0 : Int32) < 0) = False from eq_false (by decide), if_false, C_xf0]
      · rw [show d + 21 = d + 20 + 1 from rfl, nX6_best]
        simp only [sX6_best_0, sX6_best_1, sX6_best_2, sX6_best_3, sX6_best_6, sX6_best_7, sX6_best_8, sX6_best_11, sX6_best_12, sX6_best_13, sX6_best_16, sX6_best_17, sX6_best_18, sX6_best_21, sX6_best_22, sX6_best_23, sX6_best_24, sX6_best_25, sX6_best_28, sX6_best_29, sX6_best_32, opK_some, guK_true, calK_some, rk_nil, rk_int, rk_ref, tl_some, tl_none, nb_int, nb_0, nb_1, nb_if, nb_if', q130, cf (fX M 0) fX_131, if_pos hf, href (fX M 0) fX_131, if_pos hy, m1_ne, if_false, C_mf0]
  · have e1 : uoR (M 131) x y = 0 := by
      show (if _ then _ else _) = _
      rw [if_neg (fun z => hf z.2)]
    have href := C_m_ref0 (d := d + 20 - 5) (M := fX M 0) (x := x) (n := y)
    rw [show d + 20 - 5 + 5 = d + 20 by omega] at href
    refine ⟨fX M 0, fM (fX M 0) 0, -1000001, ?_, ?_, J_fin j (by omega)⟩
    · rw [show d + 21 = d + 20 + 1 from rfl, nX5_best]
      simp only [sX5_best_0, sX5_best_1, sX5_best_2, sX5_best_3, sX5_best_6, sX5_best_7, sX5_best_8, sX5_best_11, sX5_best_12, sX5_best_13, sX5_best_16, sX5_best_19, sX5_best_20, sX5_best_21, sX5_best_22, sX5_best_25, opK_some, guK_true, calK_some, rk_nil, rk_int, rk_ref, tl_some, tl_none, nb_int, nb_0, nb_1, nb_if, nb_if', q0, cu, e1, show ((0 : Int32) < 0) = False from eq_false (by decide), if_false, C_xf0]
    · rw [show d + 21 = d + 20 + 1 from rfl, nX6_best]
      simp only [sX6_best_0, sX6_best_1, sX6_best_2, sX6_best_3, sX6_best_6, sX6_best_7, sX6_best_8, sX6_best_11, sX6_best_12, sX6_best_13, sX6_best_16, sX6_best_17, sX6_best_18, sX6_best_21, sX6_best_22, sX6_best_23, sX6_best_24, sX6_best_25, sX6_best_28, sX6_best_29, sX6_best_32, opK_some, guK_true, calK_some, rk_nil, rk_int, rk_ref, tl_some, tl_none, nb_int, nb_0, nb_1, nb_if, nb_if', q130, cf (fX M 0) fX_131, if_neg hf, href, m1_ne, if_false, C_mf0]
theorem X_ith {d : Nat} {M : Mem} {x y i : Int32} (j : J M) : Two (d + 21) 54 (d + 21) 192 [.int x, .int y, .int i] M := by
  have w := j_wr j
  have h10 := p2_10 (wr_T w).1
  have cu := C_unorderable (d := d + 17) (x := x) (n := y) j
  rw [show d + 17 + 3 = d + 20 from rfl] at cu
  have cf : ∀ M2 : Mem, M2 131 = M 131 → call (d + 20) 188 [.ref 130, .int x] M2 = some (some (.int (if setP (M 131) x ∧ bcI x ≤ 5 then 1 else 0)), M2) := by
    intro M2 e
    have := C_isFew (d := d + 17) (M := M2) (x := x) (by rw [e]; exact w)
    rw [e] at this
    exact this
  have href0 : call (d + 20) 182 [.ref 130, .int 0, .int x, .int y] (fX M 0) = some (some (.int (-1000001)), fX M 0) := C_m_ref0 (d := d + 20 - 5) (M := fX M 0) (x := x) (n := y)
  by_cases hf : setP (M 131) x ∧ bcI x ≤ 5
  · obtain ⟨s, hs, rfl⟩ := set_of w hf.1
    have ei : iN (nI s) = s := iN_nI (by omega)
    have hbc := bc_ok s (by omega)
    have hl5 : (fl s 10).length ≤ 5 := by
      have h5 := hf.2
      rw [hbc] at h5
      have := fl_le10 s
      exact (nI_leI (b := 5) (by omega) (by omega)).mp h5
    have cb : ∀ M2 : Mem, call (d + 20) 189 [.int (nI s)] M2 = some (some (.int (nI (fl s 10).length)), M2) := fun M2 => C_bits (d := d + 19) (M := M2) (by omega)
    have href : ∀ M2 : Mem, M2 131 = M 131 → call (d + 20) 182 [.ref 130, .int 1, .int (nI s), .int y] M2 = some (some (.int (if ¬ (1 ≤ y ∧ y ≤ 60) then -1000001 else if ¬ outP (M 131) s ∨ 9999 < M 131 0 + y then -1000005 else 0)), M2) := by
      intro M2 e
      have := C_m_ref1 (d := d + 20 - 5) (M := M2) (s := s) (n := y) (by rw [e]; exact w) (by rw [e]; exact hs)
      rw [e] at this
      exact this
    by_cases hi : 0 ≤ i ∧ i ≤ nI (fl s 10).length - 1
    · obtain ⟨k, hk, rfl⟩ : ∃ k, k < (fl s 10).length ∧ i = nI k := by
        obtain ⟨k, hk31, rfl⟩ := nI_of (Int32.not_lt.mpr hi.1)
        rcases Nat.eq_zero_or_pos (fl s 10).length with c | c
        · have h2 := hi.2
          rw [c] at h2
          exact absurd h2 (Int32.not_le.mpr (Int32.lt_of_lt_of_le (show nI 0 - 1 < nI 0 by decide) (nI_le (by omega) hk31)))
        · have h2 := hi.2
          rw [pk_sub1 c] at h2
          have := (nI_leI hk31 (by omega)).mp h2
          exact ⟨k, by omega, rfl⟩
      have hi4 : 0 ≤ nI k ∧ nI k ≤ 4 := ⟨hi.1, nI_le (b := 4) (by omega) (by omega)⟩
      have hlt : nI k < nI (fl s 10).length := nI_lt hk (by omega)
      by_cases hy : 1 ≤ y ∧ y ≤ 60
      · by_cases hb : ¬ outP (M 131) s ∨ 9999 < M 131 0 + y
        · have e1 : uoR (M 131) (nI s) y = 4 := by
            show (if _ then _ else _) = _
            rw [if_pos ⟨hy, hf⟩, ei, if_pos hb]
          refine ⟨fX M 4, fM (fX M 4) 4, -1000005, ?_, ?_, J_fin j (by omega)⟩
          · rw [show d + 21 = d + 20 + 1 from rfl, nX5_ith]
            simp only [sX5_ith_0, sX5_ith_1, sX5_ith_2, sX5_ith_3, sX5_ith_6, sX5_ith_9, sX5_ith_10, sX5_ith_11, sX5_ith_14, sX5_ith_17, sX5_ith_18, sX5_ith_19, sX5_ith_22, sX5_ith_23, sX5_ith_24, sX5_ith_25, sX5_ith_26, sX5_ith_29, sX5_ith_31, sX5_ith_33, sX5_ith_36, sX5_ith_37, sX5_ith_39, sX5_ith_42, sX5_ith_43, sX5_ith_44, sX5_ith_45, sX5_ith_46, sX5_ith_49, sX5_ith_50, sX5_ith_51, sX5_ith_54, sX5_ith_55, sX5_ith_56, opK_some, guK_true, calK_some, rk_nil, rk_int, rk_ref, tl_some, tl_none, nb_int, nb_0, nb_1, nb_if, nb_if', q0, C_x_within, C_bitCount, hbc, hi4, and_self, if_true, one_ne, if_false, hlt, cu, e1, show ((4 : Int32) < 0) = False from eq_false (by decide), C_xf4]
          · rw [show d + 21 = d + 20 + 1 from rfl, nX6_ith]
            simp only [sX6_ith_0, sX6_ith_1, sX6_ith_2, sX6_ith_3, sX6_ith_6, sX6_ith_9, sX6_ith_10, sX6_ith_11, sX6_ith_12, sX6_ith_15, sX6_ith_16, sX6_ith_17, sX6_ith_20, sX6_ith_23, sX6_ith_24, sX6_ith_27, sX6_ith_28, sX6_ith_29, sX6_ith_30, sX6_ith_33, sX6_ith_35, sX6_ith_37, sX6_ith_40, sX6_ith_41, sX6_ith_43, sX6_ith_46, sX6_ith_47, sX6_ith_48, sX6_ith_49, sX6_ith_50, sX6_ith_53, sX6_ith_54, sX6_ith_57, sX6_ith_58, sX6_ith_59, opK_some, guK_true, calK_some, rk_nil, rk_int, rk_ref, tl_some, tl_none, nb_int, nb_0, nb_1, nb_if, nb_if', q130, cf (fX M 4) fX_131, if_pos hf, one_ne, if_false, cb, C_m_within, hi, and_self, if_true, href (fX M 4) fX_131, if_neg (show ¬ ¬ (1 ≤ y ∧ y ≤ 60) from fun z => z hy), if_pos hb, m5_ne, C_mf4]
        · have e1 : uoR (M 131) (nI s) y = -1 := by
            show (if _ then _ else _) = _
            rw [if_pos ⟨hy, hf⟩, ei, if_neg hb]
          obtain ⟨n, n1, n60, rfl⟩ := days_of hy
          obtain ⟨M1, c1, cs1, b1⟩ := C_findBestRow (d := d + 20 - 6) (n := n) (j_hr j) w hs hl5 (by omega)
          rw [show d + 20 - 6 + 6 = d + 20 by omega] at c1
          have e131 := cs1.e
          obtain ⟨M2, c2, ms2, s2⟩ := C_findBest (d := d) (M := M1) (n := n) (by rw [e131]; exact j.1.1.1) (by omega) hl5 (by omega)
          rw [e131] at s2
          have nb := be_ne (s := s) (n := n) w (by omega)
          have b1' := b1.resolve_left nb k hk
          have b2' := s2.2.resolve_left nb k hk
          refine ⟨M1, M2, nI (lrow (beS (M 131) s n).2 k), ?_, ?_, Ms.j (cs1.j j) ms2⟩
          · rw [show d + 21 = d + 20 + 1 from rfl, nX5_ith]
            simp only [sX5_ith_0, sX5_ith_1, sX5_ith_2, sX5_ith_3, sX5_ith_6, sX5_ith_9, sX5_ith_10, sX5_ith_11, sX5_ith_14, sX5_ith_17, sX5_ith_18, sX5_ith_19, sX5_ith_22, sX5_ith_23, sX5_ith_24, sX5_ith_25, sX5_ith_26, sX5_ith_29, sX5_ith_31, sX5_ith_33, sX5_ith_36, sX5_ith_37, sX5_ith_39, sX5_ith_42, sX5_ith_43, sX5_ith_44, sX5_ith_45, sX5_ith_46, sX5_ith_49, sX5_ith_50, sX5_ith_51, sX5_ith_54, sX5_ith_55, sX5_ith_56, opK_some, guK_true, calK_some, rk_nil, rk_int, rk_ref, tl_some, tl_none, nb_int, nb_0, nb_1, nb_if, nb_if', q0, o0_9, a3, C_x_within, C_bitCount, hbc, hi4, and_self, if_true, one_ne, if_false, hlt, cu, e1, show ((-1 : Int32) < 0) = True from eq_true (by decide), c1, inb_nI (show k < 5 by omega) (by omega), nI_clamp (show k < 2 ^ 31 by omega), b1']
          · rw [show d + 21 = d + 20 + 1 from rfl, nX6_ith]
            simp only [sX6_ith_0, sX6_ith_1, sX6_ith_2, sX6_ith_3, sX6_ith_6, sX6_ith_9, sX6_ith_10, sX6_ith_11, sX6_ith_12, sX6_ith_15, sX6_ith_16, sX6_ith_17, sX6_ith_20, sX6_ith_23, sX6_ith_24, sX6_ith_27, sX6_ith_28, sX6_ith_29, sX6_ith_30, sX6_ith_33, sX6_ith_35, sX6_ith_37, sX6_ith_40, sX6_ith_41, sX6_ith_43, sX6_ith_46, sX6_ith_47, sX6_ith_48, sX6_ith_49, sX6_ith_50, sX6_ith_53, sX6_ith_54, sX6_ith_57, sX6_ith_58, sX6_ith_59, opK_some, guK_true, calK_some, rk_nil, rk_int, rk_ref, tl_some, tl_none, nb_int, nb_0, nb_1, nb_if, nb_if', q130, o130_11, a136, cf M1 e131, if_pos hf, one_ne, if_false, cb, C_m_within, hi, and_self, if_true, href M1 e131, if_neg (show ¬ ¬ (1 ≤ nI n ∧ nI n ≤ 60) from fun z => z hy), if_neg hb, zero_eq, c2, inb_nI (show k < 5 by omega) (by omega), nI_clamp (show k < 2 ^ 31 by omega), b2']
      · have e1 : uoR (M 131) (nI s) y = 0 := by
          show (if _ then _ else _) = _
          rw [if_neg (fun z => hy z.1)]
        refine ⟨fX M 0, fM (fX M 0) 0, -1000001, ?_, ?_, J_fin j (by omega)⟩
        · rw [show d + 21 = d + 20 + 1 from rfl, nX5_ith]
          simp only [sX5_ith_0, sX5_ith_1, sX5_ith_2, sX5_ith_3, sX5_ith_6, sX5_ith_9, sX5_ith_10, sX5_ith_11, sX5_ith_14, sX5_ith_17, sX5_ith_18, sX5_ith_19, sX5_ith_22, sX5_ith_23, sX5_ith_24, sX5_ith_25, sX5_ith_26, sX5_ith_29, sX5_ith_31, sX5_ith_33, sX5_ith_36, sX5_ith_37, sX5_ith_39, sX5_ith_42, sX5_ith_43, sX5_ith_44, sX5_ith_45, sX5_ith_46, sX5_ith_49, sX5_ith_50, sX5_ith_51, sX5_ith_54, sX5_ith_55, sX5_ith_56, opK_some, guK_true, calK_some, rk_nil, rk_int, rk_ref, tl_some, tl_none, nb_int, nb_0, nb_1, nb_if, nb_if', q0, C_x_within, C_bitCount, hbc, hi4, and_self, if_true, one_ne, if_false, hlt, cu, e1, show ((0 : Int32) < 0) = False from eq_false (by decide), C_xf0]
        · rw [show d + 21 = d + 20 + 1 from rfl, nX6_ith]
          simp only [sX6_ith_0, sX6_ith_1, sX6_ith_2, sX6_ith_3, sX6_ith_6, sX6_ith_9, sX6_ith_10, sX6_ith_11, sX6_ith_12, sX6_ith_15, sX6_ith_16, sX6_ith_17, sX6_ith_20, sX6_ith_23, sX6_ith_24, sX6_ith_27, sX6_ith_28, sX6_ith_29, sX6_ith_30, sX6_ith_33, sX6_ith_35, sX6_ith_37, sX6_ith_40, sX6_ith_41, sX6_ith_43, sX6_ith_46, sX6_ith_47, sX6_ith_48, sX6_ith_49, sX6_ith_50, sX6_ith_53, sX6_ith_54, sX6_ith_57, sX6_ith_58, sX6_ith_59, opK_some, guK_true, calK_some, rk_nil, rk_int, rk_ref, tl_some, tl_none, nb_int, nb_0, nb_1, nb_if, nb_if', q130, cf (fX M 0) fX_131, if_pos hf, one_ne, if_false, cb, C_m_within, hi, and_self, if_true, href (fX M 0) fX_131, if_pos hy, m1_ne, C_mf0]
    · have hx : ¬ ((0 ≤ i ∧ i ≤ 4) ∧ i < nI (fl s 10).length) := by
        rintro ⟨⟨h0, h4⟩, hl⟩
        refine hi ⟨h0, ?_⟩
        obtain ⟨k, hk31, rfl⟩ := nI_of (Int32.not_lt.mpr h0)
        have := (nI_ltI hk31 (by omega)).mp hl
        rw [pk_sub1 (by omega)]
        exact nI_le (by omega) (by omega)
      refine ⟨fX M 0, fM (fX M 0) 0, -1000001, ?_, ?_, J_fin j (by omega)⟩
      · rw [show d + 21 = d + 20 + 1 from rfl, nX5_ith]
        by_cases h4 : 0 ≤ i ∧ i ≤ 4
        · have hl : ¬ i < nI (fl s 10).length := fun z => hx ⟨h4, z⟩
          simp only [sX5_ith_0, sX5_ith_1, sX5_ith_2, sX5_ith_3, sX5_ith_6, sX5_ith_9, sX5_ith_10, sX5_ith_11, sX5_ith_14, sX5_ith_17, sX5_ith_18, sX5_ith_19, sX5_ith_22, sX5_ith_23, sX5_ith_24, sX5_ith_25, sX5_ith_26, sX5_ith_29, sX5_ith_31, sX5_ith_33, sX5_ith_36, sX5_ith_37, sX5_ith_39, sX5_ith_42, sX5_ith_43, sX5_ith_44, sX5_ith_45, sX5_ith_46, sX5_ith_49, sX5_ith_50, sX5_ith_51, sX5_ith_54, sX5_ith_55, sX5_ith_56, opK_some, guK_true, calK_some, rk_nil, rk_int, rk_ref, tl_some, tl_none, nb_int, nb_0, nb_1, nb_if, nb_if', q0, C_x_within, C_bitCount, hbc, h4, and_self, if_true, one_ne, if_false, hl, C_xf0]
        · simp only [sX5_ith_0, sX5_ith_1, sX5_ith_2, sX5_ith_3, sX5_ith_6, sX5_ith_9, sX5_ith_10, sX5_ith_11, sX5_ith_14, sX5_ith_17, sX5_ith_18, sX5_ith_19, sX5_ith_22, sX5_ith_23, sX5_ith_24, sX5_ith_25, sX5_ith_26, sX5_ith_29, sX5_ith_31, sX5_ith_33, sX5_ith_36, sX5_ith_37, sX5_ith_39, sX5_ith_42, sX5_ith_43, sX5_ith_44, sX5_ith_45, sX5_ith_46, sX5_ith_49, sX5_ith_50, sX5_ith_51, sX5_ith_54, sX5_ith_55, sX5_ith_56, opK_some, guK_true, calK_some, rk_nil, rk_int, rk_ref, tl_some, tl_none, nb_int, nb_0, nb_1, nb_if, nb_if', q0, C_x_within, h4, if_true, zero_eq, if_false, C_xf0]
      · rw [show d + 21 = d + 20 + 1 from rfl, nX6_ith]
        simp only [sX6_ith_0, sX6_ith_1, sX6_ith_2, sX6_ith_3, sX6_ith_6, sX6_ith_9, sX6_ith_10, sX6_ith_11, sX6_ith_12, sX6_ith_15, sX6_ith_16, sX6_ith_17, sX6_ith_20, sX6_ith_23, sX6_ith_24, sX6_ith_27, sX6_ith_28, sX6_ith_29, sX6_ith_30, sX6_ith_33, sX6_ith_35, sX6_ith_37, sX6_ith_40, sX6_ith_41, sX6_ith_43, sX6_ith_46, sX6_ith_47, sX6_ith_48, sX6_ith_49, sX6_ith_50, sX6_ith_53, sX6_ith_54, sX6_ith_57, sX6_ith_58, sX6_ith_59, opK_some, guK_true, calK_some, rk_nil, rk_int, rk_ref, tl_some, tl_none, nb_int, nb_0, nb_1, nb_if, nb_if', q130, cf (fX M 0) fX_131, if_pos hf, one_ne, zero_eq, if_true, if_false, cb, C_m_within, hi, href0, m1_ne, C_mf0]
  · have e1 : uoR (M 131) x y = 0 := by
      show (if _ then _ else _) = _
      rw [if_neg (fun z => hf z.2)]
    refine ⟨fX M 0, fM (fX M 0) 0, -1000001, ?_, ?_, J_fin j (by omega)⟩
    · rw [show d + 21 = d + 20 + 1 from rfl, nX5_ith]
      by_cases h4 : 0 ≤ i ∧ i ≤ 4
      · by_cases hl : i < bcI x
        · simp only [sX5_ith_0, sX5_ith_1, sX5_ith_2, sX5_ith_3, sX5_ith_6, sX5_ith_9, sX5_ith_10, sX5_ith_11, sX5_ith_14, sX5_ith_17, sX5_ith_18, sX5_ith_19, sX5_ith_22, sX5_ith_23, sX5_ith_24, sX5_ith_25, sX5_ith_26, sX5_ith_29, sX5_ith_31, sX5_ith_33, sX5_ith_36, sX5_ith_37, sX5_ith_39, sX5_ith_42, sX5_ith_43, sX5_ith_44, sX5_ith_45, sX5_ith_46, sX5_ith_49, sX5_ith_50, sX5_ith_51, sX5_ith_54, sX5_ith_55, sX5_ith_56, opK_some, guK_true, calK_some, rk_nil, rk_int, rk_ref, tl_some, tl_none, nb_int, nb_0, nb_1, nb_if, nb_if', q0, C_x_within, C_bitCount, h4, and_self, if_true, one_ne, if_false, hl, cu, e1, show ((0 : Int32) < 0) = False from eq_false (by decide), C_xf0]
        · simp only [sX5_ith_0, sX5_ith_1, sX5_ith_2, sX5_ith_3, sX5_ith_6, sX5_ith_9, sX5_ith_10, sX5_ith_11, sX5_ith_14, sX5_ith_17, sX5_ith_18, sX5_ith_19, sX5_ith_22, sX5_ith_23, sX5_ith_24, sX5_ith_25, sX5_ith_26, sX5_ith_29, sX5_ith_31, sX5_ith_33, sX5_ith_36, sX5_ith_37, sX5_ith_39, sX5_ith_42, sX5_ith_43, sX5_ith_44, sX5_ith_45, sX5_ith_46, sX5_ith_49, sX5_ith_50, sX5_ith_51, sX5_ith_54, sX5_ith_55, sX5_ith_56, opK_some, guK_true, calK_some, rk_nil, rk_int, rk_ref, tl_some, tl_none, nb_int, nb_0, nb_1, nb_if, nb_if', q0, C_x_within, C_bitCount, h4, and_self, if_true, one_ne, if_false, hl, C_xf0]
      · simp only [sX5_ith_0, sX5_ith_1, sX5_ith_2, sX5_ith_3, sX5_ith_6, sX5_ith_9, sX5_ith_10, sX5_ith_11, sX5_ith_14, sX5_ith_17, sX5_ith_18, sX5_ith_19, sX5_ith_22, sX5_ith_23, sX5_ith_24, sX5_ith_25, sX5_ith_26, sX5_ith_29, sX5_ith_31, sX5_ith_33, sX5_ith_36, sX5_ith_37, sX5_ith_39, sX5_ith_42, sX5_ith_43, sX5_ith_44, sX5_ith_45, sX5_ith_46, sX5_ith_49, sX5_ith_50, sX5_ith_51, sX5_ith_54, sX5_ith_55, sX5_ith_56, opK_some, guK_true, calK_some, rk_nil, rk_int, rk_ref, tl_some, tl_none, nb_int, nb_0, nb_1, nb_if, nb_if', q0, C_x_within, h4, if_true, zero_eq, if_false, C_xf0]
    · rw [show d + 21 = d + 20 + 1 from rfl, nX6_ith]
      simp only [sX6_ith_0, sX6_ith_1, sX6_ith_2, sX6_ith_3, sX6_ith_6, sX6_ith_9, sX6_ith_10, sX6_ith_11, sX6_ith_12, sX6_ith_15, sX6_ith_16, sX6_ith_17, sX6_ith_20, sX6_ith_23, sX6_ith_24, sX6_ith_27, sX6_ith_28, sX6_ith_29, sX6_ith_30, sX6_ith_33, sX6_ith_35, sX6_ith_37, sX6_ith_40, sX6_ith_41, sX6_ith_43, sX6_ith_46, sX6_ith_47, sX6_ith_48, sX6_ith_49, sX6_ith_50, sX6_ith_53, sX6_ith_54, sX6_ith_57, sX6_ith_58, sX6_ith_59, opK_some, guK_true, calK_some, rk_nil, rk_int, rk_ref, tl_some, tl_none, nb_int, nb_0, nb_1, nb_if, nb_if', q130, cf (fX M 0) fX_131, if_neg hf, zero_eq, if_true, href0, m1_ne, if_false, C_mf0]

