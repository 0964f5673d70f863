/-! a set's things in a row; calls: plan -/
/-- the things of a set below n, by numbers -/
def fl (s : Nat) : Nat → List Nat
  | 0 => []
  | n + 1 => if s.testBit n then fl s n ++ [n] else fl s n
theorem fl_len (s : Nat) : ∀ n, (fl s n).length ≤ n := by
  intro n
  induction n with
  | zero => exact Nat.le_refl _
  | succ n ih =>
    show (if s.testBit n then fl s n ++ [n] else fl s n).length ≤ n + 1
    split
    · rw [List.length_append]
      show (fl s n).length + 1 ≤ n + 1
      omega
    · omega
theorem fl_mem (s : Nat) : ∀ n x, x ∈ fl s n → x < n := by
  intro n
  induction n with
  | zero => intro x hx; exact absurd hx List.not_mem_nil
  | succ n ih =>
    intro x hx
    have hx' : x ∈ (if s.testBit n then fl s n ++ [n] else fl s n) := hx
    split at hx'
    · rcases List.mem_append.mp hx' with h | h
      · have := ih x h
        omega
      · have := List.mem_singleton.mp h
        omega
    · have := ih x hx'
      omega
abbrev lrow (l : List Nat) : Nat → Nat := fun k => l.getD k 0
theorem lrow_app {l : List Nat} {x k : Nat} : lrow (l ++ [x]) k = if k < l.length then lrow l k else if k = l.length then x else 0 := by
  show (l ++ [x]).getD k 0 = _
  rw [List.getD_eq_getElem?_getD]
  split
  · rename_i h
    rw [List.getElem?_append_left h]
    show _ = l.getD k 0
    rw [List.getD_eq_getElem?_getD]
  · rename_i h
    split
    · rename_i e
      subst e
      rw [List.getElem?_append_right (Nat.le_refl _), Nat.sub_self]
      rfl
    · rename_i e
      rw [List.getElem?_eq_none (by rw [List.length_append]; show l.length + 1 ≤ k; omega)]
      rfl
theorem lrow_lt {s n k : Nat} (h : k < (fl s n).length) : lrow (fl s n) k < n := by
  have : lrow (fl s n) k = (fl s n)[k] := by
    show (fl s n).getD k 0 = _
    rw [List.getD_eq_getElem?_getD, List.getElem?_eq_getElem h]
    rfl
  rw [this]
  exact fl_mem s n _ (List.getElem_mem h)
theorem fl_1 {s n : Nat} (h : s.testBit n = true) : fl s (n + 1) = fl s n ++ [n] := if_pos h
theorem fl_0 {s n : Nat} (h : ¬ s.testBit n = true) : fl s (n + 1) = fl s n := if_neg h
theorem L_fillRow {d s : Nat} {M : Mem} {r : Rw} (h : HR M 10 r) (w : WR r) (hs : s < 2 ^ nT r) : ∀ (m i : Nat) (M1 : Mem), i + m = nT r → Cs M M1 → (∀ k, k < (fl s i).length → M1 2 k = nI (lrow (fl s i) k)) →
    ∃ M', lim (call (d + 0)) none 5 cX5_fillRow (some .int) 4 [some (.ref 0), some (.int (nI s)), some (.int (nI (fl s i).length)), some (.int (nI i))] [] M1 = some (some (.int (nI (fl s (nT r)).length)), M') ∧ Cs M M' ∧ Ro M' (lrow (fl s (nT r))) (fl s (nT r)).length := by
  have hT := wr_T w
  have h10 := p2_10 hT.1
  intro m
  induction m with
  | zero =>
    intro i M1 hi c al
    obtain rfl : i = nT r := by omega
    have e0 : M1 10 0 = nI (nT r) := (c.hr h).1.1.trans hT.2
    have hl := fl_len s (nT r)
    rw [sX5_fillRow_4]
    simp only [sX5_fillRow_0, sX5_fillRow_1, sX5_fillRow_2, sX5_fillRow_3, sX5_fillRow_5, sX5_fillRow_6, sX5_fillRow_9, sX5_fillRow_12, sX5_fillRow_15, sX5_fillRow_18, sX5_fillRow_19, sX5_fillRow_20, sX5_fillRow_21, sX5_fillRow_22, sX5_fillRow_23, sX5_fillRow_26, sX5_fillRow_27, sX5_fillRow_30, sX5_fillRow_31, sX5_fillRow_32, sX5_fillRow_33, sX5_fillRow_36, sX5_fillRow_39, sX5_fillRow_42, sX5_fillRow_43, opK_some, guK_true, calK_some, rk_nil, rk_int, rk_ref, tl_some, tl_none, nb_int, nb_0, nb_1, nb_if, nb_if', o0_0, o100_0, hs_0 hen10, e0]
    rw [if_pos (show nI (nT r) ≤ nI (nT r) from Int32.le_refl _)]
    exact ⟨M1, rfl, c, by omega, fun k hk => ⟨by have := lrow_lt hk; omega, al k hk⟩⟩
  | succ m ih =>
    intro i M1 hi c al
    have i10 : i < 10 := by omega
    have hl := fl_len s i
    have e0 : M1 10 0 = nI (nT r) := (c.hr h).1.1.trans hT.2
    rw [sX5_fillRow_4]
    simp only [sX5_fillRow_0, sX5_fillRow_1, sX5_fillRow_2, sX5_fillRow_3, sX5_fillRow_5, sX5_fillRow_6, sX5_fillRow_9, sX5_fillRow_12, sX5_fillRow_15, sX5_fillRow_18, sX5_fillRow_19, sX5_fillRow_20, sX5_fillRow_21, sX5_fillRow_22, sX5_fillRow_23, sX5_fillRow_26, sX5_fillRow_27, sX5_fillRow_30, sX5_fillRow_31, sX5_fillRow_33, sX5_fillRow_36, sX5_fillRow_39, sX5_fillRow_42, sX5_fillRow_43, opK_some, guK_true, calK_some, rk_nil, rk_int, rk_ref, tl_some, tl_none, nb_int, nb_0, nb_1, nb_if, nb_if', o0_0, o0_8, o100_0, hs_0 hen10, e0, hb_v (show s < 2 ^ 31 by omega) (show i < 32 by omega), nI_1]
    rw [if_neg (show ¬ nI (nT r) ≤ nI i from nI_ge (by omega) (by omega))]
    by_cases hb : s.testBit i = true
    · rw [if_pos hb, if_neg (by decide), sX5_fillRow_32]
      simp only [sX5_fillRow_0, sX5_fillRow_1, sX5_fillRow_2, sX5_fillRow_3, sX5_fillRow_5, sX5_fillRow_6, sX5_fillRow_9, sX5_fillRow_12, sX5_fillRow_15, sX5_fillRow_18, sX5_fillRow_19, sX5_fillRow_20, sX5_fillRow_21, sX5_fillRow_22, sX5_fillRow_23, sX5_fillRow_26, sX5_fillRow_27, sX5_fillRow_30, sX5_fillRow_31, sX5_fillRow_33, sX5_fillRow_36, sX5_fillRow_39, sX5_fillRow_42, sX5_fillRow_43, opK_some, guK_true, calK_some, rk_nil, rk_int, rk_ref, tl_some, tl_none, nb_int, nb_0, nb_1, nb_if, nb_if', a2, b2, inb_nI (show (fl s i).length < 10 by omega) (by omega), nI_clamp (show (fl s i).length < 2 ^ 31 by omega), nI_1]
      have e := fl_1 hb
      have el : (fl s (i + 1)).length = (fl s i).length + 1 := by rw [e, List.length_append]; rfl
      rw [← el]
      refine ih (i + 1) _ (by omega) (c.tr (Cs.set (Or.inl rfl))) (fun k hk => ?_)
      rw [mset_at, e, lrow_app]
      by_cases ck : k = (fl s i).length
      · subst ck
        rw [upd_at, if_neg (by omega), if_pos rfl]
      · rw [upd_ne ck, if_pos (by omega)]
        exact al k (by omega)
    · rw [if_neg hb, if_pos rfl]
      have e := fl_0 hb
      have := ih (i + 1) M1 (by omega) c (by rw [e]; exact al)
      rw [e] at this
      exact this
theorem C_fillRow {d s : Nat} {M : Mem} {r : Rw} (h : HR M 10 r) (w : WR r) (hs : s < 2 ^ nT r) : ∃ M', call (d + 1) 45 [.ref 0, .int (nI s)] M = some (some (.int (nI (fl s (nT r)).length)), M') ∧ Cs M M' ∧ Ro M' (lrow (fl s (nT r))) (fl s (nT r)).length := by
  rw [nX5_fillRow]
  simp only [sX5_fillRow_0, sX5_fillRow_1, sX5_fillRow_2, sX5_fillRow_3, sX5_fillRow_5, sX5_fillRow_6, sX5_fillRow_9, sX5_fillRow_12, sX5_fillRow_15, sX5_fillRow_18, sX5_fillRow_19, sX5_fillRow_20, sX5_fillRow_21, sX5_fillRow_22, sX5_fillRow_23, sX5_fillRow_26, sX5_fillRow_27, sX5_fillRow_30, sX5_fillRow_31, sX5_fillRow_32, sX5_fillRow_33, sX5_fillRow_36, sX5_fillRow_39, sX5_fillRow_42, sX5_fillRow_43, opK_some, guK_true, calK_some, rk_nil, rk_int, rk_ref, tl_some, tl_none, nb_int, nb_0, nb_1, nb_if, nb_if']
  exact L_fillRow h w hs (nT r) 0 M (by omega) Cs.rf (fun k hk => absurd hk (Nat.not_lt_zero k))
theorem L_mealOf {d s : Nat} {M : Mem} {r : Rw} (w : WR r) (e : M 131 = r) (hs : s < 2 ^ nT r) : ∀ (m i : Nat) (M1 : Mem), i + m = nT r → Mb M M1 → M1 130 10 = nI (fl s i).length → (∀ k, k < (fl s i).length → M1 135 k = nI (lrow (fl s i) k)) →
    ∃ M', lim (call (d + 1)) none 6 cX6_mealOf none 7 [some (.ref 130), some (.int (nI s)), some (.int (nI i))] [] M1 = some (none, M') ∧ Mb M M' ∧ Me M' (lrow (fl s (nT r))) (fl s (nT r)).length := by
  have hT := wr_T w
  have h10 := p2_10 hT.1
  intro m
  induction m with
  | zero =>
    intro i M1 hi c e10 al
    obtain rfl : i = nT r := by omega
    have e1 : M1 131 = r := (c.1 131 (by omega) (by omega)).trans e
    have hl := fl_len s (nT r)
    rw [sX6_mealOf_7]
    simp only [sX6_mealOf_0, sX6_mealOf_1, sX6_mealOf_2, sX6_mealOf_5, sX6_mealOf_6, sX6_mealOf_8, sX6_mealOf_9, sX6_mealOf_12, sX6_mealOf_13, sX6_mealOf_14, sX6_mealOf_17, sX6_mealOf_18, sX6_mealOf_19, sX6_mealOf_22, sX6_mealOf_25, sX6_mealOf_26, sX6_mealOf_29, sX6_mealOf_30, sX6_mealOf_33, sX6_mealOf_34, sX6_mealOf_35, sX6_mealOf_36, sX6_mealOf_36_i, sX6_mealOf_37, sX6_mealOf_40, sX6_mealOf_41, sX6_mealOf_42, sX6_mealOf_45, sX6_mealOf_48, sX6_mealOf_51, opK_some, guK_true, calK_some, rk_nil, rk_int, rk_ref, tl_some, tl_none, nb_int, nb_0, nb_1, nb_if, nb_if', o130_0, a131, ib_3_132, tn_3, e1]
    rw [if_pos (show r 3 ≤ nI (nT r) by rw [← hT.2]; exact Int32.le_refl _)]
    exact ⟨M1, rfl, c, by omega, e10, fun k hk => ⟨by have := lrow_lt hk; omega, al k hk⟩⟩
  | succ m ih =>
    intro i M1 hi c e10 al
    have i10 : i < 10 := by omega
    have hl := fl_len s i
    have e1 : M1 131 = r := (c.1 131 (by omega) (by omega)).trans e
    rw [sX6_mealOf_7]
    simp only [sX6_mealOf_0, sX6_mealOf_1, sX6_mealOf_2, sX6_mealOf_5, sX6_mealOf_6, sX6_mealOf_8, sX6_mealOf_9, sX6_mealOf_12, sX6_mealOf_13, sX6_mealOf_14, sX6_mealOf_17, sX6_mealOf_18, sX6_mealOf_19, sX6_mealOf_22, sX6_mealOf_25, sX6_mealOf_26, sX6_mealOf_29, sX6_mealOf_30, sX6_mealOf_33, sX6_mealOf_35, sX6_mealOf_36, sX6_mealOf_36_i, sX6_mealOf_37, sX6_mealOf_40, sX6_mealOf_41, sX6_mealOf_42, sX6_mealOf_45, sX6_mealOf_48, sX6_mealOf_51, opK_some, guK_true, calK_some, rk_nil, rk_int, rk_ref, tl_some, tl_none, nb_int, nb_0, nb_1, nb_if, nb_if', o130_0, o130_9, o130_10, a131, ib_3_132, tn_3, e1, C_m_has, hb_v (show s < 2 ^ 31 by omega) (show i < 32 by omega), nI_1]
    rw [if_neg (show ¬ r 3 ≤ nI i by rw [hT.2]; exact nI_ge (by omega) (by omega))]
    by_cases hb : s.testBit i = true
    · have e10' : ∀ v, (mset M1 135 (fl s i).length v) 130 10 = nI (fl s i).length := fun v => by rw [mset_ne (by omega)]; exact e10
      simp only [hb, if_true, one_eq, one_ne, if_false]
      rw [sX6_mealOf_34]
      simp only [sX6_mealOf_0, sX6_mealOf_1, sX6_mealOf_2, sX6_mealOf_5, sX6_mealOf_6, sX6_mealOf_8, sX6_mealOf_9, sX6_mealOf_12, sX6_mealOf_13, sX6_mealOf_14, sX6_mealOf_17, sX6_mealOf_18, sX6_mealOf_19, sX6_mealOf_22, sX6_mealOf_25, sX6_mealOf_26, sX6_mealOf_29, sX6_mealOf_30, sX6_mealOf_33, sX6_mealOf_35, sX6_mealOf_36, sX6_mealOf_36_i, sX6_mealOf_37, sX6_mealOf_40, sX6_mealOf_41, sX6_mealOf_42, sX6_mealOf_45, sX6_mealOf_48, sX6_mealOf_51, opK_some, guK_true, calK_some, rk_nil, rk_int, rk_ref, tl_some, tl_none, nb_int, nb_0, nb_1, nb_if, nb_if', a135, b135, o130_10, p130_10, e10, inb_nI (show (fl s i).length < 10 by omega) (by omega), nI_clamp (show (fl s i).length < 2 ^ 31 by omega), e10', nI_1]
      have e' := fl_1 hb
      have el : (fl s (i + 1)).length = (fl s i).length + 1 := by rw [e', List.length_append]; rfl
      rw [← el]
      refine ih (i + 1) _ (by omega) (c.tr (Mb.m135.tr Mb.m10)) (by rw [mset_at, upd_at]) (fun k hk => ?_)
      rw [mset_ne (by omega), mset_at, e', lrow_app]
      by_cases ck : k = (fl s i).length
      · subst ck
        rw [upd_at, if_neg (by omega), if_pos rfl]
      · rw [upd_ne ck, if_pos (by omega)]
        exact al k (by omega)
    · simp only [hb, if_false, zero_ne, zero_eq, if_true, Bool.false_eq_true]
      have e' := fl_0 hb
      exact ih (i + 1) M1 (by omega) c (by rw [e']; exact e10) (by rw [e']; exact al)
theorem C_m_mealOf {d s : Nat} {M : Mem} (w : WR (M 131)) (hs : s < 2 ^ nT (M 131)) : ∃ M', call (d + 2) 184 [.ref 130, .int (nI s)] M = some (none, M') ∧ Mb M M' ∧ Me M' (lrow (fl s (nT (M 131)))) (fl s (nT (M 131))).length := by
  obtain ⟨M2, c2, b2, m2⟩ := L_mealOf (d := d) (s := s) (M := M) w rfl hs (nT (M 131)) 0 (mset M 130 10 0) (by omega) Mb.m10 (by rw [mset_at, upd_at]; rfl) (fun k hk => absurd hk (Nat.not_lt_zero k))
  rw [nX6_mealOf]
  simp only [sX6_mealOf_0, sX6_mealOf_1, sX6_mealOf_2, sX6_mealOf_5, sX6_mealOf_6, sX6_mealOf_8, sX6_mealOf_9, sX6_mealOf_12, sX6_mealOf_13, sX6_mealOf_14, sX6_mealOf_17, sX6_mealOf_18, sX6_mealOf_19, sX6_mealOf_22, sX6_mealOf_25, sX6_mealOf_26, sX6_mealOf_29, sX6_mealOf_30, sX6_mealOf_33, sX6_mealOf_34, sX6_mealOf_35, sX6_mealOf_36, sX6_mealOf_36_i, sX6_mealOf_37, sX6_mealOf_40, sX6_mealOf_41, sX6_mealOf_42, sX6_mealOf_45, sX6_mealOf_48, sX6_mealOf_51, opK_some, guK_true, calK_some, rk_nil, rk_int, rk_ref, tl_some, tl_none, nb_int, nb_0, nb_1, nb_if, nb_if', p130_10]
  exact ⟨M2, c2, b2, m2⟩
theorem X_plan {d : Nat} {M : Mem} {x y : Int32} (j : J M) : Two (d + 6) 42 (d + 7) 180 [.int x, .int y] M := by
  have w := j_wr j
  have ed : M 100 1 = M 131 0 := j.1.2.2.1.1
  have hset := C_x_isSet (d := d + 4) (x := x) (j_hr j) w
  rw [show d + 4 + 1 = d + 5 from rfl] at hset
  have mset' : ∀ (M2 : Mem), M2 131 = M 131 → call (d + 6) 181 [.ref 130, .int x] M2 = some (some (.int (if setP (M 131) x then 1 else 0)), M2) := by
    intro M2 e
    have := C_m_isSet (d := d + 4) (M := M2) (x := x) (by rw [e]; exact w)
    rw [show d + 4 + 2 = d + 6 from rfl] at this
    rw [e] at this
    exact this
  by_cases hg : (1 ≤ y ∧ y ≤ 60) ∧ setP (M 131) x
  · obtain ⟨hy, hx⟩ := hg
    obtain ⟨s, hs, rfl⟩ := set_of w hx
    have hout := C_areOut (d := d + 3) (j_hr j) w hs
    rw [show d + 3 + 2 = d + 5 from rfl] at hout
    have href : ∀ (M2 : Mem), M2 131 = M 131 → call (d + 6) 182 [.ref 130, .int 1, .int (nI s), .int y] M2 = some (some (.int (if ¬ (1 ≤ y ∧ y ≤ 60) then -1000001 else if ¬ outP (M 131) s ∨ 9999 < M 131 0 + y then -1000005 else 0)), M2) := by
      intro M2 e
      have := C_m_ref1 (d := d + 1) (M := M2) (s := s) (n := y) (by rw [e]; exact w) (by rw [e]; exact hs)
      rw [show d + 1 + 5 = d + 6 from rfl] at this
      rw [e] at this
      exact this
    by_cases hb : ¬ outP (M 131) s ∨ 9999 < M 131 0 + y
    · refine ⟨fX M 4, fM (fX M 4) 4, -1000005, ?_, ?_, J_fin j (by omega)⟩
      · rw [nX5_plan]
        simp only [sX5_plan_0, sX5_plan_1, sX5_plan_4, sX5_plan_7, sX5_plan_8, sX5_plan_9, sX5_plan_12, sX5_plan_15, sX5_plan_16, sX5_plan_17, sX5_plan_20, sX5_plan_21, sX5_plan_22, sX5_plan_23, sX5_plan_26, sX5_plan_29, sX5_plan_30, sX5_plan_31, sX5_plan_34, sX5_plan_37, sX5_plan_38, sX5_plan_39, sX5_plan_42, sX5_plan_43, sX5_plan_44, sX5_plan_45, sX5_plan_46, sX5_plan_49, sX5_plan_50, sX5_plan_53, opK_some, guK_true, calK_some, rk_nil, rk_int, rk_ref, tl_some, tl_none, nb_int, nb_0, nb_1, nb_if, nb_if', q0, C_x_isDays, hset, if_pos hx, hy, and_self, if_true, one_ne, if_false, hout, C_x_isTooLate, ed, C_xf4]
        by_cases a : outP (M 131) s
        · have hl : 9999 < M 131 0 + y := hb.resolve_left (fun z => z a)
          simp only [if_pos a, hl, if_true, one_ne, if_false]
        · simp only [if_neg a, zero_eq, if_true]
      · rw [nX6_plan]
        simp only [sX6_plan_0, sX6_plan_1, sX6_plan_2, sX6_plan_3, sX6_plan_6, sX6_plan_7, sX6_plan_8, sX6_plan_11, sX6_plan_12, sX6_plan_13, sX6_plan_16, sX6_plan_17, sX6_plan_18, sX6_plan_21, sX6_plan_22, sX6_plan_23, sX6_plan_26, sX6_plan_27, sX6_plan_30, sX6_plan_33, sX6_plan_34, sX6_plan_35, sX6_plan_38, sX6_plan_39, sX6_plan_40, sX6_plan_43, opK_some, guK_true, calK_some, rk_nil, rk_int, rk_ref, tl_some, tl_none, nb_int, nb_0, nb_1, nb_if, nb_if', q130, mset' (fX M 4) fX_131, href (fX M 4) fX_131, if_pos hx, if_neg (show ¬ ¬ (1 ≤ y ∧ y ≤ 60) from fun z => z hy), if_pos hb, m5_ne, if_false, C_mf4]
    · have a : outP (M 131) s := Decidable.byContradiction (fun z => hb (Or.inl z))
      have hl : ¬ 9999 < M 131 0 + y := fun z => hb (Or.inr z)
      obtain ⟨n, n1, n60, rfl⟩ := days_of hy
      obtain ⟨M1, c1, cs1, ro⟩ := C_fillRow (d := d + 4) (j_hr j) w hs
      rw [show d + 4 + 1 = d + 5 from rfl] at c1
      obtain ⟨M2, c2, o2⟩ := C_bring (d := d + 0) (n := n) (cs1.hr (j_hr j)) w ro (by omega)
      rw [show d + 0 + 5 = d + 5 from rfl] at c2
      have cs2 : Cs M M2 := cs1.tr (Cs.ou (by omega) (by omega) o2)
      have e2 := cs2.e
      have hc := C_aside (d := d + 5) (M := M2)
      rw [show d + 5 + 1 = d + 6 from rfl] at hc
      obtain ⟨M3, hM3⟩ : ∃ M3, M3 = mrow M2 133 (cpR (M2 131) (M2 133)) := ⟨_, rfl⟩
      rw [← hM3] at hc
      have ms3 : Ms M2 M3 := by rw [hM3]; exact Ms.as
      have r3 : M3 131 = M 131 := (ms3.1 131 (by omega)).trans e2
      have a3 : M3 133 = cpR (M 131) (M2 133) := by rw [hM3, mrow_at, e2]
      obtain ⟨M4, c4, b4, me4⟩ := C_m_mealOf (d := d + 4) (M := M3) (s := s) (by rw [r3]; exact w) (by rw [r3]; exact hs)
      rw [show d + 4 + 2 = d + 6 from rfl] at c4
      rw [r3] at me4
      obtain ⟨M5, c5, o5, r5⟩ := C_m_brings (d := d + 0) (n := n) (M := M4) j.1.1.1 ((b4.1 131 (by omega) (by omega)).trans r3) ((b4.1 133 (by omega) (by omega)).trans a3) me4 (by omega)
      rw [show d + 0 + 6 = d + 6 from rfl] at c5
      have b5 : Mb M4 M5 := Mb.mo o5 (by rw [r5, b4.1 131 (by omega) (by omega), r3])
      refine ⟨M2, M5, bS (M 131) (lrow (fl s (nT (M 131)))) (fl s (nT (M 131))).length n, ?_, ?_, Ms.j (cs2.j j) (ms3.tr (b4.tr b5).ms)⟩
      · rw [nX5_plan]
        simp only [sX5_plan_0, sX5_plan_1, sX5_plan_4, sX5_plan_7, sX5_plan_8, sX5_plan_9, sX5_plan_12, sX5_plan_15, sX5_plan_16, sX5_plan_17, sX5_plan_20, sX5_plan_21, sX5_plan_22, sX5_plan_23, sX5_plan_26, sX5_plan_29, sX5_plan_30, sX5_plan_31, sX5_plan_34, sX5_plan_37, sX5_plan_38, sX5_plan_39, sX5_plan_42, sX5_plan_43, sX5_plan_44, sX5_plan_45, sX5_plan_46, sX5_plan_49, sX5_plan_50, sX5_plan_53, opK_some, guK_true, calK_some, rk_nil, rk_int, rk_ref, tl_some, tl_none, nb_int, nb_0, nb_1, nb_if, nb_if', q0, C_x_isDays, hset, if_pos hx, hy, and_self, if_true, one_ne, zero_eq, if_false, hout, if_pos a, C_x_isTooLate, ed, hl, c1, c2]
      · rw [nX6_plan]
        simp only [sX6_plan_0, sX6_plan_1, sX6_plan_2, sX6_plan_3, sX6_plan_6, sX6_plan_7, sX6_plan_8, sX6_plan_11, sX6_plan_12, sX6_plan_13, sX6_plan_16, sX6_plan_17, sX6_plan_18, sX6_plan_21, sX6_plan_22, sX6_plan_23, sX6_plan_26, sX6_plan_27, sX6_plan_30, sX6_plan_33, sX6_plan_34, sX6_plan_35, sX6_plan_38, sX6_plan_39, sX6_plan_40, sX6_plan_43, opK_some, guK_true, calK_some, rk_nil, rk_int, rk_ref, tl_some, tl_none, nb_int, nb_0, nb_1, nb_if, nb_if', q130, o130_0, o130_2, mset' M2 e2, href M2 e2, if_pos hx, if_neg (show ¬ ¬ (1 ≤ nI n ∧ nI n ≤ 60) from fun z => z hy), if_neg hb, zero_eq, if_true, hc, c4, c5]
  · refine ⟨fX M 0, fM (fX M 0) 0, -1000001, ?_, ?_, J_fin j (by omega)⟩
    · rw [nX5_plan]
      by_cases hy : 1 ≤ y ∧ y ≤ 60
      · have hx : ¬ setP (M 131) x := fun z => hg ⟨hy, z⟩
        simp only [sX5_plan_0, sX5_plan_1, sX5_plan_4, sX5_plan_7, sX5_plan_8, sX5_plan_9, sX5_plan_12, sX5_plan_15, sX5_plan_16, sX5_plan_17, sX5_plan_20, sX5_plan_21, sX5_plan_22, sX5_plan_23, sX5_plan_26, sX5_plan_29, sX5_plan_30, sX5_plan_31, sX5_plan_34, sX5_plan_37, sX5_plan_38, sX5_plan_39, sX5_plan_42, sX5_plan_43, sX5_plan_44, sX5_plan_45, sX5_plan_46, sX5_plan_49, sX5_plan_50, sX5_plan_53, opK_some, guK_true, calK_some, rk_nil, rk_int, rk_ref, tl_some, tl_none, nb_int, nb_0, nb_1, nb_if, nb_if', q0, C_x_isDays, hset, if_neg hx, hy, and_self, if_true, one_ne, zero_eq, if_false, C_xf0]
      · simp only [sX5_plan_0, sX5_plan_1, sX5_plan_4, sX5_plan_7, sX5_plan_8, sX5_plan_9, sX5_plan_12, sX5_plan_15, sX5_plan_16, sX5_plan_17, sX5_plan_20, sX5_plan_21, sX5_plan_22, sX5_plan_23, sX5_plan_26, sX5_plan_29, sX5_plan_30, sX5_plan_31, sX5_plan_34, sX5_plan_37, sX5_plan_38, sX5_plan_39, sX5_plan_42, sX5_plan_43, sX5_plan_44, sX5_plan_45, sX5_plan_46, sX5_plan_49, sX5_plan_50, sX5_plan_53, opK_some, guK_true, calK_some, rk_nil, rk_int, rk_ref, tl_some, tl_none, nb_int, nb_0, nb_1, nb_if, nb_if', q0, C_x_isDays, hy, if_true, zero_eq, if_false, C_xf0]
    · rw [nX6_plan]
      by_cases hx : setP (M 131) x
      · obtain ⟨s, hs, rfl⟩ := set_of w hx
        have hy : ¬ (1 ≤ y ∧ y ≤ 60) := fun z => hg ⟨z, hx⟩
        have href := C_m_ref1 (d := d + 1) (M := fX M 0) (s := s) (n := y) (by rw [fX_131]; exact w) (by rw [fX_131]; exact hs)
        rw [show d + 1 + 5 = d + 6 from rfl] at href
        simp only [sX6_plan_0, sX6_plan_1, sX6_plan_2, sX6_plan_3, sX6_plan_6, sX6_plan_7, sX6_plan_8, sX6_plan_11, sX6_plan_12, sX6_plan_13, sX6_plan_16, sX6_plan_17, sX6_plan_18, sX6_plan_21, sX6_plan_22, sX6_plan_23, sX6_plan_26, sX6_plan_27, sX6_plan_30, sX6_plan_33, sX6_plan_34, sX6_plan_35, sX6_plan_38, sX6_plan_39, sX6_plan_40, sX6_plan_43, opK_some, guK_true, calK_some, rk_nil, rk_int, rk_ref, tl_some, tl_none, nb_int, nb_0, nb_1, nb_if, nb_if', q130, mset' (fX M 0) fX_131, href, if_pos hx]
        rw [if_pos hy, if_neg (by decide)]
        simp only [sX6_plan_0, sX6_plan_1, sX6_plan_2, sX6_plan_3, sX6_plan_6, sX6_plan_7, sX6_plan_8, sX6_plan_11, sX6_plan_12, sX6_plan_13, sX6_plan_16, sX6_plan_17, sX6_plan_18, sX6_plan_21, sX6_plan_22, sX6_plan_23, sX6_plan_26, sX6_plan_27, sX6_plan_30, sX6_plan_33, sX6_plan_34, sX6_plan_35, sX6_plan_38, sX6_plan_39, sX6_plan_40, sX6_plan_43, opK_some, guK_true, calK_some, rk_nil, rk_int, rk_ref, tl_some, tl_none, nb_int, nb_0, nb_1, nb_if, nb_if', q130, C_mf0]
      · have href := C_m_ref0 (d := d + 1) (M := fX M 0) (x := x) (n := y)
        rw [show d + 1 + 5 = d + 6 from rfl] at href
        simp only [sX6_plan_0, sX6_plan_1, sX6_plan_2, sX6_plan_3, sX6_plan_6, sX6_plan_7, sX6_plan_8, sX6_plan_11, sX6_plan_12, sX6_plan_13, sX6_plan_16, sX6_plan_17, sX6_plan_18, sX6_plan_21, sX6_plan_22, sX6_plan_23, sX6_plan_26, sX6_plan_27, sX6_plan_30, sX6_plan_33, sX6_plan_34, sX6_plan_35, sX6_plan_38, sX6_plan_39, sX6_plan_40, sX6_plan_43, opK_some, guK_true, calK_some, rk_nil, rk_int, rk_ref, tl_some, tl_none, nb_int, nb_0, nb_1, nb_if, nb_if', q130, mset' (fX M 0) fX_131, if_neg hx, if_false, href, m1_ne, C_mf0]

