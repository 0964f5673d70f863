/-! calls: turns, first -/
def Bd (v : Int32) (B : Nat) : Prop := ∃ a b : Nat, a ≤ B ∧ b ≤ B ∧ v = nI a - nI b
theorem Bd_add {v w : Int32} {A B : Nat} (h1 : Bd v A) (h2 : Bd w B) : Bd (v + w) (A + B) := by
  obtain ⟨a, b, ha, hb, rfl⟩ := h1
  obtain ⟨c, e, hc, he, rfl⟩ := h2
  refine ⟨a + c, b + e, by omega, by omega, ?_⟩
  rw [← nI_add, ← nI_add]
  simp only [Int32.sub_eq_add_neg, Int32.neg_add, Int32.add_assoc]
  rw [← Int32.add_assoc (- nI b) (nI c), Int32.add_comm (- nI b) (nI c), Int32.add_assoc (nI c)]
theorem Bd_le {v : Int32} {A B : Nat} (h : Bd v A) (hB : A ≤ B) : Bd v B := by
  obtain ⟨a, b, ha, hb, e⟩ := h
  exact ⟨a, b, by omega, by omega, e⟩
theorem Bd_lead {q : Rw} (w : WR q) : Bd (leadR q) 104 := by
  obtain ⟨j, hj, ej⟩ := wor_le w
  show Bd (if _ then _ else _) 104
  split
  · refine ⟨0, j, by omega, hj, ?_⟩
    rw [ej, nI_0, Int32.zero_sub]
  · refine ⟨j, 0, hj, by omega, ?_⟩
    rw [ej, nI_0, Int32.sub_zero]
theorem Bd_ld {q : Rw} (w : WR q) : ∀ n, Bd (ldS q n) (104 * n) := by
  intro n
  induction n with
  | zero => exact ⟨0, 0, by omega, by omega, show (0 : Int32) = nI 0 - nI 0 by decide⟩
  | succ n ih => exact Bd_le (Bd_add ih (Bd_lead (WR_dN w n))) (by omega)
theorem Bd_tu {N : Nat} : ∀ (m l : Nat) (q : Rw), WR q → Bd (tuV N m l q).1 (104 * (N + m)) := by
  intro m
  induction m with
  | zero => intro l q w; exact Bd_ld w N
  | succ m ih =>
    intro l q w
    have one : ∀ q', WR q' → Bd (leadR q' + (tuV N m (l + 1) (dayR q')).1) (104 * (N + (m + 1))) := fun q' w' => Bd_le (Bd_add (Bd_lead w') (ih (l + 1) (dayR q') (WR_day w'))) (by omega)
    have lp : ∀ t, t ≤ 10 → Bd (tuL (fun x => (tuV N m (l + 1) x).1) l q t).1 (104 * (N + (m + 1))) := by
      intro t
      induction t with
      | zero => intro _; exact one q w
      | succ t iht =>
        intro ht
        show Bd (if mayT q l t ∧ betT l (leadR (feedR q t) + (tuV N m (l + 1) (dayR (feedR q t))).1) (tuL (fun x => (tuV N m (l + 1) x).1) l q t).1 then (leadR (feedR q t) + (tuV N m (l + 1) (dayR (feedR q t))).1, nI t) else tuL (fun x => (tuV N m (l + 1) x).1) l q t).1 _
        split
        · rename_i c
          exact one _ (WR_feed w (by omega) c.1.2.2.1).1
        · exact iht (by omega)
    exact lp (nT q) (wr_T w).1
theorem Bd_ne {v : Int32} {B : Nat} (h : Bd v B) (hB : B ≤ 100000) : ¬ v = -1000001 := by
  obtain ⟨a, b, ha, hb, rfl⟩ := h
  intro z
  have := pk_sub_toInt (a := a) (b := b) (by omega) (by omega)
  rw [z, show (-1000001 : Int32).toInt = -1000001 by decide] at this
  omega
abbrev upR (r : Rw) (k n : Int32) : Int32 := if (1 ≤ k ∧ k ≤ 4) ∧ k ≤ n ∧ n ≤ 60 then (if 9999 < r 0 + n then 4 else -1) else 0
abbrev rtR (r : Rw) (k n : Int32) : Int32 := if (1 ≤ k ∧ k ≤ 4) ∧ k ≤ n ∧ n ≤ 60 then (if 9999 < r 0 + n then -1000005 else 0) else -1000001
theorem C_unplayable {d : Nat} {M : Mem} {k n : Int32} (j : J M) : call (d + 2) 65 [.ref 0, .int k, .int n] M = some (some (.int (upR (M 131) k n)), M) := by
  have ed : M 100 1 = M 131 0 := j.1.2.2.1.1
  rw [nX5_unplayable]
  show _ = some (some (Value.int (if (1 ≤ k ∧ k ≤ 4) ∧ k ≤ n ∧ n ≤ 60 then (if 9999 < M 131 0 + n then 4 else -1) else 0)), M)
  by_cases hk : 1 ≤ k ∧ k ≤ 4
  · by_cases hn : k ≤ n ∧ n ≤ 60
    · by_cases hl : 9999 < M 131 0 + n
      · simp only [sX5_unplayable_0, sX5_unplayable_1, sX5_unplayable_2, sX5_unplayable_3, sX5_unplayable_6, sX5_unplayable_9, sX5_unplayable_10, sX5_unplayable_11, sX5_unplayable_13, sX5_unplayable_16, sX5_unplayable_19, sX5_unplayable_20, sX5_unplayable_21, sX5_unplayable_22, sX5_unplayable_23, sX5_unplayable_26, sX5_unplayable_29, sX5_unplayable_30, sX5_unplayable_33, sX5_unplayable_34, opK_some, guK_true, calK_some, rk_nil, rk_int, rk_ref, tl_some, tl_none, nb_int, nb_0, nb_1, nb_if, nb_if', q0, C_x_within, C_x_isTooLate, ed, hk, hn, hl, and_self, if_true, one_ne, if_false]
      · simp only [sX5_unplayable_0, sX5_unplayable_1, sX5_unplayable_2, sX5_unplayable_3, sX5_unplayable_6, sX5_unplayable_9, sX5_unplayable_10, sX5_unplayable_11, sX5_unplayable_13, sX5_unplayable_16, sX5_unplayable_19, sX5_unplayable_20, sX5_unplayable_21, sX5_unplayable_22, sX5_unplayable_23, sX5_unplayable_26, sX5_unplayable_29, sX5_unplayable_30, sX5_unplayable_33, sX5_unplayable_34, opK_some, guK_true, calK_some, rk_nil, rk_int, rk_ref, tl_some, tl_none, nb_int, nb_0, nb_1, nb_if, nb_if', q0, C_x_within, C_x_isTooLate, ed, hk, hn, hl, and_self, if_true, one_ne, zero_eq, if_false]
    · simp only [sX5_unplayable_0, sX5_unplayable_1, sX5_unplayable_2, sX5_unplayable_3, sX5_unplayable_6, sX5_unplayable_9, sX5_unplayable_10, sX5_unplayable_11, sX5_unplayable_13, sX5_unplayable_16, sX5_unplayable_19, sX5_unplayable_20, sX5_unplayable_21, sX5_unplayable_22, sX5_unplayable_23, sX5_unplayable_26, sX5_unplayable_29, sX5_unplayable_30, sX5_unplayable_33, sX5_unplayable_34, opK_some, guK_true, calK_some, rk_nil, rk_int, rk_ref, tl_some, tl_none, nb_int, nb_0, nb_1, nb_if, nb_if', q0, C_x_within, hk, hn, and_self, and_false, if_true, one_ne, zero_eq, if_false]
  · simp only [sX5_unplayable_0, sX5_unplayable_1, sX5_unplayable_2, sX5_unplayable_3, sX5_unplayable_6, sX5_unplayable_9, sX5_unplayable_10, sX5_unplayable_11, sX5_unplayable_13, sX5_unplayable_16, sX5_unplayable_19, sX5_unplayable_20, sX5_unplayable_21, sX5_unplayable_22, sX5_unplayable_23, sX5_unplayable_26, sX5_unplayable_29, sX5_unplayable_30, sX5_unplayable_33, sX5_unplayable_34, opK_some, guK_true, calK_some, rk_nil, rk_int, rk_ref, tl_some, tl_none, nb_int, nb_0, nb_1, nb_if, nb_if', q0, C_x_within, hk, false_and, if_true, zero_eq, if_false]
theorem C_refusesTurns {d : Nat} {M : Mem} {k n : Int32} : call (d + 2) 200 [.ref 130, .int k, .int n] M = some (some (.int (rtR (M 131) k n)), M) := by
  rw [nX6_refusesTurns]
  show _ = some (some (Value.int (if (1 ≤ k ∧ k ≤ 4) ∧ k ≤ n ∧ n ≤ 60 then (if 9999 < M 131 0 + n then -1000005 else 0) else -1000001)), M)
  by_cases hk : 1 ≤ k ∧ k ≤ 4
  · by_cases hn : k ≤ n ∧ n ≤ 60
    · by_cases hl : 9999 < M 131 0 + n
      · simp only [sX6_refusesTurns_0, sX6_refusesTurns_1, sX6_refusesTurns_2, sX6_refusesTurns_3, sX6_refusesTurns_6, sX6_refusesTurns_9, sX6_refusesTurns_10, sX6_refusesTurns_11, sX6_refusesTurns_13, sX6_refusesTurns_16, sX6_refusesTurns_19, sX6_refusesTurns_21, sX6_refusesTurns_24, sX6_refusesTurns_25, sX6_refusesTurns_26, sX6_refusesTurns_29, sX6_refusesTurns_32, sX6_refusesTurns_34, sX6_refusesTurns_37, sX6_refusesTurns_38, opK_some, guK_true, calK_some, rk_nil, rk_int, rk_ref, tl_some, tl_none, nb_int, nb_0, nb_1, nb_if, nb_if', q130, C_m_within, C_m_isTooLate, hk, hn, hl, and_self, if_true, one_ne, if_false]
      · simp only [sX6_refusesTurns_0, sX6_refusesTurns_1, sX6_refusesTurns_2, sX6_refusesTurns_3, sX6_refusesTurns_6, sX6_refusesTurns_9, sX6_refusesTurns_10, sX6_refusesTurns_11, sX6_refusesTurns_13, sX6_refusesTurns_16, sX6_refusesTurns_19, sX6_refusesTurns_21, sX6_refusesTurns_24, sX6_refusesTurns_25, sX6_refusesTurns_26, sX6_refusesTurns_29, sX6_refusesTurns_32, sX6_refusesTurns_34, sX6_refusesTurns_37, sX6_refusesTurns_38, opK_some, guK_true, calK_some, rk_nil, rk_int, rk_ref, tl_some, tl_none, nb_int, nb_0, nb_1, nb_if, nb_if', q130, C_m_within, C_m_isTooLate, hk, hn, hl, and_self, if_true, one_ne, zero_eq, if_false]
    · simp only [sX6_refusesTurns_0, sX6_refusesTurns_1, sX6_refusesTurns_2, sX6_refusesTurns_3, sX6_refusesTurns_6, sX6_refusesTurns_9, sX6_refusesTurns_10, sX6_refusesTurns_11, sX6_refusesTurns_13, sX6_refusesTurns_16, sX6_refusesTurns_19, sX6_refusesTurns_21, sX6_refusesTurns_24, sX6_refusesTurns_25, sX6_refusesTurns_26, sX6_refusesTurns_29, sX6_refusesTurns_32, sX6_refusesTurns_34, sX6_refusesTurns_37, sX6_refusesTurns_38, opK_some, guK_true, calK_some, rk_nil, rk_int, rk_ref, tl_some, tl_none, nb_int, nb_0, nb_1, nb_if, nb_if', q130, C_m_within, hk, hn, and_self, and_false, if_true, one_ne, zero_eq, if_false]
  · simp only [sX6_refusesTurns_0, sX6_refusesTurns_1, sX6_refusesTurns_2, sX6_refusesTurns_3, sX6_refusesTurns_6, sX6_refusesTurns_9, sX6_refusesTurns_10, sX6_refusesTurns_11, sX6_refusesTurns_13, sX6_refusesTurns_16, sX6_refusesTurns_19, sX6_refusesTurns_21, sX6_refusesTurns_24, sX6_refusesTurns_25, sX6_refusesTurns_26, sX6_refusesTurns_29, sX6_refusesTurns_32, sX6_refusesTurns_34, sX6_refusesTurns_37, sX6_refusesTurns_38, opK_some, guK_true, calK_some, rk_nil, rk_int, rk_ref, tl_some, tl_none, nb_int, nb_0, nb_1, nb_if, nb_if', q130, C_m_within, hk, false_and, if_true, zero_eq, if_false]
theorem kn_of {k n : Int32} (h : (1 ≤ k ∧ k ≤ 4) ∧ k ≤ n ∧ n ≤ 60) : ∃ a N : Nat, 1 ≤ a ∧ a ≤ 4 ∧ N + a ≤ 60 ∧ k = nI a ∧ n = nI (N + a) := by
  obtain ⟨hk, hn⟩ := h
  obtain ⟨a, ha, rfl⟩ := nI_of2 (M := 4) (n := 4) rfl (Int32.not_lt.mpr (Int32.le_trans (by decide : (0 : Int32) ≤ 1) hk.1)) hk.2
  have ha1 : 1 ≤ a := by
    rcases Nat.eq_zero_or_pos a with c | c
    · rw [c] at hk
      exact absurd hk.1 (by decide)
    · exact c
  obtain ⟨b, hb, rfl⟩ := nI_of2 (M := 60) (n := 60) rfl (Int32.not_lt.mpr (Int32.le_trans (Int32.le_trans (by decide : (0 : Int32) ≤ 1) hk.1) hn.1)) hn.2
  have := (nI_leI (by omega) (by omega)).mp hn.1
  exact ⟨a, b - a, ha1, ha, by omega, rfl, by rw [Nat.sub_add_cancel this]⟩
theorem C_playAll {d N a : Nat} {M : Mem} {r : Rw} (h : HR M 10 r) (w : WR r) (ha1 : 1 ≤ a) (ha : a ≤ 4) (hN : N + a ≤ 60) : ∃ M', call (d + 19) 66 [.ref 0, .int (nI a), .int (nI (N + a))] M = some (some (.int (tuV N a 0 r).1), M') ∧ Cs M M' ∧ M' 0 11 = (tuV N a 0 r).2 := by
  obtain ⟨M1, c1, h1, o1⟩ := C_become (d := d + 17) (b := 40) (s := 10) (la_h (l := 0) (by omega)) hen10 (by omega) h w
  rw [show d + 17 + 1 = d + 18 from rfl] at c1
  obtain ⟨M2, c2, p2, f2⟩ := C_play (N := N) (k := a) (by omega) ha a 0 r M1 (d + 12) (by omega) (by omega) h1 w
  rw [show d + 12 + 6 = d + 18 from rfl, nI_0] at c2
  have cs : Cs M M2 := (Cs.ou (by omega) (by omega) o1).tr (p2.cs (by omega))
  rw [show d + 19 = d + 18 + 1 from rfl, nX5_playAll]
  simp only [sX5_playAll_0, sX5_playAll_1, sX5_playAll_4, sX5_playAll_5, sX5_playAll_6, sX5_playAll_7, sX5_playAll_10, sX5_playAll_13, sX5_playAll_16, sX5_playAll_17, sX5_playAll_18, sX5_playAll_19, sX5_playAll_20, sX5_playAll_23, opK_some, guK_true, calK_some, rk_nil, rk_int, rk_ref, tl_some, tl_none, nb_int, nb_0, nb_1, nb_if, nb_if', q0, o0_0, o0_7, o100_0, r6, show inb 0 ([40, 50, 60, 70, 80] : List Nat).length = true by decide, show ([40, 50, 60, 70, 80] : List Nat).getD (0 : Int32).toNatClampNeg 0 = 40 by decide, hen_c (la_h (l := 0) (by omega)), hen_c hen10, c1, c2]
  exact ⟨M2, rfl, cs, f2 rfl (by omega)⟩

theorem X_turns {d : Nat} {M : Mem} {x y : Int32} (j : J M) : Two (d + 20) 64 (d + 20) 199 [.int x, .int y] M := by
  have w := j_wr j
  have cu := C_unplayable (d := d + 17) (k := x) (n := y) j
  rw [show d + 17 + 2 = d + 19 from rfl] at cu
  have cr : ∀ M2 : Mem, M2 131 = M 131 → call (d + 19) 200 [.ref 130, .int x, .int y] M2 = some (some (.int (rtR (M 131) x y)), M2) := by
    intro M2 e
    have := C_refusesTurns (d := d + 17) (M := M2) (k := x) (n := y)
    rw [e] at this
    exact this
  by_cases hg : (1 ≤ x ∧ x ≤ 4) ∧ x ≤ y ∧ y ≤ 60
  · by_cases hl : 9999 < M 131 0 + y
    · have e1 : upR (M 131) x y = 4 := by
        show (if _ then _ else _) = _
        rw [if_pos hg, if_pos hl]
      have e2 : rtR (M 131) x y = -1000005 := by
        show (if _ then _ else _) = _
        rw [if_pos hg, if_pos hl]
      refine ⟨fX M 4, fM (fX M 4) 4, -1000005, ?_, ?_, J_fin j (by omega)⟩
      · rw [show d + 20 = d + 19 + 1 from rfl, nX5_turns]
        simp only [sX5_turns_0, sX5_turns_1, sX5_turns_2, sX5_turns_3, sX5_turns_6, sX5_turns_7, sX5_turns_8, sX5_turns_11, sX5_turns_12, sX5_turns_13, sX5_turns_16, sX5_turns_19, sX5_turns_20, sX5_turns_21, sX5_turns_22, sX5_turns_25, opK_some, guK_true, calK_some, rk_nil, rk_int, rk_ref, tl_some, tl_none, nb_int, nb_0, nb_1, nb_if, nb_if', q0, cu, e1, show ((4 : Int32) < 0) = False from eq_false (by decide), if_false, C_xf4]
      · rw [show d + 20 = d + 19 + 1 from rfl, nX6_turns]
        simp only [sX6_turns_0, sX6_turns_1, sX6_turns_2, sX6_turns_3, sX6_turns_6, sX6_turns_7, sX6_turns_8, sX6_turns_11, sX6_turns_12, sX6_turns_13, sX6_turns_16, sX6_turns_19, sX6_turns_20, sX6_turns_21, sX6_turns_22, sX6_turns_23, sX6_turns_26, opK_some, guK_true, calK_some, rk_nil, rk_int, rk_ref, tl_some, tl_none, nb_int, nb_0, nb_1, nb_if, nb_if', q130, cr (fX M 4) fX_131, e2, m5_ne, if_false, C_mf4]
    · have e1 : upR (M 131) x y = -1 := by
        show (if _ then _ else _) = _
        rw [if_pos hg, if_neg hl]
      have e2 : rtR (M 131) x y = 0 := by
        show (if _ then _ else _) = _
        rw [if_pos hg, if_neg hl]
      obtain ⟨a, N, ha1, ha, hN, rfl, rfl⟩ := kn_of hg
      obtain ⟨M1, c1, cs1, f1⟩ := C_playAll (d := d) (j_hr j) w ha1 ha hN
      have e131 := cs1.e
      obtain ⟨M2, c2, t2, r2, f2⟩ := C_turnsFrom (N := N) (k := a) (by omega) ha a 0 9999 (M 131) M1 (d + 11) (by omega) (by omega) j.1.1.1 (by omega) e131
      rw [show d + 11 + 8 = d + 19 from rfl, nI_0] at c2
      have f2' := f2 (by omega)
      have bne := Bd_ne (Bd_tu (N := N) a 0 (M 131) w) (by omega)
      refine ⟨M1, M2, (tuV N a 0 (M 131)).1, ?_, ?_, Ms.j (cs1.j j) (t2.ms (by rw [r2, e131]))⟩
      · rw [show d + 20 = d + 19 + 1 from rfl, nX5_turns]
        simp only [sX5_turns_0, sX5_turns_1, sX5_turns_2, sX5_turns_3, sX5_turns_6, sX5_turns_7, sX5_turns_8, sX5_turns_11, sX5_turns_12, sX5_turns_13, sX5_turns_16, sX5_turns_19, sX5_turns_20, sX5_turns_21, sX5_turns_22, sX5_turns_25, opK_some, guK_true, calK_some, rk_nil, rk_int, rk_ref, tl_some, tl_none, nb_int, nb_0, nb_1, nb_if, nb_if', q0, o0_11, cu, e1, show ((-1 : Int32) < 0) = True from eq_true (by decide), if_true, c1, f1]
      · rw [show d + 20 = d + 19 + 1 from rfl, nX6_turns]
        simp only [sX6_turns_0, sX6_turns_1, sX6_turns_2, sX6_turns_3, sX6_turns_6, sX6_turns_7, sX6_turns_8, sX6_turns_11, sX6_turns_12, sX6_turns_13, sX6_turns_16, sX6_turns_19, sX6_turns_20, sX6_turns_21, sX6_turns_22, sX6_turns_23, sX6_turns_26, opK_some, guK_true, calK_some, rk_nil, rk_int, rk_ref, tl_some, tl_none, nb_int, nb_0, nb_1, nb_if, nb_if', q130, o130_14, cr M1 e131, e2, zero_eq, if_true, c2, bne, if_false, f2']
  · have e1 : upR (M 131) x y = 0 := by
      show (if _ then _ else _) = _
      rw [if_neg hg]
    have e2 : rtR (M 131) x y = -1000001 := by
      show (if _ then _ else _) = _
      rw [if_neg hg]
    refine ⟨fX M 0, fM (fX M 0) 0, -1000001, ?_, ?_, J_fin j (by omega)⟩
    · rw [show d + 20 = d + 19 + 1 from rfl, nX5_turns]
      simp only [sX5_turns_0, sX5_turns_1, sX5_turns_2, sX5_turns_3, sX5_turns_6, sX5_turns_7, sX5_turns_8, sX5_turns_11, sX5_turns_12, sX5_turns_13, sX5_turns_16, sX5_turns_19, sX5_turns_20, sX5_turns_21, sX5_turns_22, sX5_turns_25, opK_some, guK_true, calK_some, rk_nil, rk_int, rk_ref, tl_some, tl_none, nb_int, nb_0, nb_1, nb_if, nb_if', q0, cu, e1, show ((0 : Int32) < 0) = False from eq_false (by decide), if_false, C_xf0]
    · rw [show d + 20 = d + 19 + 1 from rfl, nX6_turns]
      simp only [sX6_turns_0, sX6_turns_1, sX6_turns_2, sX6_turns_3, sX6_turns_6, sX6_turns_7, sX6_turns_8, sX6_turns_11, sX6_turns_12, sX6_turns_13, sX6_turns_16, sX6_turns_19, sX6_turns_20, sX6_turns_21, sX6_turns_22, sX6_turns_23, sX6_turns_26, opK_some, guK_true, calK_some, rk_nil, rk_int, rk_ref, tl_some, tl_none, nb_int, nb_0, nb_1, nb_if, nb_if', q130, cr (fX M 0) fX_131, e2, m1_ne, if_false, C_mf0]
theorem X_first {d : Nat} {M : Mem} {x y : Int32} (j : J M) : Two (d + 20) 72 (d + 20) 205 [.int x, .int y] M := by
  have w := j_wr j
  have cu := C_unplayable (d := d + 17) (k := x) (n := y) j
  rw [show d + 17 + 2 = d + 19 from rfl] at cu
  have cr : ∀ M2 : Mem, M2 131 = M 131 → call (d + 19) 200 [.ref 130, .int x, .int y] M2 = some (some (.int (rtR (M 131) x y)), M2) := by
    intro M2 e
    have := C_refusesTurns (d := d + 17) (M := M2) (k := x) (n := y)
    rw [e] at this
    exact this
  by_cases hg : (1 ≤ x ∧ x ≤ 4) ∧ x ≤ y ∧ y ≤ 60
  · by_cases hl : 9999 < M 131 0 + y
    · have e1 : upR (M 131) x y = 4 := by
        show (if _ then _ else _) = _
        rw [if_pos hg, if_pos hl]
      have e2 : rtR (M 131) x y = -1000005 := by
        show (if _ then _ else _) = _
        rw [if_pos hg, if_pos hl]
      refine ⟨fX M 4, fM (fX M 4) 4, -1000005, ?_, ?_, J_fin j (by omega)⟩
      · rw [show d + 20 = d + 19 + 1 from rfl, nX5_first]
        simp only [sX5_first_0, sX5_first_1, sX5_first_2, sX5_first_3, sX5_first_6, sX5_first_7, sX5_first_8, sX5_first_11, sX5_first_12, sX5_first_13, sX5_first_16, sX5_first_17, sX5_first_18, sX5_first_19, sX5_first_20, sX5_first_23, sX5_first_24, sX5_first_25, sX5_first_28, opK_some, guK_true, calK_some, rk_nil, rk_int, rk_ref, tl_some, tl_none, nb_int, nb_0, nb_1, nb_if, nb_if', q0, cu, e1, show ((4 : Int32) < 0) = False from eq_false (by decide), if_false, C_xf4]
      · rw [show d + 20 = d + 19 + 1 from rfl, nX6_first]
        simp only [sX6_first_0, sX6_first_1, sX6_first_2, sX6_first_3, sX6_first_6, sX6_first_7, sX6_first_8, sX6_first_11, sX6_first_12, sX6_first_13, sX6_first_16, sX6_first_17, sX6_first_18, sX6_first_19, sX6_first_20, sX6_first_21, sX6_first_24, sX6_first_26, sX6_first_29, sX6_first_30, sX6_first_33, sX6_first_34, sX6_first_37, opK_some, guK_true, calK_some, rk_nil, rk_int, rk_ref, tl_some, tl_none, nb_int, nb_0, nb_1, nb_if, nb_if', q130, cr (fX M 4) fX_131, e2, m5_ne, if_false, C_mf4]
    · have e1 : upR (M 131) x y = -1 := by
        show (if _ then _ else _) = _
        rw [if_pos hg, if_neg hl]
      have e2 : rtR (M 131) x y = 0 := by
        show (if _ then _ else _) = _
        rw [if_pos hg, if_neg hl]
      obtain ⟨a, N, ha1, ha, hN, rfl, rfl⟩ := kn_of hg
      obtain ⟨M1, c1, cs1, f1⟩ := C_playAll (d := d) (j_hr j) w ha1 ha hN
      have e131 := cs1.e
      obtain ⟨M2, c2, t2, r2, f2⟩ := C_turnsFrom (N := N) (k := a) (by omega) ha a 0 9999 (M 131) M1 (d + 11) (by omega) (by omega) j.1.1.1 (by omega) e131
      rw [show d + 11 + 8 = d + 19 from rfl, nI_0] at c2
      have f2' := f2 (by omega)
      have bne := Bd_ne (Bd_tu (N := N) a 0 (M 131) w) (by omega)
      refine ⟨M1, M2, (tuV N a 0 (M 131)).2, ?_, ?_, Ms.j (cs1.j j) (t2.ms (by rw [r2, e131]))⟩
      · rw [show d + 20 = d + 19 + 1 from rfl, nX5_first]
        simp only [sX5_first_0, sX5_first_1, sX5_first_2, sX5_first_3, sX5_first_6, sX5_first_7, sX5_first_8, sX5_first_11, sX5_first_12, sX5_first_13, sX5_first_16, sX5_first_17, sX5_first_18, sX5_first_19, sX5_first_20, sX5_first_23, sX5_first_24, sX5_first_25, sX5_first_28, opK_some, guK_true, calK_some, rk_nil, rk_int, rk_ref, tl_some, tl_none, nb_int, nb_0, nb_1, nb_if, nb_if', q0, o0_11, cu, e1, show ((-1 : Int32) < 0) = True from eq_true (by decide), if_true, c1, f1]
      · rw [show d + 20 = d + 19 + 1 from rfl, nX6_first]
        simp only [sX6_first_0, sX6_first_1, sX6_first_2, sX6_first_3, sX6_first_6, sX6_first_7, sX6_first_8, sX6_first_11, sX6_first_12, sX6_first_13, sX6_first_16, sX6_first_17, sX6_first_18, sX6_first_19, sX6_first_20, sX6_first_21, sX6_first_24, sX6_first_26, sX6_first_29, sX6_first_30, sX6_first_33, sX6_first_34, sX6_first_37, opK_some, guK_true, calK_some, rk_nil, rk_int, rk_ref, tl_some, tl_none, nb_int, nb_0, nb_1, nb_if, nb_if', q130, o130_14, cr M1 e131, e2, zero_eq, if_true, c2, bne, if_false, f2']
  · have e1 : upR (M 131) x y = 0 := by
      show (if _ then _ else _) = _
      rw [if_neg hg]
    have e2 : rtR (M 131) x y = -1000001 := by
      show (if _ then _ else _) = _
      rw [if_neg hg]
    refine ⟨fX M 0, fM (fX M 0) 0, -1000001, ?_, ?_, J_fin j (by omega)⟩
    · rw [show d + 20 = d + 19 + 1 from rfl, nX5_first]
      simp only [sX5_first_0, sX5_first_1, sX5_first_2, sX5_first_3, sX5_first_6, sX5_first_7, sX5_first_8, sX5_first_11, sX5_first_12, sX5_first_13, sX5_first_16, sX5_first_17, sX5_first_18, sX5_first_19, sX5_first_20, sX5_first_23, sX5_first_24, sX5_first_25, sX5_first_28, opK_some, guK_true, calK_some, rk_nil, rk_int, rk_ref, tl_some, tl_none, nb_int, nb_0, nb_1, nb_if, nb_if', q0, cu, e1, show ((0 : Int32) < 0) = False from eq_false (by decide), if_false, C_xf0]
    · rw [show d + 20 = d + 19 + 1 from rfl, nX6_first]
      simp only [sX6_first_0, sX6_first_1, sX6_first_2, sX6_first_3, sX6_first_6, sX6_first_7, sX6_first_8, sX6_first_11, sX6_first_12, sX6_first_13, sX6_first_16, sX6_first_17, sX6_first_18, sX6_first_19, sX6_first_20, sX6_first_21, sX6_first_24, sX6_first_26, sX6_first_29, sX6_first_30, sX6_first_33, sX6_first_34, sX6_first_37, opK_some, guK_true, calK_some, rk_nil, rk_int, rk_ref, tl_some, tl_none, nb_int, nb_0, nb_1, nb_if, nb_if', q130, cr (fX M 0) fX_131, e2, m1_ne, if_false, C_mf0]
