/-! calls: fits, may -/
abbrev okR (r : Rw) (v : Int32) (n i j : Nat) : Prop := j ≠ i ∧ r (at9 i 4) = 0 ∧ r (at9 j 4) = 0 ∧ feR r i j 0 n = v
def rfR (r : Rw) (v : Int32) (n i : Nat) : Nat → Nat
  | 0 => 0
  | j + 1 => if okR r v n i j then rfR r v n i j + 1 else rfR r v n i j
def rfO (r : Rw) (v : Int32) (n : Nat) : Nat → Nat
  | 0 => 0
  | i + 1 => rfO r v n i + rfR r v n i (nT r)
theorem rf_le {r : Rw} {v : Int32} {n i : Nat} : ∀ j, rfR r v n i j ≤ j := by
  intro j
  induction j with
  | zero => exact Nat.le_refl _
  | succ j ih =>
    show (if okR r v n i j then rfR r v n i j + 1 else rfR r v n i j) ≤ j + 1
    split <;> omega
theorem rfO_le {r : Rw} {v : Int32} {n : Nat} (h : nT r ≤ 10) : ∀ i, rfO r v n i ≤ i * 10 := by
  intro i
  induction i with
  | zero => exact Nat.le_refl _
  | succ i ih =>
    have := rf_le (r := r) (v := v) (n := n) (i := i) (nT r)
    show rfO r v n i + rfR r v n i (nT r) ≤ (i + 1) * 10
    omega
theorem L_rowsFrom {d i n : Nat} {v : Int32} {M : Mem} {r : Rw} (h : HR M 10 r) (w : WR r) (hi : i < nT r) (hn : n < 2 ^ 31) : ∀ (m j : Nat) (M1 : Mem), j + m = nT r → Cs M M1 →
    ∃ M', lim (call (d + 5)) none 5 cX5_rowsFrom (some .int) 15 [some (.ref 0), some (.int (nI i)), some (.int v), some (.int (nI n)), some (.ref 10), some (.int (nI (rfR r v n i j))), some (.int (nI j))] [] M1 = some (some (.int (nI (rfR r v n i (nT r)))), M') ∧ Cs M M' := by
  have hT := wr_T w
  intro m
  induction m with
  | zero =>
    intro j M1 hj c
    obtain rfl : j = nT r := by omega
    have e0 : M1 10 0 = nI (nT r) := (c.hr h).1.1.trans hT.2
    rw [sX5_rowsFrom_15]
    simp only [sX5_rowsFrom_0, sX5_rowsFrom_1, sX5_rowsFrom_4, sX5_rowsFrom_7, sX5_rowsFrom_9, sX5_rowsFrom_10, sX5_rowsFrom_12, sX5_rowsFrom_13, sX5_rowsFrom_17, sX5_rowsFrom_19, sX5_rowsFrom_22, sX5_rowsFrom_25, sX5_rowsFrom_27, sX5_rowsFrom_28, sX5_rowsFrom_31, sX5_rowsFrom_33, sX5_rowsFrom_34, sX5_rowsFrom_37, sX5_rowsFrom_40, sX5_rowsFrom_42, sX5_rowsFrom_44, sX5_rowsFrom_47, sX5_rowsFrom_50, sX5_rowsFrom_51, sX5_rowsFrom_52, sX5_rowsFrom_54, sX5_rowsFrom_55, sX5_rowsFrom_58, sX5_rowsFrom_59, sX5_rowsFrom_62, sX5_rowsFrom_65, sX5_rowsFrom_68, sX5_rowsFrom_71, sX5_rowsFrom_73, opK_some, guK_true, calK_some, rk_nil, rk_int, rk_ref, tl_some, tl_none, nb_int, nb_0, nb_1, nb_if, nb_if', hs_0 hen10, e0]
    rw [if_pos (show nI (nT r) ≤ nI (nT r) from Int32.le_refl _)]
    exact ⟨M1, rfl, c⟩
  | succ m ih =>
    intro j M1 hj c
    have j10 : j < 10 := by omega
    have i10 : i < 10 := by omega
    have hl := rf_le (r := r) (v := v) (n := n) (i := i) j
    have e0 : M1 10 0 = nI (nT r) := (c.hr h).1.1.trans hT.2
    have c1 := C_isOut (d := d + 4) hen10 (c.hr h) i10
    rw [show d + 4 + 1 = d + 5 from rfl] at c1
    have c2 := C_isOut (d := d + 4) hen10 (c.hr h) j10
    rw [show d + 4 + 1 = d + 5 from rfl] at c2
    obtain ⟨M2, c3, cs2⟩ := C_firstWorth (d := d + 0) (n := n) (c.hr h) w i10 j10 hn
    rw [show d + 0 + 5 = d + 5 from rfl] at c3
    rw [sX5_rowsFrom_15]
    simp only [sX5_rowsFrom_0, sX5_rowsFrom_1, sX5_rowsFrom_4, sX5_rowsFrom_7, sX5_rowsFrom_9, sX5_rowsFrom_10, sX5_rowsFrom_12, sX5_rowsFrom_13, sX5_rowsFrom_17, sX5_rowsFrom_19, sX5_rowsFrom_22, sX5_rowsFrom_25, sX5_rowsFrom_27, sX5_rowsFrom_28, sX5_rowsFrom_31, sX5_rowsFrom_33, sX5_rowsFrom_34, sX5_rowsFrom_37, sX5_rowsFrom_40, sX5_rowsFrom_42, sX5_rowsFrom_44, sX5_rowsFrom_47, sX5_rowsFrom_50, sX5_rowsFrom_51, sX5_rowsFrom_52, sX5_rowsFrom_54, sX5_rowsFrom_55, sX5_rowsFrom_58, sX5_rowsFrom_59, sX5_rowsFrom_62, sX5_rowsFrom_65, sX5_rowsFrom_68, sX5_rowsFrom_71, sX5_rowsFrom_73, opK_some, guK_true, calK_some, rk_nil, rk_int, rk_ref, tl_some, tl_none, nb_int, nb_0, nb_1, nb_if, nb_if', hs_0 hen10, hen_c hen10, q0, e0, c1, c2, c3, nI_1]
    rw [if_neg (show ¬ nI (nT r) ≤ nI j from nI_ge (by omega) (by omega))]
    have skip : ¬ okR r v n i j → rfR r v n i (j + 1) = rfR r v n i j := fun z => if_neg z
    by_cases hji : j = i
    · have e := skip (fun z => z.1 hji)
      rw [if_pos (by rw [hji])]
      have fin := ih (j + 1) M1 (by omega) c
      rw [e] at fin
      exact fin
    · rw [if_neg (fun z => hji (nI_inj (by omega) (by omega) z))]
      by_cases hA : r (at9 i 4) = 0
      · by_cases hB : r (at9 j 4) = 0
        · have fin := ih (j + 1) M2 (by omega) (c.tr cs2)
          by_cases hv : feR r i j 0 n = v
          · have e : rfR r v n i (j + 1) = rfR r v n i j + 1 := if_pos ⟨hji, hA, hB, hv⟩
            rw [e] at fin
            simp only [hA, hB, hv, if_true, one_ne, if_false]
            exact fin
          · have e := skip (fun z => hv z.2.2.2)
            rw [e] at fin
            simp only [hA, hB, hv, if_true, one_ne, if_false]
            exact fin
        · have e := skip (fun z => hB z.2.2.1)
          have fin := ih (j + 1) M1 (by omega) c
          rw [e] at fin
          simp only [hA, hB, if_true, one_ne, zero_eq, if_false]
          exact fin
      · have e := skip (fun z => hA z.2.1)
        have fin := ih (j + 1) M1 (by omega) c
        rw [e] at fin
        simp only [hA, if_true, zero_eq, if_false]
        exact fin
theorem C_rowsFrom {d i n : Nat} {v : Int32} {M : Mem} {r : Rw} (h : HR M 10 r) (w : WR r) (hi : i < nT r) (hn : n < 2 ^ 31) : ∃ M', call (d + 6) 76 [.ref 0, .int (nI i), .int v, .int (nI n)] M = some (some (.int (nI (rfR r v n i (nT r)))), M') ∧ Cs M M' := by
  rw [nX5_rowsFrom]
  simp only [sX5_rowsFrom_0, sX5_rowsFrom_1, sX5_rowsFrom_4, sX5_rowsFrom_7, sX5_rowsFrom_9, sX5_rowsFrom_10, sX5_rowsFrom_12, sX5_rowsFrom_13, sX5_rowsFrom_17, sX5_rowsFrom_19, sX5_rowsFrom_22, sX5_rowsFrom_25, sX5_rowsFrom_27, sX5_rowsFrom_28, sX5_rowsFrom_31, sX5_rowsFrom_33, sX5_rowsFrom_34, sX5_rowsFrom_37, sX5_rowsFrom_40, sX5_rowsFrom_42, sX5_rowsFrom_44, sX5_rowsFrom_47, sX5_rowsFrom_50, sX5_rowsFrom_51, sX5_rowsFrom_52, sX5_rowsFrom_54, sX5_rowsFrom_55, sX5_rowsFrom_58, sX5_rowsFrom_59, sX5_rowsFrom_62, sX5_rowsFrom_65, sX5_rowsFrom_68, sX5_rowsFrom_71, sX5_rowsFrom_73, opK_some, guK_true, calK_some, rk_nil, rk_int, rk_ref, tl_some, tl_none, nb_int, nb_0, nb_1, nb_if, nb_if', o0_0, o100_0]
  exact L_rowsFrom h w hi hn (nT r) 0 M (by omega) Cs.rf
theorem L_fits {d n : Nat} {v y : Int32} {M : Mem} {r : Rw} (h : HR M 10 r) (w : WR r) (hn : n < 2 ^ 31) : ∀ (m i : Nat) (M1 : Mem), i + m = nT r → Cs M M1 →
    ∃ M', lim (call (d + 6)) none 5 cX5_fits (some .int) 23 [some (.ref 0), some (.int v), some (.int (nI n)), some (.int y), some (.int (nI (rfO r v n i))), some (.int (nI i))] [] M1 = some (some (.int (nI (rfO r v n (nT r)))), M') ∧ Cs M M' := by
  have hT := wr_T w
  intro m
  induction m with
  | zero =>
    intro i M1 hi c
    obtain rfl : i = nT r := by omega
    have e0 : M1 10 0 = nI (nT r) := (c.hr h).1.1.trans hT.2
    rw [sX5_fits_23]
    simp only [sX5_fits_0, sX5_fits_1, sX5_fits_2, sX5_fits_3, sX5_fits_6, sX5_fits_7, sX5_fits_8, sX5_fits_11, sX5_fits_12, sX5_fits_13, sX5_fits_16, sX5_fits_17, sX5_fits_18, sX5_fits_20, sX5_fits_21, sX5_fits_25, sX5_fits_26, sX5_fits_29, sX5_fits_32, sX5_fits_35, sX5_fits_38, sX5_fits_40, sX5_fits_41, sX5_fits_43, sX5_fits_44, sX5_fits_45, sX5_fits_48, sX5_fits_49, sX5_fits_51, sX5_fits_54, sX5_fits_57, sX5_fits_59, opK_some, guK_true, calK_some, rk_nil, rk_int, rk_ref, tl_some, tl_none, nb_int, nb_0, nb_1, nb_if, nb_if', o0_0, o100_0, hs_0 hen10, e0]
    rw [if_pos (show nI (nT r) ≤ nI (nT r) from Int32.le_refl _)]
    exact ⟨M1, rfl, c⟩
  | succ m ih =>
    intro i M1 hi c
    have e0 : M1 10 0 = nI (nT r) := (c.hr h).1.1.trans hT.2
    obtain ⟨M2, c3, cs2⟩ := C_rowsFrom (d := d + 0) (v := v) (n := n) (c.hr h) w (show i < nT r by omega) hn
    rw [show d + 0 + 6 = d + 6 from rfl] at c3
    rw [sX5_fits_23]
    simp only [sX5_fits_0, sX5_fits_1, sX5_fits_2, sX5_fits_3, sX5_fits_6, sX5_fits_7, sX5_fits_8, sX5_fits_11, sX5_fits_12, sX5_fits_13, sX5_fits_16, sX5_fits_17, sX5_fits_18, sX5_fits_20, sX5_fits_21, sX5_fits_25, sX5_fits_26, sX5_fits_29, sX5_fits_32, sX5_fits_35, sX5_fits_38, sX5_fits_40, sX5_fits_41, sX5_fits_43, sX5_fits_44, sX5_fits_45, sX5_fits_48, sX5_fits_49, sX5_fits_51, sX5_fits_54, sX5_fits_57, sX5_fits_59, opK_some, guK_true, calK_some, rk_nil, rk_int, rk_ref, tl_some, tl_none, nb_int, nb_0, nb_1, nb_if, nb_if', o0_0, o100_0, hs_0 hen10, q0, e0, c3, nI_add, nI_1]
    rw [if_neg (show ¬ nI (nT r) ≤ nI i from nI_ge (by omega) (by omega))]
    exact ih (i + 1) M2 (by omega) (c.tr cs2)
abbrev mP (r : Rw) (v : Int32) (n : Nat) : Nat → Bool := fun i => decide (0 < rfR r v n i (nT r))
theorem L_may {d n : Nat} {v y : Int32} {M : Mem} {r : Rw} (h : HR M 10 r) (w : WR r) (hn : n < 2 ^ 31) : ∀ (m i : Nat) (M1 : Mem), i + m = nT r → Cs M M1 →
    ∃ M', lim (call (d + 6)) none 5 cX5_may (some .int) 23 [some (.ref 0), some (.int v), some (.int (nI n)), some (.int y), some (.int (nI (tS (mP r v n) i))), some (.int (nI i))] [] M1 = some (some (.int (nI (tS (mP r v n) (nT r)))), M') ∧ Cs M M' := by
  have hT := wr_T w
  intro m
  induction m with
  | zero =>
    intro i M1 hi c
    obtain rfl : i = nT r := by omega
    have e0 : M1 10 0 = nI (nT r) := (c.hr h).1.1.trans hT.2
    rw [sX5_may_23]
    simp only [sX5_may_0, sX5_may_1, sX5_may_2, sX5_may_3, sX5_may_6, sX5_may_7, sX5_may_8, sX5_may_11, sX5_may_12, sX5_may_13, sX5_may_16, sX5_may_17, sX5_may_18, sX5_may_20, sX5_may_21, sX5_may_25, sX5_may_26, sX5_may_29, sX5_may_32, sX5_may_35, sX5_may_38, sX5_may_39, sX5_may_41, sX5_may_42, sX5_may_43, sX5_may_46, sX5_may_49, sX5_may_51, sX5_may_52, sX5_may_54, sX5_may_55, sX5_may_56, sX5_may_58, sX5_may_61, sX5_may_64, sX5_may_66, opK_some, guK_true, calK_some, rk_nil, rk_int, rk_ref, tl_some, tl_none, nb_int, nb_0, nb_1, nb_if, nb_if', o0_0, o100_0, hs_0 hen10, e0]
    rw [if_pos (show nI (nT r) ≤ nI (nT r) from Int32.le_refl _)]
    exact ⟨M1, rfl, c⟩
  | succ m ih =>
    intro i M1 hi c
    have hl := rf_le (r := r) (v := v) (n := n) (i := i) (nT r)
    have e0 : M1 10 0 = nI (nT r) := (c.hr h).1.1.trans hT.2
    obtain ⟨M2, c3, cs2⟩ := C_rowsFrom (d := d + 0) (v := v) (n := n) (c.hr h) w (show i < nT r by omega) hn
    rw [show d + 0 + 6 = d + 6 from rfl] at c3
    have fin := ih (i + 1) M2 (by omega) (c.tr cs2)
    rw [sX5_may_23]
    simp only [sX5_may_0, sX5_may_1, sX5_may_2, sX5_may_3, sX5_may_6, sX5_may_7, sX5_may_8, sX5_may_11, sX5_may_12, sX5_may_13, sX5_may_16, sX5_may_17, sX5_may_18, sX5_may_20, sX5_may_21, sX5_may_25, sX5_may_26, sX5_may_29, sX5_may_32, sX5_may_35, sX5_may_38, sX5_may_39, sX5_may_41, sX5_may_42, sX5_may_43, sX5_may_46, sX5_may_49, sX5_may_51, sX5_may_52, sX5_may_54, sX5_may_55, sX5_may_56, sX5_may_58, sX5_may_61, sX5_may_64, sX5_may_66, opK_some, guK_true, calK_some, rk_nil, rk_int, rk_ref, tl_some, tl_none, nb_int, nb_0, nb_1, nb_if, nb_if', o0_0, o100_0, hs_0 hen10, q0, e0, c3, nI_1]
    rw [if_neg (show ¬ nI (nT r) ≤ nI i from nI_ge (by omega) (by omega))]
    by_cases hp : 0 < rfR r v n i (nT r)
    · have e : tS (mP r v n) (i + 1) = tS (mP r v n) i + 2 ^ i := if_pos (decide_eq_true hp)
      rw [e, ← tS_or (by omega)] at fin
      rw [if_neg (show ¬ nI (rfR r v n i (nT r)) ≤ 0 from nI_nle hp (by omega))]
      exact fin
    · have e : tS (mP r v n) (i + 1) = tS (mP r v n) i := if_neg (fun z => hp (of_decide_eq_true z))
      rw [e] at fin
      rw [if_pos (show nI (rfR r v n i (nT r)) ≤ 0 from nI_le (b := 0) (by omega) (by omega))]
      exact fin
/-- the reference: but for what it counts -/
def Md (M M' : Mem) : Prop := (∀ k, k ≠ 130 → M' k = M k) ∧ ∀ j, j ≠ 5 → j ≠ 6 → j ≠ 7 → j ≠ 15 → M' 130 j = M 130 j
theorem Md.rf {M : Mem} : Md M M := ⟨fun _ _ => rfl, fun _ _ _ _ _ => rfl⟩
theorem Md.tr {M M1 M2 : Mem} (h1 : Md M M1) (h2 : Md M1 M2) : Md M M2 := ⟨fun k a => (h2.1 k a).trans (h1.1 k a), fun j a b c e => (h2.2 j a b c e).trans (h1.2 j a b c e)⟩
theorem Md.mo {M M1 : Mem} (h : Mo M M1) (e : M1 131 = M 131) : Md M M1 := by
  refine ⟨fun k a => ?_, fun j a b c _ => h.2 j a b c⟩
  by_cases c : k = 131
  · subst c
    exact e
  · exact h.1 k a c
theorem Md.ms {M M1 : Mem} (h : Md M M1) : Ms M M1 := ⟨fun k hk => h.1 k (by omega), h.2 3 (by omega) (by omega) (by omega) (by omega), h.2 17 (by omega) (by omega) (by omega) (by omega)⟩
theorem Md.m15 {M : Mem} {v : Int32} : Md M (mset M 130 15 v) := ⟨fun k a => mset_ne a, fun j _ _ _ e => by rw [mset_at, upd_ne e]⟩
/-- the set while row i stands at j -/
def fiS (r : Rw) (v : Int32) (n i j : Nat) : Nat := if 0 < rfR r v n i j then tS (mP r v n) i + 2 ^ i else tS (mP r v n) i
theorem fiS_1 {r : Rw} {v : Int32} {n i j : Nat} (hi : i < 31) (h : okR r v n i j) : nI (fiS r v n i j) ||| ((1 : Int32) <<< (nI i &&& 31)) = nI (fiS r v n i (j + 1)) := by
  have e : rfR r v n i (j + 1) = rfR r v n i j + 1 := if_pos h
  have e2 : fiS r v n i (j + 1) = tS (mP r v n) i + 2 ^ i := by
    unfold fiS
    rw [e, if_pos (by omega)]
  rw [e2]
  unfold fiS
  split
  · rw [← tS_or hi, one_shl hi, nI_or, nI_or, Nat.or_assoc, Nat.or_self]
  · exact tS_or hi
theorem fiS_e {r : Rw} {v : Int32} {n i : Nat} : fiS r v n i (nT r) = tS (mP r v n) (i + 1) := by
  unfold fiS
  show _ = (if decide (0 < rfR r v n i (nT r)) = true then tS (mP r v n) i + 2 ^ i else tS (mP r v n) i)
  by_cases h : 0 < rfR r v n i (nT r)
  · rw [if_pos h, if_pos (decide_eq_true h)]
  · rw [if_neg h, if_neg (fun z => h (of_decide_eq_true z))]
theorem L_findI {d i n : Nat} {v : Int32} {r a : Rw} {M : Mem} (w : WX r 9999) (e : M 131 = r) (ha : M 133 = cpR r a) (hi : i < nT r) (hn : n ≤ 1000) : ∀ (m j : Nat) (M1 : Mem), j + m = nT r → Md M M1 → M1 130 15 = nI (rfO r v n i + rfR r v n i j) →
    ∃ M', lim (call (d + 6)) none 6 cX6_findRows (some .int) 35 [some (.ref 130), some (.int v), some (.int (nI n)), some (.int (nI (fiS r v n i j))), some (.int (nI i)), some (.int (nI j))] [] M1 = lim (call (d + 6)) none 6 cX6_findRows (some .int) 21 [some (.ref 130), some (.int v), some (.int (nI n)), some (.int (nI (tS (mP r v n) (i + 1)))), some (.int (nI (i + 1))), some (.int (nI (nT r)))] [] M' ∧ Md M M' ∧ M' 130 15 = nI (rfO r v n (i + 1)) := by
  have hT := wr_T w.1
  intro m
  induction m with
  | zero =>
    intro j M1 hj b e15
    obtain rfl : j = nT r := by omega
    have e1 : M1 131 = r := (b.1 131 (by omega)).trans e
    rw [sX6_findRows_35]
    simp only [sX6_findRows_0, sX6_findRows_1, sX6_findRows_4, sX6_findRows_5, sX6_findRows_8, sX6_findRows_11, sX6_findRows_12, sX6_findRows_13, sX6_findRows_14, sX6_findRows_15, sX6_findRows_18, sX6_findRows_19, sX6_findRows_23, sX6_findRows_24, sX6_findRows_27, sX6_findRows_28, sX6_findRows_29, sX6_findRows_32, sX6_findRows_33, sX6_findRows_37, sX6_findRows_38, sX6_findRows_41, sX6_findRows_42, sX6_findRows_43, sX6_findRows_46, sX6_findRows_48, sX6_findRows_50, sX6_findRows_53, sX6_findRows_54, sX6_findRows_56, sX6_findRows_57, sX6_findRows_60, sX6_findRows_63, sX6_findRows_64, sX6_findRows_66, sX6_findRows_67, sX6_findRows_70, sX6_findRows_73, sX6_findRows_74, sX6_findRows_76, sX6_findRows_78, sX6_findRows_79, sX6_findRows_82, sX6_findRows_83, sX6_findRows_86, sX6_findRows_87, sX6_findRows_88, sX6_findRows_90, sX6_findRows_91, sX6_findRows_92, sX6_findRows_93, sX6_findRows_94, sX6_findRows_94_i, sX6_findRows_95, sX6_findRows_98, sX6_findRows_99, sX6_findRows_100, sX6_findRows_103, sX6_findRows_106, sX6_findRows_109, sX6_findRows_112, sX6_findRows_115, sX6_findRows_116, opK_some, guK_true, calK_some, rk_nil, rk_int, rk_ref, tl_some, tl_none, nb_int, nb_0, nb_1, nb_if, nb_if', o130_0, a131, ib_3_132, tn_3, e1, nI_1, fiS_e]
    rw [if_pos (show r 3 ≤ nI (nT r) by rw [← hT.2]; exact Int32.le_refl _)]
    exact ⟨M1, rfl, b, e15⟩
  | succ m ih =>
    intro j M1 hj b e15
    have j10 : j < 10 := by omega
    have i10 : i < 10 := by omega
    have hl := rf_le (r := r) (v := v) (n := n) (i := i) j
    have e1 : M1 131 = r := (b.1 131 (by omega)).trans e
    have a1 : M1 133 = cpR r a := (b.1 133 (by omega)).trans ha
    have c1 := C_m_isHow (d := d + 3) (M := M1) (x := 0) i10
    rw [show d + 3 + 3 = d + 6 from rfl] at c1
    have c2 := C_m_isHow (d := d + 3) (M := M1) (x := 0) j10
    rw [show d + 3 + 3 = d + 6 from rfl] at c2
    rw [e1] at c1 c2
    obtain ⟨M2, c3, o2, r2⟩ := C_m_firstEgg (d := d + 0) (n := n) w e1 a1 i10 j10 hn
    rw [show d + 0 + 6 = d + 6 from rfl] at c3
    have b2 : Md M1 M2 := Md.mo o2 (by rw [r2, e1])
    have e15' : M2 130 15 = nI (rfO r v n i + rfR r v n i j) := by rw [o2.2 15 (by omega) (by omega) (by omega)]; exact e15
    rw [sX6_findRows_35]
    simp only [sX6_findRows_0, sX6_findRows_1, sX6_findRows_4, sX6_findRows_5, sX6_findRows_8, sX6_findRows_11, sX6_findRows_12, sX6_findRows_13, sX6_findRows_14, sX6_findRows_15, sX6_findRows_18, sX6_findRows_19, sX6_findRows_23, sX6_findRows_24, sX6_findRows_27, sX6_findRows_28, sX6_findRows_29, sX6_findRows_32, sX6_findRows_33, sX6_findRows_37, sX6_findRows_38, sX6_findRows_41, sX6_findRows_42, sX6_findRows_43, sX6_findRows_46, sX6_findRows_48, sX6_findRows_50, sX6_findRows_53, sX6_findRows_54, sX6_findRows_56, sX6_findRows_57, sX6_findRows_60, sX6_findRows_63, sX6_findRows_64, sX6_findRows_66, sX6_findRows_67, sX6_findRows_70, sX6_findRows_73, sX6_findRows_74, sX6_findRows_76, sX6_findRows_78, sX6_findRows_79, sX6_findRows_82, sX6_findRows_83, sX6_findRows_86, sX6_findRows_87, sX6_findRows_88, sX6_findRows_90, sX6_findRows_91, sX6_findRows_92, sX6_findRows_93, sX6_findRows_94, sX6_findRows_94_i, sX6_findRows_95, sX6_findRows_98, sX6_findRows_99, sX6_findRows_100, sX6_findRows_103, sX6_findRows_106, sX6_findRows_109, sX6_findRows_112, sX6_findRows_115, sX6_findRows_116, opK_some, guK_true, calK_some, rk_nil, rk_int, rk_ref, tl_some, tl_none, nb_int, nb_0, nb_1, nb_if, nb_if', o130_0, o130_15, p130_15, a131, ib_3_132, tn_3, q130, e1, c1, c2, c3, e15', nI_1]
    rw [if_neg (show ¬ r 3 ≤ nI j by rw [hT.2]; exact nI_ge (by omega) (by omega))]
    have skip : ∀ M3 : Mem, ¬ okR r v n i j → Md M M3 → M3 130 15 = nI (rfO r v n i + rfR r v n i j) → ∃ M', lim (call (d + 6)) none 6 cX6_findRows (some .int) 35 [some (.ref 130), some (.int v), some (.int (nI n)), some (.int (nI (fiS r v n i j))), some (.int (nI i)), some (.int (nI (j + 1)))] [] M3 = lim (call (d + 6)) none 6 cX6_findRows (some .int) 21 [some (.ref 130), some (.int v), some (.int (nI n)), some (.int (nI (tS (mP r v n) (i + 1)))), some (.int (nI (i + 1))), some (.int (nI (nT r)))] [] M' ∧ Md M M' ∧ M' 130 15 = nI (rfO r v n (i + 1)) := by
      intro M3 z b3 e3
      have er : rfR r v n i (j + 1) = rfR r v n i j := if_neg z
      have es : fiS r v n i (j + 1) = fiS r v n i j := by
        unfold fiS
        rw [er]
      have fin := ih (j + 1) M3 (by omega) b3 (by rw [er]; exact e3)
      rw [es] at fin
      exact fin
    by_cases hji : i = j
    · rw [if_pos (by rw [hji])]
      exact skip M1 (fun z => z.1 hji.symm) b e15
    · rw [if_neg (fun z => hji (nI_inj (by omega) (by omega) z))]
      by_cases hA : r (at9 i 4) = 0
      · by_cases hB : r (at9 j 4) = 0
        · by_cases hv : feR r i j 0 n = v
          · have hk : okR r v n i j := ⟨fun z => hji z.symm, hA, hB, hv⟩
            have er : rfR r v n i (j + 1) = rfR r v n i j + 1 := if_pos hk
            simp only [hA, hB, hv, if_true, one_ne, if_false]
            rw [fiS_1 (by omega) hk]
            exact ih (j + 1) _ (by omega) ((b.tr b2).tr Md.m15) (by rw [mset_at, upd_at, er]; rfl)
          · simp only [hA, hB, hv, if_true, one_ne, if_false]
            exact skip M2 (fun z => hv z.2.2.2) (b.tr b2) e15'
        · simp only [hA, hB, if_true, one_ne, zero_eq, if_false]
          exact skip M1 (fun z => hB z.2.2.1) b e15
      · simp only [hA, if_true, zero_eq, if_false]
        exact skip M1 (fun z => hA z.2.1) b e15
theorem L_findO {d n : Nat} {v : Int32} {r a : Rw} {M : Mem} (w : WX r 9999) (e : M 131 = r) (ha : M 133 = cpR r a) (hn : n ≤ 1000) : ∀ (m i : Nat) (M1 : Mem) (u : Option Value), i + m = nT r → Md M M1 → M1 130 15 = nI (rfO r v n i) →
    ∃ M', lim (call (d + 6)) none 6 cX6_findRows (some .int) 21 [some (.ref 130), some (.int v), some (.int (nI n)), some (.int (nI (tS (mP r v n) i))), some (.int (nI i)), u] [] M1 = some (some (.int (nI (tS (mP r v n) (nT r)))), M') ∧ Md M M' ∧ M' 130 15 = nI (rfO r v n (nT r)) := by
  have hT := wr_T w.1
  intro m
  induction m with
  | zero =>
    intro i M1 u hi b e15
    obtain rfl : i = nT r := by omega
    have e1 : M1 131 = r := (b.1 131 (by omega)).trans e
    rw [sX6_findRows_21]
    simp only [sX6_findRows_0, sX6_findRows_1, sX6_findRows_4, sX6_findRows_5, sX6_findRows_8, sX6_findRows_11, sX6_findRows_12, sX6_findRows_13, sX6_findRows_14, sX6_findRows_15, sX6_findRows_18, sX6_findRows_19, sX6_findRows_23, sX6_findRows_24, sX6_findRows_27, sX6_findRows_28, sX6_findRows_29, sX6_findRows_32, sX6_findRows_33, sX6_findRows_37, sX6_findRows_38, sX6_findRows_41, sX6_findRows_42, sX6_findRows_43, sX6_findRows_46, sX6_findRows_48, sX6_findRows_50, sX6_findRows_53, sX6_findRows_54, sX6_findRows_56, sX6_findRows_57, sX6_findRows_60, sX6_findRows_63, sX6_findRows_64, sX6_findRows_66, sX6_findRows_67, sX6_findRows_70, sX6_findRows_73, sX6_findRows_74, sX6_findRows_76, sX6_findRows_78, sX6_findRows_79, sX6_findRows_82, sX6_findRows_83, sX6_findRows_86, sX6_findRows_87, sX6_findRows_88, sX6_findRows_90, sX6_findRows_91, sX6_findRows_92, sX6_findRows_93, sX6_findRows_94, sX6_findRows_94_i, sX6_findRows_95, sX6_findRows_98, sX6_findRows_99, sX6_findRows_100, sX6_findRows_103, sX6_findRows_106, sX6_findRows_109, sX6_findRows_112, sX6_findRows_115, sX6_findRows_116, opK_some, guK_true, calK_some, rk_nil, rk_int, rk_ref, tl_some, tl_none, nb_int, nb_0, nb_1, nb_if, nb_if', o130_0, a131, ib_3_132, tn_3, e1]
    rw [if_pos (show r 3 ≤ nI (nT r) by rw [← hT.2]; exact Int32.le_refl _)]
    exact ⟨M1, rfl, b, e15⟩
  | succ m ih =>
    intro i M1 u hi b e15
    have e1 : M1 131 = r := (b.1 131 (by omega)).trans e
    have es : fiS r v n i 0 = tS (mP r v n) i := if_neg (by show ¬ 0 < 0; omega)
    obtain ⟨M2, c2, b2, f2⟩ := L_findI (d := d) w e ha (show i < nT r by omega) hn (nT r) 0 M1 (by omega) b (by rw [e15]; rfl)
    rw [es] at c2
    rw [sX6_findRows_21]
    simp only [sX6_findRows_0, sX6_findRows_1, sX6_findRows_4, sX6_findRows_5, sX6_findRows_8, sX6_findRows_11, sX6_findRows_12, sX6_findRows_13, sX6_findRows_14, sX6_findRows_15, sX6_findRows_18, sX6_findRows_19, sX6_findRows_23, sX6_findRows_24, sX6_findRows_27, sX6_findRows_28, sX6_findRows_29, sX6_findRows_32, sX6_findRows_33, sX6_findRows_37, sX6_findRows_38, sX6_findRows_41, sX6_findRows_42, sX6_findRows_43, sX6_findRows_46, sX6_findRows_48, sX6_findRows_50, sX6_findRows_53, sX6_findRows_54, sX6_findRows_56, sX6_findRows_57, sX6_findRows_60, sX6_findRows_63, sX6_findRows_64, sX6_findRows_66, sX6_findRows_67, sX6_findRows_70, sX6_findRows_73, sX6_findRows_74, sX6_findRows_76, sX6_findRows_78, sX6_findRows_79, sX6_findRows_82, sX6_findRows_83, sX6_findRows_86, sX6_findRows_87, sX6_findRows_88, sX6_findRows_90, sX6_findRows_91, sX6_findRows_92, sX6_findRows_93, sX6_findRows_94, sX6_findRows_94_i, sX6_findRows_95, sX6_findRows_98, sX6_findRows_99, sX6_findRows_100, sX6_findRows_103, sX6_findRows_106, sX6_findRows_109, sX6_findRows_112, sX6_findRows_115, sX6_findRows_116, opK_some, guK_true, calK_some, rk_nil, rk_int, rk_ref, tl_some, tl_none, nb_int, nb_0, nb_1, nb_if, nb_if', o130_0, a131, ib_3_132, tn_3, e1]
    rw [if_neg (show ¬ r 3 ≤ nI i by rw [hT.2]; exact nI_ge (by omega) (by omega))]
    obtain ⟨M3, c3, b3, f3⟩ := ih (i + 1) M2 _ (by omega) b2 f2
    exact ⟨M3, c2.trans c3, b3, f3⟩
theorem C_findRows {d n : Nat} {v : Int32} {M : Mem} (w : WX (M 131) 9999) (hn : n ≤ 1000) : ∃ M', call (d + 7) 208 [.ref 130, .int v, .int (nI n)] M = some (some (.int (nI (tS (mP (M 131) v n) (nT (M 131))))), M') ∧ Ms M M' ∧ M' 130 15 = nI (rfO (M 131) v n (nT (M 131))) := by
  have hc := C_aside (d := d + 5) (M := M)
  rw [show d + 5 + 1 = d + 6 from rfl] at hc
  obtain ⟨M3, hM3⟩ : ∃ M3, M3 = mrow M 133 (cpR (M 131) (M 133)) := ⟨_, rfl⟩
  rw [← hM3] at hc
  obtain ⟨M4, hM4⟩ : ∃ M4, M4 = mset M3 130 15 0 := ⟨_, rfl⟩
  have ms3 : Ms M M3 := by rw [hM3]; exact Ms.as
  have ms4 : Ms M3 M4 := by rw [hM4]; exact Md.m15.ms
  have r4 : M4 131 = M 131 := (ms3.tr ms4).1 131 (by omega)
  have a4 : M4 133 = cpR (M 131) (M 133) := by rw [hM4, mset_ne (by omega), hM3, mrow_at]
  obtain ⟨M5, c5, b5, f5⟩ := L_findO (d := d) (v := v) w r4 a4 hn (nT (M 131)) 0 M4 none (by omega) Md.rf (by rw [hM4, mset_at, upd_at]; rfl)
  rw [nX6_findRows]
  simp only [sX6_findRows_0, sX6_findRows_1, sX6_findRows_4, sX6_findRows_5, sX6_findRows_8, sX6_findRows_11, sX6_findRows_12, sX6_findRows_13, sX6_findRows_14, sX6_findRows_18, sX6_findRows_19, sX6_findRows_23, sX6_findRows_24, sX6_findRows_27, sX6_findRows_28, sX6_findRows_29, sX6_findRows_32, sX6_findRows_33, sX6_findRows_37, sX6_findRows_38, sX6_findRows_41, sX6_findRows_42, sX6_findRows_43, sX6_findRows_46, sX6_findRows_48, sX6_findRows_50, sX6_findRows_53, sX6_findRows_54, sX6_findRows_56, sX6_findRows_57, sX6_findRows_60, sX6_findRows_63, sX6_findRows_64, sX6_findRows_66, sX6_findRows_67, sX6_findRows_70, sX6_findRows_73, sX6_findRows_74, sX6_findRows_76, sX6_findRows_78, sX6_findRows_79, sX6_findRows_82, sX6_findRows_83, sX6_findRows_86, sX6_findRows_87, sX6_findRows_88, sX6_findRows_90, sX6_findRows_91, sX6_findRows_92, sX6_findRows_93, sX6_findRows_94, sX6_findRows_94_i, sX6_findRows_95, sX6_findRows_98, sX6_findRows_99, sX6_findRows_100, sX6_findRows_103, sX6_findRows_106, sX6_findRows_109, sX6_findRows_112, sX6_findRows_115, sX6_findRows_116, opK_some, guK_true, calK_some, rk_nil, rk_int, rk_ref, tl_some, tl_none, nb_int, nb_0, nb_1, nb_if, nb_if', o130_0, o130_2, hc]
  rw [sX6_findRows_15]
  simp only [sX6_findRows_0, sX6_findRows_1, sX6_findRows_4, sX6_findRows_5, sX6_findRows_8, sX6_findRows_11, sX6_findRows_12, sX6_findRows_13, sX6_findRows_14, sX6_findRows_18, sX6_findRows_19, sX6_findRows_23, sX6_findRows_24, sX6_findRows_27, sX6_findRows_28, sX6_findRows_29, sX6_findRows_32, sX6_findRows_33, sX6_findRows_37, sX6_findRows_38, sX6_findRows_41, sX6_findRows_42, sX6_findRows_43, sX6_findRows_46, sX6_findRows_48, sX6_findRows_50, sX6_findRows_53, sX6_findRows_54, sX6_findRows_56, sX6_findRows_57, sX6_findRows_60, sX6_findRows_63, sX6_findRows_64, sX6_findRows_66, sX6_findRows_67, sX6_findRows_70, sX6_findRows_73, sX6_findRows_74, sX6_findRows_76, sX6_findRows_78, sX6_findRows_79, sX6_findRows_82, sX6_findRows_83, sX6_findRows_86, sX6_findRows_87, sX6_findRows_88, sX6_findRows_90, sX6_findRows_91, sX6_findRows_92, sX6_findRows_93, sX6_findRows_94, sX6_findRows_94_i, sX6_findRows_95, sX6_findRows_98, sX6_findRows_99, sX6_findRows_100, sX6_findRows_103, sX6_findRows_106, sX6_findRows_109, sX6_findRows_112, sX6_findRows_115, sX6_findRows_116, opK_some, guK_true, calK_some, rk_nil, rk_int, rk_ref, tl_some, tl_none, nb_int, nb_0, nb_1, nb_if, nb_if', p130_15, ← hM4]
  exact ⟨M5, c5, (ms3.tr ms4).tr b5.ms, f5⟩
abbrev ufR (r : Rw) (v n : Int32) : Int32 := if (0 ≤ v ∧ v ≤ 104) ∧ 1 ≤ n ∧ n ≤ 60 then (if 9999 < r 0 + n then 4 else -1) else 0
theorem C_unfit {d : Nat} {M : Mem} {v n : Int32} (j : J M) : call (d + 3) 75 [.ref 0, .int v, .int n] M = some (some (.int (ufR (M 131) v n)), M) := by
  have ed : M 100 1 = M 131 0 := j.1.2.2.1.1
  rw [nX5_unfit]
  show _ = some (some (Value.int (if (0 ≤ v ∧ v ≤ 104) ∧ 1 ≤ n ∧ n ≤ 60 then (if 9999 < M 131 0 + n then 4 else -1) else 0)), M)
  by_cases hv : 0 ≤ v ∧ v ≤ 104
  · by_cases hn : 1 ≤ n ∧ n ≤ 60
    · by_cases hl : 9999 < M 131 0 + n
      · simp only [sX5_unfit_0, sX5_unfit_1, sX5_unfit_2, sX5_unfit_4, sX5_unfit_7, sX5_unfit_10, sX5_unfit_11, sX5_unfit_14, sX5_unfit_17, sX5_unfit_18, sX5_unfit_19, sX5_unfit_20, sX5_unfit_21, sX5_unfit_24, sX5_unfit_27, sX5_unfit_28, sX5_unfit_31, sX5_unfit_32, opK_some, guK_true, calK_some, rk_nil, rk_int, rk_ref, tl_some, tl_none, nb_int, nb_0, nb_1, nb_if, nb_if', q0, C_x_within, C_x_isDays, C_x_isTooLate, ed, hv, hn, hl, and_self, if_true, one_ne, if_false]
      · simp only [sX5_unfit_0, sX5_unfit_1, sX5_unfit_2, sX5_unfit_4, sX5_unfit_7, sX5_unfit_10, sX5_unfit_11, sX5_unfit_14, sX5_unfit_17, sX5_unfit_18, sX5_unfit_19, sX5_unfit_20, sX5_unfit_21, sX5_unfit_24, sX5_unfit_27, sX5_unfit_28, sX5_unfit_31, sX5_unfit_32, opK_some, guK_true, calK_some, rk_nil, rk_int, rk_ref, tl_some, tl_none, nb_int, nb_0, nb_1, nb_if, nb_if', q0, C_x_within, C_x_isDays, C_x_isTooLate, ed, hv, hn, hl, and_self, if_true, one_ne, zero_eq, if_false]
    · simp only [sX5_unfit_0, sX5_unfit_1, sX5_unfit_2, sX5_unfit_4, sX5_unfit_7, sX5_unfit_10, sX5_unfit_11, sX5_unfit_14, sX5_unfit_17, sX5_unfit_18, sX5_unfit_19, sX5_unfit_20, sX5_unfit_21, sX5_unfit_24, sX5_unfit_27, sX5_unfit_28, sX5_unfit_31, sX5_unfit_32, opK_some, guK_true, calK_some, rk_nil, rk_int, rk_ref, tl_some, tl_none, nb_int, nb_0, nb_1, nb_if, nb_if', q0, C_x_within, C_x_isDays, hv, hn, and_self, and_false, if_true, one_ne, zero_eq, if_false]
  · simp only [sX5_unfit_0, sX5_unfit_1, sX5_unfit_2, sX5_unfit_4, sX5_unfit_7, sX5_unfit_10, sX5_unfit_11, sX5_unfit_14, sX5_unfit_17, sX5_unfit_18, sX5_unfit_19, sX5_unfit_20, sX5_unfit_21, sX5_unfit_24, sX5_unfit_27, sX5_unfit_28, sX5_unfit_31, sX5_unfit_32, opK_some, guK_true, calK_some, rk_nil, rk_int, rk_ref, tl_some, tl_none, nb_int, nb_0, nb_1, nb_if, nb_if', q0, C_x_within, C_x_isDays, hv, false_and, if_true, zero_eq, if_false]

theorem X_fits {d : Nat} {M : Mem} {x y : Int32} (j : J M) : Two (d + 7) 74 (d + 8) 207 [.int x, .int y] M := by
  have w := j_wr j
  have hu : call (d + 6) 75 [.ref 0, .int x, .int y] M = some (some (.int (ufR (M 131) x y)), M) := C_unfit (d := d + 3) j
  have hr : ∀ {M : Mem} {x : Int32} (_ : WR (M 131)), call (d + 7) 182 [.ref 130, .int 1, .int 0, .int x] M = some (some (.int (if ¬ (1 ≤ x ∧ x ≤ 60) then -1000001 else if 9999 < M 131 0 + x then -1000005 else 0)), M) := fun w => C_m_refD (d := d + 2) w
  by_cases hv : 0 ≤ x ∧ x ≤ 104
  · by_cases hy : 1 ≤ y ∧ y ≤ 60
    · by_cases hl : 9999 < M 131 0 + y
      · have eu : ufR (M 131) x y = 4 := by
          show (if _ then _ else _) = _
          rw [if_pos ⟨hv, hy⟩, if_pos hl]
        refine ⟨fX M 4, fM (fX M 4) 4, -1000005, ?_, ?_, J_fin j (by omega)⟩
        · rw [nX5_fits]
          simp only [sX5_fits_0, sX5_fits_1, sX5_fits_2, sX5_fits_3, sX5_fits_6, sX5_fits_7, sX5_fits_8, sX5_fits_11, sX5_fits_12, sX5_fits_13, sX5_fits_16, sX5_fits_17, sX5_fits_18, sX5_fits_20, sX5_fits_21, sX5_fits_25, sX5_fits_26, sX5_fits_29, sX5_fits_32, sX5_fits_35, sX5_fits_38, sX5_fits_40, sX5_fits_41, sX5_fits_43, sX5_fits_44, sX5_fits_45, sX5_fits_48, sX5_fits_49, sX5_fits_51, sX5_fits_54, sX5_fits_57, sX5_fits_59, opK_some, guK_true, calK_some, rk_nil, rk_int, rk_ref, tl_some, tl_none, nb_int, nb_0, nb_1, nb_if, nb_if', q0, hu, eu, show ((4 : Int32) < 0) = False from eq_false (by decide), if_false, C_xf4]
        · rw [nX6_fits]
          simp only [sX6_fits_0, sX6_fits_1, sX6_fits_2, sX6_fits_3, sX6_fits_5, sX6_fits_8, sX6_fits_9, sX6_fits_10, sX6_fits_13, sX6_fits_14, sX6_fits_15, sX6_fits_18, sX6_fits_19, sX6_fits_20, sX6_fits_23, sX6_fits_24, sX6_fits_25, sX6_fits_26, sX6_fits_27, sX6_fits_30, sX6_fits_33, sX6_fits_34, sX6_fits_37, sX6_fits_38, sX6_fits_41, opK_some, guK_true, calK_some, rk_nil, rk_int, rk_ref, tl_some, tl_none, nb_int, nb_0, nb_1, nb_if, nb_if', q130, C_m_within, hv, hy, hr (M := fX M 4) (by rw [fX_131]; exact w), fX_131, hl, and_self, not_true, if_true, if_false, m5_ne, C_mf4]
      · have eu : ufR (M 131) x y = -1 := by
          show (if _ then _ else _) = _
          rw [if_pos ⟨hv, hy⟩, if_neg hl]
        obtain ⟨n, n1, n60, rfl⟩ := days_of hy
        obtain ⟨M2, c2, cs2⟩ := L_fits (d := d) (n := n) (v := x) (y := -1) (j_hr j) w (by omega) (nT (M 131)) 0 M (by omega) Cs.rf
        have e2 := cs2.e
        obtain ⟨M3, c3, ms3, f3⟩ := C_findRows (d := d + 0) (n := n) (v := x) (M := M2) (by rw [e2]; exact j.1.1.1) (by omega)
        rw [show d + 0 + 7 = d + 7 from rfl] at c3
        rw [e2] at c3 f3
        have hp : ∀ p : Nat → Bool, (0 : Int32) ≤ nI (tS p (nT (M 131))) := fun p => by
          have a := tS_lt p (nT (M 131))
          have b := p2_10 (wr_T w).1
          exact nI_le (a := 0) (by omega) (by omega)
        refine ⟨M2, M3, nI (rfO (M 131) x n (nT (M 131))), ?_, ?_, Ms.j (cs2.j j) ms3⟩
        · rw [nX5_fits]
          simp only [sX5_fits_0, sX5_fits_1, sX5_fits_2, sX5_fits_3, sX5_fits_6, sX5_fits_7, sX5_fits_8, sX5_fits_11, sX5_fits_12, sX5_fits_13, sX5_fits_16, sX5_fits_17, sX5_fits_18, sX5_fits_20, sX5_fits_21, sX5_fits_25, sX5_fits_26, sX5_fits_29, sX5_fits_32, sX5_fits_35, sX5_fits_38, sX5_fits_40, sX5_fits_41, sX5_fits_43, sX5_fits_44, sX5_fits_45, sX5_fits_48, sX5_fits_49, sX5_fits_51, sX5_fits_54, sX5_fits_57, sX5_fits_59, opK_some, guK_true, calK_some, rk_nil, rk_int, rk_ref, tl_some, tl_none, nb_int, nb_0, nb_1, nb_if, nb_if', q0, hu, eu, show ((-1 : Int32) < 0) = True from eq_true (by decide), if_true]
          exact c2
        · rw [nX6_fits]
          simp only [sX6_fits_0, sX6_fits_1, sX6_fits_2, sX6_fits_3, sX6_fits_5, sX6_fits_8, sX6_fits_9, sX6_fits_10, sX6_fits_13, sX6_fits_14, sX6_fits_15, sX6_fits_18, sX6_fits_19, sX6_fits_20, sX6_fits_23, sX6_fits_24, sX6_fits_25, sX6_fits_26, sX6_fits_27, sX6_fits_30, sX6_fits_33, sX6_fits_34, sX6_fits_37, sX6_fits_38, sX6_fits_41, opK_some, guK_true, calK_some, rk_nil, rk_int, rk_ref, tl_some, tl_none, nb_int, nb_0, nb_1, nb_if, nb_if', q130, o130_15, C_m_within, hv, hy, hr (M := M2) (by rw [e2]; exact w), e2, hl, and_self, not_true, if_true, zero_eq, if_false, c3, hp, f3]
    · have eu : ufR (M 131) x y = 0 := by
        show (if _ then _ else _) = _
        rw [if_neg (fun z => hy z.2)]
      refine ⟨fX M 0, fM (fX M 0) 0, -1000001, ?_, ?_, J_fin j (by omega)⟩
      · rw [nX5_fits]
        simp only [sX5_fits_0, sX5_fits_1, sX5_fits_2, sX5_fits_3, sX5_fits_6, sX5_fits_7, sX5_fits_8, sX5_fits_11, sX5_fits_12, sX5_fits_13, sX5_fits_16, sX5_fits_17, sX5_fits_18, sX5_fits_20, sX5_fits_21, sX5_fits_25, sX5_fits_26, sX5_fits_29, sX5_fits_32, sX5_fits_35, sX5_fits_38, sX5_fits_40, sX5_fits_41, sX5_fits_43, sX5_fits_44, sX5_fits_45, sX5_fits_48, sX5_fits_49, sX5_fits_51, sX5_fits_54, sX5_fits_57, sX5_fits_59, opK_some, guK_true, calK_some, rk_nil, rk_int, rk_ref, tl_some, tl_none, nb_int, nb_0, nb_1, nb_if, nb_if', q0, hu, eu, show ((0 : Int32) < 0) = False from eq_false (by decide), if_false, C_xf0]
      · rw [nX6_fits]
        simp only [sX6_fits_0, sX6_fits_1, sX6_fits_2, sX6_fits_3, sX6_fits_5, sX6_fits_8, sX6_fits_9, sX6_fits_10, sX6_fits_13, sX6_fits_14, sX6_fits_15, sX6_fits_18, sX6_fits_19, sX6_fits_20, sX6_fits_23, sX6_fits_24, sX6_fits_25, sX6_fits_26, sX6_fits_27, sX6_fits_30, sX6_fits_33, sX6_fits_34, sX6_fits_37, sX6_fits_38, sX6_fits_41, opK_some, guK_true, calK_some, rk_nil, rk_int, rk_ref, tl_some, tl_none, nb_int, nb_0, nb_1, nb_if, nb_if', q130, C_m_within, hv, hr (M := fX M 0) (by rw [fX_131]; exact w), fX_131, hy, and_self, not_false_eq_true, if_true, if_false, m1_ne, C_mf0]
  · have eu : ufR (M 131) x y = 0 := by
      show (if _ then _ else _) = _
      rw [if_neg (fun z => hv z.1)]
    have href := C_m_ref0 (d := d + 2) (M := fX M 0) (x := 0) (n := y)
    rw [show d + 2 + 5 = d + 7 from rfl] at href
    refine ⟨fX M 0, fM (fX M 0) 0, -1000001, ?_, ?_, J_fin j (by omega)⟩
    · rw [nX5_fits]
      simp only [sX5_fits_0, sX5_fits_1, sX5_fits_2, sX5_fits_3, sX5_fits_6, sX5_fits_7, sX5_fits_8, sX5_fits_11, sX5_fits_12, sX5_fits_13, sX5_fits_16, sX5_fits_17, sX5_fits_18, sX5_fits_20, sX5_fits_21, sX5_fits_25, sX5_fits_26, sX5_fits_29, sX5_fits_32, sX5_fits_35, sX5_fits_38, sX5_fits_40, sX5_fits_41, sX5_fits_43, sX5_fits_44, sX5_fits_45, sX5_fits_48, sX5_fits_49, sX5_fits_51, sX5_fits_54, sX5_fits_57, sX5_fits_59, opK_some, guK_true, calK_some, rk_nil, rk_int, rk_ref, tl_some, tl_none, nb_int, nb_0, nb_1, nb_if, nb_if', q0, hu, eu, show ((0 : Int32) < 0) = False from eq_false (by decide), if_false, C_xf0]
    · rw [nX6_fits]
      simp only [sX6_fits_0, sX6_fits_1, sX6_fits_2, sX6_fits_3, sX6_fits_5, sX6_fits_8, sX6_fits_9, sX6_fits_10, sX6_fits_13, sX6_fits_14, sX6_fits_15, sX6_fits_18, sX6_fits_19, sX6_fits_20, sX6_fits_23, sX6_fits_24, sX6_fits_25, sX6_fits_26, sX6_fits_27, sX6_fits_30, sX6_fits_33, sX6_fits_34, sX6_fits_37, sX6_fits_38, sX6_fits_41, opK_some, guK_true, calK_some, rk_nil, rk_int, rk_ref, tl_some, tl_none, nb_int, nb_0, nb_1, nb_if, nb_if', q130, C_m_within, hv, if_false, href, m1_ne, C_mf0]
theorem X_may {d : Nat} {M : Mem} {x y : Int32} (j : J M) : Two (d + 7) 78 (d + 8) 210 [.int x, .int y] M := by
  have w := j_wr j
  have hu : call (d + 6) 75 [.ref 0, .int x, .int y] M = some (some (.int (ufR (M 131) x y)), M) := C_unfit (d := d + 3) j
  have hr : ∀ {M : Mem} {x : Int32} (_ : WR (M 131)), call (d + 7) 182 [.ref 130, .int 1, .int 0, .int x] M = some (some (.int (if ¬ (1 ≤ x ∧ x ≤ 60) then -1000001 else if 9999 < M 131 0 + x then -1000005 else 0)), M) := fun w => C_m_refD (d := d + 2) w
  by_cases hv : 0 ≤ x ∧ x ≤ 104
  · by_cases hy : 1 ≤ y ∧ y ≤ 60
    · by_cases hl : 9999 < M 131 0 + y
      · have eu : ufR (M 131) x y = 4 := by
          show (if _ then _ else _) = _
          rw [if_pos ⟨hv, hy⟩, if_pos hl]
        refine ⟨fX M 4, fM (fX M 4) 4, -1000005, ?_, ?_, J_fin j (by omega)⟩
        · rw [nX5_may]
          simp only [sX5_may_0, sX5_may_1, sX5_may_2, sX5_may_3, sX5_may_6, sX5_may_7, sX5_may_8, sX5_may_11, sX5_may_12, sX5_may_13, sX5_may_16, sX5_may_17, sX5_may_18, sX5_may_20, sX5_may_21, sX5_may_25, sX5_may_26, sX5_may_29, sX5_may_32, sX5_may_35, sX5_may_38, sX5_may_39, sX5_may_41, sX5_may_42, sX5_may_43, sX5_may_46, sX5_may_49, sX5_may_51, sX5_may_52, sX5_may_54, sX5_may_55, sX5_may_56, sX5_may_58, sX5_may_61, sX5_may_64, sX5_may_66, opK_some, guK_true, calK_some, rk_nil, rk_int, rk_ref, tl_some, tl_none, nb_int, nb_0, nb_1, nb_if, nb_if', q0, hu, eu, show ((4 : Int32) < 0) = False from eq_false (by decide), if_false, C_xf4]
        · rw [nX6_may]
          simp only [sX6_may_0, sX6_may_1, sX6_may_2, sX6_may_3, sX6_may_5, sX6_may_8, sX6_may_9, sX6_may_10, sX6_may_13, sX6_may_14, sX6_may_15, sX6_may_18, sX6_may_19, sX6_may_20, sX6_may_23, sX6_may_26, sX6_may_27, sX6_may_28, sX6_may_29, sX6_may_32, opK_some, guK_true, calK_some, rk_nil, rk_int, rk_ref, tl_some, tl_none, nb_int, nb_0, nb_1, nb_if, nb_if', q130, C_m_within, hv, hy, hr (M := fX M 4) (by rw [fX_131]; exact w), fX_131, hl, and_self, not_true, if_true, if_false, m5_ne, C_mf4]
      · have eu : ufR (M 131) x y = -1 := by
          show (if _ then _ else _) = _
          rw [if_pos ⟨hv, hy⟩, if_neg hl]
        obtain ⟨n, n1, n60, rfl⟩ := days_of hy
        obtain ⟨M2, c2, cs2⟩ := L_may (d := d) (n := n) (v := x) (y := -1) (j_hr j) w (by omega) (nT (M 131)) 0 M (by omega) Cs.rf
        have e2 := cs2.e
        obtain ⟨M3, c3, ms3, f3⟩ := C_findRows (d := d + 0) (n := n) (v := x) (M := M2) (by rw [e2]; exact j.1.1.1) (by omega)
        rw [show d + 0 + 7 = d + 7 from rfl] at c3
        rw [e2] at c3 f3
        have hp : ∀ p : Nat → Bool, (0 : Int32) ≤ nI (tS p (nT (M 131))) := fun p => by
          have a := tS_lt p (nT (M 131))
          have b := p2_10 (wr_T w).1
          exact nI_le (a := 0) (by omega) (by omega)
        refine ⟨M2, M3, nI (tS (mP (M 131) x n) (nT (M 131))), ?_, ?_, Ms.j (cs2.j j) ms3⟩
        · rw [nX5_may]
          simp only [sX5_may_0, sX5_may_1, sX5_may_2, sX5_may_3, sX5_may_6, sX5_may_7, sX5_may_8, sX5_may_11, sX5_may_12, sX5_may_13, sX5_may_16, sX5_may_17, sX5_may_18, sX5_may_20, sX5_may_21, sX5_may_25, sX5_may_26, sX5_may_29, sX5_may_32, sX5_may_35, sX5_may_38, sX5_may_39, sX5_may_41, sX5_may_42, sX5_may_43, sX5_may_46, sX5_may_49, sX5_may_51, sX5_may_52, sX5_may_54, sX5_may_55, sX5_may_56, sX5_may_58, sX5_may_61, sX5_may_64, sX5_may_66, opK_some, guK_true, calK_some, rk_nil, rk_int, rk_ref, tl_some, tl_none, nb_int, nb_0, nb_1, nb_if, nb_if', q0, hu, eu, show ((-1 : Int32) < 0) = True from eq_true (by decide), if_true]
          exact c2
        · rw [nX6_may]
          simp only [sX6_may_0, sX6_may_1, sX6_may_2, sX6_may_3, sX6_may_5, sX6_may_8, sX6_may_9, sX6_may_10, sX6_may_13, sX6_may_14, sX6_may_15, sX6_may_18, sX6_may_19, sX6_may_20, sX6_may_23, sX6_may_26, sX6_may_27, sX6_may_28, sX6_may_29, sX6_may_32, opK_some, guK_true, calK_some, rk_nil, rk_int, rk_ref, tl_some, tl_none, nb_int, nb_0, nb_1, nb_if, nb_if', q130, o130_15, C_m_within, hv, hy, hr (M := M2) (by rw [e2]; exact w), e2, hl, and_self, not_true, if_true, zero_eq, if_false, c3, hp, f3]
    · have eu : ufR (M 131) x y = 0 := by
        show (if _ then _ else _) = _
        rw [if_neg (fun z => hy z.2)]
      refine ⟨fX M 0, fM (fX M 0) 0, -1000001, ?_, ?_, J_fin j (by omega)⟩
      · rw [nX5_may]
        simp only [sX5_may_0, sX5_may_1, sX5_may_2, sX5_may_3, sX5_may_6, sX5_may_7, sX5_may_8, sX5_may_11, sX5_may_12, sX5_may_13, sX5_may_16, sX5_may_17, sX5_may_18, sX5_may_20, sX5_may_21, sX5_may_25, sX5_may_26, sX5_may_29, sX5_may_32, sX5_may_35, sX5_may_38, sX5_may_39, sX5_may_41, sX5_may_42, sX5_may_43, sX5_may_46, sX5_may_49, sX5_may_51, sX5_may_52, sX5_may_54, sX5_may_55, sX5_may_56, sX5_may_58, sX5_may_61, sX5_may_64, sX5_may_66, opK_some, guK_true, calK_some, rk_nil, rk_int, rk_ref, tl_some, tl_none, nb_int, nb_0, nb_1, nb_if, nb_if', q0, hu, eu, show ((0 : Int32) < 0) = False from eq_false (by decide), if_false, C_xf0]
      · rw [nX6_may]
        simp only [sX6_may_0, sX6_may_1, sX6_may_2, sX6_may_3, sX6_may_5, sX6_may_8, sX6_may_9, sX6_may_10, sX6_may_13, sX6_may_14, sX6_may_15, sX6_may_18, sX6_may_19, sX6_may_20, sX6_may_23, sX6_may_26, sX6_may_27, sX6_may_28, sX6_may_29, sX6_may_32, opK_some, guK_true, calK_some, rk_nil, rk_int, rk_ref, tl_some, tl_none, nb_int, nb_0, nb_1, nb_if, nb_if', q130, C_m_within, hv, hr (M := fX M 0) (by rw [fX_131]; exact w), fX_131, hy, and_self, not_false_eq_true, if_true, if_false, m1_ne, C_mf0]
  · have eu : ufR (M 131) x y = 0 := by
      show (if _ then _ else _) = _
      rw [if_neg (fun z => hv z.1)]
    have href := C_m_ref0 (d := d + 2) (M := fX M 0) (x := 0) (n := y)
    rw [show d + 2 + 5 = d + 7 from rfl] at href
    refine ⟨fX M 0, fM (fX M 0) 0, -1000001, ?_, ?_, J_fin j (by omega)⟩
    · rw [nX5_may]
      simp only [sX5_may_0, sX5_may_1, sX5_may_2, sX5_may_3, sX5_may_6, sX5_may_7, sX5_may_8, sX5_may_11, sX5_may_12, sX5_may_13, sX5_may_16, sX5_may_17, sX5_may_18, sX5_may_20, sX5_may_21, sX5_may_25, sX5_may_26, sX5_may_29, sX5_may_32, sX5_may_35, sX5_may_38, sX5_may_39, sX5_may_41, sX5_may_42, sX5_may_43, sX5_may_46, sX5_may_49, sX5_may_51, sX5_may_52, sX5_may_54, sX5_may_55, sX5_may_56, sX5_may_58, sX5_may_61, sX5_may_64, sX5_may_66, opK_some, guK_true, calK_some, rk_nil, rk_int, rk_ref, tl_some, tl_none, nb_int, nb_0, nb_1, nb_if, nb_if', q0, hu, eu, show ((0 : Int32) < 0) = False from eq_false (by decide), if_false, C_xf0]
    · rw [nX6_may]
      simp only [sX6_may_0, sX6_may_1, sX6_may_2, sX6_may_3, sX6_may_5, sX6_may_8, sX6_may_9, sX6_may_10, sX6_may_13, sX6_may_14, sX6_may_15, sX6_may_18, sX6_may_19, sX6_may_20, sX6_may_23, sX6_may_26, sX6_may_27, sX6_may_28, sX6_may_29, sX6_may_32, opK_some, guK_true, calK_some, rk_nil, rk_int, rk_ref, tl_some, tl_none, nb_int, nb_0, nb_1, nb_if, nb_if', q130, C_m_within, hv, if_false, href, m1_ne, C_mf0]
