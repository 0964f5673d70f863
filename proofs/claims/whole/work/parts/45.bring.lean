/-! a feeding: a row of things, one a day -/
def fsR (q : Rw) (row : Nat → Nat) (size k : Nat) : Rw := if k < size ∧ roomR q (row k) then feedR q (row k) else q
def bN (r : Rw) (row : Nat → Nat) (size : Nat) : Nat → Rw
  | 0 => r
  | k + 1 => dayR (fsR (bN r row size k) row size k)
abbrev bF (r : Rw) (row : Nat → Nat) (size k : Nat) : Rw := fsR (bN r row size k) row size k
def bS (r : Rw) (row : Nat → Nat) (size n : Nat) : Int32 := sm (fun k => worD (bF r row size k)) n
theorem WX_feed {r : Rw} {t m : Nat} (w : WX r m) (ht : t < 10) (h8 : r 4 < 8) : WX (feedR r t) m := by
  have n8 := (wr_lt8 w.1).mp h8
  exact ⟨(WR_feed w.1 ht h8).1, by rw [feed_lo ht (by omega) (by omega)]; exact w.2.1, by rw [feed_lo ht (by omega) (by omega), feed_lo ht (by omega) (by omega)]; exact w.2.2⟩
theorem WX_fs {q : Rw} {row : Nat → Nat} {size k m : Nat} (w : WX q m) (hr : ∀ k, k < size → row k < 10) : WX (fsR q row size k) m := by
  unfold fsR
  split
  · rename_i c
    exact WX_feed w (hr k c.1) c.2.1
  · exact w
theorem WR_fs {q : Rw} {row : Nat → Nat} {size k : Nat} (w : WR q) (hr : ∀ k, k < size → row k < 10) : WR (fsR q row size k) := by
  unfold fsR
  split
  · rename_i c
    exact (WR_feed w (hr k c.1) c.2.1).1
  · exact w
theorem WX_bN {r : Rw} {row : Nat → Nat} {size m : Nat} (w : WX r m) (hr : ∀ k, k < size → row k < 10) : ∀ n, m + n < 2 ^ 31 → WX (bN r row size n) (m + n) := by
  intro n
  induction n with
  | zero => intro _; exact w
  | succ n ih => intro h; exact WX_day (WX_fs (ih (by omega)) hr) (by omega)
theorem WR_bN {r : Rw} {row : Nat → Nat} {size : Nat} (w : WR r) (hr : ∀ k, k < size → row k < 10) : ∀ n, WR (bN r row size n) := by
  intro n
  induction n with
  | zero => exact w
  | succ n ih => exact WR_day (WR_fs ih hr)
theorem bN_hi {r : Rw} {row : Nat → Nat} {size : Nat} (w : WR r) (hr : ∀ k, k < size → row k < 10) {j : Nat} (h : j = 1 ∨ j = 2 ∨ j = 3 ∨ (7 ≤ j ∧ j < 18) ∨ 132 ≤ j) : ∀ n, bN r row size n j = r j := by
  intro n
  induction n with
  | zero => rfl
  | succ n ih =>
    show dayR _ j = _
    rw [day_hi (WR_fs (WR_bN w hr n) hr) h, ← ih]
    unfold fsR
    split
    · rename_i c
      have n8 := (wr_lt8 (WR_bN w hr n)).mp c.2.1
      by_cases h18 : j < 18
      · exact feed_lo (hr n c.1) h18 (by omega)
      · exact feed_hi (hr n c.1) n8 (by omega)
    · rfl
theorem b_0 {r : Rw} {row : Nat → Nat} {size i : Nat} (w : WR r) (hr : ∀ k, k < size → row k < 10) (hi : size ≤ i) (h0 : nC (bN r row size i) = 0) : ∀ m, bS r row size (i + m) = bS r row size i ∧ nC (bN r row size (i + m)) = 0 := by
  intro m
  induction m with
  | zero => exact ⟨rfl, h0⟩
  | succ m ih =>
    have e : bF r row size (i + m) = bN r row size (i + m) := if_neg (fun z => absurd z.1 (by omega))
    obtain ⟨d1, d2, _⟩ := day_0 (WR_bN w hr (i + m)) ih.2
    constructor
    · show bS r row size (i + m) + worD (bF r row size (i + m)) = _
      rw [e, d2, ih.1, Int32.add_zero]
    · show nC (dayR (bF r row size (i + m))) = 0
      rw [e, d1, nC_0]
      exact ih.2
/-- what lies in a row of the class -/
def Ro (M : Mem) (row : Nat → Nat) (size : Nat) : Prop := size ≤ 10 ∧ ∀ k, k < size → row k < 10 ∧ M 2 k = nI (row k)
theorem Ro.k {M : Mem} {row : Nat → Nat} {size : Nat} (h : Ro M row size) : ∀ k, k < size → row k < 10 := fun k hk => (h.2 k hk).1
theorem Ro.ou {M M1 : Mem} {row : Nat → Nat} {size : Nat} (h : Ro M row size) (o : Ou 30 M M1) : Ro M1 row size := ⟨h.1, fun k hk => by rw [o 2 (by omega)]; exact h.2 k hk⟩
theorem C_feedDay {d size k : Nat} {M : Mem} {q : Rw} {row : Nat → Nat} (h : HR M 30 q) (w : WR q) (ro : Ro M row size) (hk : k < 2 ^ 31) : ∃ M', call (d + 4) 47 [.ref 0, .int (nI size), .int (nI k)] M = some (some (.int (worD (fsR q row size k))), M') ∧ HR M' 30 (dayR (fsR q row size k)) ∧ Ou 30 M M' ∧ M' 30 12 = laiD (fsR q row size k) ∧ M' 30 13 = worD (fsR q row size k) := by
  have rn : size ≤ 10 := ro.1
  have end_ : ∀ (M1 : Mem) (q1 : Rw), HR M1 30 q1 → WR q1 → Ou 30 M M1 → ∃ M', lim (call (d + 3)) none 5 cX5_passFeedingDay (some .int) 34 [some (.ref 0), some (.int (nI size)), some (.int (nI k))] [] M1 = some (some (.int (worD q1)), M') ∧ HR M' 30 (dayR q1) ∧ Ou 30 M M' ∧ M' 30 12 = laiD q1 ∧ M' 30 13 = worD q1 := by
    intro M1 q1 h1 w1 o1
    obtain ⟨M2, c2, h2, o2, a12, a13, _⟩ := C_passDay (d := d + 0) hen30 h1 w1
    rw [show d + 0 + 3 = d + 3 from rfl] at c2
    rw [sX5_passFeedingDay_34]
    simp only [sX5_passFeedingDay_0, sX5_passFeedingDay_1, sX5_passFeedingDay_2, sX5_passFeedingDay_5, sX5_passFeedingDay_6, sX5_passFeedingDay_9, sX5_passFeedingDay_10, sX5_passFeedingDay_13, sX5_passFeedingDay_14, sX5_passFeedingDay_15, sX5_passFeedingDay_18, sX5_passFeedingDay_21, sX5_passFeedingDay_22, sX5_passFeedingDay_25, sX5_passFeedingDay_26, sX5_passFeedingDay_29, sX5_passFeedingDay_30, sX5_passFeedingDay_31, sX5_passFeedingDay_35, sX5_passFeedingDay_38, sX5_passFeedingDay_41, opK_some, guK_true, calK_some, rk_nil, rk_int, rk_ref, tl_some, tl_none, nb_int, nb_0, nb_1, nb_if, nb_if', o0_6, hen_c hen30, c2]
    exact ⟨M2, rfl, h2, o1.tr o2, a12, a13⟩
  rw [nX5_passFeedingDay]
  by_cases hs : k < size
  · have hk10 : k < 10 := by omega
    obtain ⟨ht, e2⟩ := ro.2 k hs
    have c0 := C_hasRoom (d := d + 1) hen30 h w ht
    rw [show d + 1 + 2 = d + 3 from rfl] at c0
    simp only [sX5_passFeedingDay_0, sX5_passFeedingDay_1, sX5_passFeedingDay_2, sX5_passFeedingDay_5, sX5_passFeedingDay_6, sX5_passFeedingDay_9, sX5_passFeedingDay_10, sX5_passFeedingDay_13, sX5_passFeedingDay_14, sX5_passFeedingDay_15, sX5_passFeedingDay_18, sX5_passFeedingDay_21, sX5_passFeedingDay_22, sX5_passFeedingDay_25, sX5_passFeedingDay_26, sX5_passFeedingDay_29, sX5_passFeedingDay_30, sX5_passFeedingDay_31, sX5_passFeedingDay_35, sX5_passFeedingDay_38, sX5_passFeedingDay_41, opK_some, guK_true, calK_some, rk_nil, rk_int, rk_ref, tl_some, tl_none, nb_int, nb_0, nb_1, nb_if, nb_if', o0_6, o0_8, a2, hen_c hen30, inb_nI hk10 (by omega), nI_clamp hk, e2, c0]
    rw [if_neg (show ¬ nI size ≤ nI k from nI_ge hs (by omega))]
    by_cases hr : roomR q (row k)
    · have ef : fsR q row size k = feedR q (row k) := if_pos ⟨hs, hr⟩
      obtain ⟨M1, c1, h1, o1⟩ := C_swallow (d := d + 1) hen30 h w ht hr.1
      rw [show d + 1 + 2 = d + 3 from rfl] at c1
      rw [if_pos hr, if_neg (by decide), ef]
      simp only [sX5_passFeedingDay_0, sX5_passFeedingDay_1, sX5_passFeedingDay_2, sX5_passFeedingDay_5, sX5_passFeedingDay_6, sX5_passFeedingDay_9, sX5_passFeedingDay_10, sX5_passFeedingDay_13, sX5_passFeedingDay_14, sX5_passFeedingDay_15, sX5_passFeedingDay_18, sX5_passFeedingDay_21, sX5_passFeedingDay_22, sX5_passFeedingDay_25, sX5_passFeedingDay_26, sX5_passFeedingDay_29, sX5_passFeedingDay_30, sX5_passFeedingDay_31, sX5_passFeedingDay_35, sX5_passFeedingDay_38, sX5_passFeedingDay_41, opK_some, guK_true, calK_some, rk_nil, rk_int, rk_ref, tl_some, tl_none, nb_int, nb_0, nb_1, nb_if, nb_if', o0_6, o0_8, a2, hen_c hen30, inb_nI hk10 (by omega), nI_clamp hk, e2, c1]
      exact end_ M1 _ h1 (WR_feed w ht hr.1).1 o1
    · have ef : fsR q row size k = q := if_neg (fun z => hr z.2)
      rw [if_neg hr, if_pos rfl, ef]
      exact end_ M q h w Ou.rf
  · have ef : fsR q row size k = q := if_neg (fun z => hs z.1)
    simp only [sX5_passFeedingDay_0, sX5_passFeedingDay_1, sX5_passFeedingDay_2, sX5_passFeedingDay_5, sX5_passFeedingDay_6, sX5_passFeedingDay_9, sX5_passFeedingDay_10, sX5_passFeedingDay_13, sX5_passFeedingDay_14, sX5_passFeedingDay_15, sX5_passFeedingDay_18, sX5_passFeedingDay_21, sX5_passFeedingDay_22, sX5_passFeedingDay_25, sX5_passFeedingDay_26, sX5_passFeedingDay_29, sX5_passFeedingDay_30, sX5_passFeedingDay_31, sX5_passFeedingDay_35, sX5_passFeedingDay_38, sX5_passFeedingDay_41, opK_some, guK_true, calK_some, rk_nil, rk_int, rk_ref, tl_some, tl_none, nb_int, nb_0, nb_1, nb_if, nb_if']
    rw [if_pos (show nI size ≤ nI k from nI_le (by omega) hk), ef]
    exact end_ M q h w Ou.rf
theorem L_bring {d size n : Nat} {M : Mem} {r : Rw} {row : Nat → Nat} (w : WR r) (ro : Ro M row size) (hn : n < 2 ^ 31) : ∀ (m i : Nat) (M1 : Mem), i + m = n → HR M1 30 (bN r row size i) → Ou 30 M M1 →
    ∃ M', lim (call (d + 4)) none 5 cX5_bring (some .int) 19 [some (.ref 0), some (.int (nI size)), some (.int (nI n)), some (.int (bS r row size i)), some (.int (nI i))] [] M1 = some (some (.int (bS r row size n)), M') ∧ Ou 30 M M' := by
  have rn : size ≤ 10 := ro.1
  intro m
  induction m with
  | zero =>
    intro i M1 hi h ho
    obtain rfl : i = n := by omega
    rw [sX5_bring_19]
    simp only [sX5_bring_0, sX5_bring_1, sX5_bring_4, sX5_bring_5, sX5_bring_8, sX5_bring_11, sX5_bring_14, sX5_bring_15, sX5_bring_16, sX5_bring_17, sX5_bring_21, sX5_bring_22, sX5_bring_25, sX5_bring_27, sX5_bring_28, sX5_bring_31, sX5_bring_32, sX5_bring_35, sX5_bring_38, sX5_bring_41, sX5_bring_42, sX5_bring_43, sX5_bring_44, sX5_bring_46, sX5_bring_49, sX5_bring_50, sX5_bring_51, sX5_bring_54, sX5_bring_57, sX5_bring_58, opK_some, guK_true, calK_some, rk_nil, rk_int, rk_ref, tl_some, tl_none, nb_int, nb_0, nb_1, nb_if, nb_if']
    rw [if_pos (show nI i ≤ nI i from Int32.le_refl _)]
    exact ⟨M1, rfl, ho⟩
  | succ m ih =>
    intro i M1 hi h ho
    have wi := WR_bN w ro.k i
    have e39 : M1 30 9 = bN r row size i 4 := h.1.2.1
    rw [sX5_bring_19]
    by_cases hc : size ≤ i ∧ nC (bN r row size i) = 0
    · simp only [sX5_bring_0, sX5_bring_1, sX5_bring_4, sX5_bring_5, sX5_bring_8, sX5_bring_11, sX5_bring_14, sX5_bring_15, sX5_bring_16, sX5_bring_17, sX5_bring_21, sX5_bring_22, sX5_bring_25, sX5_bring_27, sX5_bring_28, sX5_bring_31, sX5_bring_32, sX5_bring_35, sX5_bring_38, sX5_bring_41, sX5_bring_42, sX5_bring_43, sX5_bring_44, sX5_bring_46, sX5_bring_49, sX5_bring_50, sX5_bring_51, sX5_bring_54, sX5_bring_57, sX5_bring_58, opK_some, guK_true, calK_some, rk_nil, rk_int, rk_ref, tl_some, tl_none, nb_int, nb_0, nb_1, nb_if, nb_if', o0_6, hs_9 hen30, e39]
      rw [if_neg (show ¬ nI n ≤ nI i from nI_ge (by omega) hn), if_neg (show ¬ nI i < nI size from nI_nlt hc.1 (by omega)), if_pos (Int32.not_lt.mp (fun z => absurd ((wr_pos wi).mp z) (by omega)))]
      have := (b_0 w ro.k hc.1 hc.2 (m + 1)).1
      rw [hi] at this
      rw [this]
      exact ⟨M1, rfl, ho⟩
    · obtain ⟨M2, c2, h2, o2, _⟩ := C_feedDay (d := d + 0) (k := i) h wi (ro.ou ho) (by omega)
      rw [show d + 0 + 4 = d + 4 from rfl] at c2
      simp only [sX5_bring_0, sX5_bring_1, sX5_bring_4, sX5_bring_5, sX5_bring_8, sX5_bring_11, sX5_bring_14, sX5_bring_15, sX5_bring_16, sX5_bring_17, sX5_bring_21, sX5_bring_22, sX5_bring_25, sX5_bring_27, sX5_bring_28, sX5_bring_31, sX5_bring_32, sX5_bring_35, sX5_bring_38, sX5_bring_41, sX5_bring_42, sX5_bring_43, sX5_bring_44, sX5_bring_46, sX5_bring_49, sX5_bring_50, sX5_bring_51, sX5_bring_54, sX5_bring_57, sX5_bring_58, opK_some, guK_true, calK_some, rk_nil, rk_int, rk_ref, tl_some, tl_none, nb_int, nb_0, nb_1, nb_if, nb_if', o0_6, hs_9 hen30, e39, q0, c2, nI_1]
      rw [if_neg (show ¬ nI n ≤ nI i from nI_ge (by omega) hn)]
      have fin := ih (i + 1) M2 (by omega) h2 (ho.tr o2)
      by_cases hs : i < size
      · rw [if_pos (show nI i < nI size from nI_lt hs (by omega))]
        exact fin
      · have hp : 0 < nC (bN r row size i) := by
          rcases Nat.eq_zero_or_pos (nC (bN r row size i)) with z | z
          · exact absurd ⟨by omega, z⟩ hc
          · exact z
        rw [if_neg (show ¬ nI i < nI size from nI_nlt (by omega) (by omega)), if_neg (Int32.not_le.mpr ((wr_pos wi).mpr hp))]
        exact fin
theorem C_bring {d size n : Nat} {M : Mem} {r : Rw} {row : Nat → Nat} (h : HR M 10 r) (w : WR r) (ro : Ro M row size) (hn : n < 2 ^ 31) : ∃ M', call (d + 5) 46 [.ref 0, .int (nI size), .int (nI n)] M = some (some (.int (bS r row size n)), M') ∧ Ou 30 M M' := by
  obtain ⟨M1, c1, h1, o1⟩ := C_become (d := d + 3) hen30 hen10 (by omega) h w
  rw [show d + 3 + 1 = d + 4 from rfl] at c1
  obtain ⟨M2, c2, o2⟩ := L_bring (d := d) w ro hn n 0 M1 (by omega) h1 o1
  rw [nX5_bring]
  simp only [sX5_bring_0, sX5_bring_1, sX5_bring_4, sX5_bring_5, sX5_bring_8, sX5_bring_11, sX5_bring_14, sX5_bring_15, sX5_bring_16, sX5_bring_17, sX5_bring_21, sX5_bring_22, sX5_bring_25, sX5_bring_27, sX5_bring_28, sX5_bring_31, sX5_bring_32, sX5_bring_35, sX5_bring_38, sX5_bring_41, sX5_bring_42, sX5_bring_43, sX5_bring_44, sX5_bring_46, sX5_bring_49, sX5_bring_50, sX5_bring_51, sX5_bring_54, sX5_bring_57, sX5_bring_58, opK_some, guK_true, calK_some, rk_nil, rk_int, rk_ref, tl_some, tl_none, nb_int, nb_0, nb_1, nb_if, nb_if', o0_0, o0_6, o100_0, hen_c hen30, hen_c hen10, c1]
  exact ⟨M2, c2, o2⟩

