/-! calls: best, ith -/
abbrev uoR (r : Rw) (x n : Int32) : Int32 := if (1 ≤ n ∧ n ≤ 60) ∧ setP r x ∧ bcI x ≤ 5 then (if ¬ outP r (iN x) ∨ 9999 < r 0 + n then 4 else -1) else 0
theorem C_unorderable {d : Nat} {M : Mem} {x n : Int32} (j : J M) : call (d + 3) 49 [.ref 0, .int x, .int n] M = some (some (.int (uoR (M 131) x n)), M) := by
  have w := j_wr j
  have ed : M 100 1 = M 131 0 := j.1.2.2.1.1
  have hset := C_x_isSet (d := d + 1) (x := x) (j_hr j) w
  rw [show d + 1 + 1 = d + 2 from rfl] at hset
  rw [nX5_unorderable]
  show _ = some (some (Value.int (if (1 ≤ n ∧ n ≤ 60) ∧ setP (M 131) x ∧ bcI x ≤ 5 then (if ¬ outP (M 131) (iN x) ∨ 9999 < M 131 0 + n then 4 else -1) else 0)), M)
  by_cases hn : 1 ≤ n ∧ n ≤ 60
  · by_cases hx : setP (M 131) x
    · by_cases h5 : bcI x ≤ 5
      · obtain ⟨s, hs, rfl⟩ := set_of w hx
        have h10 := p2_10 (wr_T w).1
        rw [iN_nI (by omega)]
        have hout := C_areOut (d := d + 0) (j_hr j) w hs
        rw [show d + 0 + 2 = d + 2 from rfl] at hout
        rw [if_pos ⟨hn, hx, h5⟩]
        by_cases a : outP (M 131) s
        · by_cases hl : 9999 < M 131 0 + n
          · rw [if_pos (Or.inr hl)]
            simp only [sX5_unorderable_0, sX5_unorderable_1, sX5_unorderable_4, sX5_unorderable_7, sX5_unorderable_8, sX5_unorderable_9, sX5_unorderable_12, sX5_unorderable_15, sX5_unorderable_16, sX5_unorderable_19, sX5_unorderable_20, sX5_unorderable_23, sX5_unorderable_24, sX5_unorderable_25, sX5_unorderable_26, sX5_unorderable_27, sX5_unorderable_30, sX5_unorderable_33, sX5_unorderable_34, sX5_unorderable_35, sX5_unorderable_38, sX5_unorderable_41, sX5_unorderable_42, sX5_unorderable_45, sX5_unorderable_46, opK_some, guK_true, calK_some, rk_nil, rk_int, rk_ref, tl_some, tl_none, nb_int, nb_0, nb_1, nb_if, nb_if', q0, C_x_isDays, C_x_isTooLate, C_bitCount, ed, hset, hout, hn, if_pos hx, if_pos a, h5, hl, and_self, if_true, one_ne, if_false]
          · rw [if_neg (fun z => z.elim (fun y => y a) hl)]
            simp only [sX5_unorderable_0, sX5_unorderable_1, sX5_unorderable_4, sX5_unorderable_7, sX5_unorderable_8, sX5_unorderable_9, sX5_unorderable_12, sX5_unorderable_15, sX5_unorderable_16, sX5_unorderable_19, sX5_unorderable_20, sX5_unorderable_23, sX5_unorderable_24, sX5_unorderable_25, sX5_unorderable_26, sX5_unorderable_27, sX5_unorderable_30, sX5_unorderable_33, sX5_unorderable_34, sX5_unorderable_35, sX5_unorderable_38, sX5_unorderable_41, sX5_unorderable_42, sX5_unorderable_45, sX5_unorderable_46, opK_some, guK_true, calK_some, rk_nil, rk_int, rk_ref, tl_some, tl_none, nb_int, nb_0, nb_1, nb_if, nb_if', q0, C_x_isDays, C_x_isTooLate, C_bitCount, ed, hset, hout, hn, if_pos hx, if_pos a, h5, hl, and_self, if_true, one_ne, zero_eq, if_false]
        · rw [if_pos (Or.inl a)]
          simp only [sX5_unorderable_0, sX5_unorderable_1, sX5_unorderable_4, sX5_unorderable_7, sX5_unorderable_8, sX5_unorderable_9, sX5_unorderable_12, sX5_unorderable_15, sX5_unorderable_16, sX5_unorderable_19, sX5_unorderable_20, sX5_unorderable_23, sX5_unorderable_24, sX5_unorderable_25, sX5_unorderable_26, sX5_unorderable_27, sX5_unorderable_30, sX5_unorderable_33, sX5_unorderable_34, sX5_unorderable_35, sX5_unorderable_38, sX5_unorderable_41, sX5_unorderable_42, sX5_unorderable_45, sX5_unorderable_46, opK_some, guK_true, calK_some, rk_nil, rk_int, rk_ref, tl_some, tl_none, nb_int, nb_0, nb_1, nb_if, nb_if', q0, C_x_isDays, C_x_isTooLate, C_bitCount, ed, hset, hout, hn, if_pos hx, if_neg a, h5, and_self, if_true, one_ne, zero_eq, if_false]
      · rw [if_neg (fun z => h5 z.2.2)]
        simp only [sX5_unorderable_0, sX5_unorderable_1, sX5_unorderable_4, sX5_unorderable_7, sX5_unorderable_8, sX5_unorderable_9, sX5_unorderable_12, sX5_unorderable_15, sX5_unorderable_16, sX5_unorderable_19, sX5_unorderable_20, sX5_unorderable_23, sX5_unorderable_24, sX5_unorderable_25, sX5_unorderable_26, sX5_unorderable_27, sX5_unorderable_30, sX5_unorderable_33, sX5_unorderable_34, sX5_unorderable_35, sX5_unorderable_38, sX5_unorderable_41, sX5_unorderable_42, sX5_unorderable_45, sX5_unorderable_46, opK_some, guK_true, calK_some, rk_nil, rk_int, rk_ref, tl_some, tl_none, nb_int, nb_0, nb_1, nb_if, nb_if', q0, C_x_isDays, C_bitCount, hset, hn, if_pos hx, h5, and_self, if_true, one_ne, if_false]
    · rw [if_neg (fun z => hx z.2.1)]
      simp only [sX5_unorderable_0, sX5_unorderable_1, sX5_unorderable_4, sX5_unorderable_7, sX5_unorderable_8, sX5_unorderable_9, sX5_unorderable_12, sX5_unorderable_15, sX5_unorderable_16, sX5_unorderable_19, sX5_unorderable_20, sX5_unorderable_23, sX5_unorderable_24, sX5_unorderable_25, sX5_unorderable_26, sX5_unorderable_27, sX5_unorderable_30, sX5_unorderable_33, sX5_unorderable_34, sX5_unorderable_35, sX5_unorderable_38, sX5_unorderable_41, sX5_unorderable_42, sX5_unorderable_45, sX5_unorderable_46, opK_some, guK_true, calK_some, rk_nil, rk_int, rk_ref, tl_some, tl_none, nb_int, nb_0, nb_1, nb_if, nb_if', q0, C_x_isDays, hset, hn, if_neg hx, and_self, if_true, one_ne, zero_eq, if_false]
  · rw [if_neg (fun z => hn z.1)]
    simp only [sX5_unorderable_0, sX5_unorderable_1, sX5_unorderable_4, sX5_unorderable_7, sX5_unorderable_8, sX5_unorderable_9, sX5_unorderable_12, sX5_unorderable_15, sX5_unorderable_16, sX5_unorderable_19, sX5_unorderable_20, sX5_unorderable_23, sX5_unorderable_24, sX5_unorderable_25, sX5_unorderable_26, sX5_unorderable_27, sX5_unorderable_30, sX5_unorderable_33, sX5_unorderable_34, sX5_unorderable_35, sX5_unorderable_38, sX5_unorderable_41, sX5_unorderable_42, sX5_unorderable_45, sX5_unorderable_46, opK_some, guK_true, calK_some, rk_nil, rk_int, rk_ref, tl_some, tl_none, nb_int, nb_0, nb_1, nb_if, nb_if', q0, C_x_isDays, hn, zero_eq, if_true, if_false]
theorem C_isFew {d : Nat} {M : Mem} {x : Int32} (w : WR (M 131)) : call (d + 3) 188 [.ref 130, .int x] M = some (some (.int (if setP (M 131) x ∧ bcI x ≤ 5 then 1 else 0)), M) := by
  have hset := C_m_isSet (d := d + 0) (M := M) (x := x) w
  rw [show d + 0 + 2 = d + 2 from rfl] at hset
  rw [nX6_isFew]
  by_cases hx : setP (M 131) x
  · obtain ⟨s, hs, rfl⟩ := set_of w hx
    have h10 := p2_10 (wr_T w).1
    have cb := C_bits (d := d + 1) (M := M) (s := s) (by omega)
    rw [show d + 1 + 1 = d + 2 from rfl] at cb
    rw [← bc_ok s (by omega)] at cb
    by_cases h5 : bcI (nI s) ≤ 5
    · rw [if_pos ⟨hx, h5⟩]
      simp only [sX6_isFew_0, sX6_isFew_1, sX6_isFew_2, sX6_isFew_5, sX6_isFew_8, sX6_isFew_9, sX6_isFew_12, sX6_isFew_13, sX6_isFew_16, sX6_isFew_17, sX6_isFew_20, sX6_isFew_21, opK_some, guK_true, calK_some, rk_nil, rk_int, rk_ref, tl_some, tl_none, nb_int, nb_0, nb_1, nb_if, nb_if', q130, hset, if_pos hx, one_ne, if_false, cb, Int32.not_lt.mpr h5]
    · rw [if_neg (fun z => h5 z.2)]
      simp only [sX6_isFew_0, sX6_isFew_1, sX6_isFew_2, sX6_isFew_5, sX6_isFew_8, sX6_isFew_9, sX6_isFew_12, sX6_isFew_13, sX6_isFew_16, sX6_isFew_17, sX6_isFew_20, sX6_isFew_21, opK_some, guK_true, calK_some, rk_nil, rk_int, rk_ref, tl_some, tl_none, nb_int, nb_0, nb_1, nb_if, nb_if', q130, hset, if_pos hx, one_ne, if_false, cb, Int32.not_le.mp h5, if_true]
  · rw [if_neg (fun z => hx z.1)]
    simp only [sX6_isFew_0, sX6_isFew_1, sX6_isFew_2, sX6_isFew_5, sX6_isFew_8, sX6_isFew_9, sX6_isFew_12, sX6_isFew_13, sX6_isFew_16, sX6_isFew_17, sX6_isFew_20, sX6_isFew_21, opK_some, guK_true, calK_some, rk_nil, rk_int, rk_ref, tl_some, tl_none, nb_int, nb_0, nb_1, nb_if, nb_if', q130, hset, if_neg hx, zero_eq, if_true]
theorem C_findBest {d s n : Nat} {M : Mem} (w : WX (M 131) 9999) (hs : s < 1024) (h5 : (fl s 10).length ≤ 5) (hn : n ≤ 1000) : ∃ M', call (d + 20) 190 [.ref 130, .int (nI s), .int (nI n)] M = some (none, M') ∧ Ms M M' ∧ St M' (beS (M 131) s n) (fl s 10).length := by
  have hc := C_aside (d := d + 18) (M := M)
  rw [show d + 18 + 1 = d + 19 from rfl] at hc
  obtain ⟨M3, hM3⟩ : ∃ M3, M3 = mrow M 133 (cpR (M 131) (M 133)) := ⟨_, rfl⟩
  rw [← hM3] at hc
  have ms3 : Ms M M3 := by rw [hM3]; exact Ms.as
  obtain ⟨M4, hM4⟩ : ∃ M4, M4 = mset M3 130 12 (-1) := ⟨_, rfl⟩
  have p4 : Mp M3 M4 := by rw [hM4]; exact Mp.m12
  have cb := C_bits (d := d + 18) (M := M4) hs
  rw [show d + 18 + 1 = d + 19 from rfl] at cb
  obtain ⟨M5, hM5⟩ : ∃ M5, M5 = mset M4 130 10 (nI (fl s 10).length) := ⟨_, rfl⟩
  have m5 : Ms M4 M5 := ⟨fun k hk => by rw [hM5, mset_ne (by omega)], by rw [hM5, mset_at, upd_ne (by omega)], by rw [hM5, mset_at, upd_ne (by omega)]⟩
  have ms35 := p4.ms.tr m5
  have r5 : M5 131 = M 131 := (ms3.tr ms35).1 131 (by omega)
  have a5 : M5 133 = cpR (M 131) (M 133) := by rw [hM5, mset_ne (by omega), hM4, mset_ne (by omega), hM3, mrow_at]
  obtain ⟨M6, c6, p6, s6, _⟩ := C_orders (T := (fl s 10).length) (n := n) w h5 hn (fl s 10).length s [] (-1, []) M5 (d + 11) rfl hs (Nat.zero_add _) (by omega) (fun k hk => absurd hk (Nat.not_lt_zero k)) (by rw [hM5, mset_at, upd_at]) r5 a5 ⟨by rw [hM5, mset_at, upd_ne (by omega), hM4, mset_at, upd_at], Or.inl rfl⟩
  rw [show d + 11 + 8 = d + 19 from rfl] at c6
  have em : (pmF (fl s 10).length (fl s 10)).map (fun ys => [] ++ ys) = pmF (fl s 10).length (fl s 10) := List.map_id _
  rw [em] at s6
  rw [show d + 20 = d + 19 + 1 from rfl, nX6_findBest]
  simp only [sX6_findBest_0, sX6_findBest_1, sX6_findBest_4, sX6_findBest_5, sX6_findBest_8, sX6_findBest_11, sX6_findBest_12, sX6_findBest_16, sX6_findBest_17, sX6_findBest_18, sX6_findBest_24, sX6_findBest_25, sX6_findBest_26, sX6_findBest_27, sX6_findBest_30, opK_some, guK_true, calK_some, rk_nil, rk_int, rk_ref, tl_some, tl_none, nb_int, nb_0, nb_1, nb_if, nb_if', o130_0, o130_2, hc]
  rw [sX6_findBest_13]
  simp only [sX6_findBest_0, sX6_findBest_1, sX6_findBest_4, sX6_findBest_5, sX6_findBest_8, sX6_findBest_11, sX6_findBest_12, sX6_findBest_16, sX6_findBest_17, sX6_findBest_18, sX6_findBest_24, sX6_findBest_25, sX6_findBest_26, sX6_findBest_27, sX6_findBest_30, opK_some, guK_true, calK_some, rk_nil, rk_int, rk_ref, tl_some, tl_none, nb_int, nb_0, nb_1, nb_if, nb_if', q130, p130_12, ← hM4, cb]
  rw [sX6_findBest_21]
  simp only [sX6_findBest_0, sX6_findBest_1, sX6_findBest_4, sX6_findBest_5, sX6_findBest_8, sX6_findBest_11, sX6_findBest_12, sX6_findBest_16, sX6_findBest_17, sX6_findBest_18, sX6_findBest_24, sX6_findBest_25, sX6_findBest_26, sX6_findBest_27, sX6_findBest_30, opK_some, guK_true, calK_some, rk_nil, rk_int, rk_ref, tl_some, tl_none, nb_int, nb_0, nb_1, nb_if, nb_if', q130, p130_10, ← hM5, c6]
  exact ⟨M6, rfl, (ms3.tr ms35).tr p6.ms, s6⟩
theorem ob_b {v : List Nat → Int32} : ∀ (ps : List (List Nat)) (b : Int32 × List Nat), (b.1 = -1 → ps ≠ []) → (∀ p, ¬ v p < 0) → (b.1 = -1 ∨ ¬ b.1 < 0) → ¬ (obF v ps b).1 = -1 := by
  intro ps
  induction ps with
  | nil =>
    intro b h _ h2 z
    exact h z rfl
  | cons p ps ih =>
    intro b _ hv h2
    have nv : ¬ v p = -1 := fun z => hv p (by rw [z]; decide)
    show ¬ (obF v ps (if b.1 < v p then (v p, p) else b)).1 = -1
    refine ih _ (fun z => ?_) hv ?_
    · exfalso
      split at z
      · exact nv z
      · rename_i hc
        have zz : b.1 = -1 := z
        rw [zz] at hc
        exact hc (Int32.lt_of_lt_of_le (by decide : (-1 : Int32) < 0) (Int32.not_lt.mp (hv p)))
    · split
      · exact Or.inr (hv p)
      · exact h2
theorem pm_ne : ∀ m xs, xs.length = m → xs.Nodup → pmF m xs ≠ [] := by
  intro m
  induction m with
  | zero => intro xs _ _ z; exact absurd z (by show ¬ [[]] = []; exact List.cons_ne_nil _ _)
  | succ m ih =>
    intro xs hl hn
    cases xs with
    | nil => exact absurd hl (by show ¬ 0 = m + 1; omega)
    | cons x xs =>
      have hm : xs.length = m := Nat.succ.inj hl
      have hx : x ∉ xs := (List.nodup_cons.mp hn).1
      have ef : (x :: xs).filter (fun y => y != x) = xs := by
        rw [List.filter_cons]
        simp only [bne_self_eq_false, Bool.false_eq_true, if_false]
        exact List.filter_eq_self.mpr (fun y hy => bne_iff_ne.mpr (fun z => hx (by rw [← z]; exact hy)))
      intro z
      have z' : (pmF m ((x :: xs).filter (fun y => y != x))).map (fun ys => x :: ys) ++ xs.flatMap (fun x' => (pmF m ((x :: xs).filter (fun y => y != x'))).map (fun ys => x' :: ys)) = [] := z
      rw [ef] at z'
      have z2 := (List.append_eq_nil_iff.mp z').1
      exact ih xs hm (List.nodup_cons.mp hn).2 (List.map_eq_nil_iff.mp z2)

