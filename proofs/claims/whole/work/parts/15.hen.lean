/-! the class's hen: small methods -/
theorem at9_inj {t f t' f' : Nat} (hf : f < 7) (hf' : f' < 7) (h : at9 t f = at9 t' f') : t = t' ∧ f = f' := by
  unfold at9 at h
  omega
theorem at9_ge (t f : Nat) : 18 ≤ at9 t f := by unfold at9; omega
theorem mset_rd {M : Mem} {k i j : Nat} {v : Int32} : mset M k i v j = if j = k then upd (M k) i v else M j := rfl
theorem Ou.rf {b : Nat} {M : Mem} : Ou b M M := fun _ _ => rfl
theorem Ou.tr {b : Nat} {M M1 M2 : Mem} (h1 : Ou b M M1) (h2 : Ou b M1 M2) : Ou b M M2 := fun k hk => (h2 k hk).trans (h1 k hk)
theorem Ou.set {b j i : Nat} {M : Mem} {v : Int32} (hj : j < 9) : Ou b M (mset M (b + j) i v) := fun k hk => mset_ne (by omega)
theorem Ou.set0 {b i : Nat} {M : Mem} {v : Int32} : Ou b M (mset M b i v) := fun k hk => mset_ne (by omega)
theorem HR_cell {b f t : Nat} {M : Mem} {q : Rw} {v : Int32} (h : HR M b q) (hf : f < 7) (ht : t < 10) : HR (mset M (b + 1 + f) t v) b (upd q (at9 t f) v) := by
  have hl := at9_lt ht hf
  have hg := at9_ge t f
  have hn : nC (upd q (at9 t f) v) = nC q := by unfold nC; rw [upd_ne (by omega)]
  refine ⟨?_, fun f' hf' t' ht' => ?_, fun i hi => ?_⟩
  · rw [mset_ne (by omega), upd_ne (by omega), upd_ne (by omega), upd_ne (by omega), upd_ne (by omega)]
    exact h.1
  · by_cases e : f' = f
    · subst e
      rw [mset_at]
      by_cases e2 : t' = t
      · subst e2
        rw [upd_at, upd_at]
      · rw [upd_ne e2, upd_ne (fun z => e2 (at9_inj hf' hf' z).1)]
        exact h.2.1 f' hf' t' ht'
    · rw [mset_ne (by omega), upd_ne (fun z => e (at9_inj hf' hf z).2)]
      exact h.2.1 f' hf' t' ht'
  · rw [hn] at hi
    rw [mset_ne (by omega), upd_ne (by omega)]
    exact h.2.2 i hi
theorem HR_scr {b k : Nat} {M : Mem} {q : Rw} {v : Int32} (h : HR M b q) (hk : 12 ≤ k) : HR (mset M b k v) b q := by
  refine ⟨?_, fun f' hf' t' ht' => ?_, fun i hi => ?_⟩
  · rw [mset_at, upd_ne (by omega), upd_ne (by omega), upd_ne (by omega), upd_ne (by omega)]
    exact h.1
  · rw [mset_ne (by omega)]
    exact h.2.1 f' hf' t' ht'
  · rw [mset_ne (by omega)]
    exact h.2.2 i hi
theorem leK_0 {x y : Int32} : leK (nI 0) x y = mx0 (x - y) := by
  unfold leK
  rw [if_neg (by decide), if_neg (by decide), if_neg (by decide), if_neg (by decide)]
theorem leK_1 {x y : Int32} : leK (nI 1) x y = x / 2 := by
  unfold leK
  rw [if_pos (by decide)]
theorem leK_2 {x y : Int32} : leK (nI 2) x y = mx0 (x - y) := by
  unfold leK
  rw [if_neg (by decide), if_neg (by decide), if_neg (by decide), if_neg (by decide)]
theorem leK_3 {x y : Int32} : leK (nI 3) x y = mx0 (x - y / 2) := by
  unfold leK
  rw [if_neg (by decide), if_pos (by decide)]
theorem leK_4 {x y : Int32} : leK (nI 4) x y = mx0 (x - y / 2) + 5 := by
  unfold leK
  rw [if_neg (by decide), if_neg (by decide), if_pos (by decide)]
theorem leK_5 {x y : Int32} : leK (nI 5) x y = x / 2 := by
  unfold leK
  rw [if_pos (by decide)]
theorem leK_6 {x y : Int32} : leK (nI 6) x y = (if y = 0 then x else 0) := by
  unfold leK
  rw [if_neg (by decide), if_neg (by decide), if_neg (by decide), if_pos (by decide)]
theorem C_left {d : Nat} {M : Mem} {x y : Int32} : ∀ k, k ≤ 6 → call (d + 1) 8 [.int (nI k), .int x, .int y] M = some (some (.int (leK (nI k) x y)), M) := by
  intro k hk
  rw [nX2_left]
  rcases (show k = 0 ∨ k = 1 ∨ k = 2 ∨ k = 3 ∨ k = 4 ∨ k = 5 ∨ k = 6 by omega) with rfl | rfl | rfl | rfl | rfl | rfl | rfl
  · simp only [sX2_left_0]
    rw [sX2_left_1, if_pos (by decide)]
    simp only [sX2_left_40, sX2_left_41, sX2_left_42, sX2_left_43, sX2_left_44, sX2_left_45, sX2_left_46, sX2_left_47, sX2_left_48, sX2_left_49, sX2_left_50, sX2_left_53, sX2_left_54, sX2_left_55, sX2_left_56, sX2_left_57, sX2_left_58, sX2_left_59, sX2_left_60, sX2_left_63, sX2_left_64, sX2_left_65, sX2_left_66, sX2_left_67, sX2_left_70, sX2_left_71, sX2_left_74, sX2_left_75, sX2_left_76, sX2_left_77, sX2_left_78, sX2_left_79, sX2_left_80, sX2_left_83, opK_some, guK_true, calK_some, rk_nil, rk_int, rk_ref, tl_some, tl_none, nb_int, nb_0, nb_1, nb_if, nb_if']
    rw [leK_0]
    rfl
  · simp only [sX2_left_0]
    rw [sX2_left_1, if_neg (by decide), show (([40, 76, 44, 54, 40, 66] : List Nat).getD ((nI 1).toInt - 1).toNat 0) = 40 by decide]
    simp only [sX2_left_40, sX2_left_41, sX2_left_42, sX2_left_43, sX2_left_44, sX2_left_45, sX2_left_46, sX2_left_47, sX2_left_48, sX2_left_49, sX2_left_50, sX2_left_53, sX2_left_54, sX2_left_55, sX2_left_56, sX2_left_57, sX2_left_58, sX2_left_59, sX2_left_60, sX2_left_63, sX2_left_64, sX2_left_65, sX2_left_66, sX2_left_67, sX2_left_70, sX2_left_71, sX2_left_74, sX2_left_75, sX2_left_76, sX2_left_77, sX2_left_78, sX2_left_79, sX2_left_80, sX2_left_83, opK_some, guK_true, calK_some, rk_nil, rk_int, rk_ref, tl_some, tl_none, nb_int, nb_0, nb_1, nb_if, nb_if', show decide (¬ ((2 : Int32) = 0)) = true from rfl]
    rw [leK_1]
  · simp only [sX2_left_0]
    rw [sX2_left_1, if_neg (by decide), show (([40, 76, 44, 54, 40, 66] : List Nat).getD ((nI 2).toInt - 1).toNat 0) = 76 by decide]
    simp only [sX2_left_40, sX2_left_41, sX2_left_42, sX2_left_43, sX2_left_44, sX2_left_45, sX2_left_46, sX2_left_47, sX2_left_48, sX2_left_49, sX2_left_50, sX2_left_53, sX2_left_54, sX2_left_55, sX2_left_56, sX2_left_57, sX2_left_58, sX2_left_59, sX2_left_60, sX2_left_63, sX2_left_64, sX2_left_65, sX2_left_66, sX2_left_67, sX2_left_70, sX2_left_71, sX2_left_74, sX2_left_75, sX2_left_76, sX2_left_77, sX2_left_78, sX2_left_79, sX2_left_80, sX2_left_83, opK_some, guK_true, calK_some, rk_nil, rk_int, rk_ref, tl_some, tl_none, nb_int, nb_0, nb_1, nb_if, nb_if', show decide (¬ ((2 : Int32) = 0)) = true from rfl]
    rw [leK_2]
    rfl
  · simp only [sX2_left_0]
    rw [sX2_left_1, if_neg (by decide), show (([40, 76, 44, 54, 40, 66] : List Nat).getD ((nI 3).toInt - 1).toNat 0) = 44 by decide]
    simp only [sX2_left_40, sX2_left_41, sX2_left_42, sX2_left_43, sX2_left_44, sX2_left_45, sX2_left_46, sX2_left_47, sX2_left_48, sX2_left_49, sX2_left_50, sX2_left_53, sX2_left_54, sX2_left_55, sX2_left_56, sX2_left_57, sX2_left_58, sX2_left_59, sX2_left_60, sX2_left_63, sX2_left_64, sX2_left_65, sX2_left_66, sX2_left_67, sX2_left_70, sX2_left_71, sX2_left_74, sX2_left_75, sX2_left_76, sX2_left_77, sX2_left_78, sX2_left_79, sX2_left_80, sX2_left_83, opK_some, guK_true, calK_some, rk_nil, rk_int, rk_ref, tl_some, tl_none, nb_int, nb_0, nb_1, nb_if, nb_if', show decide (¬ ((2 : Int32) = 0)) = true from rfl]
    rw [leK_3]
    rfl
  · simp only [sX2_left_0]
    rw [sX2_left_1, if_neg (by decide), show (([40, 76, 44, 54, 40, 66] : List Nat).getD ((nI 4).toInt - 1).toNat 0) = 54 by decide]
    simp only [sX2_left_40, sX2_left_41, sX2_left_42, sX2_left_43, sX2_left_44, sX2_left_45, sX2_left_46, sX2_left_47, sX2_left_48, sX2_left_49, sX2_left_50, sX2_left_53, sX2_left_54, sX2_left_55, sX2_left_56, sX2_left_57, sX2_left_58, sX2_left_59, sX2_left_60, sX2_left_63, sX2_left_64, sX2_left_65, sX2_left_66, sX2_left_67, sX2_left_70, sX2_left_71, sX2_left_74, sX2_left_75, sX2_left_76, sX2_left_77, sX2_left_78, sX2_left_79, sX2_left_80, sX2_left_83, opK_some, guK_true, calK_some, rk_nil, rk_int, rk_ref, tl_some, tl_none, nb_int, nb_0, nb_1, nb_if, nb_if', show decide (¬ ((2 : Int32) = 0)) = true from rfl]
    rw [leK_4]
    rfl
  · simp only [sX2_left_0]
    rw [sX2_left_1, if_neg (by decide), show (([40, 76, 44, 54, 40, 66] : List Nat).getD ((nI 5).toInt - 1).toNat 0) = 40 by decide]
    simp only [sX2_left_40, sX2_left_41, sX2_left_42, sX2_left_43, sX2_left_44, sX2_left_45, sX2_left_46, sX2_left_47, sX2_left_48, sX2_left_49, sX2_left_50, sX2_left_53, sX2_left_54, sX2_left_55, sX2_left_56, sX2_left_57, sX2_left_58, sX2_left_59, sX2_left_60, sX2_left_63, sX2_left_64, sX2_left_65, sX2_left_66, sX2_left_67, sX2_left_70, sX2_left_71, sX2_left_74, sX2_left_75, sX2_left_76, sX2_left_77, sX2_left_78, sX2_left_79, sX2_left_80, sX2_left_83, opK_some, guK_true, calK_some, rk_nil, rk_int, rk_ref, tl_some, tl_none, nb_int, nb_0, nb_1, nb_if, nb_if', show decide (¬ ((2 : Int32) = 0)) = true from rfl]
    rw [leK_5]
  · simp only [sX2_left_0]
    rw [sX2_left_1, if_neg (by decide), show (([40, 76, 44, 54, 40, 66] : List Nat).getD ((nI 6).toInt - 1).toNat 0) = 66 by decide]
    simp only [sX2_left_40, sX2_left_41, sX2_left_42, sX2_left_43, sX2_left_44, sX2_left_45, sX2_left_46, sX2_left_47, sX2_left_48, sX2_left_49, sX2_left_50, sX2_left_53, sX2_left_54, sX2_left_55, sX2_left_56, sX2_left_57, sX2_left_58, sX2_left_59, sX2_left_60, sX2_left_63, sX2_left_64, sX2_left_65, sX2_left_66, sX2_left_67, sX2_left_70, sX2_left_71, sX2_left_74, sX2_left_75, sX2_left_76, sX2_left_77, sX2_left_78, sX2_left_79, sX2_left_80, sX2_left_83, opK_some, guK_true, calK_some, rk_nil, rk_int, rk_ref, tl_some, tl_none, nb_int, nb_0, nb_1, nb_if, nb_if', show decide (¬ ((2 : Int32) = 0)) = true from rfl]
    rw [leK_6]
    split <;> rfl
theorem C_isOut {d b t : Nat} {M : Mem} {r : Rw} (hb : isHen b) (h : HR M b r) (ht : t < 10) : call (d + 1) 14 [.ref b, .int (nI t)] M = some (some (.int (if r (at9 t 4) = 0 then 1 else 0)), M) := by
  have e5 : M (b + 5) t = r (at9 t 4) := h.2.1 4 (by omega) t ht
  rw [nX1_isOut]
  simp only [sX1_isOut_0, sX1_isOut_1, sX1_isOut_4, sX1_isOut_5, sX1_isOut_6, sX1_isOut_9, sX1_isOut_10, sX1_isOut_13, sX1_isOut_14, opK_some, guK_true, calK_some, rk_nil, rk_int, rk_ref, tl_some, tl_none, nb_int, nb_0, nb_1, nb_if, nb_if', hs_5 hb, ha_5 hb, inb_nI ht (by omega), nI_clamp (show t < 2 ^ 31 by omega), e5]
  split <;> rfl
theorem C_putAside {d b t : Nat} {M : Mem} {r : Rw} {x : Int32} (hb : isHen b) (h : HR M b r) (ht : t < 10) : ∃ M', call (d + 1) 4 [.ref b, .int (nI t), .int x] M = some (none, M') ∧ HR M' b (becR r t x) ∧ Ou b M M' ∧ M' b = M b ∧ M' (b + 8) = M (b + 8) := by
  rw [nX1_putAside]
  simp only [sX1_putAside_0, sX1_putAside_1, sX1_putAside_4, sX1_putAside_5, sX1_putAside_6, sX1_putAside_7, sX1_putAside_8, sX1_putAside_11, sX1_putAside_12, sX1_putAside_13, sX1_putAside_14, sX1_putAside_15, sX1_putAside_18, sX1_putAside_19, sX1_putAside_20, sX1_putAside_21, opK_some, guK_true, calK_some, rk_nil, rk_int, rk_ref, tl_some, tl_none, nb_int, nb_0, nb_1, nb_if, nb_if', hs_5 hb, hs_6 hb, hs_7 hb, hn_5 hb, hn_6 hb, hn_7 hb, inb_nI ht (by omega), nI_clamp (show t < 2 ^ 31 by omega)]
  refine ⟨_, rfl, HR_cell (f := 6) (HR_cell (f := 5) (HR_cell (f := 4) h (by omega) ht) (by omega) ht) (by omega) ht, ((Ou.set (j := 5) (by omega)).tr (Ou.set (j := 6) (by omega))).tr (Ou.set (j := 7) (by omega)), ?_, ?_⟩
  · rw [mset_ne (by omega), mset_ne (by omega), mset_ne (by omega)]
  · rw [mset_ne (by omega), mset_ne (by omega), mset_ne (by omega)]
theorem C_stainsAt {d b : Nat} {M : Mem} {r : Rw} {x : Int32} (hb : isHen b) (h : HR M b r) (w : WR r) : call (d + 1) 29 [.ref b, .int x] M = some (some (.int (saR r x)), M) := by
  rw [nX1_stainsAt]
  simp only [sX1_stainsAt_0, sX1_stainsAt_1, sX1_stainsAt_4, sX1_stainsAt_5, sX1_stainsAt_6, sX1_stainsAt_9, sX1_stainsAt_12, sX1_stainsAt_15, sX1_stainsAt_16, sX1_stainsAt_19, sX1_stainsAt_20, sX1_stainsAt_23, sX1_stainsAt_24, sX1_stainsAt_25, sX1_stainsAt_26, sX1_stainsAt_27, sX1_stainsAt_30, sX1_stainsAt_31, opK_some, guK_true, calK_some, rk_nil, rk_int, rk_ref, tl_some, tl_none, nb_int, nb_0, nb_1, nb_if, nb_if', hs_9 hb, hs_1 hb, hs_8 hb, ha_1 hb, ha_8 hb, a151, h.1.2.1]
  unfold saR
  by_cases h1 : x < 0
  · rw [if_pos h1, if_neg (fun z => Int32.not_le.mpr h1 z.1)]
  · rw [if_neg h1]
    by_cases h2 : r 4 ≤ x
    · rw [if_pos h2, if_neg (fun z => Int32.not_le.mpr z.2 h2)]
    · rw [if_neg h2, if_pos ⟨Int32.not_lt.mp h1, Int32.not_le.mp h2⟩]
      obtain ⟨j, hj, rfl⟩ := nI_of h1
      have h8 := wr_C w
      rw [h8.2] at h2
      have hjn : j < nC r := by
        rcases Nat.lt_or_ge j (nC r) with q | q
        · exact q
        · exact absurd (nI_le q hj) h2
      obtain ⟨c1, c2⟩ := wr_cr w hjn
      have hk := (w.2.2.2 (cr r j) c1).1
      rw [inb_nI (by omega) (by omega), guK_true, nI_clamp hj, h.2.2 j hjn, c2, inb_nI c1 (by omega), guK_true, nI_clamp (by omega), h.2.1 0 (by omega) _ c1, hk.2, inb_nI (by have := hk.1; omega) (by omega), guK_true]
      unfold stK
      rw [iN_nI hj, ← hk.2]

