/-! calls: fed, days -/
theorem WX_le {r : Rw} {m n : Nat} (w : WX r m) (h : m ≤ n) : WX r n := ⟨w.1, rg_le w.2.1 h, w.2.2⟩
theorem WX_me {r : Rw} {m : Nat} (w : WX r m) : WX r (iN (r 0)) := ⟨w.1, ⟨Nat.le_refl _, w.2.1.2⟩, w.2.2⟩
theorem IR_dN {r : Rw} {n : Nat} (i : IR r) (h : iN (r 0) + n ≤ 9999) : IR (dN r n) := ⟨WX_le (WX_dN (WX_me i.1) n (by omega)) h, KR_dN i.1.1 i.2 n⟩
theorem IR_feed {r : Rw} {t : Nat} (i : IR r) (ht : t < nT r) (h0 : r (at9 t 4) = 0) (h8 : r 4 < 8) : IR (feedR r t) := by
  have ht' : t < 10 := by have := (wr_T i.1.1).1; omega
  refine ⟨⟨(WR_feed i.1.1 ht' h8).1, ?_, ?_⟩, KR_feed i.1.1 i.2 ht h0 h8⟩
  · rw [feed_lo ht' (by omega) (by omega)]
    exact i.1.2.1
  · rw [feed_lo ht' (by omega) (by omega), feed_lo ht' (by omega) (by omega)]
    exact i.1.2.2
theorem late_not {r : Rw} {m n : Nat} (w : WX r m) (hm : m ≤ 9999) (hn : n ≤ 100) (h : ¬ (9999 : Int32) < r 0 + nI n) : iN (r 0) + n ≤ 9999 := by
  have h1 := w.2.1
  rw [h1.2, nI_add] at h
  rcases Nat.lt_or_ge 9999 (iN (r 0) + n) with q | q
  · exact absurd (show (9999 : Int32) < nI (iN (r 0) + n) from nI_lt (a := 9999) q (by have := h1.1; omega)) h
  · exact q
theorem L_days {d n m : Nat} {M : Mem} {r : Rw} (w : WX r m) (hm : m + n < 2 ^ 31 - 1) : ∀ (k i : Nat) (M1 : Mem), i + k = n → FR M1 100 (dN r i) → Fo 100 M M1 →
    ∃ M', lim (call (d + 4)) none 5 cX5_days (some .int) 31 [some (.ref 0), some (.int (nI n)), some (.int (sW r i)), some (.int (nI i))] [] M1 = some (some (.int (sW r n)), M') ∧ FR M' 100 (dN r n) ∧ Fo 100 M M' := by
  intro k
  induction k with
  | zero =>
    intro i M1 hi h ho
    rw [sX5_days_31]
    simp only [sX5_days_0, sX5_days_1, sX5_days_4, sX5_days_7, sX5_days_8, sX5_days_9, sX5_days_12, sX5_days_13, sX5_days_14, sX5_days_15, sX5_days_18, sX5_days_21, sX5_days_22, sX5_days_23, sX5_days_26, sX5_days_27, sX5_days_28, sX5_days_29, sX5_days_30, sX5_days_32, sX5_days_33, sX5_days_36, sX5_days_37, sX5_days_38, sX5_days_41, sX5_days_44, sX5_days_45, sX5_days_46, sX5_days_49, sX5_days_52, sX5_days_53, opK_some, guK_true, calK_some, rk_nil, rk_int, rk_ref, tl_some, tl_none, nb_int, nb_0, nb_1, nb_if, nb_if']
    rw [if_pos (nI_le (by omega) (by omega))]
    rw [show i = n by omega] at h ⊢
    exact ⟨M1, rfl, h, ho⟩
  | succ k ih =>
    intro i M1 hi h ho
    obtain ⟨M2, c2, h2, o2⟩ := C_liveDay (d := d + 0) farm100 h (WX_dN w i (by omega)) (by omega)
    rw [show d + 0 + 4 = d + 4 from rfl] at c2
    rw [sX5_days_31]
    simp only [sX5_days_0, sX5_days_1, sX5_days_4, sX5_days_7, sX5_days_8, sX5_days_9, sX5_days_12, sX5_days_13, sX5_days_14, sX5_days_15, sX5_days_18, sX5_days_21, sX5_days_22, sX5_days_23, sX5_days_26, sX5_days_27, sX5_days_28, sX5_days_29, sX5_days_30, sX5_days_32, sX5_days_33, sX5_days_36, sX5_days_37, sX5_days_38, sX5_days_41, sX5_days_44, sX5_days_45, sX5_days_46, sX5_days_49, sX5_days_52, sX5_days_53, opK_some, guK_true, calK_some, rk_nil, rk_int, rk_ref, tl_some, tl_none, nb_int, nb_0, nb_1, nb_if, nb_if', o0_0, farm_c farm100, c2, nI_1]
    rw [if_neg (nI_ge (by omega) (by omega))]
    exact ih (i + 1) M2 (by omega) h2 (fun q q1 q2 => (o2 q q1 q2).trans (ho q q1 q2))
theorem X_days {d : Nat} {M : Mem} {x : Int32} (j : J M) : Two (d + 5) 23 (d + 7) 162 [.int x] M := by
  have ed : M 100 1 = M 131 0 := j.1.2.2.1.1
  have i := j.1.1
  by_cases hk : 1 ≤ x ∧ x ≤ 60
  · have hx0 : ¬ x < 0 := Int32.not_lt.mpr (Int32.le_trans (show (0 : Int32) ≤ 1 by decide) hk.1)
    obtain ⟨n, hn, rfl⟩ : ∃ n, n ≤ 60 ∧ x = nI n := nI_of2 (M := 60) (n := 60) rfl hx0 hk.2
    by_cases hl : 9999 < M 131 0 + nI n
    · refine ⟨fX M 4, fM (fX M 4) 4, -1000005, ?_, ?_, J_fin j (by omega)⟩
      · rw [nX5_days]
        simp only [sX5_days_0, sX5_days_1, sX5_days_4, sX5_days_7, sX5_days_8, sX5_days_9, sX5_days_12, sX5_days_13, sX5_days_14, sX5_days_15, sX5_days_18, sX5_days_21, sX5_days_22, sX5_days_23, sX5_days_26, sX5_days_27, sX5_days_28, sX5_days_29, sX5_days_30, sX5_days_32, sX5_days_33, sX5_days_36, sX5_days_37, sX5_days_38, sX5_days_41, sX5_days_44, sX5_days_45, sX5_days_46, sX5_days_49, sX5_days_52, sX5_days_53, opK_some, guK_true, calK_some, rk_nil, rk_int, rk_ref, tl_some, tl_none, nb_int, nb_0, nb_1, nb_if, nb_if', q0, C_x_isDays, C_x_isTooLate, ed, hk, hl, and_self, if_true, one_ne, if_false, C_xf4]
      · rw [nX6_days]
        simp only [sX6_days_0, sX6_days_1, sX6_days_2, sX6_days_4, sX6_days_7, sX6_days_10, sX6_days_11, sX6_days_13, sX6_days_16, sX6_days_17, sX6_days_18, sX6_days_19, sX6_days_22, sX6_days_25, sX6_days_26, sX6_days_28, sX6_days_31, sX6_days_34, sX6_days_35, sX6_days_36, sX6_days_39, opK_some, guK_true, calK_some, rk_nil, rk_int, rk_ref, tl_some, tl_none, nb_int, nb_0, nb_1, nb_if, nb_if', q130, C_m_within, C_m_isTooLate, fX_k (show 131 ≠ 1 by omega), hk, hl, and_self, if_true, one_ne, if_false, C_mf4]
    · have hd := late_not i.1 (by omega) (by omega) hl
      obtain ⟨M1, c1, h1, o1⟩ := L_days (d := d) (n := n) i.1 (by omega) n 0 M (by omega) j.1.2 (fun _ _ _ => rfl)
      rw [show sW (M 131) 0 = 0 from rfl, nI_0] at c1
      have er : M1 131 = M 131 := o1 131 (by omega) (by omega)
      obtain ⟨M2, c2, o2, r2⟩ := C_m_daysGo (d := d + 0) (n := n) (m := 9999) (M := M1) (by rw [er]; exact i.1) (by omega)
      rw [show d + 0 + 6 = d + 6 from rfl] at c2
      rw [er] at c2 r2
      refine ⟨M1, M2, sW (M 131) n, ?_, ?_, ?_⟩
      · rw [nX5_days]
        simp only [sX5_days_0, sX5_days_1, sX5_days_4, sX5_days_7, sX5_days_8, sX5_days_9, sX5_days_12, sX5_days_13, sX5_days_14, sX5_days_15, sX5_days_18, sX5_days_21, sX5_days_22, sX5_days_23, sX5_days_26, sX5_days_27, sX5_days_28, sX5_days_29, sX5_days_30, sX5_days_32, sX5_days_33, sX5_days_36, sX5_days_37, sX5_days_38, sX5_days_41, sX5_days_44, sX5_days_45, sX5_days_46, sX5_days_49, sX5_days_52, sX5_days_53, opK_some, guK_true, calK_some, rk_nil, rk_int, rk_ref, tl_some, tl_none, nb_int, nb_0, nb_1, nb_if, nb_if', q0, C_x_isDays, C_x_isTooLate, ed, hk, hl, and_self, if_true, one_ne, if_false, zero_eq, c1]
      · rw [nX6_days]
        simp only [sX6_days_0, sX6_days_1, sX6_days_2, sX6_days_4, sX6_days_7, sX6_days_10, sX6_days_11, sX6_days_13, sX6_days_16, sX6_days_17, sX6_days_18, sX6_days_19, sX6_days_22, sX6_days_25, sX6_days_26, sX6_days_28, sX6_days_31, sX6_days_34, sX6_days_35, sX6_days_36, sX6_days_39, opK_some, guK_true, calK_some, rk_nil, rk_int, rk_ref, tl_some, tl_none, nb_int, nb_0, nb_1, nb_if, nb_if', q130, C_m_within, C_m_isTooLate, er, hk, hl, and_self, if_true, one_ne, if_false, zero_eq, c2]
      · exact J_row j (IR_dN i hd) h1 (fun k hk => o1 k (by omega) (by omega)) (by rw [o1 0 (by omega) (by omega)]) (by rw [o1 7 (by omega) (by omega)]) r2 (fun k k1 k2 _ => o2.1 k k1 k2) (o2.2 3 (by omega) (by omega) (by omega)) (o2.2 17 (by omega) (by omega) (by omega))
  · refine ⟨fX M 0, fM (fX M 0) 0, -1000001, ?_, ?_, J_fin j (by omega)⟩
    · rw [nX5_days]
      simp only [sX5_days_0, sX5_days_1, sX5_days_4, sX5_days_7, sX5_days_8, sX5_days_9, sX5_days_12, sX5_days_13, sX5_days_14, sX5_days_15, sX5_days_18, sX5_days_21, sX5_days_22, sX5_days_23, sX5_days_26, sX5_days_27, sX5_days_28, sX5_days_29, sX5_days_30, sX5_days_32, sX5_days_33, sX5_days_36, sX5_days_37, sX5_days_38, sX5_days_41, sX5_days_44, sX5_days_45, sX5_days_46, sX5_days_49, sX5_days_52, sX5_days_53, opK_some, guK_true, calK_some, rk_nil, rk_int, rk_ref, tl_some, tl_none, nb_int, nb_0, nb_1, nb_if, nb_if', q0, C_x_isDays, hk, if_true, if_false, zero_eq, C_xf0]
    · rw [nX6_days]
      simp only [sX6_days_0, sX6_days_1, sX6_days_2, sX6_days_4, sX6_days_7, sX6_days_10, sX6_days_11, sX6_days_13, sX6_days_16, sX6_days_17, sX6_days_18, sX6_days_19, sX6_days_22, sX6_days_25, sX6_days_26, sX6_days_28, sX6_days_31, sX6_days_34, sX6_days_35, sX6_days_36, sX6_days_39, opK_some, guK_true, calK_some, rk_nil, rk_int, rk_ref, tl_some, tl_none, nb_int, nb_0, nb_1, nb_if, nb_if', q130, C_m_within, hk, if_true, if_false, zero_eq, C_mf0]
theorem X_fed {d : Nat} {M : Mem} {x : Int32} (j : J M) : Two (d + 3) 13 (d + 5) 151 [.int x] M := by
  have e0 : M 10 0 = M 131 3 := (j_hr j).1.1
  have w := j_wr j
  have h := j_hr j
  have i := j.1.1
  by_cases hT : 0 ≤ x ∧ x ≤ M 131 3 - 1
  · obtain ⟨t, hn, ht, rfl⟩ := thing_of w hT
    by_cases ho : M 131 (at9 t 4) = 0
    · by_cases hr : roomR (M 131) t
      · obtain ⟨M1, c1, h1, o1⟩ := C_swallow (d := d + 0) hen10 h w ht hr.1
        rw [show d + 0 + 2 = d + 2 from rfl] at c1
        have er : M1 131 = M 131 := o1 131 (by omega)
        have e9 : M1 10 9 = M 131 4 + 1 := by rw [h1.1.2.1]; unfold feedR; rw [upd_at]
        have hc := C_m_feeds (d := d + 1) (M := M1) (t := t) (by rw [er]; exact w) ht (by rw [er]; exact hr.1)
        rw [show d + 1 + 3 = d + 4 from rfl] at hc
        rw [er] at hc
        have hn8 := (wr_lt8 w).mp hr.1
        refine ⟨M1, mrow M1 131 (feedR (M 131) t), M 131 4 + 1, ?_, ?_, ?_⟩
        · rw [nX5_fed]
          simp only [sX5_fed_0, sX5_fed_1, sX5_fed_2, sX5_fed_5, sX5_fed_8, sX5_fed_9, sX5_fed_10, sX5_fed_13, sX5_fed_14, sX5_fed_15, sX5_fed_18, sX5_fed_21, sX5_fed_22, sX5_fed_25, sX5_fed_28, sX5_fed_29, sX5_fed_30, sX5_fed_33, sX5_fed_34, sX5_fed_35, sX5_fed_38, sX5_fed_41, sX5_fed_42, sX5_fed_45, sX5_fed_48, sX5_fed_49, sX5_fed_50, sX5_fed_53, sX5_fed_54, sX5_fed_55, sX5_fed_58, sX5_fed_61, sX5_fed_62, sX5_fed_65, sX5_fed_66, sX5_fed_69, sX5_fed_72, sX5_fed_75, opK_some, guK_true, calK_some, rk_nil, rk_int, rk_ref, tl_some, tl_none, nb_int, nb_0, nb_1, nb_if, nb_if', o0_0, o100_0, q0, hen_c hen10, hs_9 hen10, C_x_isThing, C_isOut hen10 h ht, C_hasRoom hen10 h w ht, e0, hT, ho, and_self, if_true, one_ne, if_false, c1, e9]
          rw [if_pos hr, if_neg (by decide)]
        · rw [nX6_fed]
          simp only [sX6_fed_0, sX6_fed_1, sX6_fed_2, sX6_fed_5, sX6_fed_8, sX6_fed_9, sX6_fed_11, sX6_fed_14, sX6_fed_15, sX6_fed_16, sX6_fed_17, sX6_fed_18, sX6_fed_21, sX6_fed_24, sX6_fed_25, sX6_fed_27, sX6_fed_30, sX6_fed_31, sX6_fed_32, sX6_fed_33, sX6_fed_36, sX6_fed_39, sX6_fed_40, sX6_fed_41, sX6_fed_44, sX6_fed_47, sX6_fed_48, sX6_fed_50, sX6_fed_53, opK_some, guK_true, calK_some, rk_nil, rk_int, rk_ref, tl_some, tl_none, nb_int, nb_0, nb_1, nb_if, nb_if', q130, C_m_isThing, C_m_isHow ht, C_m_hasRoom (show WR (M1 131) by rw [er]; exact w) ht, er, hT, ho, and_self, if_true, one_ne, if_false, hc]
          rw [if_pos hr, if_neg (by decide)]
        · have hf : FR M1 100 (feedR (M 131) t) := FR_hen j.1.2 h1 (fun k k1 k2 => o1 k (by omega)) (fun i hi => by
            rcases hi with z | z | z
            · exact feed_lo ht (by omega) (by omega)
            · exact feed_lo ht (by omega) (by omega)
            · exact feed_hi ht hn8 (by omega))
          exact J_row j (IR_feed i hn ho hr.1) hf (fun k hk => o1 k (by omega)) (by rw [o1 0 (by omega)]) (by rw [o1 7 (by omega)]) mrow_at (fun k _ k2 _ => mrow_ne k2) (by rw [mrow_ne (by omega)]) (by rw [mrow_ne (by omega)])
      · refine ⟨fX M 1, fM (fX M 1) 1, -1000002, ?_, ?_, J_fin j (by omega)⟩
        · rw [nX5_fed]
          simp only [sX5_fed_0, sX5_fed_1, sX5_fed_2, sX5_fed_5, sX5_fed_8, sX5_fed_9, sX5_fed_10, sX5_fed_13, sX5_fed_14, sX5_fed_15, sX5_fed_18, sX5_fed_21, sX5_fed_22, sX5_fed_25, sX5_fed_28, sX5_fed_29, sX5_fed_30, sX5_fed_33, sX5_fed_34, sX5_fed_35, sX5_fed_38, sX5_fed_41, sX5_fed_42, sX5_fed_45, sX5_fed_48, sX5_fed_49, sX5_fed_50, sX5_fed_53, sX5_fed_54, sX5_fed_55, sX5_fed_58, sX5_fed_61, sX5_fed_62, sX5_fed_65, sX5_fed_66, sX5_fed_69, sX5_fed_72, sX5_fed_75, opK_some, guK_true, calK_some, rk_nil, rk_int, rk_ref, tl_some, tl_none, nb_int, nb_0, nb_1, nb_if, nb_if', o0_0, o100_0, q0, hen_c hen10, C_x_isThing, C_isOut hen10 h ht, C_hasRoom hen10 h w ht, e0, hT, ho, hr, and_self, if_true, one_ne, zero_eq, if_false, C_xf1]
        · rw [nX6_fed]
          simp only [sX6_fed_0, sX6_fed_1, sX6_fed_2, sX6_fed_5, sX6_fed_8, sX6_fed_9, sX6_fed_11, sX6_fed_14, sX6_fed_15, sX6_fed_16, sX6_fed_17, sX6_fed_18, sX6_fed_21, sX6_fed_24, sX6_fed_25, sX6_fed_27, sX6_fed_30, sX6_fed_31, sX6_fed_32, sX6_fed_33, sX6_fed_36, sX6_fed_39, sX6_fed_40, sX6_fed_41, sX6_fed_44, sX6_fed_47, sX6_fed_48, sX6_fed_50, sX6_fed_53, opK_some, guK_true, calK_some, rk_nil, rk_int, rk_ref, tl_some, tl_none, nb_int, nb_0, nb_1, nb_if, nb_if', q130, C_m_isThing, C_m_isHow ht, C_m_hasRoom (show WR (fX M 1 131) by rw [fX_k (by omega)]; exact w) ht, fX_k (show 131 ≠ 1 by omega), hT, ho, hr, and_self, if_true, one_ne, zero_eq, if_false, C_mf1]
    · refine ⟨fX M 4, fM (fX M 4) 4, -1000005, ?_, ?_, J_fin j (by omega)⟩
      · rw [nX5_fed]
        simp only [sX5_fed_0, sX5_fed_1, sX5_fed_2, sX5_fed_5, sX5_fed_8, sX5_fed_9, sX5_fed_10, sX5_fed_13, sX5_fed_14, sX5_fed_15, sX5_fed_18, sX5_fed_21, sX5_fed_22, sX5_fed_25, sX5_fed_28, sX5_fed_29, sX5_fed_30, sX5_fed_33, sX5_fed_34, sX5_fed_35, sX5_fed_38, sX5_fed_41, sX5_fed_42, sX5_fed_45, sX5_fed_48, sX5_fed_49, sX5_fed_50, sX5_fed_53, sX5_fed_54, sX5_fed_55, sX5_fed_58, sX5_fed_61, sX5_fed_62, sX5_fed_65, sX5_fed_66, sX5_fed_69, sX5_fed_72, sX5_fed_75, opK_some, guK_true, calK_some, rk_nil, rk_int, rk_ref, tl_some, tl_none, nb_int, nb_0, nb_1, nb_if, nb_if', o0_0, o100_0, q0, hen_c hen10, C_x_isThing, C_isOut hen10 h ht, e0, hT, ho, and_self, if_true, one_ne, zero_eq, if_false, C_xf4]
      · rw [nX6_fed]
        simp only [sX6_fed_0, sX6_fed_1, sX6_fed_2, sX6_fed_5, sX6_fed_8, sX6_fed_9, sX6_fed_11, sX6_fed_14, sX6_fed_15, sX6_fed_16, sX6_fed_17, sX6_fed_18, sX6_fed_21, sX6_fed_24, sX6_fed_25, sX6_fed_27, sX6_fed_30, sX6_fed_31, sX6_fed_32, sX6_fed_33, sX6_fed_36, sX6_fed_39, sX6_fed_40, sX6_fed_41, sX6_fed_44, sX6_fed_47, sX6_fed_48, sX6_fed_50, sX6_fed_53, opK_some, guK_true, calK_some, rk_nil, rk_int, rk_ref, tl_some, tl_none, nb_int, nb_0, nb_1, nb_if, nb_if', q130, C_m_isThing, C_m_isHow ht, fX_k (show 131 ≠ 1 by omega), hT, ho, and_self, if_true, one_ne, zero_eq, if_false, C_mf4]
  · refine ⟨fX M 0, fM (fX M 0) 0, -1000001, ?_, ?_, J_fin j (by omega)⟩
    · rw [nX5_fed]
      simp only [sX5_fed_0, sX5_fed_1, sX5_fed_2, sX5_fed_5, sX5_fed_8, sX5_fed_9, sX5_fed_10, sX5_fed_13, sX5_fed_14, sX5_fed_15, sX5_fed_18, sX5_fed_21, sX5_fed_22, sX5_fed_25, sX5_fed_28, sX5_fed_29, sX5_fed_30, sX5_fed_33, sX5_fed_34, sX5_fed_35, sX5_fed_38, sX5_fed_41, sX5_fed_42, sX5_fed_45, sX5_fed_48, sX5_fed_49, sX5_fed_50, sX5_fed_53, sX5_fed_54, sX5_fed_55, sX5_fed_58, sX5_fed_61, sX5_fed_62, sX5_fed_65, sX5_fed_66, sX5_fed_69, sX5_fed_72, sX5_fed_75, opK_some, guK_true, calK_some, rk_nil, rk_int, rk_ref, tl_some, tl_none, nb_int, nb_0, nb_1, nb_if, nb_if', q0, C_x_isThing, e0, hT, if_true, if_false, zero_eq, C_xf0]
    · rw [nX6_fed]
      simp only [sX6_fed_0, sX6_fed_1, sX6_fed_2, sX6_fed_5, sX6_fed_8, sX6_fed_9, sX6_fed_11, sX6_fed_14, sX6_fed_15, sX6_fed_16, sX6_fed_17, sX6_fed_18, sX6_fed_21, sX6_fed_24, sX6_fed_25, sX6_fed_27, sX6_fed_30, sX6_fed_31, sX6_fed_32, sX6_fed_33, sX6_fed_36, sX6_fed_39, sX6_fed_40, sX6_fed_41, sX6_fed_44, sX6_fed_47, sX6_fed_48, sX6_fed_50, sX6_fed_53, opK_some, guK_true, calK_some, rk_nil, rk_int, rk_ref, tl_some, tl_none, nb_int, nb_0, nb_1, nb_if, nb_if', q130, C_m_isThing, fX_k (show 131 ≠ 1 by omega), hT, if_true, if_false, zero_eq, C_mf0]

