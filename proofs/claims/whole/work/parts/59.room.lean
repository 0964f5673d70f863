/-! calls: room -/
theorem WX_1 {r : Rw} {m : Nat} {v : Int32} (w : WX r m) : WX (upd r 1 v) m := by
  refine ⟨WR_cong w.1 (fun j hj => upd_ne (by omega)), by rw [upd_ne (by omega)]; exact w.2.1, by rw [upd_ne (by omega), upd_ne (by omega)]; exact w.2.2⟩
def afB (q : Rw) (row : Nat → Nat) (size : Nat) : Nat → Bool
  | 0 => true
  | k + 1 => afB q row size k && decide (roomR (bN q row size k) (row k))
theorem af_no {q : Rw} {row : Nat → Nat} {size k : Nat} (h : afB q row size k = false) : ∀ m, afB q row size (k + m) = false := by
  intro m
  induction m with
  | zero => exact h
  | succ m ih =>
    show (afB q row size (k + m) && decide (roomR (bN q row size (k + m)) (row (k + m)))) = false
    rw [ih]
    rfl
theorem L_areAllFed {d size : Nat} {y : Int32} {M : Mem} {q : Rw} {row : Nat → Nat} (w : WR q) (ro : Ro M row size) : ∀ (m k : Nat) (M1 : Mem), k + m = size → HR M1 30 (bN q row size k) → Ou 30 M M1 → afB q row size k = true →
    ∃ M', lim (call (d + 4)) none 5 cX5_areAllFed (some .boolean) 24 [some (.ref 0), some (.int (nI size)), some (.int y), some (.int (nI k))] [] M1 = some (some (.int (if afB q row size size then 1 else 0)), M') ∧ Ou 30 M M' := by
  have rn := ro.1
  intro m
  induction m with
  | zero =>
    intro k M1 hk h o hb
    obtain rfl : k = size := by omega
    rw [sX5_areAllFed_24]
    simp only [sX5_areAllFed_0, sX5_areAllFed_1, sX5_areAllFed_4, sX5_areAllFed_5, sX5_areAllFed_8, sX5_areAllFed_11, sX5_areAllFed_14, sX5_areAllFed_15, sX5_areAllFed_18, sX5_areAllFed_19, sX5_areAllFed_22, sX5_areAllFed_23, sX5_areAllFed_25, sX5_areAllFed_26, sX5_areAllFed_29, sX5_areAllFed_30, sX5_areAllFed_33, sX5_areAllFed_34, sX5_areAllFed_37, sX5_areAllFed_38, sX5_areAllFed_39, sX5_areAllFed_42, sX5_areAllFed_45, sX5_areAllFed_46, sX5_areAllFed_47, sX5_areAllFed_48, sX5_areAllFed_49, sX5_areAllFed_50, sX5_areAllFed_53, sX5_areAllFed_54, sX5_areAllFed_57, sX5_areAllFed_60, sX5_areAllFed_61, opK_some, guK_true, calK_some, rk_nil, rk_int, rk_ref, tl_some, tl_none, nb_int, nb_0, nb_1, nb_if, nb_if']
    rw [if_pos (show nI k ≤ nI k from Int32.le_refl _), if_pos hb]
    exact ⟨M1, rfl, o⟩
  | succ m ih =>
    intro k M1 hk h o hb
    have wk := WR_bN w ro.k k
    have ro1 := ro.ou o
    have hk10 : k < 10 := by omega
    obtain ⟨ht, e2⟩ := ro1.2 k (by omega)
    have c0 := C_hasRoom (d := d + 2) hen30 h wk ht
    rw [show d + 2 + 2 = d + 4 from rfl] at c0
    obtain ⟨M2, c2, h2, o2, _⟩ := C_feedDay (d := d + 0) (k := k) h wk ro1 (by omega)
    rw [show d + 0 + 4 = d + 4 from rfl] at c2
    rw [sX5_areAllFed_24]
    simp only [sX5_areAllFed_0, sX5_areAllFed_1, sX5_areAllFed_4, sX5_areAllFed_5, sX5_areAllFed_8, sX5_areAllFed_11, sX5_areAllFed_14, sX5_areAllFed_15, sX5_areAllFed_18, sX5_areAllFed_19, sX5_areAllFed_22, sX5_areAllFed_23, sX5_areAllFed_25, sX5_areAllFed_26, sX5_areAllFed_29, sX5_areAllFed_30, sX5_areAllFed_33, sX5_areAllFed_34, sX5_areAllFed_37, sX5_areAllFed_38, sX5_areAllFed_39, sX5_areAllFed_42, sX5_areAllFed_45, sX5_areAllFed_46, sX5_areAllFed_47, sX5_areAllFed_48, sX5_areAllFed_49, sX5_areAllFed_50, sX5_areAllFed_53, sX5_areAllFed_54, sX5_areAllFed_57, sX5_areAllFed_60, sX5_areAllFed_61, opK_some, guK_true, calK_some, rk_nil, rk_int, rk_ref, tl_some, tl_none, nb_int, nb_0, nb_1, nb_if, nb_if', o0_6, o0_8, a2, hen_c hen30, q0, inb_nI hk10 (by omega), nI_clamp (show k < 2 ^ 31 by omega), e2, c0, c2, nI_1]
    rw [if_neg (show ¬ nI size ≤ nI k from nI_ge (by omega) (by omega))]
    by_cases hr : roomR (bN q row size k) (row k)
    · have eb : afB q row size (k + 1) = true := by
        show (afB q row size k && decide (roomR (bN q row size k) (row k))) = true
        rw [hb, decide_eq_true hr]
        rfl
      rw [if_pos hr, if_neg (by decide)]
      exact ih (k + 1) M2 (by omega) h2 (o.tr o2) eb
    · have eb : afB q row size (k + 1) = false := by
        show (afB q row size k && decide (roomR (bN q row size k) (row k))) = false
        rw [decide_eq_false hr, Bool.and_false]
      have es : afB q row size size = false := by
        have := af_no eb m
        rw [show k + 1 + m = size by omega] at this
        exact this
      rw [if_neg hr, if_pos rfl, if_neg (by rw [es]; decide)]
      exact ⟨M1, rfl, o⟩
theorem HR_room {b : Nat} {M : Mem} {r : Rw} {v : Int32} (h : HR M b r) (w : WR r) : HR (mset M b 10 v) b (upd r 1 v) := (HR_12 (v := v) h w).1
theorem C_areAllFed {d size : Nat} {v : Int32} {M : Mem} {r : Rw} {row : Nat → Nat} (h : HR M 10 r) (w : WX r 9999) (ro : Ro M row size) : ∃ M', call (d + 5) 81 [.ref 0, .int (nI size), .int v] M = some (some (.int (if afB (upd r 1 v) row size size then 1 else 0)), M') ∧ Ou 30 M M' := by
  obtain ⟨M1, c1, h1, o1⟩ := C_become (d := d + 3) hen30 hen10 (by omega) h w.1
  rw [show d + 3 + 1 = d + 4 from rfl] at c1
  have o2 : Ou 30 M (mset M1 30 10 v) := o1.tr Ou.set0
  obtain ⟨M3, c3, o3⟩ := L_areAllFed (d := d) (y := v) (WX_1 (v := v) w).1 ro size 0 (mset M1 30 10 v) (by omega) (HR_room h1 w.1) o2 rfl
  rw [nX5_areAllFed]
  simp only [sX5_areAllFed_0, sX5_areAllFed_1, sX5_areAllFed_4, sX5_areAllFed_5, sX5_areAllFed_8, sX5_areAllFed_11, sX5_areAllFed_14, sX5_areAllFed_15, sX5_areAllFed_18, sX5_areAllFed_19, sX5_areAllFed_22, sX5_areAllFed_23, sX5_areAllFed_25, sX5_areAllFed_26, sX5_areAllFed_29, sX5_areAllFed_30, sX5_areAllFed_33, sX5_areAllFed_34, sX5_areAllFed_37, sX5_areAllFed_38, sX5_areAllFed_39, sX5_areAllFed_42, sX5_areAllFed_45, sX5_areAllFed_46, sX5_areAllFed_47, sX5_areAllFed_48, sX5_areAllFed_49, sX5_areAllFed_50, sX5_areAllFed_53, sX5_areAllFed_54, sX5_areAllFed_57, sX5_areAllFed_60, sX5_areAllFed_61, opK_some, guK_true, calK_some, rk_nil, rk_int, rk_ref, tl_some, tl_none, nb_int, nb_0, nb_1, nb_if, nb_if', o0_0, o0_6, o100_0, hen_c hen30, hen_c hen10, hi_10 hen30, c1]
  exact ⟨M3, c3, o3⟩
/-- once one wasn't fed -/
theorem L_m_fedNo {d size : Nat} {r a : Rw} {M : Mem} {row : Nat → Nat} (me : Me M row size) (ha : M 133 = cpR r a) : ∀ (m k : Nat) (M1 : Mem) (u v : Option Value), k + m = size → WX (M1 131) 30000 → (∀ j, 132 ≤ j → M1 131 j = r j) → Mo M M1 →
    ∃ M', lim (call (d + 5)) none 6 cX6_areAllFed (some .boolean) 4 [some (.ref 130), some (.int 0), some (.int (nI k)), u, v] [] M1 = some (some (.int 0), M') ∧ Mo M M' ∧ M' 131 = r := by
  have rn : size ≤ 10 := me.1
  intro m
  induction m with
  | zero =>
    intro k M1 u v hk w e1 o
    obtain rfl : k = size := by omega
    have meo := me.mo o
    have e10 : M1 130 10 = nI k := meo.2.1
    have hp := C_back (d := d + 4) (M := M1)
    rw [show d + 4 + 1 = d + 5 from rfl] at hp
    rw [(o.1 133 (by omega) (by omega)).trans ha, cp_back e1] at hp
    rw [sX6_areAllFed_4]
    simp only [sX6_areAllFed_0, sX6_areAllFed_1, sX6_areAllFed_2, sX6_areAllFed_3, sX6_areAllFed_5, sX6_areAllFed_6, sX6_areAllFed_9, sX6_areAllFed_12, sX6_areAllFed_13, sX6_areAllFed_14, sX6_areAllFed_17, sX6_areAllFed_18, sX6_areAllFed_19, sX6_areAllFed_22, sX6_areAllFed_23, sX6_areAllFed_24, sX6_areAllFed_27, sX6_areAllFed_28, sX6_areAllFed_31, sX6_areAllFed_32, sX6_areAllFed_35, sX6_areAllFed_36, sX6_areAllFed_37, sX6_areAllFed_38, sX6_areAllFed_41, sX6_areAllFed_42, sX6_areAllFed_43, sX6_areAllFed_46, sX6_areAllFed_47, sX6_areAllFed_48, sX6_areAllFed_51, sX6_areAllFed_54, sX6_areAllFed_55, sX6_areAllFed_57, sX6_areAllFed_58, sX6_areAllFed_61, sX6_areAllFed_62, sX6_areAllFed_65, sX6_areAllFed_68, sX6_areAllFed_70, sX6_areAllFed_73, sX6_areAllFed_74, sX6_areAllFed_77, sX6_areAllFed_78, sX6_areAllFed_79, sX6_areAllFed_82, sX6_areAllFed_85, sX6_areAllFed_86, sX6_areAllFed_89, sX6_areAllFed_90, sX6_areAllFed_93, sX6_areAllFed_96, sX6_areAllFed_97, opK_some, guK_true, calK_some, rk_nil, rk_int, rk_ref, tl_some, tl_none, nb_int, nb_0, nb_1, nb_if, nb_if', o130_0, o130_2, o130_10, e10, hp]
    rw [if_pos (show nI k ≤ nI k from Int32.le_refl _)]
    exact ⟨_, rfl, o.tr Mo.row, mrow_at⟩
  | succ m ih =>
    intro k M1 u v hk w e1 o
    have meo := me.mo o
    have e10 : M1 130 10 = nI size := meo.2.1
    have hk10 : k < 10 := by omega
    obtain ⟨ht, e5⟩ := meo.2.2 k (by omega)
    have c0 := C_m_hasRoom (d := d + 1) (M := M1) w.1 ht
    rw [show d + 1 + 4 = d + 5 from rfl] at c0
    rw [sX6_areAllFed_4]
    simp only [sX6_areAllFed_0, sX6_areAllFed_1, sX6_areAllFed_2, sX6_areAllFed_3, sX6_areAllFed_5, sX6_areAllFed_6, sX6_areAllFed_9, sX6_areAllFed_12, sX6_areAllFed_13, sX6_areAllFed_14, sX6_areAllFed_17, sX6_areAllFed_18, sX6_areAllFed_19, sX6_areAllFed_22, sX6_areAllFed_23, sX6_areAllFed_24, sX6_areAllFed_27, sX6_areAllFed_28, sX6_areAllFed_31, sX6_areAllFed_32, sX6_areAllFed_35, sX6_areAllFed_36, sX6_areAllFed_37, sX6_areAllFed_38, sX6_areAllFed_41, sX6_areAllFed_42, sX6_areAllFed_43, sX6_areAllFed_46, sX6_areAllFed_47, sX6_areAllFed_48, sX6_areAllFed_51, sX6_areAllFed_54, sX6_areAllFed_55, sX6_areAllFed_57, sX6_areAllFed_58, sX6_areAllFed_61, sX6_areAllFed_62, sX6_areAllFed_65, sX6_areAllFed_68, sX6_areAllFed_70, sX6_areAllFed_73, sX6_areAllFed_74, sX6_areAllFed_77, sX6_areAllFed_78, sX6_areAllFed_79, sX6_areAllFed_82, sX6_areAllFed_85, sX6_areAllFed_86, sX6_areAllFed_89, sX6_areAllFed_90, sX6_areAllFed_93, sX6_areAllFed_96, sX6_areAllFed_97, opK_some, guK_true, calK_some, rk_nil, rk_int, rk_ref, tl_some, tl_none, nb_int, nb_0, nb_1, nb_if, nb_if', q130, o130_9, o130_10, a135, e10, inb_nI hk10 (by omega), nI_clamp (show k < 2 ^ 31 by omega), e5, c0, zero_eq, if_true, nI_1]
    rw [if_neg (show ¬ nI size ≤ nI k from nI_ge (by omega) (by omega))]
    by_cases hr : roomR (M1 131) (row k)
    · have n8 := (wr_lt8 w.1).mp hr.1
      have c1 := C_m_feeds (d := d + 2) (M := M1) w.1 ht hr.1
      rw [show d + 2 + 3 = d + 5 from rfl] at c1
      simp only [sX6_areAllFed_0, sX6_areAllFed_1, sX6_areAllFed_2, sX6_areAllFed_3, sX6_areAllFed_5, sX6_areAllFed_6, sX6_areAllFed_9, sX6_areAllFed_12, sX6_areAllFed_13, sX6_areAllFed_14, sX6_areAllFed_17, sX6_areAllFed_18, sX6_areAllFed_19, sX6_areAllFed_22, sX6_areAllFed_23, sX6_areAllFed_24, sX6_areAllFed_27, sX6_areAllFed_28, sX6_areAllFed_31, sX6_areAllFed_32, sX6_areAllFed_35, sX6_areAllFed_36, sX6_areAllFed_37, sX6_areAllFed_38, sX6_areAllFed_41, sX6_areAllFed_42, sX6_areAllFed_43, sX6_areAllFed_46, sX6_areAllFed_47, sX6_areAllFed_48, sX6_areAllFed_51, sX6_areAllFed_54, sX6_areAllFed_55, sX6_areAllFed_57, sX6_areAllFed_58, sX6_areAllFed_61, sX6_areAllFed_62, sX6_areAllFed_65, sX6_areAllFed_68, sX6_areAllFed_70, sX6_areAllFed_73, sX6_areAllFed_74, sX6_areAllFed_77, sX6_areAllFed_78, sX6_areAllFed_79, sX6_areAllFed_82, sX6_areAllFed_85, sX6_areAllFed_86, sX6_areAllFed_89, sX6_areAllFed_90, sX6_areAllFed_93, sX6_areAllFed_96, sX6_areAllFed_97, opK_some, guK_true, calK_some, rk_nil, rk_int, rk_ref, tl_some, tl_none, nb_int, nb_0, nb_1, nb_if, nb_if', if_pos hr, one_ne, zero_eq, if_true, if_false, c1, nI_1]
      exact ih (k + 1) _ _ _ (by omega) (by rw [mrow_at]; exact WX_feed w ht hr.1) (fun j hj => by rw [mrow_at, feed_hi ht n8 (by omega)]; exact e1 j hj) (o.tr Mo.row)
    · simp only [if_neg hr, zero_eq, if_true]
      exact ih (k + 1) M1 _ _ (by omega) w e1 o
theorem L_m_areAllFed {d size : Nat} {r q a : Rw} {M : Mem} {row : Nat → Nat} (w : WX q 9999) (hq : ∀ j, 132 ≤ j → q j = r j) (me : Me M row size) (ha : M 133 = cpR r a) : ∀ (m k : Nat) (M1 : Mem) (u v : Option Value), k + m = size → M1 131 = bN q row size k → Mo M M1 → afB q row size k = true →
    ∃ M', lim (call (d + 5)) none 6 cX6_areAllFed (some .boolean) 4 [some (.ref 130), some (.int 1), some (.int (nI k)), u, v] [] M1 = some (some (.int (if afB q row size size then 1 else 0)), M') ∧ Mo M M' ∧ M' 131 = r := by
  have rn : size ≤ 10 := me.1
  intro m
  induction m with
  | zero =>
    intro k M1 u v hk e1 o hb
    obtain rfl : k = size := by omega
    have meo := me.mo o
    have e10 : M1 130 10 = nI k := meo.2.1
    have hp := C_back (d := d + 4) (M := M1)
    rw [show d + 4 + 1 = d + 5 from rfl] at hp
    rw [(o.1 133 (by omega) (by omega)).trans ha, e1, cp_back (fun j hj => (bN_hi w.1 me.k (by omega) k).trans (hq j hj))] at hp
    rw [sX6_areAllFed_4]
    simp only [sX6_areAllFed_0, sX6_areAllFed_1, sX6_areAllFed_2, sX6_areAllFed_3, sX6_areAllFed_5, sX6_areAllFed_6, sX6_areAllFed_9, sX6_areAllFed_12, sX6_areAllFed_13, sX6_areAllFed_14, sX6_areAllFed_17, sX6_areAllFed_18, sX6_areAllFed_19, sX6_areAllFed_22, sX6_areAllFed_23, sX6_areAllFed_24, sX6_areAllFed_27, sX6_areAllFed_28, sX6_areAllFed_31, sX6_areAllFed_32, sX6_areAllFed_35, sX6_areAllFed_36, sX6_areAllFed_37, sX6_areAllFed_38, sX6_areAllFed_41, sX6_areAllFed_42, sX6_areAllFed_43, sX6_areAllFed_46, sX6_areAllFed_47, sX6_areAllFed_48, sX6_areAllFed_51, sX6_areAllFed_54, sX6_areAllFed_55, sX6_areAllFed_57, sX6_areAllFed_58, sX6_areAllFed_61, sX6_areAllFed_62, sX6_areAllFed_65, sX6_areAllFed_68, sX6_areAllFed_70, sX6_areAllFed_73, sX6_areAllFed_74, sX6_areAllFed_77, sX6_areAllFed_78, sX6_areAllFed_79, sX6_areAllFed_82, sX6_areAllFed_85, sX6_areAllFed_86, sX6_areAllFed_89, sX6_areAllFed_90, sX6_areAllFed_93, sX6_areAllFed_96, sX6_areAllFed_97, opK_some, guK_true, calK_some, rk_nil, rk_int, rk_ref, tl_some, tl_none, nb_int, nb_0, nb_1, nb_if, nb_if', o130_0, o130_2, o130_10, e10, hp]
    rw [if_pos (show nI k ≤ nI k from Int32.le_refl _), if_pos hb]
    exact ⟨_, rfl, o.tr Mo.row, mrow_at⟩
  | succ m ih =>
    intro k M1 u v hk e1 o hb
    have wk := WX_bN w me.k k (by omega)
    have meo := me.mo o
    have e10 : M1 130 10 = nI size := meo.2.1
    have hk10 : k < 10 := by omega
    obtain ⟨ht, e5⟩ := meo.2.2 k (by omega)
    have c0 := C_m_hasRoom (d := d + 1) (M := M1) (by rw [e1]; exact wk.1) ht
    rw [show d + 1 + 4 = d + 5 from rfl] at c0
    rw [e1] at c0
    rw [sX6_areAllFed_4]
    simp only [sX6_areAllFed_0, sX6_areAllFed_1, sX6_areAllFed_2, sX6_areAllFed_3, sX6_areAllFed_5, sX6_areAllFed_6, sX6_areAllFed_9, sX6_areAllFed_12, sX6_areAllFed_13, sX6_areAllFed_14, sX6_areAllFed_17, sX6_areAllFed_18, sX6_areAllFed_19, sX6_areAllFed_22, sX6_areAllFed_23, sX6_areAllFed_24, sX6_areAllFed_27, sX6_areAllFed_28, sX6_areAllFed_31, sX6_areAllFed_32, sX6_areAllFed_35, sX6_areAllFed_36, sX6_areAllFed_37, sX6_areAllFed_38, sX6_areAllFed_41, sX6_areAllFed_42, sX6_areAllFed_43, sX6_areAllFed_46, sX6_areAllFed_47, sX6_areAllFed_48, sX6_areAllFed_51, sX6_areAllFed_54, sX6_areAllFed_55, sX6_areAllFed_57, sX6_areAllFed_58, sX6_areAllFed_61, sX6_areAllFed_62, sX6_areAllFed_65, sX6_areAllFed_68, sX6_areAllFed_70, sX6_areAllFed_73, sX6_areAllFed_74, sX6_areAllFed_77, sX6_areAllFed_78, sX6_areAllFed_79, sX6_areAllFed_82, sX6_areAllFed_85, sX6_areAllFed_86, sX6_areAllFed_89, sX6_areAllFed_90, sX6_areAllFed_93, sX6_areAllFed_96, sX6_areAllFed_97, opK_some, guK_true, calK_some, rk_nil, rk_int, rk_ref, tl_some, tl_none, nb_int, nb_0, nb_1, nb_if, nb_if', q130, o130_9, o130_10, a135, e10, inb_nI hk10 (by omega), nI_clamp (show k < 2 ^ 31 by omega), e5, c0, one_ne, if_false, nI_1]
    rw [if_neg (show ¬ nI size ≤ nI k from nI_ge (by omega) (by omega))]
    by_cases hr : roomR (bN q row size k) (row k)
    · have eb : afB q row size (k + 1) = true := by
        show (afB q row size k && decide (roomR (bN q row size k) (row k))) = true
        rw [hb, decide_eq_true hr]
        rfl
      have ef : bF q row size k = feedR (bN q row size k) (row k) := if_pos ⟨by omega, hr⟩
      have c1 := C_m_feeds (d := d + 2) (M := M1) (by rw [e1]; exact wk.1) ht (by rw [e1]; exact hr.1)
      rw [show d + 2 + 3 = d + 5 from rfl] at c1
      rw [e1] at c1
      obtain ⟨M2, hM2⟩ : ∃ M2, M2 = mrow M1 131 (feedR (bN q row size k) (row k)) := ⟨_, rfl⟩
      rw [← hM2] at c1
      have r2 : M2 131 = bF q row size k := by rw [hM2, mrow_at, ef]
      have wf : WX (M2 131) (9999 + k) := by rw [r2]; exact WX_fs wk me.k
      obtain ⟨g1, g2⟩ := wx_5 wf (by omega)
      obtain ⟨M3, c3, o3, r3, _⟩ := C_m_day (d := d + 0) (M := M2) wf.1 g1 g2
      rw [show d + 0 + 5 = d + 5 from rfl] at c3
      rw [r2] at c3 r3
      obtain ⟨jw, _, ejw⟩ := wor_le (WR_fs (row := row) (size := size) (k := k) wk.1 me.k)
      have hw0 : ¬ worD (bF q row size k) < 0 := by
        show ¬ worD (fsR (bN q row size k) row size k) < 0
        rw [ejw]
        exact nI_nlt (b := 0) (by omega) (by omega)
      have c8 := wr_C wk.1
      have hin : ¬ bN q row size k 4 + 1 < 0 := by
        rw [c8.2, nI_1]
        exact nI_nlt (b := 0) (by omega) (by omega)
      have o2 : Mo M1 M2 := by rw [hM2]; exact Mo.row
      simp only [sX6_areAllFed_0, sX6_areAllFed_1, sX6_areAllFed_2, sX6_areAllFed_3, sX6_areAllFed_5, sX6_areAllFed_6, sX6_areAllFed_9, sX6_areAllFed_12, sX6_areAllFed_13, sX6_areAllFed_14, sX6_areAllFed_17, sX6_areAllFed_18, sX6_areAllFed_19, sX6_areAllFed_22, sX6_areAllFed_23, sX6_areAllFed_24, sX6_areAllFed_27, sX6_areAllFed_28, sX6_areAllFed_31, sX6_areAllFed_32, sX6_areAllFed_35, sX6_areAllFed_36, sX6_areAllFed_37, sX6_areAllFed_38, sX6_areAllFed_41, sX6_areAllFed_42, sX6_areAllFed_43, sX6_areAllFed_46, sX6_areAllFed_47, sX6_areAllFed_48, sX6_areAllFed_51, sX6_areAllFed_54, sX6_areAllFed_55, sX6_areAllFed_57, sX6_areAllFed_58, sX6_areAllFed_61, sX6_areAllFed_62, sX6_areAllFed_65, sX6_areAllFed_68, sX6_areAllFed_70, sX6_areAllFed_73, sX6_areAllFed_74, sX6_areAllFed_77, sX6_areAllFed_78, sX6_areAllFed_79, sX6_areAllFed_82, sX6_areAllFed_85, sX6_areAllFed_86, sX6_areAllFed_89, sX6_areAllFed_90, sX6_areAllFed_93, sX6_areAllFed_96, sX6_areAllFed_97, opK_some, guK_true, calK_some, rk_nil, rk_int, rk_ref, tl_some, tl_none, nb_int, nb_0, nb_1, nb_if, nb_if', q130, if_pos hr, one_ne, if_false, c1, c3, hw0, hin, nI_1]
      exact ih (k + 1) M3 _ _ (by omega) r3 ((o.tr o2).tr o3) eb
    · have eb : afB q row size (k + 1) = false := by
        show (afB q row size k && decide (roomR (bN q row size k) (row k))) = false
        rw [decide_eq_false hr, Bool.and_false]
      have es : afB q row size size = false := by
        have := af_no eb m
        rw [show k + 1 + m = size by omega] at this
        exact this
      simp only [sX6_areAllFed_0, sX6_areAllFed_1, sX6_areAllFed_2, sX6_areAllFed_3, sX6_areAllFed_5, sX6_areAllFed_6, sX6_areAllFed_9, sX6_areAllFed_12, sX6_areAllFed_13, sX6_areAllFed_14, sX6_areAllFed_17, sX6_areAllFed_18, sX6_areAllFed_19, sX6_areAllFed_22, sX6_areAllFed_23, sX6_areAllFed_24, sX6_areAllFed_27, sX6_areAllFed_28, sX6_areAllFed_31, sX6_areAllFed_32, sX6_areAllFed_35, sX6_areAllFed_36, sX6_areAllFed_37, sX6_areAllFed_38, sX6_areAllFed_41, sX6_areAllFed_42, sX6_areAllFed_43, sX6_areAllFed_46, sX6_areAllFed_47, sX6_areAllFed_48, sX6_areAllFed_51, sX6_areAllFed_54, sX6_areAllFed_55, sX6_areAllFed_57, sX6_areAllFed_58, sX6_areAllFed_61, sX6_areAllFed_62, sX6_areAllFed_65, sX6_areAllFed_68, sX6_areAllFed_70, sX6_areAllFed_73, sX6_areAllFed_74, sX6_areAllFed_77, sX6_areAllFed_78, sX6_areAllFed_79, sX6_areAllFed_82, sX6_areAllFed_85, sX6_areAllFed_86, sX6_areAllFed_89, sX6_areAllFed_90, sX6_areAllFed_93, sX6_areAllFed_96, sX6_areAllFed_97, opK_some, guK_true, calK_some, rk_nil, rk_int, rk_ref, tl_some, tl_none, nb_int, nb_0, nb_1, nb_if, nb_if', if_neg hr, zero_eq, if_true, nI_1]
      rw [if_neg (by rw [es]; decide)]
      have wk' : WX (M1 131) 30000 := by rw [e1]; exact WX_le wk (by omega)
      exact L_m_fedNo me ha m (k + 1) M1 _ _ (by omega) wk' (fun j hj => by rw [e1, bN_hi w.1 me.k (by omega)]; exact hq j hj) o
theorem C_m_areAllFed {d size : Nat} {r q a : Rw} {M : Mem} {row : Nat → Nat} (w : WX q 9999) (e : M 131 = q) (hq : ∀ j, 132 ≤ j → q j = r j) (me : Me M row size) (ha : M 133 = cpR r a) : ∃ M', call (d + 6) 213 [.ref 130] M = some (some (.int (if afB q row size size then 1 else 0)), M') ∧ Mo M M' ∧ M' 131 = r := by
  rw [nX6_areAllFed]
  simp only [sX6_areAllFed_0, sX6_areAllFed_1, sX6_areAllFed_2, sX6_areAllFed_3, sX6_areAllFed_5, sX6_areAllFed_6, sX6_areAllFed_9, sX6_areAllFed_12, sX6_areAllFed_13, sX6_areAllFed_14, sX6_areAllFed_17, sX6_areAllFed_18, sX6_areAllFed_19, sX6_areAllFed_22, sX6_areAllFed_23, sX6_areAllFed_24, sX6_areAllFed_27, sX6_areAllFed_28, sX6_areAllFed_31, sX6_areAllFed_32, sX6_areAllFed_35, sX6_areAllFed_36, sX6_areAllFed_37, sX6_areAllFed_38, sX6_areAllFed_41, sX6_areAllFed_42, sX6_areAllFed_43, sX6_areAllFed_46, sX6_areAllFed_47, sX6_areAllFed_48, sX6_areAllFed_51, sX6_areAllFed_54, sX6_areAllFed_55, sX6_areAllFed_57, sX6_areAllFed_58, sX6_areAllFed_61, sX6_areAllFed_62, sX6_areAllFed_65, sX6_areAllFed_68, sX6_areAllFed_70, sX6_areAllFed_73, sX6_areAllFed_74, sX6_areAllFed_77, sX6_areAllFed_78, sX6_areAllFed_79, sX6_areAllFed_82, sX6_areAllFed_85, sX6_areAllFed_86, sX6_areAllFed_89, sX6_areAllFed_90, sX6_areAllFed_93, sX6_areAllFed_96, sX6_areAllFed_97, opK_some, guK_true, calK_some, rk_nil, rk_int, rk_ref, tl_some, tl_none, nb_int, nb_0, nb_1, nb_if, nb_if']
  exact L_m_areAllFed w hq me ha size 0 M none none (by omega) e Mo.rf rfl
def rmF (r : Rw) (row : Nat → Nat) (size : Nat) : Nat → Nat → Nat
  | _, 0 => 0
  | v, n + 1 => if afB (upd r 1 (nI v)) row size size then v else rmF r row size (v + 1) n
theorem rm_le {r : Rw} {row : Nat → Nat} {size : Nat} : ∀ n v, rmF r row size v n ≤ v + n := by
  intro n
  induction n with
  | zero => intro v; exact Nat.zero_le _
  | succ n ih =>
    intro v
    show (if afB (upd r 1 (nI v)) row size size then v else rmF r row size (v + 1) n) ≤ v + (n + 1)
    split
    · omega
    · have := ih (v + 1)
      omega
theorem L_room {d size : Nat} {y : Int32} {M : Mem} {r : Rw} {row : Nat → Nat} (h : HR M 10 r) (w : WX r 9999) (ro : Ro M row size) : ∀ (m v : Nat) (M1 : Mem), 1 ≤ v → v + m = 41 → Ou 30 M M1 →
    ∃ M', lim (call (d + 5)) none 5 cX5_room (some .int) 45 [some (.ref 0), some (.int y), some (.int (nI size)), some (.int (nI v))] [] M1 = some (some (.int (if rmF r row size v m = 0 then -1000004 else nI (rmF r row size v m))), if rmF r row size v m = 0 then fX M' 3 else M') ∧ Ou 30 M M' := by
  intro m
  induction m with
  | zero =>
    intro v M1 h1 hv o
    obtain rfl : v = 41 := by omega
    rw [sX5_room_45]
    simp only [sX5_room_0, sX5_room_1, sX5_room_2, sX5_room_5, sX5_room_8, sX5_room_9, sX5_room_10, sX5_room_13, sX5_room_14, sX5_room_15, sX5_room_16, sX5_room_19, sX5_room_22, sX5_room_23, sX5_room_25, sX5_room_28, sX5_room_31, sX5_room_32, sX5_room_33, sX5_room_36, sX5_room_37, sX5_room_38, sX5_room_39, sX5_room_42, sX5_room_43, sX5_room_44, sX5_room_46, sX5_room_48, sX5_room_51, sX5_room_52, sX5_room_53, sX5_room_54, sX5_room_57, sX5_room_60, sX5_room_61, sX5_room_62, sX5_room_65, sX5_room_68, sX5_room_69, sX5_room_70, sX5_room_73, opK_some, guK_true, calK_some, rk_nil, rk_int, rk_ref, tl_some, tl_none, nb_int, nb_0, nb_1, nb_if, nb_if', q0, C_xf3]
    rw [if_pos (show (40 : Int32) < nI 41 by decide)]
    exact ⟨M1, rfl, o⟩
  | succ m ih =>
    intro v M1 h1 hv o
    obtain ⟨M2, c2, o2⟩ := C_areAllFed (d := d + 0) (v := nI v) (M := M1) (HR_ou h (fun k a b => o k (by omega))) w (ro.ou o)
    rw [show d + 0 + 5 = d + 5 from rfl] at c2
    rw [sX5_room_45]
    simp only [sX5_room_0, sX5_room_1, sX5_room_2, sX5_room_5, sX5_room_8, sX5_room_9, sX5_room_10, sX5_room_13, sX5_room_14, sX5_room_15, sX5_room_16, sX5_room_19, sX5_room_22, sX5_room_23, sX5_room_25, sX5_room_28, sX5_room_31, sX5_room_32, sX5_room_33, sX5_room_36, sX5_room_37, sX5_room_38, sX5_room_39, sX5_room_42, sX5_room_43, sX5_room_44, sX5_room_46, sX5_room_48, sX5_room_51, sX5_room_52, sX5_room_53, sX5_room_54, sX5_room_57, sX5_room_60, sX5_room_61, sX5_room_62, sX5_room_65, sX5_room_68, sX5_room_69, sX5_room_70, sX5_room_73, opK_some, guK_true, calK_some, rk_nil, rk_int, rk_ref, tl_some, tl_none, nb_int, nb_0, nb_1, nb_if, nb_if', q0, c2, nI_1]
    rw [if_neg (show ¬ (40 : Int32) < nI v from nI_nlt (a := 40) (by omega) (by omega))]
    by_cases hb : afB (upd r 1 (nI v)) row size size = true
    · have ek : rmF r row size v (m + 1) = v := if_pos hb
      rw [if_pos hb, if_neg (by decide), ek, if_neg (by omega)]
      exact ⟨M2, by rw [if_neg (by omega)], o.tr o2⟩
    · have ek : rmF r row size v (m + 1) = rmF r row size (v + 1) m := if_neg hb
      rw [if_neg hb, if_pos rfl, ek]
      exact ih (v + 1) M2 (by omega) (by omega) (o.tr o2)
theorem L_m_room {d size : Nat} {y : Int32} {M : Mem} {r a : Rw} {row : Nat → Nat} (w : WX r 9999) (me : Me M row size) (ha : M 133 = cpR r a) : ∀ (m v : Nat) (M1 : Mem), 1 ≤ v → v + m = 41 → Mo M M1 → M1 131 = r →
    ∃ M', lim (call (d + 6)) none 6 cX6_room (some .int) 63 [some (.ref 130), some (.int y), some (.int (-1)), some (.int (nI v))] [] M1 = some (some (.int (if rmF r row size v m = 0 then -1000004 else nI (rmF r row size v m))), if rmF r row size v m = 0 then fM M' 3 else M') ∧ Mo M M' ∧ M' 131 = r := by
  have m10 : ((0 : Int32) ≤ -1) = False := eq_false (by decide)
  intro m
  induction m with
  | zero =>
    intro v M1 h1 hv o e1
    obtain rfl : v = 41 := by omega
    rw [sX6_room_63]
    simp only [sX6_room_0, sX6_room_1, sX6_room_2, sX6_room_5, sX6_room_8, sX6_room_9, sX6_room_11, sX6_room_14, sX6_room_15, sX6_room_16, sX6_room_17, sX6_room_18, sX6_room_21, sX6_room_22, sX6_room_23, sX6_room_24, sX6_room_27, sX6_room_28, sX6_room_30, sX6_room_33, sX6_room_36, sX6_room_37, sX6_room_39, sX6_room_42, sX6_room_43, sX6_room_44, sX6_room_47, sX6_room_48, sX6_room_51, sX6_room_54, sX6_room_55, sX6_room_56, sX6_room_59, sX6_room_60, sX6_room_61, sX6_room_62, sX6_room_64, sX6_room_66, sX6_room_69, sX6_room_70, sX6_room_73, sX6_room_74, sX6_room_77, sX6_room_78, sX6_room_79, sX6_room_80, sX6_room_81, sX6_room_84, sX6_room_87, sX6_room_88, sX6_room_91, sX6_room_92, sX6_room_93, sX6_room_96, sX6_room_99, sX6_room_100, sX6_room_103, sX6_room_104, sX6_room_106, sX6_room_109, sX6_room_112, sX6_room_113, opK_some, guK_true, calK_some, rk_nil, rk_int, rk_ref, tl_some, tl_none, nb_int, nb_0, nb_1, nb_if, nb_if', q130, m10, if_false, C_mf3]
    rw [if_pos (show (40 : Int32) < nI 41 by decide)]
    exact ⟨M1, rfl, o, e1⟩
  | succ m ih =>
    intro v M1 h1 hv o e1
    obtain ⟨M2, hM2⟩ : ∃ M2, M2 = mset M1 131 1 (nI v) := ⟨_, rfl⟩
    have r2 : M2 131 = upd r 1 (nI v) := by rw [hM2, mset_at, e1]
    have o2 : Mo M1 M2 := by rw [hM2]; exact Mo.rset
    have o12 := o.tr o2
    obtain ⟨M3, c3, o3, r3⟩ := C_m_areAllFed (d := d + 0) (M := M2) (r := r) (WX_1 (v := nI v) w) r2 (fun j hj => upd_ne (by omega)) (me.mo o12) ((o12.1 133 (by omega) (by omega)).trans ha)
    rw [show d + 0 + 6 = d + 6 from rfl] at c3
    rw [sX6_room_63]
    simp only [sX6_room_0, sX6_room_1, sX6_room_2, sX6_room_5, sX6_room_8, sX6_room_9, sX6_room_11, sX6_room_14, sX6_room_15, sX6_room_16, sX6_room_17, sX6_room_18, sX6_room_21, sX6_room_22, sX6_room_23, sX6_room_24, sX6_room_27, sX6_room_28, sX6_room_30, sX6_room_33, sX6_room_36, sX6_room_37, sX6_room_39, sX6_room_42, sX6_room_43, sX6_room_44, sX6_room_47, sX6_room_48, sX6_room_51, sX6_room_54, sX6_room_55, sX6_room_56, sX6_room_59, sX6_room_60, sX6_room_61, sX6_room_62, sX6_room_64, sX6_room_66, sX6_room_69, sX6_room_70, sX6_room_73, sX6_room_74, sX6_room_77, sX6_room_78, sX6_room_80, sX6_room_81, sX6_room_84, sX6_room_87, sX6_room_88, sX6_room_91, sX6_room_92, sX6_room_93, sX6_room_96, sX6_room_99, sX6_room_100, sX6_room_103, sX6_room_104, sX6_room_106, sX6_room_109, sX6_room_112, sX6_room_113, opK_some, guK_true, calK_some, rk_nil, rk_int, rk_ref, tl_some, tl_none, nb_int, nb_0, nb_1, nb_if, nb_if', o130_0, m10, if_false]
    rw [if_neg (show ¬ (40 : Int32) < nI v from nI_nlt (a := 40) (by omega) (by omega)), sX6_room_79]
    simp only [sX6_room_0, sX6_room_1, sX6_room_2, sX6_room_5, sX6_room_8, sX6_room_9, sX6_room_11, sX6_room_14, sX6_room_15, sX6_room_16, sX6_room_17, sX6_room_18, sX6_room_21, sX6_room_22, sX6_room_23, sX6_room_24, sX6_room_27, sX6_room_28, sX6_room_30, sX6_room_33, sX6_room_36, sX6_room_37, sX6_room_39, sX6_room_42, sX6_room_43, sX6_room_44, sX6_room_47, sX6_room_48, sX6_room_51, sX6_room_54, sX6_room_55, sX6_room_56, sX6_room_59, sX6_room_60, sX6_room_61, sX6_room_62, sX6_room_64, sX6_room_66, sX6_room_69, sX6_room_70, sX6_room_73, sX6_room_74, sX6_room_77, sX6_room_78, sX6_room_80, sX6_room_81, sX6_room_84, sX6_room_87, sX6_room_88, sX6_room_91, sX6_room_92, sX6_room_93, sX6_room_96, sX6_room_99, sX6_room_100, sX6_room_103, sX6_room_104, sX6_room_106, sX6_room_109, sX6_room_112, sX6_room_113, opK_some, guK_true, calK_some, rk_nil, rk_int, rk_ref, tl_some, tl_none, nb_int, nb_0, nb_1, nb_if, nb_if', a131, b131, ib_1_132, tn_1, q130, ← hM2, c3, nI_1]
    by_cases hb : afB (upd r 1 (nI v)) row size size = true
    · have ek : rmF r row size v (m + 1) = v := if_pos hb
      have hv0 : (0 : Int32) ≤ nI v := nI_le (a := 0) (by omega) (by omega)
      rw [if_pos hb, if_neg (by decide), ek, if_neg (by omega)]
      rw [sX6_room_63]
      simp only [sX6_room_0, sX6_room_1, sX6_room_2, sX6_room_5, sX6_room_8, sX6_room_9, sX6_room_11, sX6_room_14, sX6_room_15, sX6_room_16, sX6_room_17, sX6_room_18, sX6_room_21, sX6_room_22, sX6_room_23, sX6_room_24, sX6_room_27, sX6_room_28, sX6_room_30, sX6_room_33, sX6_room_36, sX6_room_37, sX6_room_39, sX6_room_42, sX6_room_43, sX6_room_44, sX6_room_47, sX6_room_48, sX6_room_51, sX6_room_54, sX6_room_55, sX6_room_56, sX6_room_59, sX6_room_60, sX6_room_61, sX6_room_62, sX6_room_64, sX6_room_66, sX6_room_69, sX6_room_70, sX6_room_73, sX6_room_74, sX6_room_77, sX6_room_78, sX6_room_80, sX6_room_81, sX6_room_84, sX6_room_87, sX6_room_88, sX6_room_91, sX6_room_92, sX6_room_93, sX6_room_96, sX6_room_99, sX6_room_100, sX6_room_103, sX6_room_104, sX6_room_106, sX6_room_109, sX6_room_112, sX6_room_113, opK_some, guK_true, calK_some, rk_nil, rk_int, rk_ref, tl_some, tl_none, nb_int, nb_0, nb_1, nb_if, nb_if', hv0, if_true]
      rw [same_if]
      exact ⟨M3, by rw [if_neg (by omega)], o12.tr o3, r3⟩
    · have ek : rmF r row size v (m + 1) = rmF r row size (v + 1) m := if_neg hb
      rw [if_neg hb, if_pos rfl, ek]
      exact ih (v + 1) M3 (by omega) (by omega) (o12.tr o3) r3

