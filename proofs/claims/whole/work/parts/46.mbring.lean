/-! a feeding: the reference -/
/-- what lies in a meal of the reference -/
def Me (M : Mem) (row : Nat → Nat) (size : Nat) : Prop := size ≤ 10 ∧ M 130 10 = nI size ∧ ∀ k, k < size → row k < 10 ∧ M 135 k = nI (row k)
theorem Me.k {M : Mem} {row : Nat → Nat} {size : Nat} (h : Me M row size) : ∀ k, k < size → row k < 10 := fun k hk => (h.2.2 k hk).1
theorem Me.mo {M M1 : Mem} {row : Nat → Nat} {size : Nat} (h : Me M row size) (o : Mo M M1) : Me M1 row size := ⟨h.1, by rw [o.2 10 (by omega) (by omega) (by omega)]; exact h.2.1, fun k hk => by rw [o.1 135 (by omega) (by omega)]; exact h.2.2 k hk⟩
theorem min_0 {c : Nat} (h : c < 2 ^ 31) : (if nI c < 0 then nI c else 0) = (0 : Int32) := if_neg (nI_nlt (b := 0) (by omega) (by omega))
theorem min_0' {c : Nat} (h : c < 2 ^ 31) : (if (0 : Int32) < nI c then (0 : Int32) else nI c) = 0 := by
  by_cases z : (0 : Int32) < nI c
  · rw [if_pos z]
  · have : c = 0 := by
      rcases Nat.eq_zero_or_pos c with e | e
      · exact e
      · exact absurd (nI_lt (a := 0) e h) z
    rw [if_neg z, this]
    rfl
theorem L_m_brings {d size n : Nat} {r q a : Rw} {M : Mem} {row : Nat → Nat} (w : WX q 9999) (hq : ∀ j, 132 ≤ j → q j = r j) (ha : M 133 = cpR r a) (me : Me M row size) (hn : n ≤ 1000) : ∀ (m i : Nat) (M1 : Mem), i + m = n → M1 131 = bN q row size i → Mo M M1 →
    ∃ M', lim (call (d + 5)) none 6 cX6_brings (some .int) 4 [some (.ref 130), some (.int (nI n)), some (.int (bS q row size i)), some (.int (nI i))] [] M1 = some (some (.int (bS q row size n)), M') ∧ Mo M M' ∧ M' 131 = r := by
  have rn : size ≤ 10 := me.1
  intro m
  induction m with
  | zero =>
    intro i M1 hi e1 o
    obtain rfl : i = n := by omega
    have hp := C_back (d := d + 4) (M := M1)
    rw [show d + 4 + 1 = d + 5 from rfl] at hp
    rw [(o.1 133 (by omega) (by omega)).trans ha, e1, cp_back (fun j hj => (bN_hi w.1 me.k (by omega) i).trans (hq j hj))] at hp
    rw [sX6_brings_4]
    simp only [sX6_brings_0, sX6_brings_1, sX6_brings_2, sX6_brings_3, sX6_brings_5, sX6_brings_6, sX6_brings_9, sX6_brings_10, sX6_brings_11, sX6_brings_14, sX6_brings_17, sX6_brings_18, sX6_brings_19, sX6_brings_22, sX6_brings_23, sX6_brings_24, sX6_brings_27, sX6_brings_30, sX6_brings_31, sX6_brings_32, sX6_brings_33, sX6_brings_34, sX6_brings_37, sX6_brings_38, sX6_brings_39, sX6_brings_42, sX6_brings_45, sX6_brings_46, sX6_brings_47, sX6_brings_48, sX6_brings_49, sX6_brings_52, sX6_brings_53, sX6_brings_54, sX6_brings_57, sX6_brings_60, sX6_brings_61, sX6_brings_64, sX6_brings_65, sX6_brings_68, sX6_brings_71, sX6_brings_72, opK_some, guK_true, calK_some, rk_nil, rk_int, rk_ref, tl_some, tl_none, nb_int, nb_0, nb_1, nb_if, nb_if', o130_0, o130_2, hp]
    rw [if_pos (show nI i ≤ nI i from Int32.le_refl _)]
    exact ⟨_, rfl, o.tr Mo.row, mrow_at⟩
  | succ m ih =>
    intro i M1 hi e1 o
    have wi := WX_bN w me.k i (by omega)
    have meo := me.mo o
    have e10 : M1 130 10 = nI size := meo.2.1
    have end_ : ∀ (M2 : Mem) (x : Int32), M2 131 = bF q row size i → Mo M M2 → x = bS q row size i → ∃ M', lim (call (d + 5)) none 6 cX6_brings (some .int) 47 [some (.ref 130), some (.int (nI n)), some (.int x), some (.int (nI i))] [] M2 = some (some (.int (bS q row size n)), M') ∧ Mo M M' ∧ M' 131 = r := by
      intro M2 x e2 om ex
      subst ex
      have wf : WX (M2 131) (9999 + i) := by rw [e2]; exact WX_fs wi me.k
      obtain ⟨g1, g2⟩ := wx_5 wf (by omega)
      obtain ⟨M3, c3, o3, r3, _⟩ := C_m_day (d := d + 0) (M := M2) wf.1 g1 g2
      rw [show d + 0 + 5 = d + 5 from rfl] at c3
      rw [e2] at c3 r3
      rw [sX6_brings_47]
      simp only [sX6_brings_0, sX6_brings_1, sX6_brings_2, sX6_brings_3, sX6_brings_5, sX6_brings_6, sX6_brings_9, sX6_brings_10, sX6_brings_11, sX6_brings_14, sX6_brings_17, sX6_brings_18, sX6_brings_19, sX6_brings_22, sX6_brings_23, sX6_brings_24, sX6_brings_27, sX6_brings_30, sX6_brings_31, sX6_brings_32, sX6_brings_33, sX6_brings_34, sX6_brings_37, sX6_brings_38, sX6_brings_39, sX6_brings_42, sX6_brings_45, sX6_brings_46, sX6_brings_48, sX6_brings_49, sX6_brings_52, sX6_brings_53, sX6_brings_54, sX6_brings_57, sX6_brings_60, sX6_brings_61, sX6_brings_64, sX6_brings_65, sX6_brings_68, sX6_brings_71, sX6_brings_72, opK_some, guK_true, calK_some, rk_nil, rk_int, rk_ref, tl_some, tl_none, nb_int, nb_0, nb_1, nb_if, nb_if', q130, c3, nI_1]
      exact ih (i + 1) M3 (by omega) r3 (om.tr o3)
    rw [sX6_brings_4]
    by_cases hs : i < size
    · obtain ⟨ht, e5⟩ := meo.2.2 i hs
      have i10 : i < 10 := by omega
      have c0 := C_m_hasRoom (d := d + 1) (M := M1) (by rw [e1]; exact wi.1) ht
      rw [show d + 1 + 4 = d + 5 from rfl] at c0
      rw [e1] at c0
      simp only [sX6_brings_0, sX6_brings_1, sX6_brings_2, sX6_brings_3, sX6_brings_5, sX6_brings_6, sX6_brings_9, sX6_brings_10, sX6_brings_11, sX6_brings_14, sX6_brings_17, sX6_brings_18, sX6_brings_19, sX6_brings_22, sX6_brings_23, sX6_brings_24, sX6_brings_27, sX6_brings_30, sX6_brings_31, sX6_brings_32, sX6_brings_33, sX6_brings_34, sX6_brings_37, sX6_brings_38, sX6_brings_39, sX6_brings_42, sX6_brings_45, sX6_brings_46, sX6_brings_48, sX6_brings_49, sX6_brings_52, sX6_brings_53, sX6_brings_54, sX6_brings_57, sX6_brings_60, sX6_brings_61, sX6_brings_64, sX6_brings_65, sX6_brings_68, sX6_brings_71, sX6_brings_72, opK_some, guK_true, calK_some, rk_nil, rk_int, rk_ref, tl_some, tl_none, nb_int, nb_0, nb_1, nb_if, nb_if', q130, o130_9, o130_10, a135, e10, inb_nI i10 (by omega), nI_clamp (show i < 2 ^ 31 by omega), e5, c0]
      rw [if_neg (show ¬ nI n ≤ nI i from nI_ge (by omega) (by omega)), if_neg (show ¬ nI size ≤ nI i from nI_ge hs (by omega))]
      by_cases hr : roomR (bN q row size i) (row i)
      · have ef : bF q row size i = feedR (bN q row size i) (row i) := if_pos ⟨hs, hr⟩
        have c1 := C_m_feeds (d := d + 2) (M := M1) (by rw [e1]; exact wi.1) ht (by rw [e1]; exact hr.1)
        rw [show d + 2 + 3 = d + 5 from rfl] at c1
        rw [e1] at c1
        have c8 := wr_C wi.1
        have en : bN q row size i 4 + 1 = nI (nC (bN q row size i) + 1) := by rw [c8.2, nI_1]
        rw [en] at c1
        rw [if_pos hr, if_neg (by decide)]
        simp only [sX6_brings_0, sX6_brings_1, sX6_brings_2, sX6_brings_3, sX6_brings_5, sX6_brings_6, sX6_brings_9, sX6_brings_10, sX6_brings_11, sX6_brings_14, sX6_brings_17, sX6_brings_18, sX6_brings_19, sX6_brings_22, sX6_brings_23, sX6_brings_24, sX6_brings_27, sX6_brings_30, sX6_brings_31, sX6_brings_32, sX6_brings_33, sX6_brings_34, sX6_brings_37, sX6_brings_38, sX6_brings_39, sX6_brings_42, sX6_brings_45, sX6_brings_46, sX6_brings_48, sX6_brings_49, sX6_brings_52, sX6_brings_53, sX6_brings_54, sX6_brings_57, sX6_brings_60, sX6_brings_61, sX6_brings_64, sX6_brings_65, sX6_brings_68, sX6_brings_71, sX6_brings_72, opK_some, guK_true, calK_some, rk_nil, rk_int, rk_ref, tl_some, tl_none, nb_int, nb_0, nb_1, nb_if, nb_if', q130, o130_9, a135, inb_nI i10 (by omega), nI_clamp (show i < 2 ^ 31 by omega), e5, c1, min_0 (show nC (bN q row size i) + 1 < 2 ^ 31 by omega), min_0' (show nC (bN q row size i) + 1 < 2 ^ 31 by omega), Int32.add_zero]
        exact end_ _ _ (by rw [mrow_at, ef]) (o.tr Mo.row) rfl
      · have ef : bF q row size i = bN q row size i := if_neg (fun z => hr z.2)
        rw [if_neg hr, if_pos rfl]
        exact end_ M1 _ (by rw [ef]; exact e1) o rfl
    · have ef : bF q row size i = bN q row size i := if_neg (fun z => hs z.1)
      simp only [sX6_brings_0, sX6_brings_1, sX6_brings_2, sX6_brings_3, sX6_brings_5, sX6_brings_6, sX6_brings_9, sX6_brings_10, sX6_brings_11, sX6_brings_14, sX6_brings_17, sX6_brings_18, sX6_brings_19, sX6_brings_22, sX6_brings_23, sX6_brings_24, sX6_brings_27, sX6_brings_30, sX6_brings_31, sX6_brings_32, sX6_brings_33, sX6_brings_34, sX6_brings_37, sX6_brings_38, sX6_brings_39, sX6_brings_42, sX6_brings_45, sX6_brings_46, sX6_brings_48, sX6_brings_49, sX6_brings_52, sX6_brings_53, sX6_brings_54, sX6_brings_57, sX6_brings_60, sX6_brings_61, sX6_brings_64, sX6_brings_65, sX6_brings_68, sX6_brings_71, sX6_brings_72, opK_some, guK_true, calK_some, rk_nil, rk_int, rk_ref, tl_some, tl_none, nb_int, nb_0, nb_1, nb_if, nb_if', o130_10, e10]
      rw [if_neg (show ¬ nI n ≤ nI i from nI_ge (by omega) (by omega)), if_pos (show nI size ≤ nI i from nI_le (by omega) (by omega))]
      exact end_ M1 _ (by rw [ef]; exact e1) o rfl
theorem C_m_brings {d size n : Nat} {r a : Rw} {M : Mem} {row : Nat → Nat} (w : WX r 9999) (e : M 131 = r) (ha : M 133 = cpR r a) (me : Me M row size) (hn : n ≤ 1000) : ∃ M', call (d + 6) 186 [.ref 130, .int (nI n)] M = some (some (.int (bS r row size n)), M') ∧ Mo M M' ∧ M' 131 = r := by
  rw [nX6_brings]
  simp only [sX6_brings_0, sX6_brings_1, sX6_brings_2, sX6_brings_3, sX6_brings_5, sX6_brings_6, sX6_brings_9, sX6_brings_10, sX6_brings_11, sX6_brings_14, sX6_brings_17, sX6_brings_18, sX6_brings_19, sX6_brings_22, sX6_brings_23, sX6_brings_24, sX6_brings_27, sX6_brings_30, sX6_brings_31, sX6_brings_32, sX6_brings_33, sX6_brings_34, sX6_brings_37, sX6_brings_38, sX6_brings_39, sX6_brings_42, sX6_brings_45, sX6_brings_46, sX6_brings_47, sX6_brings_48, sX6_brings_49, sX6_brings_52, sX6_brings_53, sX6_brings_54, sX6_brings_57, sX6_brings_60, sX6_brings_61, sX6_brings_64, sX6_brings_65, sX6_brings_68, sX6_brings_71, sX6_brings_72, opK_some, guK_true, calK_some, rk_nil, rk_int, rk_ref, tl_some, tl_none, nb_int, nb_0, nb_1, nb_if, nb_if']
  exact L_m_brings w (fun _ _ => rfl) ha me hn n 0 M (by omega) e Mo.rf
theorem C_m_bringsQ {d size n : Nat} {r q a : Rw} {M : Mem} {row : Nat → Nat} (w : WX q 9999) (hq : ∀ j, 132 ≤ j → q j = r j) (e : M 131 = q) (ha : M 133 = cpR r a) (me : Me M row size) (hn : n ≤ 1000) : ∃ M', call (d + 6) 186 [.ref 130, .int (nI n)] M = some (some (.int (bS q row size n)), M') ∧ Mo M M' ∧ M' 131 = r := by
  rw [nX6_brings]
  simp only [sX6_brings_0, sX6_brings_1, sX6_brings_2, sX6_brings_3, sX6_brings_5, sX6_brings_6, sX6_brings_9, sX6_brings_10, sX6_brings_11, sX6_brings_14, sX6_brings_17, sX6_brings_18, sX6_brings_19, sX6_brings_22, sX6_brings_23, sX6_brings_24, sX6_brings_27, sX6_brings_30, sX6_brings_31, sX6_brings_32, sX6_brings_33, sX6_brings_34, sX6_brings_37, sX6_brings_38, sX6_brings_39, sX6_brings_42, sX6_brings_45, sX6_brings_46, sX6_brings_47, sX6_brings_48, sX6_brings_49, sX6_brings_52, sX6_brings_53, sX6_brings_54, sX6_brings_57, sX6_brings_60, sX6_brings_61, sX6_brings_64, sX6_brings_65, sX6_brings_68, sX6_brings_71, sX6_brings_72, opK_some, guK_true, calK_some, rk_nil, rk_int, rk_ref, tl_some, tl_none, nb_int, nb_0, nb_1, nb_if, nb_if']
  exact L_m_brings w hq ha me hn n 0 M (by omega) e Mo.rf

