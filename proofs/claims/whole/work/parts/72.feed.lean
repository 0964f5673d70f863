/-! calls: feed -/
abbrev byX (x : Int32) (i : Nat) : Int32 := (x.toUInt32 >>> (((8 : Int32) * nI i).toUInt32 &&& Int32.toUInt32 31)).toInt32 &&& 255
abbrev byM (x : Int32) (i : Nat) : Int32 := (x >>> (((8 : Int32) * nI i) &&& 31)) &&& 255
theorem s8_u : ∀ i, i < 4 → ((((8 : Int32) * nI i).toUInt32 &&& Int32.toUInt32 31).toBitVec % 32).toNat = 8 * i := by decide +kernel
theorem s8_s : ∀ i, i < 4 → ((((8 : Int32) * nI i) &&& 31).toBitVec.smod 32).toNat = 8 * i := by decide +kernel
theorem by_rg (x : Int32) (i : Nat) : rg (byX x i) 255 := by
  have e := pk_and ((x.toUInt32 >>> (((8 : Int32) * nI i).toUInt32 &&& Int32.toUInt32 31)).toInt32) (m := 255) 8 (by decide)
  exact rg_of e (by have := Nat.mod_lt ((x.toUInt32 >>> (((8 : Int32) * nI i).toUInt32 &&& Int32.toUInt32 31)).toInt32.toBitVec.toNat) (show 0 < 2 ^ 8 by decide); omega) (by omega)
theorem by_eq (x : Int32) {i : Nat} (hi : i < 4) : byM x i = byX x i := by
  have m255 : ∀ j, j < 32 → (255 : Int32).toBitVec.getLsbD j = decide (j < 8) := by decide +kernel
  apply Int32.toBitVec_inj.1
  apply BitVec.eq_of_getLsbD_eq
  intro j hj
  show ((x >>> (((8 : Int32) * nI i) &&& 31)) &&& 255).toBitVec.getLsbD j = ((x.toUInt32 >>> (((8 : Int32) * nI i).toUInt32 &&& Int32.toUInt32 31)).toInt32 &&& 255).toBitVec.getLsbD j
  rw [Int32.toBitVec_and, Int32.toBitVec_and, BitVec.getLsbD_and, BitVec.getLsbD_and, m255 j hj]
  by_cases h8 : j < 8
  · rw [decide_eq_true h8, Bool.and_true, Bool.and_true]
    have e1 : (x >>> (((8 : Int32) * nI i) &&& 31)).toBitVec.getLsbD j = x.toBitVec.getLsbD (8 * i + j) := by
      rw [Int32.toBitVec_shiftRight]
      show (x.toBitVec.sshiftRight ((((8 : Int32) * nI i) &&& 31).toBitVec.smod 32).toNat).getLsbD j = _
      rw [s8_s i hi, BitVec.getLsbD_sshiftRight]
      rw [if_pos (by omega)]
      simp [hj]
    have e2 : (x.toUInt32 >>> (((8 : Int32) * nI i).toUInt32 &&& Int32.toUInt32 31)).toInt32.toBitVec.getLsbD j = x.toBitVec.getLsbD (8 * i + j) := by
      show (x.toUInt32 >>> (((8 : Int32) * nI i).toUInt32 &&& Int32.toUInt32 31)).toBitVec.getLsbD j = x.toUInt32.toBitVec.getLsbD (8 * i + j)
      rw [UInt32.toBitVec_shiftRight]
      show (x.toUInt32.toBitVec >>> ((((8 : Int32) * nI i).toUInt32 &&& Int32.toUInt32 31).toBitVec % 32).toNat).getLsbD j = _
      rw [s8_u i hi, BitVec.getLsbD_ushiftRight]
    rw [e1, e2]
  · rw [decide_eq_false h8, Bool.and_false, Bool.and_false]
theorem C_append {d s : Nat} {M : Mem} {b : Int32} (es : M 7 1 = nI s) (hs : s < 120) : call (d + 1) 87 [.ref 7, .int b] M = some (none, mset (mset M 91 s b) 7 1 (nI (s + 1))) := by
  rw [nX4_append]
  simp only [sX4_append_0, sX4_append_1, sX4_append_4, sX4_append_6, sX4_append_9, sX4_append_10, sX4_append_13, sX4_append_14, sX4_append_17, sX4_append_19, sX4_append_20, sX4_append_20_i, sX4_append_21, sX4_append_24, sX4_append_25, sX4_append_26, sX4_append_29, opK_some, guK_true, calK_some, rk_nil, rk_int, rk_ref, tl_some, tl_none, nb_int, nb_0, nb_1, nb_if, nb_if', o7_0, o7_1, es]
  rw [if_neg (show ¬ (120 : Int32) ≤ nI s from nI_ge (b := 120) hs (by omega)), sX4_append_18]
  simp only [sX4_append_0, sX4_append_1, sX4_append_4, sX4_append_6, sX4_append_9, sX4_append_10, sX4_append_13, sX4_append_14, sX4_append_17, sX4_append_19, sX4_append_20, sX4_append_20_i, sX4_append_21, sX4_append_24, sX4_append_25, sX4_append_26, sX4_append_29, opK_some, guK_true, calK_some, rk_nil, rk_int, rk_ref, tl_some, tl_none, nb_int, nb_0, nb_1, nb_if, nb_if', a91, b91, inb_nI hs (by omega), nI_clamp (show s < 2 ^ 31 by omega), o7_1, p7_1]
  rw [mset_ne (by omega), es, nI_1]
theorem L_feed {d s n : Nat} {x : Int32} {M : Mem} (hn : n ≤ 4) (hs : s + n ≤ 120) : ∀ (k m : Nat) (M1 : Mem), m + k = n → (∀ q, q ≠ 7 → q ≠ 91 → M1 q = M q) → M1 7 1 = nI (s + m) → (∀ i, i < s → M1 91 i = M 91 i) → (∀ i, i < m → M1 91 (s + i) = byX x (n - 1 - i)) →
    ∃ M', lim (call (d + 1)) none 5 cX5_feed (some .int) 39 [some (.ref 0), some (.int x), some (.int (nI n)), some (.int (ixI k))] [] M1 = some (some (.int (nI (s + n))), M') ∧ (∀ q, q ≠ 7 → q ≠ 91 → M' q = M q) ∧ M' 7 1 = nI (s + n) ∧ (∀ i, i < s → M' 91 i = M 91 i) ∧ ∀ i, i < n → M' 91 (s + i) = byX x (n - 1 - i) := by
  intro k
  induction k with
  | zero =>
    intro m M1 hm o e1 lo up
    obtain rfl : m = n := by omega
    rw [sX5_feed_39]
    simp only [sX5_feed_0, sX5_feed_1, sX5_feed_2, sX5_feed_3, sX5_feed_6, sX5_feed_9, sX5_feed_10, sX5_feed_11, sX5_feed_14, sX5_feed_15, sX5_feed_16, sX5_feed_19, sX5_feed_22, sX5_feed_23, sX5_feed_24, sX5_feed_26, sX5_feed_29, sX5_feed_30, sX5_feed_31, sX5_feed_34, sX5_feed_35, sX5_feed_36, sX5_feed_37, sX5_feed_38, sX5_feed_40, sX5_feed_43, sX5_feed_44, sX5_feed_47, sX5_feed_48, sX5_feed_50, sX5_feed_51, sX5_feed_52, sX5_feed_53, sX5_feed_56, sX5_feed_57, sX5_feed_60, sX5_feed_63, sX5_feed_66, sX5_feed_67, sX5_feed_70, sX5_feed_73, opK_some, guK_true, calK_some, rk_nil, rk_int, rk_ref, tl_some, tl_none, nb_int, nb_0, nb_1, nb_if, nb_if', o0_3, o7_1, e1]
    rw [show ixI 0 = -1 from rfl, if_pos (by decide)]
    exact ⟨M1, rfl, o, e1, lo, up⟩
  | succ k ih =>
    intro m M1 hm o e1 lo up
    have hn' : ¬ nI k < 0 := nI_nlt (b := 0) (by omega) (by omega)
    have ca := C_append (d := d + 0) (b := byX x k) e1 (by omega)
    rw [show d + 0 + 1 = d + 1 from rfl] at ca
    rw [sX5_feed_39]
    simp only [sX5_feed_0, sX5_feed_1, sX5_feed_2, sX5_feed_3, sX5_feed_6, sX5_feed_9, sX5_feed_10, sX5_feed_11, sX5_feed_14, sX5_feed_15, sX5_feed_16, sX5_feed_19, sX5_feed_22, sX5_feed_23, sX5_feed_24, sX5_feed_26, sX5_feed_29, sX5_feed_30, sX5_feed_31, sX5_feed_34, sX5_feed_35, sX5_feed_36, sX5_feed_37, sX5_feed_38, sX5_feed_40, sX5_feed_43, sX5_feed_44, sX5_feed_47, sX5_feed_48, sX5_feed_50, sX5_feed_51, sX5_feed_52, sX5_feed_53, sX5_feed_56, sX5_feed_57, sX5_feed_60, sX5_feed_63, sX5_feed_66, sX5_feed_67, sX5_feed_70, sX5_feed_73, opK_some, guK_true, calK_some, rk_nil, rk_int, rk_ref, tl_some, tl_none, nb_int, nb_0, nb_1, nb_if, nb_if', show ixI (k + 1) = nI k from rfl, hn', if_false, o0_3, q7, ca, ix_dn]
    refine ih (m + 1) _ (by omega) (fun q h1 h2 => by rw [mset_ne h1, mset_ne h2]; exact o q h1 h2) (by rw [mset_at, upd_at]; rfl) (fun i hi => ?_) (fun i hi => ?_)
    · rw [mset_ne (by omega), mset_at, upd_ne (by omega)]
      exact lo i hi
    · rw [mset_ne (by omega), mset_at]
      by_cases c : i = m
      · rw [c, upd_at, show n - 1 - m = k by omega]
      · rw [upd_ne (by omega)]
        exact up i (by omega)
theorem L_m_feed {d s n : Nat} {x : Int32} {M : Mem} (hn : n ≤ 4) (hs : s + n ≤ 120) : ∀ (k m : Nat) (M1 : Mem), m + k = n → (∀ q, q ≠ 130 → q ≠ 138 → M1 q = M q) → (∀ q, q ≠ 17 → M1 130 q = M 130 q) → M1 130 17 = nI (s + m) → (∀ i, i < s → M1 138 i = M 138 i) → (∀ i, i < m → M1 138 (s + i) = byX x (n - 1 - i)) →
    ∃ M', lim (call (d + 1)) none 6 cX6_feed (some .int) 38 [some (.ref 130), some (.int x), some (.int (nI n)), some (.int (ixI k))] [] M1 = some (some (.int (nI (s + n))), M') ∧ (∀ q, q ≠ 130 → q ≠ 138 → M' q = M q) ∧ (∀ q, q ≠ 17 → M' 130 q = M 130 q) ∧ M' 130 17 = nI (s + n) ∧ (∀ i, i < s → M' 138 i = M 138 i) ∧ ∀ i, i < n → M' 138 (s + i) = byX x (n - 1 - i) := by
  intro k
  induction k with
  | zero =>
    intro m M1 hm o o2 e1 lo up
    obtain rfl : m = n := by omega
    rw [sX6_feed_38]
    simp only [sX6_feed_0, sX6_feed_1, sX6_feed_2, sX6_feed_3, sX6_feed_6, sX6_feed_9, sX6_feed_10, sX6_feed_12, sX6_feed_15, sX6_feed_16, sX6_feed_17, sX6_feed_20, sX6_feed_21, sX6_feed_22, sX6_feed_24, sX6_feed_27, sX6_feed_28, sX6_feed_30, sX6_feed_33, sX6_feed_34, sX6_feed_35, sX6_feed_36, sX6_feed_37, sX6_feed_39, sX6_feed_42, sX6_feed_43, sX6_feed_46, sX6_feed_47, sX6_feed_50, sX6_feed_51, sX6_feed_53, sX6_feed_54, sX6_feed_55, sX6_feed_56, sX6_feed_59, sX6_feed_60, sX6_feed_61, sX6_feed_62, sX6_feed_62_i, sX6_feed_63, sX6_feed_66, sX6_feed_67, sX6_feed_68, sX6_feed_71, sX6_feed_74, sX6_feed_77, sX6_feed_78, sX6_feed_81, opK_some, guK_true, calK_some, rk_nil, rk_int, rk_ref, tl_some, tl_none, nb_int, nb_0, nb_1, nb_if, nb_if', o130_17, e1]
    rw [show ixI 0 = -1 from rfl, if_pos (by decide)]
    exact ⟨M1, rfl, o, o2, e1, lo, up⟩
  | succ k ih =>
    intro m M1 hm o o2 e1 lo up
    have hn' : ¬ nI k < 0 := nI_nlt (b := 0) (by omega) (by omega)
    have e17 : ∀ v, (mset M1 138 (s + m) v) 130 17 = nI (s + m) := fun v => by rw [mset_ne (by omega)]; exact e1
    rw [sX6_feed_38]
    simp only [sX6_feed_0, sX6_feed_1, sX6_feed_2, sX6_feed_3, sX6_feed_6, sX6_feed_9, sX6_feed_10, sX6_feed_12, sX6_feed_15, sX6_feed_16, sX6_feed_17, sX6_feed_20, sX6_feed_21, sX6_feed_22, sX6_feed_24, sX6_feed_27, sX6_feed_28, sX6_feed_30, sX6_feed_33, sX6_feed_34, sX6_feed_35, sX6_feed_36, sX6_feed_37, sX6_feed_39, sX6_feed_42, sX6_feed_43, sX6_feed_46, sX6_feed_47, sX6_feed_50, sX6_feed_51, sX6_feed_53, sX6_feed_54, sX6_feed_55, sX6_feed_56, sX6_feed_59, sX6_feed_61, sX6_feed_62, sX6_feed_62_i, sX6_feed_63, sX6_feed_66, sX6_feed_67, sX6_feed_68, sX6_feed_71, sX6_feed_74, sX6_feed_77, sX6_feed_78, sX6_feed_81, opK_some, guK_true, calK_some, rk_nil, rk_int, rk_ref, tl_some, tl_none, nb_int, nb_0, nb_1, nb_if, nb_if', show ixI (k + 1) = nI k from rfl, hn', if_false, o130_16, o130_17, e1]
    rw [sX6_feed_60]
    simp only [sX6_feed_0, sX6_feed_1, sX6_feed_2, sX6_feed_3, sX6_feed_6, sX6_feed_9, sX6_feed_10, sX6_feed_12, sX6_feed_15, sX6_feed_16, sX6_feed_17, sX6_feed_20, sX6_feed_21, sX6_feed_22, sX6_feed_24, sX6_feed_27, sX6_feed_28, sX6_feed_30, sX6_feed_33, sX6_feed_34, sX6_feed_35, sX6_feed_36, sX6_feed_37, sX6_feed_39, sX6_feed_42, sX6_feed_43, sX6_feed_46, sX6_feed_47, sX6_feed_50, sX6_feed_51, sX6_feed_53, sX6_feed_54, sX6_feed_55, sX6_feed_56, sX6_feed_59, sX6_feed_61, sX6_feed_62, sX6_feed_62_i, sX6_feed_63, sX6_feed_66, sX6_feed_67, sX6_feed_68, sX6_feed_71, sX6_feed_74, sX6_feed_77, sX6_feed_78, sX6_feed_81, opK_some, guK_true, calK_some, rk_nil, rk_int, rk_ref, tl_some, tl_none, nb_int, nb_0, nb_1, nb_if, nb_if', a138, b138, inb_nI (show s + m < 120 by omega) (by omega), nI_clamp (show s + m < 2 ^ 31 by omega), o130_17, p130_17, e17, nI_1, ix_dn]
    refine ih (m + 1) _ (by omega) (fun q h1 h2 => by rw [mset_ne h1, mset_ne h2]; exact o q h1 h2) (fun q hq => by rw [mset_at, upd_ne hq, mset_ne (by omega)]; exact o2 q hq) (by rw [mset_at, upd_at]; rfl) (fun i hi => ?_) (fun i hi => ?_)
    · rw [mset_ne (by omega), mset_at, upd_ne (by omega)]
      exact lo i hi
    · rw [mset_ne (by omega), mset_at]
      by_cases c : i = m
      · rw [c, upd_at, show n - 1 - m = k by omega]
        exact by_eq x (by omega)
      · rw [upd_ne (by omega)]
        exact up i (by omega)
theorem X_feed {d : Nat} {M : Mem} {x y : Int32} (j : J M) : Two (d + 2) 86 (d + 2) 218 [.int x, .int y] M := by
  obtain ⟨t1, t2, t3⟩ := j.2.2.2.1
  by_cases hy : 1 ≤ y ∧ y ≤ 4
  · obtain ⟨n, n4, rfl⟩ : ∃ n, n ≤ 4 ∧ y = nI n := nI_of2 (M := 4) (n := 4) rfl (Int32.not_lt.mpr (Int32.le_trans (by decide : (0 : Int32) ≤ 1) hy.1)) hy.2
    have n1 : 1 ≤ n := by
      rcases Nat.eq_zero_or_pos n with c | c
      · rw [c] at hy
        exact absurd hy.1 (by decide)
      · exact c
    obtain ⟨s, hs⟩ : ∃ s, s = iN (M 130 17) := ⟨_, rfl⟩
    have es : M 130 17 = nI s := by rw [hs]; exact t2.2
    have ls : s ≤ 120 := by rw [hs]; exact t2.1
    have e7 : M 7 1 = nI s := t1.trans es
    by_cases hf : s + n ≤ 120
    · have lx : nI s + nI n ≤ 120 := by rw [nI_add]; exact nI_le (b := 120) hf (by omega)
      have en : nI n - 1 = ixI n := by
        cases n with
        | zero => omega
        | succ k => exact pk_sub1 (by omega)
      obtain ⟨M1, c1, o1, f1, lo1, up1⟩ := L_feed (d := d) (x := x) (M := M) n4 hf n 0 M (by omega) (fun _ _ _ => rfl) e7 (fun _ _ => rfl) (fun i hi => absurd hi (Nat.not_lt_zero i))
      have e17 : M1 130 17 = nI s := by rw [o1 130 (by omega) (by omega)]; exact es
      obtain ⟨M2, c2, o2, o2', f2, lo2, up2⟩ := L_m_feed (d := d) (x := x) (M := M1) n4 hf n 0 M1 (by omega) (fun _ _ _ => rfl) (fun _ _ => rfl) e17 (fun _ _ => rfl) (fun i hi => absurd hi (Nat.not_lt_zero i))
      refine ⟨M1, M2, nI (s + n), ?_, ?_, ?_⟩
      · rw [nX5_feed]
        simp only [sX5_feed_0, sX5_feed_1, sX5_feed_2, sX5_feed_3, sX5_feed_6, sX5_feed_9, sX5_feed_10, sX5_feed_11, sX5_feed_14, sX5_feed_15, sX5_feed_16, sX5_feed_19, sX5_feed_22, sX5_feed_23, sX5_feed_24, sX5_feed_26, sX5_feed_29, sX5_feed_30, sX5_feed_31, sX5_feed_34, sX5_feed_35, sX5_feed_36, sX5_feed_37, sX5_feed_38, sX5_feed_40, sX5_feed_43, sX5_feed_44, sX5_feed_47, sX5_feed_48, sX5_feed_50, sX5_feed_51, sX5_feed_52, sX5_feed_53, sX5_feed_56, sX5_feed_57, sX5_feed_60, sX5_feed_63, sX5_feed_66, sX5_feed_67, sX5_feed_70, sX5_feed_73, opK_some, guK_true, calK_some, rk_nil, rk_int, rk_ref, tl_some, tl_none, nb_int, nb_0, nb_1, nb_if, nb_if', q0, o0_3, o7_1, C_x_within, hy, and_self, if_true, one_ne, if_false, e7, lx, en]
        exact c1
      · rw [nX6_feed]
        simp only [sX6_feed_0, sX6_feed_1, sX6_feed_2, sX6_feed_3, sX6_feed_6, sX6_feed_9, sX6_feed_10, sX6_feed_12, sX6_feed_15, sX6_feed_16, sX6_feed_17, sX6_feed_20, sX6_feed_21, sX6_feed_22, sX6_feed_24, sX6_feed_27, sX6_feed_28, sX6_feed_30, sX6_feed_33, sX6_feed_34, sX6_feed_35, sX6_feed_36, sX6_feed_37, sX6_feed_39, sX6_feed_42, sX6_feed_43, sX6_feed_46, sX6_feed_47, sX6_feed_50, sX6_feed_51, sX6_feed_53, sX6_feed_54, sX6_feed_55, sX6_feed_56, sX6_feed_59, sX6_feed_60, sX6_feed_61, sX6_feed_62, sX6_feed_62_i, sX6_feed_63, sX6_feed_66, sX6_feed_67, sX6_feed_68, sX6_feed_71, sX6_feed_74, sX6_feed_77, sX6_feed_78, sX6_feed_81, opK_some, guK_true, calK_some, rk_nil, rk_int, rk_ref, tl_some, tl_none, nb_int, nb_0, nb_1, nb_if, nb_if', q130, o130_17, C_m_within, hy, and_self, if_true, one_ne, if_false, e17, lx, en]
        exact c2
      · have c : ∀ k, k ≠ 7 → k ≠ 91 → k ≠ 130 → k ≠ 138 → M2 k = M k := fun k a b c e => (o2 k c e).trans (o1 k a b)
        have c130 : ∀ q, q ≠ 17 → M2 130 q = M 130 q := fun q hq => by rw [o2' q hq, o1 130 (by omega) (by omega)]
        refine ⟨JA_ou j.1 (fun k hk => c k (by omega) (by omega) (by omega) (by omega)), JK_ou j.2.1 (by rw [c 0 (by omega) (by omega) (by omega) (by omega)]) (c130 3 (by omega)) (fun k hk => c k (by omega) (by omega) (by omega) (by omega)), JF_ou j.2.2.1 (fun k hk => c k (by omega) (by omega) (by omega) (by omega)), ⟨?_, ?_, fun i hi => ?_⟩, JS_ou j.2.2.2.2 (fun k hk => c k (by omega) (by omega) (by omega) (by omega))⟩
        · rw [o2 7 (by omega) (by omega), f1, f2]
        · rw [f2]
          exact rg_nI hf (by omega)
        · rw [f2, iN_nI (by omega)] at hi
          rw [o2 91 (by omega) (by omega)]
          by_cases c : i < s
          · rw [lo1 i c, lo2 i c, o1 138 (by omega) (by omega)]
            exact t3 i (by rw [es, iN_nI (by omega)]; exact c)
          · have a1 := up1 (i - s) (by omega)
            have a2 := up2 (i - s) (by omega)
            rw [show s + (i - s) = i by omega] at a1 a2
            rw [a1, a2]
            exact ⟨rfl, by_rg x _⟩
    · have lx : ¬ nI s + nI n ≤ 120 := by rw [nI_add]; exact nI_ge (a := 120) (by omega) (by omega)
      have f17 : fX M 1 130 = M 130 := fX_k (by omega)
      refine ⟨fX M 1, fM (fX M 1) 1, -1000002, ?_, ?_, J_fin j (by omega)⟩
      · rw [nX5_feed]
        simp only [sX5_feed_0, sX5_feed_1, sX5_feed_2, sX5_feed_3, sX5_feed_6, sX5_feed_9, sX5_feed_10, sX5_feed_11, sX5_feed_14, sX5_feed_15, sX5_feed_16, sX5_feed_19, sX5_feed_22, sX5_feed_23, sX5_feed_24, sX5_feed_26, sX5_feed_29, sX5_feed_30, sX5_feed_31, sX5_feed_34, sX5_feed_35, sX5_feed_36, sX5_feed_37, sX5_feed_38, sX5_feed_40, sX5_feed_43, sX5_feed_44, sX5_feed_47, sX5_feed_48, sX5_feed_50, sX5_feed_51, sX5_feed_52, sX5_feed_53, sX5_feed_56, sX5_feed_57, sX5_feed_60, sX5_feed_63, sX5_feed_66, sX5_feed_67, sX5_feed_70, sX5_feed_73, opK_some, guK_true, calK_some, rk_nil, rk_int, rk_ref, tl_some, tl_none, nb_int, nb_0, nb_1, nb_if, nb_if', q0, o0_3, o7_1, C_x_within, hy, and_self, if_true, one_ne, if_false, e7, lx, C_xf1]
      · rw [nX6_feed]
        simp only [sX6_feed_0, sX6_feed_1, sX6_feed_2, sX6_feed_3, sX6_feed_6, sX6_feed_9, sX6_feed_10, sX6_feed_12, sX6_feed_15, sX6_feed_16, sX6_feed_17, sX6_feed_20, sX6_feed_21, sX6_feed_22, sX6_feed_24, sX6_feed_27, sX6_feed_28, sX6_feed_30, sX6_feed_33, sX6_feed_34, sX6_feed_35, sX6_feed_36, sX6_feed_37, sX6_feed_39, sX6_feed_42, sX6_feed_43, sX6_feed_46, sX6_feed_47, sX6_feed_50, sX6_feed_51, sX6_feed_53, sX6_feed_54, sX6_feed_55, sX6_feed_56, sX6_feed_59, sX6_feed_60, sX6_feed_61, sX6_feed_62, sX6_feed_62_i, sX6_feed_63, sX6_feed_66, sX6_feed_67, sX6_feed_68, sX6_feed_71, sX6_feed_74, sX6_feed_77, sX6_feed_78, sX6_feed_81, opK_some, guK_true, calK_some, rk_nil, rk_int, rk_ref, tl_some, tl_none, nb_int, nb_0, nb_1, nb_if, nb_if', q130, o130_17, C_m_within, hy, and_self, if_true, one_ne, if_false, f17, es, lx, C_mf1]
  · refine ⟨fX M 0, fM (fX M 0) 0, -1000001, ?_, ?_, J_fin j (by omega)⟩
    · rw [nX5_feed]
      simp only [sX5_feed_0, sX5_feed_1, sX5_feed_2, sX5_feed_3, sX5_feed_6, sX5_feed_9, sX5_feed_10, sX5_feed_11, sX5_feed_14, sX5_feed_15, sX5_feed_16, sX5_feed_19, sX5_feed_22, sX5_feed_23, sX5_feed_24, sX5_feed_26, sX5_feed_29, sX5_feed_30, sX5_feed_31, sX5_feed_34, sX5_feed_35, sX5_feed_36, sX5_feed_37, sX5_feed_38, sX5_feed_40, sX5_feed_43, sX5_feed_44, sX5_feed_47, sX5_feed_48, sX5_feed_50, sX5_feed_51, sX5_feed_52, sX5_feed_53, sX5_feed_56, sX5_feed_57, sX5_feed_60, sX5_feed_63, sX5_feed_66, sX5_feed_67, sX5_feed_70, sX5_feed_73, opK_some, guK_true, calK_some, rk_nil, rk_int, rk_ref, tl_some, tl_none, nb_int, nb_0, nb_1, nb_if, nb_if', q0, C_x_within, hy, if_true, zero_eq, if_false, C_xf0]
    · rw [nX6_feed]
      simp only [sX6_feed_0, sX6_feed_1, sX6_feed_2, sX6_feed_3, sX6_feed_6, sX6_feed_9, sX6_feed_10, sX6_feed_12, sX6_feed_15, sX6_feed_16, sX6_feed_17, sX6_feed_20, sX6_feed_21, sX6_feed_22, sX6_feed_24, sX6_feed_27, sX6_feed_28, sX6_feed_30, sX6_feed_33, sX6_feed_34, sX6_feed_35, sX6_feed_36, sX6_feed_37, sX6_feed_39, sX6_feed_42, sX6_feed_43, sX6_feed_46, sX6_feed_47, sX6_feed_50, sX6_feed_51, sX6_feed_53, sX6_feed_54, sX6_feed_55, sX6_feed_56, sX6_feed_59, sX6_feed_60, sX6_feed_61, sX6_feed_62, sX6_feed_62_i, sX6_feed_63, sX6_feed_66, sX6_feed_67, sX6_feed_68, sX6_feed_71, sX6_feed_74, sX6_feed_77, sX6_feed_78, sX6_feed_81, opK_some, guK_true, calK_some, rk_nil, rk_int, rk_ref, tl_some, tl_none, nb_int, nb_0, nb_1, nb_if, nb_if', q130, C_m_within, hy, if_true, zero_eq, if_false, C_mf0]

