/-! calls: rid -/
def oS (r : Rw) : Nat → Nat
  | 0 => 0
  | i + 1 => oS r i ||| 2 ^ cr r i
theorem oS_bit (r : Rw) (t : Nat) : ∀ i, (oS r i).testBit t = true ↔ ∃ k, k < i ∧ cr r k = t := by
  intro i
  induction i with
  | zero =>
    constructor
    · intro h
      rw [show oS r 0 = 0 from rfl, Nat.zero_testBit] at h
      exact absurd h (by decide)
    · rintro ⟨k, hk, _⟩
      omega
  | succ i ih =>
    show (oS r i ||| 2 ^ cr r i).testBit t = true ↔ _
    rw [Nat.testBit_or, Nat.testBit_two_pow, Bool.or_eq_true, ih, decide_eq_true_iff]
    constructor
    · rintro (⟨k, hk, e⟩ | e)
      · exact ⟨k, by omega, e⟩
      · exact ⟨i, by omega, e⟩
    · rintro ⟨k, hk, e⟩
      by_cases c : k = i
      · subst c
        exact Or.inr e
      · exact Or.inl ⟨k, by omega, e⟩
theorem oS_in {r : Rw} (w : WR r) (k : KR r) : oS r (nC r) = hoS r 1 := by
  have hT := wr_T w
  apply Nat.eq_of_testBit_eq
  intro t
  rw [Bool.eq_iff_iff, oS_bit, tS_bit, Bool.and_eq_true, decide_eq_true_iff, decide_eq_true_iff]
  constructor
  · rintro ⟨i, hi, rfl⟩
    exact k.1.2.1 i hi
  · rintro ⟨ht, h1⟩
    exact k.1.2.2.1 t (by omega) h1
theorem L_setInside {d b : Nat} {M : Mem} {r : Rw} (hb : isHen b) (h : HR M b r) (w : WR r) : ∀ (m i : Nat), i + m = nC r →
    lim (call (d + 0)) none 1 cX1_setInside (some .int) 4 [some (.ref b), some (.int (nI (oS r i))), some (.int (nI i))] [] M = some (some (.int (nI (oS r (nC r)))), M) := by
  have c8 := wr_C w
  have e9 : M b 9 = nI (nC r) := h.1.2.1.trans c8.2
  intro m
  induction m with
  | zero =>
    intro i hi
    obtain rfl : i = nC r := by omega
    rw [sX1_setInside_4]
    simp only [sX1_setInside_0, sX1_setInside_1, sX1_setInside_2, sX1_setInside_3, sX1_setInside_5, sX1_setInside_6, sX1_setInside_9, sX1_setInside_12, sX1_setInside_13, sX1_setInside_14, sX1_setInside_15, sX1_setInside_18, sX1_setInside_19, sX1_setInside_20, sX1_setInside_21, sX1_setInside_22, sX1_setInside_23, sX1_setInside_26, sX1_setInside_29, sX1_setInside_30, opK_some, guK_true, calK_some, rk_nil, rk_int, rk_ref, tl_some, tl_none, nb_int, nb_0, nb_1, nb_if, nb_if', hs_9 hb, e9]
    rw [if_pos (show nI (nC r) ≤ nI (nC r) from Int32.le_refl _)]
  | succ m ih =>
    intro i hi
    obtain ⟨ht, et⟩ := wr_cr w (i := i) (by omega)
    have e8 : M (b + 8) i = nI (cr r i) := by rw [h.2.2 i (by omega), et]
    rw [sX1_setInside_4]
    simp only [sX1_setInside_0, sX1_setInside_1, sX1_setInside_2, sX1_setInside_3, sX1_setInside_5, sX1_setInside_6, sX1_setInside_9, sX1_setInside_12, sX1_setInside_13, sX1_setInside_14, sX1_setInside_15, sX1_setInside_18, sX1_setInside_19, sX1_setInside_20, sX1_setInside_21, sX1_setInside_22, sX1_setInside_23, sX1_setInside_26, sX1_setInside_29, sX1_setInside_30, opK_some, guK_true, calK_some, rk_nil, rk_int, rk_ref, tl_some, tl_none, nb_int, nb_0, nb_1, nb_if, nb_if', hs_8 hb, hs_9 hb, ha_8 hb, e9, inb_nI (show i < 8 by omega) (by omega), nI_clamp (show i < 2 ^ 31 by omega), e8, one_shl (show cr r i < 31 by omega), nI_or, nI_1]
    rw [if_neg (show ¬ nI (nC r) ≤ nI i from nI_ge (by omega) (by omega))]
    exact ih (i + 1) (by omega)
theorem C_setInside {d b : Nat} {M : Mem} {r : Rw} (hb : isHen b) (h : HR M b r) (w : WR r) (k : KR r) : call (d + 1) 61 [.ref b] M = some (some (.int (nI (hoS r 1))), M) := by
  rw [nX1_setInside, ← oS_in w k]
  simp only [sX1_setInside_0, sX1_setInside_1, sX1_setInside_2, sX1_setInside_3, sX1_setInside_5, sX1_setInside_6, sX1_setInside_9, sX1_setInside_12, sX1_setInside_13, sX1_setInside_14, sX1_setInside_15, sX1_setInside_18, sX1_setInside_19, sX1_setInside_20, sX1_setInside_21, sX1_setInside_22, sX1_setInside_23, sX1_setInside_26, sX1_setInside_29, sX1_setInside_30, opK_some, guK_true, calK_some, rk_nil, rk_int, rk_ref, tl_some, tl_none, nb_int, nb_0, nb_1, nb_if, nb_if']
  exact L_setInside hb h w (nC r) 0 (by omega)
theorem C_bringWithout {d s n : Nat} {M : Mem} {r : Rw} (h : HR M 10 r) (w : WX r 9999) (hs : s < 2 ^ 31) (hn : n < 2 ^ 31) : ∃ M', call (d + 5) 62 [.ref 0, .int (nI s), .int (nI n)] M = some (some (.int (sW (toF r s) n)), M') ∧ Ou 30 M M' := by
  have ri := toF_RI (s := s) w
  obtain ⟨M1, c1, h1, o1⟩ := C_become (d := d + 3) hen30 hen10 (by omega) h w.1
  rw [show d + 3 + 1 = d + 4 from rfl] at c1
  obtain ⟨M2, c2, h2, o2⟩ := C_takeOut (d := d + 2) hen30 h1 w.1 hs (RI_TO ri)
  rw [show d + 2 + 2 = d + 4 from rfl] at c2
  obtain ⟨M3, c3, h3, o3⟩ := C_pass (d := d + 0) (n := n) hen30 h2 ri.1.1 hn
  rw [show d + 0 + 4 = d + 4 from rfl] at c3
  rw [nX5_bringWithout]
  simp only [sX5_bringWithout_0, sX5_bringWithout_1, sX5_bringWithout_4, sX5_bringWithout_5, sX5_bringWithout_8, sX5_bringWithout_11, sX5_bringWithout_14, sX5_bringWithout_15, sX5_bringWithout_18, sX5_bringWithout_19, sX5_bringWithout_22, sX5_bringWithout_23, sX5_bringWithout_26, sX5_bringWithout_27, sX5_bringWithout_30, opK_some, guK_true, calK_some, rk_nil, rk_int, rk_ref, tl_some, tl_none, nb_int, nb_0, nb_1, nb_if, nb_if', o0_0, o0_6, o100_0, hen_c hen30, hen_c hen10, c1, c2, c3]
  exact ⟨M3, rfl, (o1.tr o2).tr o3⟩
abbrev okS (i s : Nat) : Prop := nI s &&& (nI i ^^^ (-1)) = 0
def riC (r : Rw) (n i : Nat) : Nat → Int32 × Int32
  | 0 => (-1, 0)
  | s + 1 => if okS i s ∧ (riC r n i s).1 < sW (toF r s) n then (sW (toF r s) n, nI s) else riC r n i s
def riM (r : Rw) (n i : Nat) : Nat → Int32 × Int32
  | 0 => (0, -1)
  | s + 1 => if okS i s ∧ ((riM r n i s).2 < 0 ∨ (riM r n i s).1 < sW (toF r s) n) then (sW (toF r s) n, nI s) else riM r n i s
theorem ri_2 {r : Rw} {n i : Nat} : ∀ s, ∃ k, k ≤ s ∧ (riC r n i s).2 = nI k := by
  intro s
  induction s with
  | zero => exact ⟨0, by omega, rfl⟩
  | succ s ih =>
    obtain ⟨k, hk, ek⟩ := ih
    show ∃ k, k ≤ s + 1 ∧ (if okS i s ∧ (riC r n i s).1 < sW (toF r s) n then (sW (toF r s) n, nI s) else riC r n i s).2 = nI k
    split
    · exact ⟨s, by omega, rfl⟩
    · exact ⟨k, by omega, ek⟩
theorem ri_eq {r : Rw} {n i : Nat} (w : WX r 9999) (hn : n ≤ 1000) : ∀ s, s < 2 ^ 30 → riC r n i (s + 1) = riM r n i (s + 1) := by
  intro s
  induction s with
  | zero =>
    intro _
    have ok : okS i 0 := (mask_0 (s := 0) (i := i) (n := 0) (by decide) (by omega)).mpr (fun t ht => absurd ht (Nat.not_lt_zero t))
    obtain ⟨j, hj, ej⟩ := sW_le (toF_RI (s := 0) w).1.1 n
    have hp : (-1 : Int32) < sW (toF r 0) n := by
      rw [ej]
      exact Int32.lt_of_lt_of_le (by decide : (-1 : Int32) < 0) (nI_le (a := 0) (by omega) (by omega))
    have e1 : riC r n i (0 + 1) = (sW (toF r 0) n, nI 0) := if_pos ⟨ok, hp⟩
    have e2 : riM r n i (0 + 1) = (sW (toF r 0) n, nI 0) := if_pos ⟨ok, Or.inl (show (-1 : Int32) < 0 by decide)⟩
    rw [e1, e2]
  | succ s ih =>
    intro hs
    obtain ⟨k, hk, ek⟩ := ri_2 (r := r) (n := n) (i := i) (s + 1)
    have hn : ¬ (riC r n i (s + 1)).2 < 0 := by rw [ek]; exact nI_nlt (b := 0) (by omega) (by omega)
    show (if okS i (s + 1) ∧ (riC r n i (s + 1)).1 < sW (toF r (s + 1)) n then (sW (toF r (s + 1)) n, nI (s + 1)) else riC r n i (s + 1)) = (if okS i (s + 1) ∧ ((riM r n i (s + 1)).2 < 0 ∨ (riM r n i (s + 1)).1 < sW (toF r (s + 1)) n) then (sW (toF r (s + 1)) n, nI (s + 1)) else riM r n i (s + 1))
    rw [← ih (by omega)]
    by_cases c : okS i (s + 1) ∧ (riC r n i (s + 1)).1 < sW (toF r (s + 1)) n
    · rw [if_pos c, if_pos ⟨c.1, Or.inr c.2⟩]
    · rw [if_neg c, if_neg (fun z => c ⟨z.1, z.2.resolve_left hn⟩)]
theorem L_rid {d n i : Nat} {M : Mem} {r : Rw} (h : HR M 10 r) (w : WX r 9999) (hi : i < 1024) (hn : n < 2 ^ 31) : ∀ (m s : Nat) (M1 : Mem) (v : Option Value), s + m = i + 1 → Ou 30 M M1 →
    ∃ M', lim (call (d + 5)) none 5 cX5_rid (some .int) 46 [some (.ref 0), some (.int (nI n)), some (.int (nI i)), some (.int (riC r n i s).2), some (.int (riC r n i s).1), some (.int (nI s)), v] [] M1 = some (some (.int (riC r n i (i + 1)).2), M') ∧ Ou 30 M M' := by
  intro m
  induction m with
  | zero =>
    intro s M1 v hs o
    obtain rfl : s = i + 1 := by omega
    rw [sX5_rid_46]
    simp only [sX5_rid_0, sX5_rid_1, sX5_rid_4, sX5_rid_7, sX5_rid_8, sX5_rid_9, sX5_rid_12, sX5_rid_13, sX5_rid_14, sX5_rid_15, sX5_rid_18, sX5_rid_21, sX5_rid_22, sX5_rid_23, sX5_rid_26, sX5_rid_27, sX5_rid_28, sX5_rid_31, sX5_rid_34, sX5_rid_37, sX5_rid_38, sX5_rid_39, sX5_rid_40, sX5_rid_41, sX5_rid_43, sX5_rid_44, sX5_rid_48, sX5_rid_49, sX5_rid_52, sX5_rid_54, sX5_rid_55, sX5_rid_56, sX5_rid_57, sX5_rid_58, sX5_rid_61, sX5_rid_62, sX5_rid_64, sX5_rid_65, sX5_rid_68, sX5_rid_70, sX5_rid_72, sX5_rid_74, sX5_rid_77, sX5_rid_79, sX5_rid_81, sX5_rid_83, sX5_rid_84, sX5_rid_87, sX5_rid_90, sX5_rid_91, opK_some, guK_true, calK_some, rk_nil, rk_int, rk_ref, tl_some, tl_none, nb_int, nb_0, nb_1, nb_if, nb_if']
    rw [if_pos (show nI i < nI (i + 1) from nI_lt (by omega) (by omega))]
    exact ⟨M1, rfl, o⟩
  | succ m ih =>
    intro s M1 v hs o
    obtain ⟨M2, c2, o2⟩ := C_bringWithout (d := d + 0) (s := s) (n := n) (HR_ou h (fun k a b => o k (by omega))) w (by omega) hn
    rw [show d + 0 + 5 = d + 5 from rfl] at c2
    rw [sX5_rid_46]
    simp only [sX5_rid_0, sX5_rid_1, sX5_rid_4, sX5_rid_7, sX5_rid_8, sX5_rid_9, sX5_rid_12, sX5_rid_13, sX5_rid_14, sX5_rid_15, sX5_rid_18, sX5_rid_21, sX5_rid_22, sX5_rid_23, sX5_rid_26, sX5_rid_27, sX5_rid_28, sX5_rid_31, sX5_rid_34, sX5_rid_37, sX5_rid_38, sX5_rid_39, sX5_rid_40, sX5_rid_41, sX5_rid_43, sX5_rid_44, sX5_rid_48, sX5_rid_49, sX5_rid_52, sX5_rid_54, sX5_rid_55, sX5_rid_56, sX5_rid_57, sX5_rid_58, sX5_rid_61, sX5_rid_62, sX5_rid_64, sX5_rid_65, sX5_rid_68, sX5_rid_70, sX5_rid_72, sX5_rid_74, sX5_rid_77, sX5_rid_79, sX5_rid_81, sX5_rid_83, sX5_rid_84, sX5_rid_87, sX5_rid_90, sX5_rid_91, opK_some, guK_true, calK_some, rk_nil, rk_int, rk_ref, tl_some, tl_none, nb_int, nb_0, nb_1, nb_if, nb_if', q0, c2, nI_1]
    rw [if_neg (show ¬ nI i < nI s from nI_nlt (by omega) (by omega))]
    by_cases ok : okS i s
    · have fin := ih (s + 1) M2 (some (.int (sW (toF r s) n))) (by omega) (o.tr o2)
      rw [if_pos (show nI s &&& (nI i ^^^ (-1)) = 0 from ok)]
      by_cases hl : (riC r n i s).1 < sW (toF r s) n
      · have ek : riC r n i (s + 1) = (sW (toF r s) n, nI s) := if_pos ⟨ok, hl⟩
        rw [ek] at fin
        rw [if_neg (Int32.not_le.mpr hl)]
        exact fin
      · have ek : riC r n i (s + 1) = riC r n i s := if_neg (fun z => hl z.2)
        rw [ek] at fin
        rw [if_pos (Int32.not_lt.mp hl)]
        exact fin
    · have fin := ih (s + 1) M1 v (by omega) o
      have ek : riC r n i (s + 1) = riC r n i s := if_neg (fun z => ok z.1)
      rw [ek] at fin
      rw [if_neg (show ¬ nI s &&& (nI i ^^^ (-1)) = 0 from ok)]
      exact fin
theorem L_m_rid {d n i : Nat} {y : Int32} {M : Mem} {r a : Rw} (w : WX r 9999) (ha : M 133 = cpR r a) (hi : i < 1024) (hn : n ≤ 1000) : ∀ (m s : Nat) (M1 : Mem) (v : Option Value), s + m = i + 1 → Mb M M1 → M1 131 = r →
    ∃ M', lim (call (d + 6)) none 6 cX6_rid (some .int) 44 [some (.ref 130), some (.int (nI n)), some (.int y), some (.int (nI i)), some (.int (riM r n i s).2), some (.int (riM r n i s).1), some (.int (nI s)), v] [] M1 = some (some (.int (riM r n i (i + 1)).2), M') ∧ Mb M M' := by
  have c8 := wr_C w.1
  intro m
  induction m with
  | zero =>
    intro s M1 v hs o e1
    obtain rfl : s = i + 1 := by omega
    rw [sX6_rid_44]
    simp only [sX6_rid_0, sX6_rid_1, sX6_rid_2, sX6_rid_3, sX6_rid_4, sX6_rid_7, sX6_rid_8, sX6_rid_9, sX6_rid_12, sX6_rid_13, sX6_rid_14, sX6_rid_17, sX6_rid_18, sX6_rid_19, sX6_rid_22, sX6_rid_23, sX6_rid_26, sX6_rid_29, sX6_rid_30, sX6_rid_31, sX6_rid_34, sX6_rid_35, sX6_rid_36, sX6_rid_38, sX6_rid_39, sX6_rid_41, sX6_rid_42, sX6_rid_46, sX6_rid_47, sX6_rid_50, sX6_rid_52, sX6_rid_53, sX6_rid_54, sX6_rid_55, sX6_rid_56, sX6_rid_59, sX6_rid_60, sX6_rid_63, sX6_rid_64, sX6_rid_65, sX6_rid_66, sX6_rid_67, sX6_rid_71, sX6_rid_74, sX6_rid_76, sX6_rid_77, sX6_rid_80, sX6_rid_82, sX6_rid_84, sX6_rid_85, sX6_rid_86, sX6_rid_89, sX6_rid_92, sX6_rid_93, sX6_rid_95, sX6_rid_96, sX6_rid_99, sX6_rid_102, sX6_rid_106, sX6_rid_107, sX6_rid_110, sX6_rid_111, sX6_rid_112, sX6_rid_115, sX6_rid_117, sX6_rid_119, sX6_rid_122, sX6_rid_124, sX6_rid_126, sX6_rid_129, sX6_rid_131, sX6_rid_133, sX6_rid_135, sX6_rid_137, sX6_rid_140, sX6_rid_143, sX6_rid_145, opK_some, guK_true, calK_some, rk_nil, rk_int, rk_ref, tl_some, tl_none, nb_int, nb_0, nb_1, nb_if, nb_if']
    rw [if_pos (show nI i < nI (i + 1) from nI_lt (by omega) (by omega))]
    exact ⟨M1, rfl, o⟩
  | succ m ih =>
    intro s M1 v hs o e1
    have e4 : r 4 - 1 = ixI (nC r) := by
      rw [c8.2]
      cases nC r with
      | zero => rfl
      | succ k => exact pk_sub1 (by omega)
    rw [sX6_rid_44]
    simp only [sX6_rid_0, sX6_rid_1, sX6_rid_2, sX6_rid_3, sX6_rid_4, sX6_rid_7, sX6_rid_8, sX6_rid_9, sX6_rid_12, sX6_rid_13, sX6_rid_14, sX6_rid_17, sX6_rid_18, sX6_rid_19, sX6_rid_22, sX6_rid_23, sX6_rid_26, sX6_rid_29, sX6_rid_30, sX6_rid_31, sX6_rid_34, sX6_rid_35, sX6_rid_36, sX6_rid_38, sX6_rid_39, sX6_rid_41, sX6_rid_42, sX6_rid_46, sX6_rid_47, sX6_rid_50, sX6_rid_52, sX6_rid_53, sX6_rid_54, sX6_rid_55, sX6_rid_56, sX6_rid_59, sX6_rid_60, sX6_rid_63, sX6_rid_64, sX6_rid_65, sX6_rid_66, sX6_rid_67, sX6_rid_71, sX6_rid_74, sX6_rid_76, sX6_rid_77, sX6_rid_80, sX6_rid_82, sX6_rid_84, sX6_rid_85, sX6_rid_86, sX6_rid_89, sX6_rid_92, sX6_rid_93, sX6_rid_95, sX6_rid_96, sX6_rid_99, sX6_rid_102, sX6_rid_106, sX6_rid_107, sX6_rid_110, sX6_rid_111, sX6_rid_112, sX6_rid_115, sX6_rid_117, sX6_rid_119, sX6_rid_122, sX6_rid_124, sX6_rid_126, sX6_rid_129, sX6_rid_131, sX6_rid_133, sX6_rid_135, sX6_rid_137, sX6_rid_140, sX6_rid_143, sX6_rid_145, opK_some, guK_true, calK_some, rk_nil, rk_int, rk_ref, tl_some, tl_none, nb_int, nb_0, nb_1, nb_if, nb_if', o130_0, a131, ib_4_132, tn_4, e1, e4, nI_1]
    rw [if_neg (show ¬ nI i < nI s from nI_nlt (by omega) (by omega))]
    by_cases ok : okS i s
    · obtain ⟨M2, c2, o2, r2⟩ := L_leave (d := d) (s := s) (v1 := some (.int (nI n))) (v2 := some (.int y)) (v3 := some (.int (nI i))) (v4 := some (.int (riM r n i s).2)) (v5 := some (.int (riM r n i s).1)) w (by omega) (nC r) M1 (Nat.le_refl _) (by rw [Nat.sub_self]; exact e1)
      have ri := toF_RI (s := s) w
      obtain ⟨M3, hM3⟩ : ∃ M3, M3 = mset M2 130 10 0 := ⟨_, rfl⟩
      have r3 : M3 131 = toF r s := by rw [hM3, mset_ne (by omega)]; exact r2
      have a3 : M3 133 = cpR r a := by rw [hM3, mset_ne (by omega), o2.1 133 (by omega) (by omega), o.1 133 (by omega) (by omega)]; exact ha
      obtain ⟨M4, c4, o4, r4⟩ := C_m_bringsQ (d := d + 0) (size := 0) (row := r1 0) (n := n) (M := M3) ri.1 ri.2.2.2.2.2.2 r3 a3 ⟨by omega, by rw [hM3, mset_at, upd_at]; rfl, fun k hk => absurd hk (Nat.not_lt_zero k)⟩ hn
      rw [show d + 0 + 6 = d + 6 from rfl] at c4
      rw [bS_00] at c4
      have b4 : Mb M1 M4 := by
        refine ⟨fun k h1 h2 => ?_, fun j h1 h2 h3 h4 => ?_⟩
        · by_cases c : k = 131
          · subst c
            rw [r4, e1]
          · rw [o4.1 k h1 c, hM3, mset_ne h1, o2.1 k h1 c]
        · rw [o4.2 j h1 h2 h3, hM3, mset_at, upd_ne h4, o2.2 j h1 h2 h3]
      have fin := ih (s + 1) M4 (some (.int (sW (toF r s) n))) (by omega) (o.tr b4) r4
      rw [if_pos (show nI s &&& (nI i ^^^ (-1)) = 0 from ok), c2, sX6_rid_105]
      simp only [sX6_rid_0, sX6_rid_1, sX6_rid_2, sX6_rid_3, sX6_rid_4, sX6_rid_7, sX6_rid_8, sX6_rid_9, sX6_rid_12, sX6_rid_13, sX6_rid_14, sX6_rid_17, sX6_rid_18, sX6_rid_19, sX6_rid_22, sX6_rid_23, sX6_rid_26, sX6_rid_29, sX6_rid_30, sX6_rid_31, sX6_rid_34, sX6_rid_35, sX6_rid_36, sX6_rid_38, sX6_rid_39, sX6_rid_41, sX6_rid_42, sX6_rid_46, sX6_rid_47, sX6_rid_50, sX6_rid_52, sX6_rid_53, sX6_rid_54, sX6_rid_55, sX6_rid_56, sX6_rid_59, sX6_rid_60, sX6_rid_63, sX6_rid_64, sX6_rid_65, sX6_rid_66, sX6_rid_67, sX6_rid_71, sX6_rid_74, sX6_rid_76, sX6_rid_77, sX6_rid_80, sX6_rid_82, sX6_rid_84, sX6_rid_85, sX6_rid_86, sX6_rid_89, sX6_rid_92, sX6_rid_93, sX6_rid_95, sX6_rid_96, sX6_rid_99, sX6_rid_102, sX6_rid_106, sX6_rid_107, sX6_rid_110, sX6_rid_111, sX6_rid_112, sX6_rid_115, sX6_rid_117, sX6_rid_119, sX6_rid_122, sX6_rid_124, sX6_rid_126, sX6_rid_129, sX6_rid_131, sX6_rid_133, sX6_rid_135, sX6_rid_137, sX6_rid_140, sX6_rid_143, sX6_rid_145, opK_some, guK_true, calK_some, rk_nil, rk_int, rk_ref, tl_some, tl_none, nb_int, nb_0, nb_1, nb_if, nb_if', q130, p130_10, ← hM3, c4, nI_1]
      by_cases hc : (riM r n i s).2 < 0 ∨ (riM r n i s).1 < sW (toF r s) n
      · have ek : riM r n i (s + 1) = (sW (toF r s) n, nI s) := if_pos ⟨ok, hc⟩
        rw [ek] at fin
        by_cases h2 : (riM r n i s).2 < 0
        · rw [if_pos h2]
          exact fin
        · rw [if_neg h2, if_neg (Int32.not_le.mpr (hc.resolve_left h2))]
          exact fin
      · have ek : riM r n i (s + 1) = riM r n i s := if_neg (fun z => hc z.2)
        rw [ek] at fin
        rw [if_neg (fun z => hc (Or.inl z)), if_pos (Int32.not_lt.mp (fun z => hc (Or.inr z)))]
        exact fin
    · have fin := ih (s + 1) M1 v (by omega) o e1
      have ek : riM r n i (s + 1) = riM r n i s := if_neg (fun z => ok z.1)
      rw [ek] at fin
      rw [if_neg (show ¬ nI s &&& (nI i ^^^ (-1)) = 0 from ok)]
      exact fin
theorem X_rid {d : Nat} {M : Mem} {x : Int32} (j : J M) : Two (d + 6) 60 (d + 7) 198 [.int x] M := by
  have w := j_wr j
  have ed : M 100 1 = M 131 0 := j.1.2.2.1.1
  have hr : ∀ {M : Mem} {x : Int32} (_ : WR (M 131)), call (d + 6) 182 [.ref 130, .int 1, .int 0, .int x] M = some (some (.int (if ¬ (1 ≤ x ∧ x ≤ 60) then -1000001 else if 9999 < M 131 0 + x then -1000005 else 0)), M) := fun w => C_m_refD (d := d + 1) w
  by_cases hx : 1 ≤ x ∧ x ≤ 60
  · by_cases hl : 9999 < M 131 0 + x
    · refine ⟨fX M 4, fM (fX M 4) 4, -1000005, ?_, ?_, J_fin j (by omega)⟩
      · rw [nX5_rid]
        simp only [sX5_rid_0, sX5_rid_1, sX5_rid_4, sX5_rid_7, sX5_rid_8, sX5_rid_9, sX5_rid_12, sX5_rid_13, sX5_rid_14, sX5_rid_15, sX5_rid_18, sX5_rid_21, sX5_rid_22, sX5_rid_23, sX5_rid_26, sX5_rid_27, sX5_rid_28, sX5_rid_31, sX5_rid_34, sX5_rid_37, sX5_rid_38, sX5_rid_39, sX5_rid_40, sX5_rid_41, sX5_rid_43, sX5_rid_44, sX5_rid_48, sX5_rid_49, sX5_rid_52, sX5_rid_54, sX5_rid_55, sX5_rid_56, sX5_rid_57, sX5_rid_58, sX5_rid_61, sX5_rid_62, sX5_rid_64, sX5_rid_65, sX5_rid_68, sX5_rid_70, sX5_rid_72, sX5_rid_74, sX5_rid_77, sX5_rid_79, sX5_rid_81, sX5_rid_83, sX5_rid_84, sX5_rid_87, sX5_rid_90, sX5_rid_91, opK_some, guK_true, calK_some, rk_nil, rk_int, rk_ref, tl_some, tl_none, nb_int, nb_0, nb_1, nb_if, nb_if', q0, C_x_isDays, C_x_isTooLate, ed, hx, hl, and_self, if_true, one_ne, if_false, C_xf4]
      · rw [nX6_rid]
        simp only [sX6_rid_0, sX6_rid_1, sX6_rid_2, sX6_rid_3, sX6_rid_4, sX6_rid_7, sX6_rid_8, sX6_rid_9, sX6_rid_12, sX6_rid_13, sX6_rid_14, sX6_rid_17, sX6_rid_18, sX6_rid_19, sX6_rid_22, sX6_rid_23, sX6_rid_26, sX6_rid_29, sX6_rid_30, sX6_rid_31, sX6_rid_34, sX6_rid_35, sX6_rid_36, sX6_rid_38, sX6_rid_39, sX6_rid_41, sX6_rid_42, sX6_rid_46, sX6_rid_47, sX6_rid_50, sX6_rid_52, sX6_rid_53, sX6_rid_54, sX6_rid_55, sX6_rid_56, sX6_rid_59, sX6_rid_60, sX6_rid_63, sX6_rid_64, sX6_rid_65, sX6_rid_66, sX6_rid_67, sX6_rid_71, sX6_rid_74, sX6_rid_76, sX6_rid_77, sX6_rid_80, sX6_rid_82, sX6_rid_84, sX6_rid_85, sX6_rid_86, sX6_rid_89, sX6_rid_92, sX6_rid_93, sX6_rid_95, sX6_rid_96, sX6_rid_99, sX6_rid_102, sX6_rid_106, sX6_rid_107, sX6_rid_110, sX6_rid_111, sX6_rid_112, sX6_rid_115, sX6_rid_117, sX6_rid_119, sX6_rid_122, sX6_rid_124, sX6_rid_126, sX6_rid_129, sX6_rid_131, sX6_rid_133, sX6_rid_135, sX6_rid_137, sX6_rid_140, sX6_rid_143, sX6_rid_145, opK_some, guK_true, calK_some, rk_nil, rk_int, rk_ref, tl_some, tl_none, nb_int, nb_0, nb_1, nb_if, nb_if', q130, hr (M := fX M 4) (by rw [fX_131]; exact w), fX_131, hx, hl, and_self, not_true, if_true, if_false, m5_ne, C_mf4]
    · obtain ⟨n, n1, n60, rfl⟩ := days_of hx
      have c0 := C_setInside (d := d + 4) hen10 (j_hr j) w j.1.1.2
      rw [show d + 4 + 1 = d + 5 from rfl] at c0
      have hi : hoS (M 131) 1 < 1024 := by
        have h1 := tS_lt (fun t => decide (M 131 (at9 t 4) = 1)) (nT (M 131))
        have h2 := p2_10 (wr_T w).1
        exact Nat.lt_of_lt_of_le h1 h2
      obtain ⟨M2, c2, o2⟩ := L_rid (d := d) (n := n) (j_hr j) j.1.1.1 hi (by omega) (hoS (M 131) 1 + 1) 0 M none (by omega) Ou.rf
      have cs : Cs M M2 := Cs.ou (by omega) (by omega) o2
      have e2 := cs.e
      have hc := C_aside (d := d + 5) (M := M2)
      rw [show d + 5 + 1 = d + 6 from rfl] at hc
      obtain ⟨M3, hM3⟩ : ∃ M3, M3 = mrow M2 133 (cpR (M2 131) (M2 133)) := ⟨_, rfl⟩
      rw [← hM3] at hc
      have ms3 : Ms M2 M3 := by rw [hM3]; exact Ms.as
      have r3 : M3 131 = M 131 := (ms3.1 131 (by omega)).trans e2
      have a3 : M3 133 = cpR (M 131) (M2 133) := by rw [hM3, mrow_at, e2]
      have c1 := C_m_thingsThat (d := d + 2) (M := M3) (x := 1) (by rw [r3]; exact w)
      rw [show d + 2 + 4 = d + 6 from rfl] at c1
      rw [r3] at c1
      obtain ⟨M4, c4, b4⟩ := L_m_rid (d := d) (n := n) (y := 0) (M := M3) j.1.1.1 a3 hi (by omega) (hoS (M 131) 1 + 1) 0 M3 none (by omega) Mb.rf r3
      have ee := ri_eq (n := n) (i := hoS (M 131) 1) j.1.1.1 (by omega) (hoS (M 131) 1) (by omega)
      rw [← ee] at c4
      refine ⟨M2, M4, (riC (M 131) n (hoS (M 131) 1) (hoS (M 131) 1 + 1)).2, ?_, ?_, Ms.j (cs.j j) (ms3.tr b4.ms)⟩
      · rw [nX5_rid]
        simp only [sX5_rid_0, sX5_rid_1, sX5_rid_4, sX5_rid_7, sX5_rid_8, sX5_rid_9, sX5_rid_12, sX5_rid_13, sX5_rid_14, sX5_rid_15, sX5_rid_18, sX5_rid_21, sX5_rid_22, sX5_rid_23, sX5_rid_26, sX5_rid_27, sX5_rid_28, sX5_rid_31, sX5_rid_34, sX5_rid_37, sX5_rid_38, sX5_rid_39, sX5_rid_40, sX5_rid_41, sX5_rid_43, sX5_rid_44, sX5_rid_48, sX5_rid_49, sX5_rid_52, sX5_rid_54, sX5_rid_55, sX5_rid_56, sX5_rid_57, sX5_rid_58, sX5_rid_61, sX5_rid_62, sX5_rid_64, sX5_rid_65, sX5_rid_68, sX5_rid_70, sX5_rid_72, sX5_rid_74, sX5_rid_77, sX5_rid_79, sX5_rid_81, sX5_rid_83, sX5_rid_84, sX5_rid_87, sX5_rid_90, sX5_rid_91, opK_some, guK_true, calK_some, rk_nil, rk_int, rk_ref, tl_some, tl_none, nb_int, nb_0, nb_1, nb_if, nb_if', q0, o0_0, o100_0, hen_c hen10, C_x_isDays, C_x_isTooLate, ed, hx, hl, and_self, if_true, one_ne, zero_eq, if_false, c0]
        exact c2
      · rw [nX6_rid]
        simp only [sX6_rid_0, sX6_rid_1, sX6_rid_2, sX6_rid_3, sX6_rid_4, sX6_rid_7, sX6_rid_8, sX6_rid_9, sX6_rid_12, sX6_rid_13, sX6_rid_14, sX6_rid_17, sX6_rid_18, sX6_rid_19, sX6_rid_22, sX6_rid_23, sX6_rid_26, sX6_rid_29, sX6_rid_30, sX6_rid_31, sX6_rid_34, sX6_rid_35, sX6_rid_36, sX6_rid_38, sX6_rid_39, sX6_rid_41, sX6_rid_42, sX6_rid_46, sX6_rid_47, sX6_rid_50, sX6_rid_52, sX6_rid_53, sX6_rid_54, sX6_rid_55, sX6_rid_56, sX6_rid_59, sX6_rid_60, sX6_rid_63, sX6_rid_64, sX6_rid_65, sX6_rid_66, sX6_rid_67, sX6_rid_71, sX6_rid_74, sX6_rid_76, sX6_rid_77, sX6_rid_80, sX6_rid_82, sX6_rid_84, sX6_rid_85, sX6_rid_86, sX6_rid_89, sX6_rid_92, sX6_rid_93, sX6_rid_95, sX6_rid_96, sX6_rid_99, sX6_rid_102, sX6_rid_106, sX6_rid_107, sX6_rid_110, sX6_rid_111, sX6_rid_112, sX6_rid_115, sX6_rid_117, sX6_rid_119, sX6_rid_122, sX6_rid_124, sX6_rid_126, sX6_rid_129, sX6_rid_131, sX6_rid_133, sX6_rid_135, sX6_rid_137, sX6_rid_140, sX6_rid_143, sX6_rid_145, opK_some, guK_true, calK_some, rk_nil, rk_int, rk_ref, tl_some, tl_none, nb_int, nb_0, nb_1, nb_if, nb_if', q130, o130_0, o130_2, hr (M := M2) (by rw [e2]; exact w), e2, hx, hl, and_self, not_true, if_true, if_false, zero_eq, hc, c1]
        exact c4
  · refine ⟨fX M 0, fM (fX M 0) 0, -1000001, ?_, ?_, J_fin j (by omega)⟩
    · rw [nX5_rid]
      simp only [sX5_rid_0, sX5_rid_1, sX5_rid_4, sX5_rid_7, sX5_rid_8, sX5_rid_9, sX5_rid_12, sX5_rid_13, sX5_rid_14, sX5_rid_15, sX5_rid_18, sX5_rid_21, sX5_rid_22, sX5_rid_23, sX5_rid_26, sX5_rid_27, sX5_rid_28, sX5_rid_31, sX5_rid_34, sX5_rid_37, sX5_rid_38, sX5_rid_39, sX5_rid_40, sX5_rid_41, sX5_rid_43, sX5_rid_44, sX5_rid_48, sX5_rid_49, sX5_rid_52, sX5_rid_54, sX5_rid_55, sX5_rid_56, sX5_rid_57, sX5_rid_58, sX5_rid_61, sX5_rid_62, sX5_rid_64, sX5_rid_65, sX5_rid_68, sX5_rid_70, sX5_rid_72, sX5_rid_74, sX5_rid_77, sX5_rid_79, sX5_rid_81, sX5_rid_83, sX5_rid_84, sX5_rid_87, sX5_rid_90, sX5_rid_91, opK_some, guK_true, calK_some, rk_nil, rk_int, rk_ref, tl_some, tl_none, nb_int, nb_0, nb_1, nb_if, nb_if', q0, C_x_isDays, hx, if_true, if_false, zero_eq, C_xf0]
    · rw [nX6_rid]
      simp only [sX6_rid_0, sX6_rid_1, sX6_rid_2, sX6_rid_3, sX6_rid_4, sX6_rid_7, sX6_rid_8, sX6_rid_9, sX6_rid_12, sX6_rid_13, sX6_rid_14, sX6_rid_17, sX6_rid_18, sX6_rid_19, sX6_rid_22, sX6_rid_23, sX6_rid_26, sX6_rid_29, sX6_rid_30, sX6_rid_31, sX6_rid_34, sX6_rid_35, sX6_rid_36, sX6_rid_38, sX6_rid_39, sX6_rid_41, sX6_rid_42, sX6_rid_46, sX6_rid_47, sX6_rid_50, sX6_rid_52, sX6_rid_53, sX6_rid_54, sX6_rid_55, sX6_rid_56, sX6_rid_59, sX6_rid_60, sX6_rid_63, sX6_rid_64, sX6_rid_65, sX6_rid_66, sX6_rid_67, sX6_rid_71, sX6_rid_74, sX6_rid_76, sX6_rid_77, sX6_rid_80, sX6_rid_82, sX6_rid_84, sX6_rid_85, sX6_rid_86, sX6_rid_89, sX6_rid_92, sX6_rid_93, sX6_rid_95, sX6_rid_96, sX6_rid_99, sX6_rid_102, sX6_rid_106, sX6_rid_107, sX6_rid_110, sX6_rid_111, sX6_rid_112, sX6_rid_115, sX6_rid_117, sX6_rid_119, sX6_rid_122, sX6_rid_124, sX6_rid_126, sX6_rid_129, sX6_rid_131, sX6_rid_133, sX6_rid_135, sX6_rid_137, sX6_rid_140, sX6_rid_143, sX6_rid_145, opK_some, guK_true, calK_some, rk_nil, rk_int, rk_ref, tl_some, tl_none, nb_int, nb_0, nb_1, nb_if, nb_if', q130, hr (M := fX M 0) (by rw [fX_131]; exact w), hx, not_false_eq_true, if_true, if_false, m1_ne, C_mf0]

