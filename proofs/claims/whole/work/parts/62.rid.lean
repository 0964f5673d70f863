/-! rid: those that leave, from the end -/
def RI (r : Rw) (s i : Nat) (q : Rw) : Prop := WX q 9999 ∧ (q 1 = r 1 ∧ q 2 = r 2 ∧ q 3 = r 3) ∧ q 4 = nI (i + (gs r s i (nC r - i)).length) ∧ (∀ k, k < i → q (88 + k) = r (88 + k)) ∧ (∀ k, k < (gs r s i (nC r - i)).length → q (88 + (i + k)) = nI (lrow (gs r s i (nC r - i)) k)) ∧ Zr r s (fun k => i ≤ k ∧ k < nC r) q ∧ ∀ j, 132 ≤ j → q j = r j
theorem gs_len (r : Rw) (s : Nat) : ∀ m i, (gs r s i m).length ≤ m := by
  intro m
  induction m with
  | zero => intro i; exact Nat.le_refl _
  | succ m ih =>
    intro i
    have := ih (i + 1)
    show (if s.testBit (cr r i) then gs r s (i + 1) m else cr r i :: gs r s (i + 1) m).length ≤ m + 1
    split
    · omega
    · show (gs r s (i + 1) m).length + 1 ≤ m + 1
      omega
abbrev tkQ (s k : Nat) (q : Rw) : Rw := if s.testBit (cr q k) then leavR q k 0 else q
theorem leav_mid {r : Rw} {i j : Nat} {x : Int32} (h1 : 18 ≤ j) (h2 : j < 88) : leavR r i x j = becR r (cr r i) x j := by
  unfold leavR
  rw [if_neg (by omega), if_neg (by omega), if_neg (by omega)]
theorem RI_cr {r q : Rw} {s i k : Nat} (h : RI r s i q) (hk : k < i) : cr q k = cr r k := by
  unfold cr
  rw [h.2.2.2.1 k hk]
theorem RI_step {r q : Rw} {s k : Nat} (w : WR r) (hk : k < nC r) (h : RI r s (k + 1) q) : RI r s k (tkQ s k q) := by
  have ec := RI_cr h (Nat.lt_succ_self k)
  obtain ⟨wx, lo, n4, up, tl, z, hi⟩ := h
  have c8 := wr_C w
  obtain ⟨ht, et⟩ := wr_cr w hk
  have gl := gs_len r s (nC r - (k + 1)) (k + 1)
  have en : nC q = k + 1 + (gs r s (k + 1) (nC r - (k + 1))).length := by
    unfold nC
    rw [n4]
    exact iN_nI (by omega)
  have hI : ∀ j, (k ≤ j ∧ j < nC r) ↔ (k + 1 ≤ j ∧ j < nC r) ∨ j = k := fun j => by omega
  have em : nC r - k = nC r - (k + 1) + 1 := by omega
  have htq : cr q k < 10 := by rw [ec]; exact ht
  show RI r s k (if s.testBit (cr q k) then leavR q k 0 else q)
  rw [ec]
  by_cases hb : s.testBit (cr r k) = true
  · have eg : gs r s k (nC r - k) = gs r s (k + 1) (nC r - (k + 1)) := by rw [em]; exact if_pos hb
    rw [if_pos hb]
    refine ⟨⟨WR_leav wx.1 (by omega), ?_, ?_⟩, ⟨?_, ?_, ?_⟩, ?_, ?_, ?_, ?_, ?_⟩
    · rw [leav_lo (by omega) (by omega) htq]; exact wx.2.1
    · rw [leav_lo (by omega) (by omega) htq, leav_lo (by omega) (by omega) htq]; exact wx.2.2
    · rw [leav_lo (by omega) (by omega) htq]; exact lo.1
    · rw [leav_lo (by omega) (by omega) htq]; exact lo.2.1
    · rw [leav_lo (by omega) (by omega) htq]; exact lo.2.2
    · rw [eg, leav_4, n4, pk_sub1 (by omega)]
      congr 1
      omega
    · intro i hik
      rw [leav_dn hik (by omega) htq]
      exact up i (by omega)
    · intro i hik
      rw [eg] at hik ⊢
      rw [leav_up (by omega) (by omega)]
      have := tl i hik
      rw [show 88 + (k + i + 1) = 88 + (k + 1 + i) by omega]
      exact this
    · exact Zr_yes z hb hI (fun j h1 h2 => by rw [leav_mid h1 h2, ec])
    · intro j hj
      rw [leav_hi (by omega) (by omega) (by omega) htq]
      exact hi j hj
  · have eg : gs r s k (nC r - k) = cr r k :: gs r s (k + 1) (nC r - (k + 1)) := by rw [em]; exact if_neg hb
    rw [if_neg hb]
    refine ⟨wx, lo, ?_, fun i hik => up i (by omega), ?_, Zr_no z hb hI (fun _ _ _ => rfl), hi⟩
    · rw [n4, eg]
      congr 1
      show k + 1 + _ = k + (_ + 1)
      omega
    · intro i hik
      rw [eg] at hik ⊢
      cases i with
      | zero =>
        show q (88 + (k + 0)) = nI (cr r k)
        rw [Nat.add_zero, up k (by omega)]
        exact et
      | succ i =>
        have hik' : i < (gs r s (k + 1) (nC r - (k + 1))).length := Nat.lt_of_succ_lt_succ hik
        have := tl i hik'
        rw [show 88 + (k + (i + 1)) = 88 + (k + 1 + i) by omega]
        exact this
theorem RI_n {r : Rw} {s : Nat} (w : WX r 9999) : RI r s (nC r) r := by
  have e : gs r s (nC r) (nC r - nC r) = [] := by rw [Nat.sub_self]; rfl
  refine ⟨w, ⟨rfl, rfl, rfl⟩, ?_, fun _ _ => rfl, fun k hk => ?_, fun j _ _ => ⟨fun hz => ?_, fun _ => rfl⟩, fun _ _ => rfl⟩
  · rw [e]
    exact (wr_C w.1).2
  · rw [e] at hk
    exact absurd hk (Nat.not_lt_zero k)
  · obtain ⟨k, hk, _⟩ := hz
    omega
theorem RI_TO {r F : Rw} {s : Nat} (h : RI r s 0 F) : TO r s F := by
  obtain ⟨wx, lo, n4, up, tl, z, hi⟩ := h
  have e : gs r s 0 (nC r - 0) = fc r s (nC r) := by
    have := fc_gs r s (nC r) 0
    rw [Nat.zero_add] at this
    rw [← this, Nat.sub_zero]
    rfl
  rw [e, Nat.zero_add] at n4
  rw [e] at tl
  refine ⟨lo, n4, fun k hk => ?_, fun j h1 h2 => ?_⟩
  · have := tl k hk
    rw [Nat.zero_add] at this
    exact this
  · have hiff : zq r s (fun k => k < nC r) j ↔ zq r s (fun k => 0 ≤ k ∧ k < nC r) j := by
      constructor
      · rintro ⟨k, hk, hr⟩
        exact ⟨k, ⟨Nat.zero_le k, hk⟩, hr⟩
      · rintro ⟨k, hk, hr⟩
        exact ⟨k, hk.2, hr⟩
    exact ⟨fun y => (z j h1 h2).1 (hiff.mp y), fun y => (z j h1 h2).2 (fun x => y (hiff.mpr x))⟩
/-- behind m that were looked at from the end -/
def tkS (r : Rw) (s : Nat) : Nat → Rw
  | 0 => r
  | m + 1 => tkQ s (nC r - (m + 1)) (tkS r s m)
theorem lv_RI {r : Rw} {s : Nat} (w : WX r 9999) : ∀ m, m ≤ nC r → RI r s (nC r - m) (tkS r s m) := by
  intro m
  induction m with
  | zero => intro _; exact RI_n w
  | succ m ih =>
    intro hm
    have h := ih (by omega)
    rw [show nC r - m = nC r - (m + 1) + 1 by omega] at h
    exact RI_step w.1 (by omega) h
abbrev toF (r : Rw) (s : Nat) : Rw := tkS r s (nC r)
theorem toF_RI {r : Rw} {s : Nat} (w : WX r 9999) : RI r s 0 (toF r s) := by
  have := lv_RI (s := s) w (nC r) (Nat.le_refl _)
  rw [Nat.sub_self] at this
  exact this
def ixI : Nat → Int32
  | 0 => -1
  | k + 1 => nI k
theorem ix_dn (k : Nat) : nI k + (-1) = ixI k := by
  cases k with
  | zero => decide
  | succ k => exact pk_m1 k
theorem L_leave {d s : Nat} {r : Rw} {v1 v2 v3 v4 v5 : Option Value} (w : WX r 9999) (hs : s < 2 ^ 31) : ∀ (k : Nat) (M1 : Mem), k ≤ nC r → M1 131 = tkS r s (nC r - k) →
    ∃ M', lim (call (d + 6)) none 6 cX6_rid (some .int) 69 [some (.ref 130), v1, v2, v3, v4, v5, some (.int (nI s)), some (.int (ixI k))] [] M1 = lim (call (d + 6)) none 6 cX6_rid (some .int) 105 [some (.ref 130), v1, v2, v3, v4, v5, some (.int (nI s)), some (.int (-1))] [] M' ∧ Mo M1 M' ∧ M' 131 = toF r s := by
  have c8 := wr_C w.1
  intro k
  induction k with
  | zero =>
    intro M1 hk e1
    rw [sX6_rid_69]
    simp only [sX6_rid_0, sX6_rid_1, sX6_rid_2, sX6_rid_3, sX6_rid_4, sX6_rid_7, sX6_rid_8, sX6_rid_9, sX6_rid_12, sX6_rid_13, sX6_rid_14, sX6_rid_17, sX6_rid_18, sX6_rid_19, sX6_rid_22, sX6_rid_23, sX6_rid_26, sX6_rid_29, sX6_rid_30, sX6_rid_31, sX6_rid_34, sX6_rid_35, sX6_rid_36, sX6_rid_38, sX6_rid_39, sX6_rid_41, sX6_rid_42, sX6_rid_46, sX6_rid_47, sX6_rid_50, sX6_rid_52, sX6_rid_53, sX6_rid_54, sX6_rid_55, sX6_rid_56, sX6_rid_59, sX6_rid_60, sX6_rid_63, sX6_rid_64, sX6_rid_65, sX6_rid_66, sX6_rid_67, sX6_rid_71, sX6_rid_74, sX6_rid_76, sX6_rid_77, sX6_rid_80, sX6_rid_82, sX6_rid_84, sX6_rid_85, sX6_rid_86, sX6_rid_89, sX6_rid_92, sX6_rid_93, sX6_rid_95, sX6_rid_96, sX6_rid_99, sX6_rid_102, sX6_rid_106, sX6_rid_107, sX6_rid_110, sX6_rid_111, sX6_rid_112, sX6_rid_115, sX6_rid_117, sX6_rid_119, sX6_rid_122, sX6_rid_124, sX6_rid_126, sX6_rid_129, sX6_rid_131, sX6_rid_133, sX6_rid_135, sX6_rid_137, sX6_rid_140, sX6_rid_143, sX6_rid_145, opK_some, guK_true, calK_some, rk_nil, rk_int, rk_ref, tl_some, tl_none, nb_int, nb_0, nb_1, nb_if, nb_if']
    rw [show ixI 0 = -1 from rfl, if_pos (by decide)]
    exact ⟨M1, rfl, Mo.rf, e1⟩
  | succ k ih =>
    intro M1 hk e1
    have hRI := lv_RI (s := s) w (nC r - (k + 1)) (by omega)
    rw [show nC r - (nC r - (k + 1)) = k + 1 by omega] at hRI
    have ec := RI_cr hRI (Nat.lt_succ_self k)
    obtain ⟨ht, et⟩ := wr_cr w.1 (i := k) (by omega)
    have eup : tkS r s (nC r - (k + 1)) (88 + k) = nI (cr r k) := by rw [hRI.2.2.2.1 k (by omega)]; exact et
    have enx : tkS r s (nC r - k) = tkQ s k (tkS r s (nC r - (k + 1))) := by
      rw [show nC r - k = nC r - (k + 1) + 1 by omega]
      show tkQ s (nC r - (nC r - (k + 1) + 1)) _ = _
      rw [show nC r - (nC r - (k + 1) + 1) = k by omega]
    have enC : k < nC (tkS r s (nC r - (k + 1))) := by
      have gl := gs_len r s (nC r - (k + 1)) (k + 1)
      show k < iN (tkS r s (nC r - (k + 1)) 4)
      rw [hRI.2.2.1, iN_nI (by omega)]
      omega
    have hn : ¬ nI k < 0 := nI_nlt (b := 0) (by omega) (by omega)
    rw [sX6_rid_69]
    simp only [sX6_rid_0, sX6_rid_1, sX6_rid_2, sX6_rid_3, sX6_rid_4, sX6_rid_7, sX6_rid_8, sX6_rid_9, sX6_rid_12, sX6_rid_13, sX6_rid_14, sX6_rid_17, sX6_rid_18, sX6_rid_19, sX6_rid_22, sX6_rid_23, sX6_rid_26, sX6_rid_29, sX6_rid_30, sX6_rid_31, sX6_rid_34, sX6_rid_35, sX6_rid_36, sX6_rid_38, sX6_rid_39, sX6_rid_41, sX6_rid_42, sX6_rid_46, sX6_rid_47, sX6_rid_50, sX6_rid_52, sX6_rid_53, sX6_rid_54, sX6_rid_55, sX6_rid_56, sX6_rid_59, sX6_rid_60, sX6_rid_63, sX6_rid_64, sX6_rid_65, sX6_rid_66, sX6_rid_67, sX6_rid_71, sX6_rid_74, sX6_rid_76, sX6_rid_77, sX6_rid_80, sX6_rid_82, sX6_rid_84, sX6_rid_85, sX6_rid_86, sX6_rid_89, sX6_rid_92, sX6_rid_93, sX6_rid_95, sX6_rid_96, sX6_rid_99, sX6_rid_102, sX6_rid_106, sX6_rid_107, sX6_rid_110, sX6_rid_111, sX6_rid_112, sX6_rid_115, sX6_rid_117, sX6_rid_119, sX6_rid_122, sX6_rid_124, sX6_rid_126, sX6_rid_129, sX6_rid_131, sX6_rid_133, sX6_rid_135, sX6_rid_137, sX6_rid_140, sX6_rid_143, sX6_rid_145, opK_some, guK_true, calK_some, rk_nil, rk_int, rk_ref, tl_some, tl_none, nb_int, nb_0, nb_1, nb_if, nb_if', show ixI (k + 1) = nI k from rfl, hn, if_false, o130_0, a131, I88, inb_nI (show 88 + k < 132 by omega) (by omega), nI_clamp (show 88 + k < 2 ^ 31 by omega), e1, eup, C_m_has, hb_v hs (show cr r k < 32 by omega)]
    by_cases hb : s.testBit (cr r k) = true
    · have eq_ : tkQ s k (tkS r s (nC r - (k + 1))) = leavR (tkS r s (nC r - (k + 1))) k 0 := if_pos (by rw [ec]; exact hb)
      have c1 := C_m_leaves (d := d + 3) (M := M1) (i := k) (x := 0) (by rw [e1]; exact hRI.1.1) (by rw [e1]; exact enC)
      rw [show d + 3 + 3 = d + 6 from rfl] at c1
      rw [e1] at c1
      simp only [sX6_rid_0, sX6_rid_1, sX6_rid_2, sX6_rid_3, sX6_rid_4, sX6_rid_7, sX6_rid_8, sX6_rid_9, sX6_rid_12, sX6_rid_13, sX6_rid_14, sX6_rid_17, sX6_rid_18, sX6_rid_19, sX6_rid_22, sX6_rid_23, sX6_rid_26, sX6_rid_29, sX6_rid_30, sX6_rid_31, sX6_rid_34, sX6_rid_35, sX6_rid_36, sX6_rid_38, sX6_rid_39, sX6_rid_41, sX6_rid_42, sX6_rid_46, sX6_rid_47, sX6_rid_50, sX6_rid_52, sX6_rid_53, sX6_rid_54, sX6_rid_55, sX6_rid_56, sX6_rid_59, sX6_rid_60, sX6_rid_63, sX6_rid_64, sX6_rid_65, sX6_rid_66, sX6_rid_67, sX6_rid_71, sX6_rid_74, sX6_rid_76, sX6_rid_77, sX6_rid_80, sX6_rid_82, sX6_rid_84, sX6_rid_85, sX6_rid_86, sX6_rid_89, sX6_rid_92, sX6_rid_93, sX6_rid_95, sX6_rid_96, sX6_rid_99, sX6_rid_102, sX6_rid_106, sX6_rid_107, sX6_rid_110, sX6_rid_111, sX6_rid_112, sX6_rid_115, sX6_rid_117, sX6_rid_119, sX6_rid_122, sX6_rid_124, sX6_rid_126, sX6_rid_129, sX6_rid_131, sX6_rid_133, sX6_rid_135, sX6_rid_137, sX6_rid_140, sX6_rid_143, sX6_rid_145, opK_some, guK_true, calK_some, rk_nil, rk_int, rk_ref, tl_some, tl_none, nb_int, nb_0, nb_1, nb_if, nb_if', q130, hb, if_true, one_eq, one_ne, if_false, c1, ix_dn]
      obtain ⟨M2, c2, o2, r2⟩ := ih (mrow M1 131 (leavR (tkS r s (nC r - (k + 1))) k 0)) (by omega) (by rw [mrow_at, enx, eq_])
      exact ⟨M2, c2, Mo.row.tr o2, r2⟩
    · have eq_ : tkQ s k (tkS r s (nC r - (k + 1))) = tkS r s (nC r - (k + 1)) := if_neg (by rw [ec]; exact hb)
      simp only [hb, if_false, zero_ne, zero_eq, if_true, Bool.false_eq_true, ix_dn]
      exact ih M1 (by omega) (by rw [e1, enx, eq_])
theorem bN_00 {r : Rw} {row : Nat → Nat} : ∀ k, bN r row 0 k = dN r k ∧ bF r row 0 k = dN r k := by
  intro k
  induction k with
  | zero => exact ⟨rfl, if_neg (fun z => absurd z.1 (by omega))⟩
  | succ k ih =>
    have e : bN r row 0 (k + 1) = dN r (k + 1) := by
      show dayR (bF r row 0 k) = dayR (dN r k)
      rw [ih.2]
    exact ⟨e, by rw [← e]; exact if_neg (fun z => absurd z.1 (by omega))⟩
theorem bS_00 {r : Rw} {row : Nat → Nat} {n : Nat} : bS r row 0 n = sW r n := sm_cg n (fun k _ => by rw [(bN_00 k).2])

