/-! calls: lent -/
abbrev zN (z : Int32) : Int32 := z * 1103515245 + 12345
abbrev dT (z : Int32) (T : Nat) : Nat := z.toBitVec.toNat / 256 % T
theorem ush_8 (z : Int32) : (z.toUInt32 >>> ((8 : Int32).toUInt32 &&& Int32.toUInt32 31)).toInt32 = nI (z.toBitVec.toNat / 256) := by
  have e := pk_ushr z 8 8 (by decide)
  apply Int32.toBitVec_inj.1
  apply BitVec.eq_of_toNat_eq
  have hl := z.toBitVec.isLt
  rw [e, pk_tn (by omega)]
theorem dr_e {z : Int32} {T : Nat} (h0 : 0 < T) (hT : T < 2 ^ 31) : nI (z.toBitVec.toNat / 256) - nI (z.toBitVec.toNat / 256) / nI T * nI T = nI (dT z T) := by
  have hl := z.toBitVec.isLt
  exact pk_rem (by omega) h0 hT
/-- behind the draw; fed; behind the day -/
abbrev lzR (q : Rw) : Rw := upd q 7 (zN (q 7))
abbrev ltR (q : Rw) : Nat := dT (zN (q 7)) (nT q)
abbrev lcP (q : Rw) : Prop := q (at9 (ltR q) 4) = 0 ∧ roomR (lzR q) (ltR q)
def lfR (q : Rw) : Rw := if lcP q then feedR (lzR q) (ltR q) else lzR q
def leN (r : Rw) : Nat → Rw
  | 0 => r
  | k + 1 => dayR (lfR (leN r k))
def leS (r : Rw) (n : Nat) : Int32 := sm (fun k => worD (lfR (leN r k))) n
theorem lz_ne {q : Rw} {j : Nat} (h : j ≠ 7) : lzR q j = q j := upd_ne h
theorem lz_T {q : Rw} : nT (lzR q) = nT q := by
  show iN (lzR q 3) = iN (q 3)
  rw [lz_ne (by omega)]
theorem lz_at {q : Rw} {t f : Nat} : lzR q (at9 t f) = q (at9 t f) := upd_ne (by have := at9_ge t f; omega)
theorem IR_lz {q : Rw} {m : Nat} (w : WX q m) (k : KR q) : WX (lzR q) m ∧ KR (lzR q) :=
  ⟨⟨WR_cong w.1 (fun j hj => lz_ne (by omega)), by rw [lz_ne (by omega)]; exact w.2.1, by rw [lz_ne (by omega), lz_ne (by omega)]; exact w.2.2⟩, KR_cong w.1 k (fun j hj => lz_ne (by omega))⟩
theorem lt_lt {q : Rw} (h0 : 0 < nT q) : ltR q < nT q := Nat.mod_lt _ h0
theorem IR_lf {q : Rw} {m : Nat} (w : WX q m) (k : KR q) (h0 : 0 < nT q) : WX (lfR q) m ∧ KR (lfR q) ∧ nT (lfR q) = nT q := by
  have hT := wr_T w.1
  obtain ⟨wz, kz⟩ := IR_lz w k
  have hl := lt_lt h0
  unfold lfR
  by_cases c : lcP q
  · rw [if_pos c]
    refine ⟨WX_feed wz (by omega) c.2.1, KR_feed wz.1 kz (by rw [lz_T]; exact hl) (by rw [lz_at]; exact c.1) c.2.1, ?_⟩
    have e3 : feedR (lzR q) (ltR q) 3 = q 3 := by
      rw [feed_lo (by omega) (by omega) (by omega)]
      exact lz_ne (by omega)
    show iN (feedR (lzR q) (ltR q) 3) = iN (q 3)
    rw [e3]
  · rw [if_neg c]
    exact ⟨wz, kz, lz_T⟩
theorem IR_le {r : Rw} {m : Nat} (w : WX r m) (k : KR r) (h0 : 0 < nT r) : ∀ n, m + n < 2 ^ 31 → WX (leN r n) (m + n) ∧ KR (leN r n) ∧ nT (leN r n) = nT r := by
  intro n
  induction n with
  | zero => intro _; exact ⟨w, k, rfl⟩
  | succ n ih =>
    intro hm
    obtain ⟨w1, k1, t1⟩ := ih (by omega)
    obtain ⟨w2, k2, t2⟩ := IR_lf w1 k1 (by omega)
    refine ⟨WX_day w2 (by omega), KR_day w2.1 k2, ?_⟩
    have e3 : dayR (lfR (leN r n)) 3 = lfR (leN r n) 3 := day_hi w2.1 (by omega)
    show iN (dayR (lfR (leN r n)) 3) = nT r
    rw [e3]
    exact t2.trans t1
theorem FR_z {M : Mem} {q : Rw} {v : Int32} (h : FR M 100 q) (w : WR q) : FR (mset M 100 2 v) 100 (upd q 7 v) := by
  obtain ⟨f0, f1, f2, f3⟩ := h
  have h1 : HR (mset M 100 2 v) 10 q := HR_ou f0 (fun k a b => mset_ne (by omega))
  refine ⟨HR_congr h1 (wr_C w).1 (fun j hj => upd_ne (by omega)), ?_, fun c hc i hi hl => ?_, fun s hs => ?_⟩
  · rw [mset_at]
    refine ⟨?_, ?_, ?_, ?_⟩
    · rw [upd_ne (by omega), upd_ne (by omega)]; exact f1.1
    · rw [upd_at, upd_at]
    · rw [upd_ne (by omega), upd_ne (by omega)]; exact f1.2.2.1
    · rw [upd_ne (by omega), upd_ne (by omega)]; exact f1.2.2.2
  · rw [upd_ne (by omega)] at hl
    rw [mset_ne (by omega), f2 c hc i hi hl]
    unfold egR
    rw [upd_ne (show 5 ≠ 7 by omega), upd_ne (by omega)]
  · rw [mset_ne (by omega), upd_ne (by omega)]
    exact f3 s hs
theorem L_lent {d n m : Nat} {M : Mem} {r : Rw} (w : WX r m) (k : KR r) (h0 : 0 < nT r) (hm : m + n < 2 ^ 31 - 1) : ∀ (c i : Nat) (M1 : Mem) (v : Option Value), i + c = n → FR M1 100 (leN r i) → Fo 100 M M1 →
    ∃ M', lim (call (d + 4)) none 5 cX5_lent (some .int) 50 [some (.ref 0), some (.int (nI n)), some (.int (nI (nT r))), some (.int (leS r i)), some (.int (nI i)), v] [] M1 = some (some (.int (leS r n)), M') ∧ FR M' 100 (leN r n) ∧ Fo 100 M M' := by
  intro c
  induction c with
  | zero =>
    intro i M1 v hi h o
    obtain rfl : i = n := by omega
    rw [sX5_lent_50]
    simp only [sX5_lent_0, sX5_lent_1, sX5_lent_2, sX5_lent_4, sX5_lent_7, sX5_lent_10, sX5_lent_11, sX5_lent_12, sX5_lent_15, sX5_lent_16, sX5_lent_17, sX5_lent_20, sX5_lent_23, sX5_lent_26, sX5_lent_27, sX5_lent_28, sX5_lent_29, sX5_lent_32, sX5_lent_35, sX5_lent_36, sX5_lent_39, sX5_lent_40, sX5_lent_41, sX5_lent_44, sX5_lent_45, sX5_lent_46, sX5_lent_47, sX5_lent_48, sX5_lent_52, sX5_lent_53, sX5_lent_56, sX5_lent_57, sX5_lent_60, sX5_lent_63, sX5_lent_64, sX5_lent_65, sX5_lent_67, sX5_lent_68, sX5_lent_71, sX5_lent_74, sX5_lent_76, sX5_lent_79, sX5_lent_82, sX5_lent_83, sX5_lent_86, sX5_lent_89, sX5_lent_91, sX5_lent_94, sX5_lent_97, sX5_lent_98, sX5_lent_101, sX5_lent_104, sX5_lent_106, sX5_lent_109, sX5_lent_110, sX5_lent_111, sX5_lent_114, sX5_lent_117, sX5_lent_118, sX5_lent_119, sX5_lent_122, sX5_lent_125, sX5_lent_126, opK_some, guK_true, calK_some, rk_nil, rk_int, rk_ref, tl_some, tl_none, nb_int, nb_0, nb_1, nb_if, nb_if']
    rw [if_pos (show nI i ≤ nI i from Int32.le_refl _)]
    exact ⟨M1, rfl, h, o⟩
  | succ c ih =>
    intro i M1 v hi h o
    obtain ⟨wi, ki, ti⟩ := IR_le w k h0 i (by omega)
    obtain ⟨q, hq⟩ : ∃ q, q = leN r i := ⟨_, rfl⟩
    rw [← hq] at h wi ki ti
    have hT := wr_T wi.1
    obtain ⟨wz, kz⟩ := IR_lz wi ki
    obtain ⟨wf, kf, tf⟩ := IR_lf wi ki (by omega)
    have hl := lt_lt (q := q) (by omega)
    have t10 : ltR q < 10 := by omega
    rw [← ti] at ih ⊢
    have ez : M1 100 2 = q 7 := h.2.1.2.1
    obtain ⟨M2, hM2⟩ : ∃ M2, M2 = mset M1 100 2 (zN (q 7)) := ⟨_, rfl⟩
    have f2 : FR M2 100 (lzR q) := by rw [hM2]; exact FR_z h wi.1
    have o2 : Fo 100 M1 M2 := fun k h1 h2 => by rw [hM2]; exact mset_ne (by omega)
    have ez2 : M2 100 2 = zN (q 7) := by rw [hM2, mset_at, upd_at]
    have cd : call (d + 4) 84 [.ref 100] M1 = some (some (.int (nI ((zN (q 7)).toBitVec.toNat / 256))), M2) := by
      rw [show d + 4 = d + 3 + 1 from rfl, nX0_draw]
      simp only [sX0_draw_0, sX0_draw_1, sX0_draw_2, sX0_draw_5, sX0_draw_7, sX0_draw_8, sX0_draw_11, sX0_draw_15, sX0_draw_16, sX0_draw_19, sX0_draw_21, sX0_draw_22, opK_some, guK_true, calK_some, rk_nil, rk_int, rk_ref, tl_some, tl_none, nb_int, nb_0, nb_1, nb_if, nb_if', fs_2 farm100, ez]
      rw [sX0_draw_12]
      simp only [sX0_draw_0, sX0_draw_1, sX0_draw_2, sX0_draw_5, sX0_draw_7, sX0_draw_8, sX0_draw_11, sX0_draw_15, sX0_draw_16, sX0_draw_19, sX0_draw_21, sX0_draw_22, opK_some, guK_true, calK_some, rk_nil, rk_int, rk_ref, tl_some, tl_none, nb_int, nb_0, nb_1, nb_if, nb_if', fs_2 farm100, fi_2 farm100]
      rw [← hM2, ez2, ush_8]
    have co := C_isOut (d := d + 3) hen10 f2.1 t10
    rw [show d + 3 + 1 = d + 4 from rfl] at co
    rw [lz_at] at co
    have ch := C_hasRoom (d := d + 2) hen10 f2.1 wz.1 t10
    rw [show d + 2 + 2 = d + 4 from rfl] at ch
    have end_ : ∀ M3 : Mem, FR M3 100 (lfR q) → Fo 100 M M3 → ∃ M', lim (call (d + 4)) none 5 cX5_lent (some .int) 109 [some (.ref 0), some (.int (nI n)), some (.int (nI (nT q))), some (.int (leS r i)), some (.int (nI i)), some (.int (nI (ltR q)))] [] M3 = some (some (.int (leS r n)), M') ∧ FR M' 100 (leN r n) ∧ Fo 100 M M' := by
      intro M3 f3 o3
      obtain ⟨M4, c4, f4, o4⟩ := C_liveDay (d := d + 0) farm100 f3 wf (by omega)
      rw [show d + 0 + 4 = d + 4 from rfl] at c4
      have es : leS r i + worD (lfR q) = leS r (i + 1) := by rw [hq]; rfl
      rw [sX5_lent_109]
      simp only [sX5_lent_0, sX5_lent_1, sX5_lent_2, sX5_lent_4, sX5_lent_7, sX5_lent_10, sX5_lent_11, sX5_lent_12, sX5_lent_15, sX5_lent_16, sX5_lent_17, sX5_lent_20, sX5_lent_23, sX5_lent_26, sX5_lent_27, sX5_lent_28, sX5_lent_29, sX5_lent_32, sX5_lent_35, sX5_lent_36, sX5_lent_39, sX5_lent_40, sX5_lent_41, sX5_lent_44, sX5_lent_45, sX5_lent_46, sX5_lent_47, sX5_lent_48, sX5_lent_52, sX5_lent_53, sX5_lent_56, sX5_lent_57, sX5_lent_60, sX5_lent_63, sX5_lent_64, sX5_lent_65, sX5_lent_67, sX5_lent_68, sX5_lent_71, sX5_lent_74, sX5_lent_76, sX5_lent_79, sX5_lent_82, sX5_lent_83, sX5_lent_86, sX5_lent_89, sX5_lent_91, sX5_lent_94, sX5_lent_97, sX5_lent_98, sX5_lent_101, sX5_lent_104, sX5_lent_106, sX5_lent_110, sX5_lent_111, sX5_lent_114, sX5_lent_117, sX5_lent_118, sX5_lent_119, sX5_lent_122, sX5_lent_125, sX5_lent_126, opK_some, guK_true, calK_some, rk_nil, rk_int, rk_ref, tl_some, tl_none, nb_int, nb_0, nb_1, nb_if, nb_if', o0_0, farm_c farm100, c4, nI_1, es]
      exact ih (i + 1) M4 _ (by omega) (by rw [hq] at f4; exact f4) (fun k h1 h2 => (o4 k h1 h2).trans (o3 k h1 h2))
    have o12 : Fo 100 M M2 := fun k h1 h2 => (o2 k h1 h2).trans (o k h1 h2)
    rw [sX5_lent_50]
    simp only [sX5_lent_0, sX5_lent_1, sX5_lent_2, sX5_lent_4, sX5_lent_7, sX5_lent_10, sX5_lent_11, sX5_lent_12, sX5_lent_15, sX5_lent_16, sX5_lent_17, sX5_lent_20, sX5_lent_23, sX5_lent_26, sX5_lent_27, sX5_lent_28, sX5_lent_29, sX5_lent_32, sX5_lent_35, sX5_lent_36, sX5_lent_39, sX5_lent_40, sX5_lent_41, sX5_lent_44, sX5_lent_45, sX5_lent_46, sX5_lent_47, sX5_lent_48, sX5_lent_52, sX5_lent_53, sX5_lent_56, sX5_lent_57, sX5_lent_60, sX5_lent_63, sX5_lent_64, sX5_lent_65, sX5_lent_67, sX5_lent_68, sX5_lent_71, sX5_lent_74, sX5_lent_76, sX5_lent_79, sX5_lent_82, sX5_lent_83, sX5_lent_86, sX5_lent_89, sX5_lent_91, sX5_lent_94, sX5_lent_97, sX5_lent_98, sX5_lent_101, sX5_lent_104, sX5_lent_106, sX5_lent_110, sX5_lent_111, sX5_lent_114, sX5_lent_117, sX5_lent_118, sX5_lent_119, sX5_lent_122, sX5_lent_125, sX5_lent_126, opK_some, guK_true, calK_some, rk_nil, rk_int, rk_ref, tl_some, tl_none, nb_int, nb_0, nb_1, nb_if, nb_if', o0_0, o100_0, farm_c farm100, hen_c hen10, cd, dr_e (show 0 < nT q by omega) (by omega), show decide (¬ (nI (nT q) = 0)) = true from decide_eq_true (fun z => absurd (nI_inj (i := nT q) (j := 0) (by omega) (by omega) z) (by omega)), co, ch]
    rw [if_neg (show ¬ nI n ≤ nI i from nI_ge (by omega) (by omega))]
    by_cases h1 : q (at9 (ltR q) 4) = 0
    · by_cases h2 : roomR (lzR q) (ltR q)
      · have ef : lfR q = feedR (lzR q) (ltR q) := if_pos ⟨h1, h2⟩
        obtain ⟨M3, c3, h3, o3⟩ := C_swallow (d := d + 2) hen10 f2.1 wz.1 t10 h2.1
        rw [show d + 2 + 2 = d + 4 from rfl] at c3
        have n8 := (wr_lt8 wz.1).mp h2.1
        have f3 : FR M3 100 (feedR (lzR q) (ltR q)) := FR_hen f2 h3 (fun k a _ => o3 k (by omega)) (fun j hj => by
          by_cases c : j < 18
          · exact feed_lo t10 c (by omega)
          · exact feed_hi t10 n8 (by omega))
        rw [if_pos h1, if_neg (by decide), if_pos h2, if_neg (by decide)]
        simp only [sX5_lent_0, sX5_lent_1, sX5_lent_2, sX5_lent_4, sX5_lent_7, sX5_lent_10, sX5_lent_11, sX5_lent_12, sX5_lent_15, sX5_lent_16, sX5_lent_17, sX5_lent_20, sX5_lent_23, sX5_lent_26, sX5_lent_27, sX5_lent_28, sX5_lent_29, sX5_lent_32, sX5_lent_35, sX5_lent_36, sX5_lent_39, sX5_lent_40, sX5_lent_41, sX5_lent_44, sX5_lent_45, sX5_lent_46, sX5_lent_47, sX5_lent_48, sX5_lent_52, sX5_lent_53, sX5_lent_56, sX5_lent_57, sX5_lent_60, sX5_lent_63, sX5_lent_64, sX5_lent_65, sX5_lent_67, sX5_lent_68, sX5_lent_71, sX5_lent_74, sX5_lent_76, sX5_lent_79, sX5_lent_82, sX5_lent_83, sX5_lent_86, sX5_lent_89, sX5_lent_91, sX5_lent_94, sX5_lent_97, sX5_lent_98, sX5_lent_101, sX5_lent_104, sX5_lent_106, sX5_lent_110, sX5_lent_111, sX5_lent_114, sX5_lent_117, sX5_lent_118, sX5_lent_119, sX5_lent_122, sX5_lent_125, sX5_lent_126, opK_some, guK_true, calK_some, rk_nil, rk_int, rk_ref, tl_some, tl_none, nb_int, nb_0, nb_1, nb_if, nb_if', o0_0, o100_0, hen_c hen10, c3]
        exact end_ M3 (by rw [ef]; exact f3) (fun k a b => (o3 k (by omega)).trans (o12 k a b))
      · have ef : lfR q = lzR q := if_neg (fun z => h2 z.2)
        rw [if_pos h1, if_neg (by decide), if_neg h2, if_pos rfl]
        exact end_ M2 (by rw [ef]; exact f2) o12
    · have ef : lfR q = lzR q := if_neg (fun z => h1 z.1)
      rw [if_neg h1, if_pos rfl]
      exact end_ M2 (by rw [ef]; exact f2) o12
theorem L_m_lent {d n m : Nat} {M : Mem} {r : Rw} (w : WX r m) (k : KR r) (h0 : 0 < nT r) (hm : m + n < 2 ^ 31 - 1) : ∀ (c i : Nat) (M1 : Mem) (v : Option Value), i + c = n → M1 131 = leN r i → Mo M M1 →
    ∃ M', lim (call (d + 5)) none 6 cX6_lent (some .int) 45 [some (.ref 130), some (.int (nI n)), some (.int (leS r i)), some (.int (nI i)), v] [] M1 = some (some (.int (leS r n)), M') ∧ Mo M M' ∧ M' 131 = leN r n := by
  intro c
  induction c with
  | zero =>
    intro i M1 v hi e1 o
    obtain rfl : i = n := by omega
    rw [sX6_lent_45]
    simp only [sX6_lent_0, sX6_lent_1, sX6_lent_2, sX6_lent_4, sX6_lent_7, sX6_lent_10, sX6_lent_11, sX6_lent_13, sX6_lent_16, sX6_lent_17, sX6_lent_18, sX6_lent_19, sX6_lent_22, sX6_lent_25, sX6_lent_26, sX6_lent_29, sX6_lent_30, sX6_lent_31, sX6_lent_34, sX6_lent_35, sX6_lent_37, sX6_lent_40, sX6_lent_41, sX6_lent_42, sX6_lent_43, sX6_lent_44, sX6_lent_46, sX6_lent_47, sX6_lent_50, sX6_lent_51, sX6_lent_52, sX6_lent_55, sX6_lent_56, sX6_lent_57, sX6_lent_60, sX6_lent_62, sX6_lent_63, sX6_lent_65, sX6_lent_66, sX6_lent_69, sX6_lent_72, sX6_lent_73, sX6_lent_75, sX6_lent_78, sX6_lent_81, sX6_lent_82, sX6_lent_83, sX6_lent_84, sX6_lent_86, sX6_lent_89, sX6_lent_92, sX6_lent_93, sX6_lent_94, sX6_lent_95, sX6_lent_96, sX6_lent_99, sX6_lent_100, sX6_lent_101, sX6_lent_104, sX6_lent_107, sX6_lent_108, opK_some, guK_true, calK_some, rk_nil, rk_int, rk_ref, tl_some, tl_none, nb_int, nb_0, nb_1, nb_if, nb_if']
    rw [if_pos (show nI i ≤ nI i from Int32.le_refl _)]
    exact ⟨M1, rfl, o, e1⟩
  | succ c ih =>
    intro i M1 v hi e1 o
    obtain ⟨wi, ki, ti⟩ := IR_le w k h0 i (by omega)
    obtain ⟨q, hq⟩ : ∃ q, q = leN r i := ⟨_, rfl⟩
    rw [← hq] at e1 wi ki ti
    have hT := wr_T wi.1
    obtain ⟨wz, kz⟩ := IR_lz wi ki
    obtain ⟨wf, kf, tf⟩ := IR_lf wi ki (by omega)
    have hl := lt_lt (q := q) (by omega)
    have t10 : ltR q < 10 := by omega
    obtain ⟨M2, hM2⟩ : ∃ M2, M2 = mset M1 131 7 (zN (q 7)) := ⟨_, rfl⟩
    have r2 : M2 131 = lzR q := by rw [hM2, mset_at, e1]
    have o2 : Mo M1 M2 := by rw [hM2]; exact Mo.rset
    have cd : call (d + 5) 216 [.ref 130, .int (nI (nT q))] M1 = some (some (.int (nI (ltR q))), M2) := by
      have z7 : lzR q 7 = zN (q 7) := upd_at
      rw [show d + 5 = d + 4 + 1 from rfl, nX6_drawn]
      simp only [sX6_drawn_0, sX6_drawn_1, sX6_drawn_4, sX6_drawn_6, sX6_drawn_7, sX6_drawn_10, sX6_drawn_12, sX6_drawn_13, sX6_drawn_16, sX6_drawn_17, sX6_drawn_20, sX6_drawn_22, sX6_drawn_23, sX6_drawn_26, sX6_drawn_28, sX6_drawn_29, sX6_drawn_31, sX6_drawn_32, sX6_drawn_33, sX6_drawn_34, opK_some, guK_true, calK_some, rk_nil, rk_int, rk_ref, tl_some, tl_none, nb_int, nb_0, nb_1, nb_if, nb_if', o130_0, a131, ib_7_132, tn_7, e1]
      rw [sX6_drawn_21]
      simp only [sX6_drawn_0, sX6_drawn_1, sX6_drawn_4, sX6_drawn_6, sX6_drawn_7, sX6_drawn_10, sX6_drawn_12, sX6_drawn_13, sX6_drawn_16, sX6_drawn_17, sX6_drawn_20, sX6_drawn_22, sX6_drawn_23, sX6_drawn_26, sX6_drawn_28, sX6_drawn_29, sX6_drawn_31, sX6_drawn_32, sX6_drawn_33, sX6_drawn_34, opK_some, guK_true, calK_some, rk_nil, rk_int, rk_ref, tl_some, tl_none, nb_int, nb_0, nb_1, nb_if, nb_if', o130_0, a131, b131, ib_7_132, tn_7]
      rw [← hM2, r2, z7, ush_8]
      simp only [dr_e (show 0 < nT q by omega) (show nT q < 2 ^ 31 by omega), show decide (¬ (nI (nT q) = 0)) = true from decide_eq_true (fun z => absurd (nI_inj (i := nT q) (j := 0) (by omega) (by omega) z) (by omega)), guK_true]
    have e3 : q 3 = nI (nT q) := hT.2
    have co := C_m_isHow (d := d + 2) (M := M2) (x := 0) t10
    rw [show d + 2 + 3 = d + 5 from rfl] at co
    have ch := C_m_hasRoom (d := d + 1) (M := M2) (by rw [r2]; exact wz.1) t10
    rw [show d + 1 + 4 = d + 5 from rfl] at ch
    rw [r2] at ch co
    rw [lz_at] at co
    have end_ : ∀ (M3 : Mem) (x : Int32), M3 131 = lfR q → Mo M M3 → x = leS r i → ∃ M', lim (call (d + 5)) none 6 cX6_lent (some .int) 94 [some (.ref 130), some (.int (nI n)), some (.int x), some (.int (nI i)), some (.int (nI (ltR q)))] [] M3 = some (some (.int (leS r n)), M') ∧ Mo M M' ∧ M' 131 = leN r n := by
      intro M3 x r3 o3 ex
      subst ex
      obtain ⟨g1, g2⟩ := wx_5 wf (by omega)
      obtain ⟨M4, c4, o4, r4, _⟩ := C_m_day (d := d + 0) (M := M3) (e := iN (lfR q 5)) (by rw [r3]; exact wf.1) (by rw [r3]; exact g1) g2
      rw [show d + 0 + 5 = d + 5 from rfl] at c4
      rw [r3] at c4 r4
      have es : leS r i + worD (lfR q) = leS r (i + 1) := by rw [hq]; rfl
      rw [sX6_lent_94]
      simp only [sX6_lent_0, sX6_lent_1, sX6_lent_2, sX6_lent_4, sX6_lent_7, sX6_lent_10, sX6_lent_11, sX6_lent_13, sX6_lent_16, sX6_lent_17, sX6_lent_18, sX6_lent_19, sX6_lent_22, sX6_lent_25, sX6_lent_26, sX6_lent_29, sX6_lent_30, sX6_lent_31, sX6_lent_34, sX6_lent_35, sX6_lent_37, sX6_lent_40, sX6_lent_41, sX6_lent_42, sX6_lent_43, sX6_lent_44, sX6_lent_46, sX6_lent_47, sX6_lent_50, sX6_lent_51, sX6_lent_52, sX6_lent_55, sX6_lent_56, sX6_lent_57, sX6_lent_60, sX6_lent_62, sX6_lent_63, sX6_lent_65, sX6_lent_66, sX6_lent_69, sX6_lent_72, sX6_lent_73, sX6_lent_75, sX6_lent_78, sX6_lent_81, sX6_lent_82, sX6_lent_83, sX6_lent_84, sX6_lent_86, sX6_lent_89, sX6_lent_92, sX6_lent_93, sX6_lent_95, sX6_lent_96, sX6_lent_99, sX6_lent_100, sX6_lent_101, sX6_lent_104, sX6_lent_107, sX6_lent_108, opK_some, guK_true, calK_some, rk_nil, rk_int, rk_ref, tl_some, tl_none, nb_int, nb_0, nb_1, nb_if, nb_if', q130, c4, nI_1, es]
      exact ih (i + 1) M4 _ (by omega) (by rw [r4, hq]; rfl) (o3.tr o4)
    rw [sX6_lent_45]
    simp only [sX6_lent_0, sX6_lent_1, sX6_lent_2, sX6_lent_4, sX6_lent_7, sX6_lent_10, sX6_lent_11, sX6_lent_13, sX6_lent_16, sX6_lent_17, sX6_lent_18, sX6_lent_19, sX6_lent_22, sX6_lent_25, sX6_lent_26, sX6_lent_29, sX6_lent_30, sX6_lent_31, sX6_lent_34, sX6_lent_35, sX6_lent_37, sX6_lent_40, sX6_lent_41, sX6_lent_42, sX6_lent_43, sX6_lent_44, sX6_lent_46, sX6_lent_47, sX6_lent_50, sX6_lent_51, sX6_lent_52, sX6_lent_55, sX6_lent_56, sX6_lent_57, sX6_lent_60, sX6_lent_62, sX6_lent_63, sX6_lent_65, sX6_lent_66, sX6_lent_69, sX6_lent_72, sX6_lent_73, sX6_lent_75, sX6_lent_78, sX6_lent_81, sX6_lent_82, sX6_lent_83, sX6_lent_84, sX6_lent_86, sX6_lent_89, sX6_lent_92, sX6_lent_93, sX6_lent_95, sX6_lent_96, sX6_lent_99, sX6_lent_100, sX6_lent_101, sX6_lent_104, sX6_lent_107, sX6_lent_108, opK_some, guK_true, calK_some, rk_nil, rk_int, rk_ref, tl_some, tl_none, nb_int, nb_0, nb_1, nb_if, nb_if', q130, o130_0, a131, ib_3_132, tn_3, e1, e3, cd, co, ch]
    rw [if_neg (show ¬ nI n ≤ nI i from nI_ge (by omega) (by omega))]
    by_cases h1 : q (at9 (ltR q) 4) = 0
    · by_cases h2 : roomR (lzR q) (ltR q)
      · have ef : lfR q = feedR (lzR q) (ltR q) := if_pos ⟨h1, h2⟩
        have c3 := C_m_feeds (d := d + 2) (M := M2) (by rw [r2]; exact wz.1) t10 (by rw [r2]; exact h2.1)
        rw [show d + 2 + 3 = d + 5 from rfl] at c3
        rw [r2] at c3
        have c8 := wr_C wz.1
        have en : lzR q 4 + 1 = nI (nC (lzR q) + 1) := by rw [c8.2, nI_1]
        rw [en] at c3
        rw [if_pos h1, if_neg (by decide), if_pos h2, if_neg (by decide)]
        simp only [sX6_lent_0, sX6_lent_1, sX6_lent_2, sX6_lent_4, sX6_lent_7, sX6_lent_10, sX6_lent_11, sX6_lent_13, sX6_lent_16, sX6_lent_17, sX6_lent_18, sX6_lent_19, sX6_lent_22, sX6_lent_25, sX6_lent_26, sX6_lent_29, sX6_lent_30, sX6_lent_31, sX6_lent_34, sX6_lent_35, sX6_lent_37, sX6_lent_40, sX6_lent_41, sX6_lent_42, sX6_lent_43, sX6_lent_44, sX6_lent_46, sX6_lent_47, sX6_lent_50, sX6_lent_51, sX6_lent_52, sX6_lent_55, sX6_lent_56, sX6_lent_57, sX6_lent_60, sX6_lent_62, sX6_lent_63, sX6_lent_65, sX6_lent_66, sX6_lent_69, sX6_lent_72, sX6_lent_73, sX6_lent_75, sX6_lent_78, sX6_lent_81, sX6_lent_82, sX6_lent_83, sX6_lent_84, sX6_lent_86, sX6_lent_89, sX6_lent_92, sX6_lent_93, sX6_lent_95, sX6_lent_96, sX6_lent_99, sX6_lent_100, sX6_lent_101, sX6_lent_104, sX6_lent_107, sX6_lent_108, opK_some, guK_true, calK_some, rk_nil, rk_int, rk_ref, tl_some, tl_none, nb_int, nb_0, nb_1, nb_if, nb_if', q130, c3, min_0 (show nC (lzR q) + 1 < 2 ^ 31 by omega), Int32.add_zero]
        exact end_ _ _ (by rw [mrow_at, ef]) ((o.tr o2).tr Mo.row) rfl
      · have ef : lfR q = lzR q := if_neg (fun z => h2 z.2)
        rw [if_pos h1, if_neg (by decide), if_neg h2, if_pos rfl]
        exact end_ M2 _ (by rw [ef]; exact r2) (o.tr o2) rfl
    · have ef : lfR q = lzR q := if_neg (fun z => h1 z.1)
      rw [if_neg h1, if_pos rfl]
      exact end_ M2 _ (by rw [ef]; exact r2) (o.tr o2) rfl
theorem X_lent {d : Nat} {M : Mem} {x : Int32} (j : J M) : Two (d + 5) 83 (d + 6) 215 [.int x] M := by
  have w := j_wr j
  have hT := wr_T w
  have ed : M 100 1 = M 131 0 := j.1.2.2.1.1
  have e0 : M 10 0 = nI (nT (M 131)) := (j_hr j).1.1.trans hT.2
  by_cases hx : 1 ≤ x ∧ x ≤ 12
  · by_cases hb : 9999 < M 131 0 + x ∨ nT (M 131) = 0
    · refine ⟨fX M 4, fM (fX M 4) 4, -1000005, ?_, ?_, J_fin j (by omega)⟩
      · rw [nX5_lent]
        by_cases hl : 9999 < M 131 0 + x
        · simp only [sX5_lent_0, sX5_lent_1, sX5_lent_2, sX5_lent_4, sX5_lent_7, sX5_lent_10, sX5_lent_11, sX5_lent_12, sX5_lent_15, sX5_lent_16, sX5_lent_17, sX5_lent_20, sX5_lent_23, sX5_lent_26, sX5_lent_27, sX5_lent_28, sX5_lent_29, sX5_lent_32, sX5_lent_35, sX5_lent_36, sX5_lent_39, sX5_lent_40, sX5_lent_41, sX5_lent_44, sX5_lent_45, sX5_lent_46, sX5_lent_47, sX5_lent_48, sX5_lent_52, sX5_lent_53, sX5_lent_56, sX5_lent_57, sX5_lent_60, sX5_lent_63, sX5_lent_64, sX5_lent_65, sX5_lent_67, sX5_lent_68, sX5_lent_71, sX5_lent_74, sX5_lent_76, sX5_lent_79, sX5_lent_82, sX5_lent_83, sX5_lent_86, sX5_lent_89, sX5_lent_91, sX5_lent_94, sX5_lent_97, sX5_lent_98, sX5_lent_101, sX5_lent_104, sX5_lent_106, sX5_lent_109, sX5_lent_110, sX5_lent_111, sX5_lent_114, sX5_lent_117, sX5_lent_118, sX5_lent_119, sX5_lent_122, sX5_lent_125, sX5_lent_126, opK_some, guK_true, calK_some, rk_nil, rk_int, rk_ref, tl_some, tl_none, nb_int, nb_0, nb_1, nb_if, nb_if', q0, o0_0, o100_0, hs_0 hen10, C_x_within, C_x_isTooLate, ed, hx, hl, and_self, if_true, one_ne, if_false, C_xf4]
        · have hz : nT (M 131) = 0 := hb.resolve_left hl
          have hz' : ¬ (0 : Int32) < nI (nT (M 131)) := by rw [hz]; decide
          simp only [sX5_lent_0, sX5_lent_1, sX5_lent_2, sX5_lent_4, sX5_lent_7, sX5_lent_10, sX5_lent_11, sX5_lent_12, sX5_lent_15, sX5_lent_16, sX5_lent_17, sX5_lent_20, sX5_lent_23, sX5_lent_26, sX5_lent_27, sX5_lent_28, sX5_lent_29, sX5_lent_32, sX5_lent_35, sX5_lent_36, sX5_lent_39, sX5_lent_40, sX5_lent_41, sX5_lent_44, sX5_lent_45, sX5_lent_46, sX5_lent_47, sX5_lent_48, sX5_lent_52, sX5_lent_53, sX5_lent_56, sX5_lent_57, sX5_lent_60, sX5_lent_63, sX5_lent_64, sX5_lent_65, sX5_lent_67, sX5_lent_68, sX5_lent_71, sX5_lent_74, sX5_lent_76, sX5_lent_79, sX5_lent_82, sX5_lent_83, sX5_lent_86, sX5_lent_89, sX5_lent_91, sX5_lent_94, sX5_lent_97, sX5_lent_98, sX5_lent_101, sX5_lent_104, sX5_lent_106, sX5_lent_109, sX5_lent_110, sX5_lent_111, sX5_lent_114, sX5_lent_117, sX5_lent_118, sX5_lent_119, sX5_lent_122, sX5_lent_125, sX5_lent_126, opK_some, guK_true, calK_some, rk_nil, rk_int, rk_ref, tl_some, tl_none, nb_int, nb_0, nb_1, nb_if, nb_if', q0, o0_0, o100_0, hs_0 hen10, C_x_within, C_x_isTooLate, ed, e0, hx, hl, hz', and_self, if_true, one_ne, zero_eq, if_false, C_xf4]
      · rw [nX6_lent]
        by_cases hl : 9999 < M 131 0 + x
        · simp only [sX6_lent_0, sX6_lent_1, sX6_lent_2, sX6_lent_4, sX6_lent_7, sX6_lent_10, sX6_lent_11, sX6_lent_13, sX6_lent_16, sX6_lent_17, sX6_lent_18, sX6_lent_19, sX6_lent_22, sX6_lent_25, sX6_lent_26, sX6_lent_29, sX6_lent_30, sX6_lent_31, sX6_lent_34, sX6_lent_35, sX6_lent_37, sX6_lent_40, sX6_lent_41, sX6_lent_42, sX6_lent_43, sX6_lent_44, sX6_lent_46, sX6_lent_47, sX6_lent_50, sX6_lent_51, sX6_lent_52, sX6_lent_55, sX6_lent_56, sX6_lent_57, sX6_lent_60, sX6_lent_62, sX6_lent_63, sX6_lent_65, sX6_lent_66, sX6_lent_69, sX6_lent_72, sX6_lent_73, sX6_lent_75, sX6_lent_78, sX6_lent_81, sX6_lent_82, sX6_lent_83, sX6_lent_84, sX6_lent_86, sX6_lent_89, sX6_lent_92, sX6_lent_93, sX6_lent_94, sX6_lent_95, sX6_lent_96, sX6_lent_99, sX6_lent_100, sX6_lent_101, sX6_lent_104, sX6_lent_107, sX6_lent_108, opK_some, guK_true, calK_some, rk_nil, rk_int, rk_ref, tl_some, tl_none, nb_int, nb_0, nb_1, nb_if, nb_if', q130, o130_0, C_m_within, C_m_isTooLate, fX_131, hx, hl, and_self, if_true, one_ne, if_false, C_mf4]
        · have hz : nT (M 131) = 0 := hb.resolve_left hl
          have hz' : M 131 3 = 0 := by rw [hT.2, hz]; rfl
          simp only [sX6_lent_0, sX6_lent_1, sX6_lent_2, sX6_lent_4, sX6_lent_7, sX6_lent_10, sX6_lent_11, sX6_lent_13, sX6_lent_16, sX6_lent_17, sX6_lent_18, sX6_lent_19, sX6_lent_22, sX6_lent_25, sX6_lent_26, sX6_lent_29, sX6_lent_30, sX6_lent_31, sX6_lent_34, sX6_lent_35, sX6_lent_37, sX6_lent_40, sX6_lent_41, sX6_lent_42, sX6_lent_43, sX6_lent_44, sX6_lent_46, sX6_lent_47, sX6_lent_50, sX6_lent_51, sX6_lent_52, sX6_lent_55, sX6_lent_56, sX6_lent_57, sX6_lent_60, sX6_lent_62, sX6_lent_63, sX6_lent_65, sX6_lent_66, sX6_lent_69, sX6_lent_72, sX6_lent_73, sX6_lent_75, sX6_lent_78, sX6_lent_81, sX6_lent_82, sX6_lent_83, sX6_lent_84, sX6_lent_86, sX6_lent_89, sX6_lent_92, sX6_lent_93, sX6_lent_94, sX6_lent_95, sX6_lent_96, sX6_lent_99, sX6_lent_100, sX6_lent_101, sX6_lent_104, sX6_lent_107, sX6_lent_108, opK_some, guK_true, calK_some, rk_nil, rk_int, rk_ref, tl_some, tl_none, nb_int, nb_0, nb_1, nb_if, nb_if', q130, o130_0, a131, ib_3_132, tn_3, C_m_within, C_m_isTooLate, fX_131, hx, hl, hz', and_self, if_true, one_ne, zero_eq, if_false, C_mf4]
    · have hl : ¬ 9999 < M 131 0 + x := fun z => hb (Or.inl z)
      have h0 : 0 < nT (M 131) := Nat.pos_of_ne_zero (fun z => hb (Or.inr z))
      obtain ⟨n, n12, rfl⟩ : ∃ n, n ≤ 12 ∧ x = nI n := nI_of2 (M := 12) (n := 12) rfl (Int32.not_lt.mpr (Int32.le_trans (by decide : (0 : Int32) ≤ 1) hx.1)) hx.2
      have hn := late_not j.1.1.1 (by omega) (by omega) hl
      have wm := WX_me j.1.1.1
      obtain ⟨M1, c1, f1, o1⟩ := L_lent (d := d) (n := n) wm j.1.1.2 h0 (by omega) n 0 M none (by omega) j.1.2 (fun _ _ _ => rfl)
      have e131 : M1 131 = M 131 := o1 131 (by omega) (by omega)
      obtain ⟨M2, c2, o2, r2⟩ := L_m_lent (d := d) (n := n) (M := M1) wm j.1.1.2 h0 (by omega) n 0 M1 none (by omega) e131 Mo.rf
      obtain ⟨w3, k3, _⟩ := IR_le wm j.1.1.2 h0 n (by omega)
      have hp : (0 : Int32) < nI (nT (M 131)) := nI_lt (a := 0) h0 (by omega)
      have hp' : ¬ M 131 3 = 0 := by
        rw [hT.2]
        exact fun z => absurd (nI_inj (i := nT (M 131)) (j := 0) (by omega) (by omega) z) (by omega)
      refine ⟨M1, M2, leS (M 131) n, ?_, ?_, ?_⟩
      · rw [nX5_lent]
        simp only [sX5_lent_0, sX5_lent_1, sX5_lent_2, sX5_lent_4, sX5_lent_7, sX5_lent_10, sX5_lent_11, sX5_lent_12, sX5_lent_15, sX5_lent_16, sX5_lent_17, sX5_lent_20, sX5_lent_23, sX5_lent_26, sX5_lent_27, sX5_lent_28, sX5_lent_29, sX5_lent_32, sX5_lent_35, sX5_lent_36, sX5_lent_39, sX5_lent_40, sX5_lent_41, sX5_lent_44, sX5_lent_45, sX5_lent_46, sX5_lent_47, sX5_lent_48, sX5_lent_52, sX5_lent_53, sX5_lent_56, sX5_lent_57, sX5_lent_60, sX5_lent_63, sX5_lent_64, sX5_lent_65, sX5_lent_67, sX5_lent_68, sX5_lent_71, sX5_lent_74, sX5_lent_76, sX5_lent_79, sX5_lent_82, sX5_lent_83, sX5_lent_86, sX5_lent_89, sX5_lent_91, sX5_lent_94, sX5_lent_97, sX5_lent_98, sX5_lent_101, sX5_lent_104, sX5_lent_106, sX5_lent_109, sX5_lent_110, sX5_lent_111, sX5_lent_114, sX5_lent_117, sX5_lent_118, sX5_lent_119, sX5_lent_122, sX5_lent_125, sX5_lent_126, opK_some, guK_true, calK_some, rk_nil, rk_int, rk_ref, tl_some, tl_none, nb_int, nb_0, nb_1, nb_if, nb_if', q0, o0_0, o100_0, hs_0 hen10, C_x_within, C_x_isTooLate, ed, e0, hx, hl, hp, and_self, if_true, one_ne, zero_eq, if_false]
        exact c1
      · rw [nX6_lent]
        simp only [sX6_lent_0, sX6_lent_1, sX6_lent_2, sX6_lent_4, sX6_lent_7, sX6_lent_10, sX6_lent_11, sX6_lent_13, sX6_lent_16, sX6_lent_17, sX6_lent_18, sX6_lent_19, sX6_lent_22, sX6_lent_25, sX6_lent_26, sX6_lent_29, sX6_lent_30, sX6_lent_31, sX6_lent_34, sX6_lent_35, sX6_lent_37, sX6_lent_40, sX6_lent_41, sX6_lent_42, sX6_lent_43, sX6_lent_44, sX6_lent_46, sX6_lent_47, sX6_lent_50, sX6_lent_51, sX6_lent_52, sX6_lent_55, sX6_lent_56, sX6_lent_57, sX6_lent_60, sX6_lent_62, sX6_lent_63, sX6_lent_65, sX6_lent_66, sX6_lent_69, sX6_lent_72, sX6_lent_73, sX6_lent_75, sX6_lent_78, sX6_lent_81, sX6_lent_82, sX6_lent_83, sX6_lent_84, sX6_lent_86, sX6_lent_89, sX6_lent_92, sX6_lent_93, sX6_lent_94, sX6_lent_95, sX6_lent_96, sX6_lent_99, sX6_lent_100, sX6_lent_101, sX6_lent_104, sX6_lent_107, sX6_lent_108, opK_some, guK_true, calK_some, rk_nil, rk_int, rk_ref, tl_some, tl_none, nb_int, nb_0, nb_1, nb_if, nb_if', q130, o130_0, a131, ib_3_132, tn_3, C_m_within, C_m_isTooLate, e131, hx, hl, hp', and_self, if_true, one_ne, zero_eq, if_false]
        exact c2
      · exact J_row j ⟨WX_le w3 hn, k3⟩ f1 (fun q hq => o1 q (by omega) (by omega)) (by rw [o1 0 (by omega) (by omega)]) (by rw [o1 7 (by omega) (by omega)]) r2 (fun q h1 h2 _ => o2.1 q h1 h2) (o2.2 3 (by omega) (by omega) (by omega)) (o2.2 17 (by omega) (by omega) (by omega))
  · refine ⟨fX M 0, fM (fX M 0) 0, -1000001, ?_, ?_, J_fin j (by omega)⟩
    · rw [nX5_lent]
      simp only [sX5_lent_0, sX5_lent_1, sX5_lent_2, sX5_lent_4, sX5_lent_7, sX5_lent_10, sX5_lent_11, sX5_lent_12, sX5_lent_15, sX5_lent_16, sX5_lent_17, sX5_lent_20, sX5_lent_23, sX5_lent_26, sX5_lent_27, sX5_lent_28, sX5_lent_29, sX5_lent_32, sX5_lent_35, sX5_lent_36, sX5_lent_39, sX5_lent_40, sX5_lent_41, sX5_lent_44, sX5_lent_45, sX5_lent_46, sX5_lent_47, sX5_lent_48, sX5_lent_52, sX5_lent_53, sX5_lent_56, sX5_lent_57, sX5_lent_60, sX5_lent_63, sX5_lent_64, sX5_lent_65, sX5_lent_67, sX5_lent_68, sX5_lent_71, sX5_lent_74, sX5_lent_76, sX5_lent_79, sX5_lent_82, sX5_lent_83, sX5_lent_86, sX5_lent_89, sX5_lent_91, sX5_lent_94, sX5_lent_97, sX5_lent_98, sX5_lent_101, sX5_lent_104, sX5_lent_106, sX5_lent_109, sX5_lent_110, sX5_lent_111, sX5_lent_114, sX5_lent_117, sX5_lent_118, sX5_lent_119, sX5_lent_122, sX5_lent_125, sX5_lent_126, opK_some, guK_true, calK_some, rk_nil, rk_int, rk_ref, tl_some, tl_none, nb_int, nb_0, nb_1, nb_if, nb_if', q0, C_x_within, hx, if_true, zero_eq, if_false, C_xf0]
    · rw [nX6_lent]
      simp only [sX6_lent_0, sX6_lent_1, sX6_lent_2, sX6_lent_4, sX6_lent_7, sX6_lent_10, sX6_lent_11, sX6_lent_13, sX6_lent_16, sX6_lent_17, sX6_lent_18, sX6_lent_19, sX6_lent_22, sX6_lent_25, sX6_lent_26, sX6_lent_29, sX6_lent_30, sX6_lent_31, sX6_lent_34, sX6_lent_35, sX6_lent_37, sX6_lent_40, sX6_lent_41, sX6_lent_42, sX6_lent_43, sX6_lent_44, sX6_lent_46, sX6_lent_47, sX6_lent_50, sX6_lent_51, sX6_lent_52, sX6_lent_55, sX6_lent_56, sX6_lent_57, sX6_lent_60, sX6_lent_62, sX6_lent_63, sX6_lent_65, sX6_lent_66, sX6_lent_69, sX6_lent_72, sX6_lent_73, sX6_lent_75, sX6_lent_78, sX6_lent_81, sX6_lent_82, sX6_lent_83, sX6_lent_84, sX6_lent_86, sX6_lent_89, sX6_lent_92, sX6_lent_93, sX6_lent_94, sX6_lent_95, sX6_lent_96, sX6_lent_99, sX6_lent_100, sX6_lent_101, sX6_lent_104, sX6_lent_107, sX6_lent_108, opK_some, guK_true, calK_some, rk_nil, rk_int, rk_ref, tl_some, tl_none, nb_int, nb_0, nb_1, nb_if, nb_if', q130, C_m_within, hx, if_true, zero_eq, if_false, C_mf0]

