/-! calls: count, status -/
abbrev woR (r : Rw) (n : Nat) : Int32 := sm (fun t => r (at9 t 2)) n
theorem L_worthOfAll {d b : Nat} {M : Mem} {r : Rw} (hb : isHen b) (h : HR M b r) (w : WR r) : ∀ (m i : Nat), i + m = nT r →
    lim (call (d + 0)) none 1 cX1_worthOfAll (some .int) 4 [some (.ref b), some (.int (woR r i)), some (.int (nI i))] [] M = some (some (.int (woR r (nT r))), M) := by
  have hT := wr_T w
  have e0 : M b 0 = nI (nT r) := h.1.1.trans hT.2
  intro m
  induction m with
  | zero =>
    intro i hi
    obtain rfl : i = nT r := by omega
    rw [sX1_worthOfAll_4]
    simp only [sX1_worthOfAll_0, sX1_worthOfAll_1, sX1_worthOfAll_2, sX1_worthOfAll_3, sX1_worthOfAll_5, sX1_worthOfAll_6, sX1_worthOfAll_9, sX1_worthOfAll_12, sX1_worthOfAll_13, sX1_worthOfAll_14, sX1_worthOfAll_17, sX1_worthOfAll_18, sX1_worthOfAll_19, sX1_worthOfAll_20, sX1_worthOfAll_21, sX1_worthOfAll_24, sX1_worthOfAll_27, sX1_worthOfAll_28, opK_some, guK_true, calK_some, rk_nil, rk_int, rk_ref, tl_some, tl_none, nb_int, nb_0, nb_1, nb_if, nb_if', hs_0 hb, e0]
    rw [if_pos (show nI (nT r) ≤ nI (nT r) from Int32.le_refl _)]
  | succ m ih =>
    intro i hi
    have i10 : i < 10 := by omega
    have e3 : M (b + 3) i = r (at9 i 2) := h.2.1 2 (by omega) i i10
    rw [sX1_worthOfAll_4]
    simp only [sX1_worthOfAll_0, sX1_worthOfAll_1, sX1_worthOfAll_2, sX1_worthOfAll_3, sX1_worthOfAll_5, sX1_worthOfAll_6, sX1_worthOfAll_9, sX1_worthOfAll_12, sX1_worthOfAll_13, sX1_worthOfAll_14, sX1_worthOfAll_17, sX1_worthOfAll_18, sX1_worthOfAll_19, sX1_worthOfAll_20, sX1_worthOfAll_21, sX1_worthOfAll_24, sX1_worthOfAll_27, sX1_worthOfAll_28, opK_some, guK_true, calK_some, rk_nil, rk_int, rk_ref, tl_some, tl_none, nb_int, nb_0, nb_1, nb_if, nb_if', hs_0 hb, hs_3 hb, ha_3 hb, e0, inb_nI i10 (by omega), nI_clamp (show i < 2 ^ 31 by omega), e3, nI_1]
    rw [if_neg (show ¬ nI (nT r) ≤ nI i from nI_ge (by omega) (by omega))]
    exact ih (i + 1) (by omega)
theorem C_worthOfAll {d b : Nat} {M : Mem} {r : Rw} (hb : isHen b) (h : HR M b r) (w : WR r) : call (d + 1) 131 [.ref b] M = some (some (.int (woR r (nT r))), M) := by
  rw [nX1_worthOfAll]
  simp only [sX1_worthOfAll_0, sX1_worthOfAll_1, sX1_worthOfAll_2, sX1_worthOfAll_3, sX1_worthOfAll_5, sX1_worthOfAll_6, sX1_worthOfAll_9, sX1_worthOfAll_12, sX1_worthOfAll_13, sX1_worthOfAll_14, sX1_worthOfAll_17, sX1_worthOfAll_18, sX1_worthOfAll_19, sX1_worthOfAll_20, sX1_worthOfAll_21, sX1_worthOfAll_24, sX1_worthOfAll_27, sX1_worthOfAll_28, opK_some, guK_true, calK_some, rk_nil, rk_int, rk_ref, tl_some, tl_none, nb_int, nb_0, nb_1, nb_if, nb_if']
  exact L_worthOfAll hb h w (nT r) 0 (by omega)
theorem L_m_worthOf {d : Nat} {M : Mem} {y : Int32} (w : WR (M 131)) : ∀ (m i : Nat), i + m = nT (M 131) →
    lim (call (d + 2)) none 6 cX6_count (some .int) 78 [some (.ref 130), some (.int y), some (.int (woR (M 131) i)), some (.int (nI i))] [] M = some (some (.int (woR (M 131) (nT (M 131)))), M) := by
  have hT := wr_T w
  intro m
  induction m with
  | zero =>
    intro i hi
    obtain rfl : i = nT (M 131) := by omega
    rw [sX6_count_78]
    simp only [sX6_count_0, sX6_count_1, sX6_count_2, sX6_count_48, sX6_count_49, sX6_count_52, sX6_count_53, sX6_count_54, sX6_count_55, sX6_count_56, sX6_count_59, sX6_count_60, sX6_count_61, sX6_count_62, sX6_count_63, sX6_count_66, sX6_count_67, sX6_count_68, sX6_count_69, sX6_count_70, sX6_count_73, sX6_count_74, sX6_count_75, sX6_count_76, sX6_count_77, sX6_count_79, sX6_count_80, sX6_count_83, sX6_count_84, sX6_count_85, sX6_count_88, sX6_count_89, sX6_count_90, sX6_count_91, sX6_count_92, sX6_count_95, sX6_count_96, sX6_count_97, sX6_count_100, sX6_count_103, sX6_count_104, sX6_count_105, sX6_count_106, sX6_count_109, sX6_count_110, sX6_count_111, sX6_count_114, sX6_count_116, sX6_count_117, sX6_count_118, sX6_count_119, sX6_count_121, sX6_count_123, sX6_count_126, sX6_count_127, sX6_count_128, sX6_count_131, sX6_count_133, sX6_count_134, sX6_count_135, sX6_count_136, sX6_count_139, sX6_count_140, sX6_count_143, sX6_count_144, sX6_count_145, sX6_count_146, sX6_count_149, sX6_count_152, sX6_count_153, sX6_count_154, sX6_count_155, sX6_count_157, sX6_count_160, opK_some, guK_true, calK_some, rk_nil, rk_int, rk_ref, tl_some, tl_none, nb_int, nb_0, nb_1, nb_if, nb_if', o130_0, a131, ib_3_132, tn_3]
    rw [if_pos (show M 131 3 ≤ nI (nT (M 131)) by rw [← hT.2]; exact Int32.le_refl _)]
  | succ m ih =>
    intro i hi
    rw [sX6_count_78]
    simp only [sX6_count_0, sX6_count_1, sX6_count_2, sX6_count_48, sX6_count_49, sX6_count_52, sX6_count_53, sX6_count_54, sX6_count_55, sX6_count_56, sX6_count_59, sX6_count_60, sX6_count_61, sX6_count_62, sX6_count_63, sX6_count_66, sX6_count_67, sX6_count_68, sX6_count_69, sX6_count_70, sX6_count_73, sX6_count_74, sX6_count_75, sX6_count_76, sX6_count_77, sX6_count_79, sX6_count_80, sX6_count_83, sX6_count_84, sX6_count_85, sX6_count_88, sX6_count_89, sX6_count_90, sX6_count_91, sX6_count_92, sX6_count_95, sX6_count_96, sX6_count_97, sX6_count_100, sX6_count_103, sX6_count_104, sX6_count_105, sX6_count_106, sX6_count_109, sX6_count_110, sX6_count_111, sX6_count_114, sX6_count_116, sX6_count_117, sX6_count_118, sX6_count_119, sX6_count_121, sX6_count_123, sX6_count_126, sX6_count_127, sX6_count_128, sX6_count_131, sX6_count_133, sX6_count_134, sX6_count_135, sX6_count_136, sX6_count_139, sX6_count_140, sX6_count_143, sX6_count_144, sX6_count_145, sX6_count_146, sX6_count_149, sX6_count_152, sX6_count_153, sX6_count_154, sX6_count_155, sX6_count_157, sX6_count_160, opK_some, guK_true, calK_some, rk_nil, rk_int, rk_ref, tl_some, tl_none, nb_int, nb_0, nb_1, nb_if, nb_if', o130_0, a131, ib_3_132, tn_3, q130, T2 (show i < 10 by omega), nI_1]
    rw [if_neg (show ¬ M 131 3 ≤ nI i by rw [hT.2]; exact nI_ge (by omega) (by omega))]
    exact ih (i + 1) (by omega)
def csN (r : Rw) : Nat → Nat
  | 0 => 0
  | s + 1 => if r (8 + s) < 0 then csN r s else csN r s + 1
theorem L_spots {d f : Nat} {M : Mem} {r : Rw} (hf : isFarm f) (h : ∀ s, s < 10 → M (f + 4) s = r (8 + s)) : ∀ (m s : Nat), s + m = 10 →
    lim (call (d + 0)) none 0 cX0_spotsHolding (some .int) 4 [some (.ref f), some (.int (nI (csN r s))), some (.int (nI s))] [] M = some (some (.int (nI (csN r 10))), M) := by
  intro m
  induction m with
  | zero =>
    intro s hs
    obtain rfl : s = 10 := by omega
    rw [sX0_spotsHolding_4]
    simp only [sX0_spotsHolding_0, sX0_spotsHolding_1, sX0_spotsHolding_2, sX0_spotsHolding_3, sX0_spotsHolding_5, sX0_spotsHolding_7, sX0_spotsHolding_10, sX0_spotsHolding_11, sX0_spotsHolding_14, sX0_spotsHolding_15, sX0_spotsHolding_16, sX0_spotsHolding_19, sX0_spotsHolding_22, sX0_spotsHolding_25, sX0_spotsHolding_28, sX0_spotsHolding_29, opK_some, guK_true, calK_some, rk_nil, rk_int, rk_ref, tl_some, tl_none, nb_int, nb_0, nb_1, nb_if, nb_if']
    rw [if_pos (show (10 : Int32) ≤ nI 10 by decide)]
  | succ m ih =>
    intro s hs
    have fin := ih (s + 1) (by omega)
    rw [sX0_spotsHolding_4]
    simp only [sX0_spotsHolding_0, sX0_spotsHolding_1, sX0_spotsHolding_2, sX0_spotsHolding_3, sX0_spotsHolding_5, sX0_spotsHolding_7, sX0_spotsHolding_10, sX0_spotsHolding_11, sX0_spotsHolding_14, sX0_spotsHolding_15, sX0_spotsHolding_16, sX0_spotsHolding_19, sX0_spotsHolding_22, sX0_spotsHolding_25, sX0_spotsHolding_28, sX0_spotsHolding_29, opK_some, guK_true, calK_some, rk_nil, rk_int, rk_ref, tl_some, tl_none, nb_int, nb_0, nb_1, nb_if, nb_if', fs_8 hf, fa_4 hf, inb_nI (show s < 10 by omega) (by omega), nI_clamp (show s < 2 ^ 31 by omega), h s (by omega), nI_1]
    rw [if_neg (show ¬ (10 : Int32) ≤ nI s from nI_ge (b := 10) (by omega) (by omega))]
    by_cases c : r (8 + s) < 0
    · have ek : csN r (s + 1) = csN r s := if_pos c
      rw [ek] at fin
      rw [if_pos c]
      exact fin
    · have ek : csN r (s + 1) = csN r s + 1 := if_neg c
      rw [ek] at fin
      rw [if_neg c]
      exact fin
theorem L_m_spots {d : Nat} {M : Mem} {y : Int32} : ∀ (m s : Nat), s + m = 10 →
    lim (call (d + 2)) none 6 cX6_count (some .int) 120 [some (.ref 130), some (.int y), some (.int (nI (csN (M 131) s))), some (.int (nI s))] [] M = some (some (.int (nI (csN (M 131) 10))), M) := by
  intro m
  induction m with
  | zero =>
    intro s hs
    obtain rfl : s = 10 := by omega
    rw [sX6_count_120]
    simp only [sX6_count_0, sX6_count_1, sX6_count_2, sX6_count_48, sX6_count_49, sX6_count_52, sX6_count_53, sX6_count_54, sX6_count_55, sX6_count_56, sX6_count_59, sX6_count_60, sX6_count_61, sX6_count_62, sX6_count_63, sX6_count_66, sX6_count_67, sX6_count_68, sX6_count_69, sX6_count_70, sX6_count_73, sX6_count_74, sX6_count_75, sX6_count_76, sX6_count_77, sX6_count_79, sX6_count_80, sX6_count_83, sX6_count_84, sX6_count_85, sX6_count_88, sX6_count_89, sX6_count_90, sX6_count_91, sX6_count_92, sX6_count_95, sX6_count_96, sX6_count_97, sX6_count_100, sX6_count_103, sX6_count_104, sX6_count_105, sX6_count_106, sX6_count_109, sX6_count_110, sX6_count_111, sX6_count_114, sX6_count_116, sX6_count_117, sX6_count_118, sX6_count_119, sX6_count_121, sX6_count_123, sX6_count_126, sX6_count_127, sX6_count_128, sX6_count_131, sX6_count_133, sX6_count_134, sX6_count_135, sX6_count_136, sX6_count_139, sX6_count_140, sX6_count_143, sX6_count_144, sX6_count_145, sX6_count_146, sX6_count_149, sX6_count_152, sX6_count_153, sX6_count_154, sX6_count_155, sX6_count_157, sX6_count_160, opK_some, guK_true, calK_some, rk_nil, rk_int, rk_ref, tl_some, tl_none, nb_int, nb_0, nb_1, nb_if, nb_if']
    rw [if_pos (show (10 : Int32) ≤ nI 10 by decide)]
  | succ m ih =>
    intro s hs
    have fin := ih (s + 1) (by omega)
    rw [sX6_count_120]
    simp only [sX6_count_0, sX6_count_1, sX6_count_2, sX6_count_48, sX6_count_49, sX6_count_52, sX6_count_53, sX6_count_54, sX6_count_55, sX6_count_56, sX6_count_59, sX6_count_60, sX6_count_61, sX6_count_62, sX6_count_63, sX6_count_66, sX6_count_67, sX6_count_68, sX6_count_69, sX6_count_70, sX6_count_73, sX6_count_74, sX6_count_75, sX6_count_76, sX6_count_77, sX6_count_79, sX6_count_80, sX6_count_83, sX6_count_84, sX6_count_85, sX6_count_88, sX6_count_89, sX6_count_90, sX6_count_91, sX6_count_92, sX6_count_95, sX6_count_96, sX6_count_97, sX6_count_100, sX6_count_103, sX6_count_104, sX6_count_105, sX6_count_106, sX6_count_109, sX6_count_110, sX6_count_111, sX6_count_114, sX6_count_116, sX6_count_117, sX6_count_118, sX6_count_119, sX6_count_121, sX6_count_123, sX6_count_126, sX6_count_127, sX6_count_128, sX6_count_131, sX6_count_133, sX6_count_134, sX6_count_135, sX6_count_136, sX6_count_139, sX6_count_140, sX6_count_143, sX6_count_144, sX6_count_145, sX6_count_146, sX6_count_149, sX6_count_152, sX6_count_153, sX6_count_154, sX6_count_155, sX6_count_157, sX6_count_160, opK_some, guK_true, calK_some, rk_nil, rk_int, rk_ref, tl_some, tl_none, nb_int, nb_0, nb_1, nb_if, nb_if', o130_0, a131, I8, inb_nI (show 8 + s < 132 by omega) (by omega), nI_clamp (show 8 + s < 2 ^ 31 by omega), nI_1]
    rw [if_neg (show ¬ (10 : Int32) ≤ nI s from nI_ge (b := 10) (by omega) (by omega))]
    by_cases c : M 131 (8 + s) < 0
    · have ek : csN (M 131) (s + 1) = csN (M 131) s := if_pos c
      rw [ek] at fin
      rw [if_neg (Int32.not_le.mpr c), Int32.add_zero]
      exact fin
    · have ek : csN (M 131) (s + 1) = csN (M 131) s + 1 := if_neg c
      rw [ek] at fin
      rw [if_pos (Int32.not_lt.mp c)]
      exact fin
def couR (M : Mem) (q : Nat) : Int32 := if q = 0 then M 131 0 else if q = 1 then M 131 3 else if q = 2 then M 131 4 else if q = 3 then M 131 5 else if q = 4 then woR (M 131) (nT (M 131)) else if q = 5 then M 130 17 else if q = 6 then M 131 7 else nI (csN (M 131) 10)
theorem X_count {d : Nat} {M : Mem} {x : Int32} (j : J M) : Two (d + 2) 130 (d + 3) 244 [.int x] M := by
  have h := j_hr j
  have w := j_wr j
  have e1 : M 100 1 = M 131 0 := j.1.2.2.1.1
  have e2 : M 100 2 = M 131 7 := j.1.2.2.1.2.1
  have e3 : M 100 3 = M 131 5 := j.1.2.2.1.2.2.1
  have e0 : M 10 0 = M 131 3 := h.1.1
  have e9 : M 10 9 = M 131 4 := h.1.2.1
  have e7 : M 7 1 = M 130 17 := j.2.2.2.1.1
  have cw := C_worthOfAll (d := d + 0) hen10 h w
  rw [show d + 0 + 1 = d + 1 from rfl] at cw
  have cs : call (d + 1) 132 [.ref 100] M = some (some (.int (nI (csN (M 131) 10))), M) := by
    rw [show d + 1 = d + 0 + 1 from rfl, nX0_spotsHolding]
    simp only [sX0_spotsHolding_0, sX0_spotsHolding_1, sX0_spotsHolding_2, sX0_spotsHolding_3, sX0_spotsHolding_5, sX0_spotsHolding_7, sX0_spotsHolding_10, sX0_spotsHolding_11, sX0_spotsHolding_14, sX0_spotsHolding_15, sX0_spotsHolding_16, sX0_spotsHolding_19, sX0_spotsHolding_22, sX0_spotsHolding_25, sX0_spotsHolding_28, sX0_spotsHolding_29, opK_some, guK_true, calK_some, rk_nil, rk_int, rk_ref, tl_some, tl_none, nb_int, nb_0, nb_1, nb_if, nb_if']
    exact L_spots farm100 (fun s hs => j.1.2.2.2.2 s hs) 10 0 (by omega)
  rcases sw_of x 7 with hx' | ⟨q, hq, rfl⟩
  · have hx : x.toInt < 0 ∨ 7 < x.toInt := hx'
    refine ⟨fX M 0, fM (fX M 0) 0, -1000001, ?_, ?_, J_fin j (by omega)⟩
    · rw [nX5_count]
      simp only [sX5_count_0, sX5_count_48, sX5_count_49, sX5_count_52, sX5_count_55, sX5_count_56, sX5_count_57, sX5_count_60, sX5_count_63, sX5_count_66, sX5_count_67, sX5_count_68, sX5_count_71, sX5_count_74, sX5_count_77, sX5_count_78, sX5_count_79, sX5_count_82, sX5_count_85, sX5_count_86, sX5_count_87, sX5_count_90, sX5_count_93, sX5_count_96, sX5_count_97, sX5_count_98, sX5_count_101, sX5_count_104, sX5_count_105, sX5_count_106, sX5_count_109, sX5_count_112, sX5_count_113, sX5_count_114, sX5_count_117, sX5_count_120, sX5_count_121, sX5_count_122, sX5_count_123, sX5_count_126, opK_some, guK_true, calK_some, rk_nil, rk_int, rk_ref, tl_some, tl_none, nb_int, nb_0, nb_1, nb_if, nb_if']
      rw [sX5_count_1, if_pos hx]
      simp only [sX5_count_0, sX5_count_48, sX5_count_49, sX5_count_52, sX5_count_55, sX5_count_56, sX5_count_57, sX5_count_60, sX5_count_63, sX5_count_66, sX5_count_67, sX5_count_68, sX5_count_71, sX5_count_74, sX5_count_77, sX5_count_78, sX5_count_79, sX5_count_82, sX5_count_85, sX5_count_86, sX5_count_87, sX5_count_90, sX5_count_93, sX5_count_96, sX5_count_97, sX5_count_98, sX5_count_101, sX5_count_104, sX5_count_105, sX5_count_106, sX5_count_109, sX5_count_112, sX5_count_113, sX5_count_114, sX5_count_117, sX5_count_120, sX5_count_121, sX5_count_122, sX5_count_123, sX5_count_126, opK_some, guK_true, calK_some, rk_nil, rk_int, rk_ref, tl_some, tl_none, nb_int, nb_0, nb_1, nb_if, nb_if', q0, C_xf0]
    · rw [nX6_count]
      simp only [sX6_count_0, sX6_count_1, sX6_count_2, sX6_count_48, sX6_count_49, sX6_count_52, sX6_count_53, sX6_count_54, sX6_count_55, sX6_count_56, sX6_count_59, sX6_count_60, sX6_count_61, sX6_count_62, sX6_count_63, sX6_count_66, sX6_count_67, sX6_count_68, sX6_count_69, sX6_count_70, sX6_count_73, sX6_count_74, sX6_count_75, sX6_count_76, sX6_count_77, sX6_count_79, sX6_count_80, sX6_count_83, sX6_count_84, sX6_count_85, sX6_count_88, sX6_count_89, sX6_count_90, sX6_count_91, sX6_count_92, sX6_count_95, sX6_count_96, sX6_count_97, sX6_count_100, sX6_count_103, sX6_count_104, sX6_count_105, sX6_count_106, sX6_count_109, sX6_count_110, sX6_count_111, sX6_count_114, sX6_count_116, sX6_count_117, sX6_count_118, sX6_count_119, sX6_count_121, sX6_count_123, sX6_count_126, sX6_count_127, sX6_count_128, sX6_count_131, sX6_count_133, sX6_count_134, sX6_count_135, sX6_count_136, sX6_count_139, sX6_count_140, sX6_count_143, sX6_count_144, sX6_count_145, sX6_count_146, sX6_count_149, sX6_count_152, sX6_count_153, sX6_count_154, sX6_count_155, sX6_count_157, sX6_count_160, opK_some, guK_true, calK_some, rk_nil, rk_int, rk_ref, tl_some, tl_none, nb_int, nb_0, nb_1, nb_if, nb_if']
      rw [sX6_count_3, if_pos hx]
      simp only [sX6_count_0, sX6_count_1, sX6_count_2, sX6_count_48, sX6_count_49, sX6_count_52, sX6_count_53, sX6_count_54, sX6_count_55, sX6_count_56, sX6_count_59, sX6_count_60, sX6_count_61, sX6_count_62, sX6_count_63, sX6_count_66, sX6_count_67, sX6_count_68, sX6_count_69, sX6_count_70, sX6_count_73, sX6_count_74, sX6_count_75, sX6_count_76, sX6_count_77, sX6_count_79, sX6_count_80, sX6_count_83, sX6_count_84, sX6_count_85, sX6_count_88, sX6_count_89, sX6_count_90, sX6_count_91, sX6_count_92, sX6_count_95, sX6_count_96, sX6_count_97, sX6_count_100, sX6_count_103, sX6_count_104, sX6_count_105, sX6_count_106, sX6_count_109, sX6_count_110, sX6_count_111, sX6_count_114, sX6_count_116, sX6_count_117, sX6_count_118, sX6_count_119, sX6_count_121, sX6_count_123, sX6_count_126, sX6_count_127, sX6_count_128, sX6_count_131, sX6_count_133, sX6_count_134, sX6_count_135, sX6_count_136, sX6_count_139, sX6_count_140, sX6_count_143, sX6_count_144, sX6_count_145, sX6_count_146, sX6_count_149, sX6_count_152, sX6_count_153, sX6_count_154, sX6_count_155, sX6_count_157, sX6_count_160, opK_some, guK_true, calK_some, rk_nil, rk_int, rk_ref, tl_some, tl_none, nb_int, nb_0, nb_1, nb_if, nb_if', q130, C_mf0]
  · refine ⟨M, M, couR M q, ?_, ?_, j⟩
    · rw [nX5_count]
      simp only [sX5_count_0, sX5_count_48, sX5_count_49, sX5_count_52, sX5_count_55, sX5_count_56, sX5_count_57, sX5_count_60, sX5_count_63, sX5_count_66, sX5_count_67, sX5_count_68, sX5_count_71, sX5_count_74, sX5_count_77, sX5_count_78, sX5_count_79, sX5_count_82, sX5_count_85, sX5_count_86, sX5_count_87, sX5_count_90, sX5_count_93, sX5_count_96, sX5_count_97, sX5_count_98, sX5_count_101, sX5_count_104, sX5_count_105, sX5_count_106, sX5_count_109, sX5_count_112, sX5_count_113, sX5_count_114, sX5_count_117, sX5_count_120, sX5_count_121, sX5_count_122, sX5_count_123, sX5_count_126, opK_some, guK_true, calK_some, rk_nil, rk_int, rk_ref, tl_some, tl_none, nb_int, nb_0, nb_1, nb_if, nb_if']
      rcases (show q = 0 ∨ q = 1 ∨ q = 2 ∨ q = 3 ∨ q = 4 ∨ q = 5 ∨ q = 6 ∨ q = 7 by omega) with rfl | rfl | rfl | rfl | rfl | rfl | rfl | rfl
      · rw [sX5_count_1, if_neg (by decide), show (([48, 56, 67, 78, 86, 97, 105, 113] : List Nat).getD ((nI 0).toInt - 0).toNat 0) = 48 by decide]
        simp only [sX5_count_0, sX5_count_48, sX5_count_49, sX5_count_52, sX5_count_55, sX5_count_56, sX5_count_57, sX5_count_60, sX5_count_63, sX5_count_66, sX5_count_67, sX5_count_68, sX5_count_71, sX5_count_74, sX5_count_77, sX5_count_78, sX5_count_79, sX5_count_82, sX5_count_85, sX5_count_86, sX5_count_87, sX5_count_90, sX5_count_93, sX5_count_96, sX5_count_97, sX5_count_98, sX5_count_101, sX5_count_104, sX5_count_105, sX5_count_106, sX5_count_109, sX5_count_112, sX5_count_113, sX5_count_114, sX5_count_117, sX5_count_120, sX5_count_121, sX5_count_122, sX5_count_123, sX5_count_126, opK_some, guK_true, calK_some, rk_nil, rk_int, rk_ref, tl_some, tl_none, nb_int, nb_0, nb_1, nb_if, nb_if', o0_0, o0_3, o7_1, o100_0, o100_1, o100_2, o100_3, hen_c hen10, farm_c farm100, hs_0 hen10, hs_9 hen10, e0, e1, e2, e3, e9, e7, cw, cs]
        rfl
      · rw [sX5_count_1, if_neg (by decide), show (([48, 56, 67, 78, 86, 97, 105, 113] : List Nat).getD ((nI 1).toInt - 0).toNat 0) = 56 by decide]
        simp only [sX5_count_0, sX5_count_48, sX5_count_49, sX5_count_52, sX5_count_55, sX5_count_56, sX5_count_57, sX5_count_60, sX5_count_63, sX5_count_66, sX5_count_67, sX5_count_68, sX5_count_71, sX5_count_74, sX5_count_77, sX5_count_78, sX5_count_79, sX5_count_82, sX5_count_85, sX5_count_86, sX5_count_87, sX5_count_90, sX5_count_93, sX5_count_96, sX5_count_97, sX5_count_98, sX5_count_101, sX5_count_104, sX5_count_105, sX5_count_106, sX5_count_109, sX5_count_112, sX5_count_113, sX5_count_114, sX5_count_117, sX5_count_120, sX5_count_121, sX5_count_122, sX5_count_123, sX5_count_126, opK_some, guK_true, calK_some, rk_nil, rk_int, rk_ref, tl_some, tl_none, nb_int, nb_0, nb_1, nb_if, nb_if', o0_0, o0_3, o7_1, o100_0, o100_1, o100_2, o100_3, hen_c hen10, farm_c farm100, hs_0 hen10, hs_9 hen10, e0, e1, e2, e3, e9, e7, cw, cs]
        rfl
      · rw [sX5_count_1, if_neg (by decide), show (([48, 56, 67, 78, 86, 97, 105, 113] : List Nat).getD ((nI 2).toInt - 0).toNat 0) = 67 by decide]
        simp only [sX5_count_0, sX5_count_48, sX5_count_49, sX5_count_52, sX5_count_55, sX5_count_56, sX5_count_57, sX5_count_60, sX5_count_63, sX5_count_66, sX5_count_67, sX5_count_68, sX5_count_71, sX5_count_74, sX5_count_77, sX5_count_78, sX5_count_79, sX5_count_82, sX5_count_85, sX5_count_86, sX5_count_87, sX5_count_90, sX5_count_93, sX5_count_96, sX5_count_97, sX5_count_98, sX5_count_101, sX5_count_104, sX5_count_105, sX5_count_106, sX5_count_109, sX5_count_112, sX5_count_113, sX5_count_114, sX5_count_117, sX5_count_120, sX5_count_121, sX5_count_122, sX5_count_123, sX5_count_126, opK_some, guK_true, calK_some, rk_nil, rk_int, rk_ref, tl_some, tl_none, nb_int, nb_0, nb_1, nb_if, nb_if', o0_0, o0_3, o7_1, o100_0, o100_1, o100_2, o100_3, hen_c hen10, farm_c farm100, hs_0 hen10, hs_9 hen10, e0, e1, e2, e3, e9, e7, cw, cs]
        rfl
      · rw [sX5_count_1, if_neg (by decide), show (([48, 56, 67, 78, 86, 97, 105, 113] : List Nat).getD ((nI 3).toInt - 0).toNat 0) = 78 by decide]
        simp only [sX5_count_0, sX5_count_48, sX5_count_49, sX5_count_52, sX5_count_55, sX5_count_56, sX5_count_57, sX5_count_60, sX5_count_63, sX5_count_66, sX5_count_67, sX5_count_68, sX5_count_71, sX5_count_74, sX5_count_77, sX5_count_78, sX5_count_79, sX5_count_82, sX5_count_85, sX5_count_86, sX5_count_87, sX5_count_90, sX5_count_93, sX5_count_96, sX5_count_97, sX5_count_98, sX5_count_101, sX5_count_104, sX5_count_105, sX5_count_106, sX5_count_109, sX5_count_112, sX5_count_113, sX5_count_114, sX5_count_117, sX5_count_120, sX5_count_121, sX5_count_122, sX5_count_123, sX5_count_126, opK_some, guK_true, calK_some, rk_nil, rk_int, rk_ref, tl_some, tl_none, nb_int, nb_0, nb_1, nb_if, nb_if', o0_0, o0_3, o7_1, o100_0, o100_1, o100_2, o100_3, hen_c hen10, farm_c farm100, hs_0 hen10, hs_9 hen10, e0, e1, e2, e3, e9, e7, cw, cs]
        rfl
      · rw [sX5_count_1, if_neg (by decide), show (([48, 56, 67, 78, 86, 97, 105, 113] : List Nat).getD ((nI 4).toInt - 0).toNat 0) = 86 by decide]
        simp only [sX5_count_0, sX5_count_48, sX5_count_49, sX5_count_52, sX5_count_55, sX5_count_56, sX5_count_57, sX5_count_60, sX5_count_63, sX5_count_66, sX5_count_67, sX5_count_68, sX5_count_71, sX5_count_74, sX5_count_77, sX5_count_78, sX5_count_79, sX5_count_82, sX5_count_85, sX5_count_86, sX5_count_87, sX5_count_90, sX5_count_93, sX5_count_96, sX5_count_97, sX5_count_98, sX5_count_101, sX5_count_104, sX5_count_105, sX5_count_106, sX5_count_109, sX5_count_112, sX5_count_113, sX5_count_114, sX5_count_117, sX5_count_120, sX5_count_121, sX5_count_122, sX5_count_123, sX5_count_126, opK_some, guK_true, calK_some, rk_nil, rk_int, rk_ref, tl_some, tl_none, nb_int, nb_0, nb_1, nb_if, nb_if', o0_0, o0_3, o7_1, o100_0, o100_1, o100_2, o100_3, hen_c hen10, farm_c farm100, hs_0 hen10, hs_9 hen10, e0, e1, e2, e3, e9, e7, cw, cs]
        rfl
      · rw [sX5_count_1, if_neg (by decide), show (([48, 56, 67, 78, 86, 97, 105, 113] : List Nat).getD ((nI 5).toInt - 0).toNat 0) = 97 by decide]
        simp only [sX5_count_0, sX5_count_48, sX5_count_49, sX5_count_52, sX5_count_55, sX5_count_56, sX5_count_57, sX5_count_60, sX5_count_63, sX5_count_66, sX5_count_67, sX5_count_68, sX5_count_71, sX5_count_74, sX5_count_77, sX5_count_78, sX5_count_79, sX5_count_82, sX5_count_85, sX5_count_86, sX5_count_87, sX5_count_90, sX5_count_93, sX5_count_96, sX5_count_97, sX5_count_98, sX5_count_101, sX5_count_104, sX5_count_105, sX5_count_106, sX5_count_109, sX5_count_112, sX5_count_113, sX5_count_114, sX5_count_117, sX5_count_120, sX5_count_121, sX5_count_122, sX5_count_123, sX5_count_126, opK_some, guK_true, calK_some, rk_nil, rk_int, rk_ref, tl_some, tl_none, nb_int, nb_0, nb_1, nb_if, nb_if', o0_0, o0_3, o7_1, o100_0, o100_1, o100_2, o100_3, hen_c hen10, farm_c farm100, hs_0 hen10, hs_9 hen10, e0, e1, e2, e3, e9, e7, cw, cs]
        rfl
      · rw [sX5_count_1, if_neg (by decide), show (([48, 56, 67, 78, 86, 97, 105, 113] : List Nat).getD ((nI 6).toInt - 0).toNat 0) = 105 by decide]
        simp only [sX5_count_0, sX5_count_48, sX5_count_49, sX5_count_52, sX5_count_55, sX5_count_56, sX5_count_57, sX5_count_60, sX5_count_63, sX5_count_66, sX5_count_67, sX5_count_68, sX5_count_71, sX5_count_74, sX5_count_77, sX5_count_78, sX5_count_79, sX5_count_82, sX5_count_85, sX5_count_86, sX5_count_87, sX5_count_90, sX5_count_93, sX5_count_96, sX5_count_97, sX5_count_98, sX5_count_101, sX5_count_104, sX5_count_105, sX5_count_106, sX5_count_109, sX5_count_112, sX5_count_113, sX5_count_114, sX5_count_117, sX5_count_120, sX5_count_121, sX5_count_122, sX5_count_123, sX5_count_126, opK_some, guK_true, calK_some, rk_nil, rk_int, rk_ref, tl_some, tl_none, nb_int, nb_0, nb_1, nb_if, nb_if', o0_0, o0_3, o7_1, o100_0, o100_1, o100_2, o100_3, hen_c hen10, farm_c farm100, hs_0 hen10, hs_9 hen10, e0, e1, e2, e3, e9, e7, cw, cs]
        rfl
      · rw [sX5_count_1, if_neg (by decide), show (([48, 56, 67, 78, 86, 97, 105, 113] : List Nat).getD ((nI 7).toInt - 0).toNat 0) = 113 by decide]
        simp only [sX5_count_0, sX5_count_48, sX5_count_49, sX5_count_52, sX5_count_55, sX5_count_56, sX5_count_57, sX5_count_60, sX5_count_63, sX5_count_66, sX5_count_67, sX5_count_68, sX5_count_71, sX5_count_74, sX5_count_77, sX5_count_78, sX5_count_79, sX5_count_82, sX5_count_85, sX5_count_86, sX5_count_87, sX5_count_90, sX5_count_93, sX5_count_96, sX5_count_97, sX5_count_98, sX5_count_101, sX5_count_104, sX5_count_105, sX5_count_106, sX5_count_109, sX5_count_112, sX5_count_113, sX5_count_114, sX5_count_117, sX5_count_120, sX5_count_121, sX5_count_122, sX5_count_123, sX5_count_126, opK_some, guK_true, calK_some, rk_nil, rk_int, rk_ref, tl_some, tl_none, nb_int, nb_0, nb_1, nb_if, nb_if', o0_0, o0_3, o7_1, o100_0, o100_1, o100_2, o100_3, hen_c hen10, farm_c farm100, hs_0 hen10, hs_9 hen10, e0, e1, e2, e3, e9, e7, cw, cs]
        rfl
    · rw [nX6_count]
      simp only [sX6_count_0, sX6_count_1, sX6_count_2, sX6_count_48, sX6_count_49, sX6_count_52, sX6_count_53, sX6_count_54, sX6_count_55, sX6_count_56, sX6_count_59, sX6_count_60, sX6_count_61, sX6_count_62, sX6_count_63, sX6_count_66, sX6_count_67, sX6_count_68, sX6_count_69, sX6_count_70, sX6_count_73, sX6_count_74, sX6_count_75, sX6_count_76, sX6_count_77, sX6_count_79, sX6_count_80, sX6_count_83, sX6_count_84, sX6_count_85, sX6_count_88, sX6_count_89, sX6_count_90, sX6_count_91, sX6_count_92, sX6_count_95, sX6_count_96, sX6_count_97, sX6_count_100, sX6_count_103, sX6_count_104, sX6_count_105, sX6_count_106, sX6_count_109, sX6_count_110, sX6_count_111, sX6_count_114, sX6_count_116, sX6_count_117, sX6_count_118, sX6_count_119, sX6_count_121, sX6_count_123, sX6_count_126, sX6_count_127, sX6_count_128, sX6_count_131, sX6_count_133, sX6_count_134, sX6_count_135, sX6_count_136, sX6_count_139, sX6_count_140, sX6_count_143, sX6_count_144, sX6_count_145, sX6_count_146, sX6_count_149, sX6_count_152, sX6_count_153, sX6_count_154, sX6_count_155, sX6_count_157, sX6_count_160, opK_some, guK_true, calK_some, rk_nil, rk_int, rk_ref, tl_some, tl_none, nb_int, nb_0, nb_1, nb_if, nb_if']
      rcases (show q = 0 ∨ q = 1 ∨ q = 2 ∨ q = 3 ∨ q = 4 ∨ q = 5 ∨ q = 6 ∨ q = 7 by omega) with rfl | rfl | rfl | rfl | rfl | rfl | rfl | rfl
      · rw [sX6_count_3, if_neg (by decide), show (([48, 55, 62, 69, 76, 105, 110, 118] : List Nat).getD ((nI 0).toInt - 0).toNat 0) = 48 by decide]
        simp only [sX6_count_0, sX6_count_1, sX6_count_2, sX6_count_48, sX6_count_49, sX6_count_52, sX6_count_53, sX6_count_54, sX6_count_55, sX6_count_56, sX6_count_59, sX6_count_60, sX6_count_61, sX6_count_62, sX6_count_63, sX6_count_66, sX6_count_67, sX6_count_68, sX6_count_69, sX6_count_70, sX6_count_73, sX6_count_74, sX6_count_75, sX6_count_76, sX6_count_77, sX6_count_79, sX6_count_80, sX6_count_83, sX6_count_84, sX6_count_85, sX6_count_88, sX6_count_89, sX6_count_90, sX6_count_91, sX6_count_92, sX6_count_95, sX6_count_96, sX6_count_97, sX6_count_100, sX6_count_103, sX6_count_104, sX6_count_105, sX6_count_106, sX6_count_109, sX6_count_110, sX6_count_111, sX6_count_114, sX6_count_116, sX6_count_117, sX6_count_118, sX6_count_119, sX6_count_121, sX6_count_123, sX6_count_126, sX6_count_127, sX6_count_128, sX6_count_131, sX6_count_133, sX6_count_134, sX6_count_135, sX6_count_136, sX6_count_139, sX6_count_140, sX6_count_143, sX6_count_144, sX6_count_145, sX6_count_146, sX6_count_149, sX6_count_152, sX6_count_153, sX6_count_154, sX6_count_155, sX6_count_157, sX6_count_160, opK_some, guK_true, calK_some, rk_nil, rk_int, rk_ref, tl_some, tl_none, nb_int, nb_0, nb_1, nb_if, nb_if', o130_0, o130_17, a131, ib_0_132, tn_0, ib_3_132, tn_3, ib_4_132, tn_4, ib_5_132, tn_5, ib_7_132, tn_7]
        rfl
      · rw [sX6_count_3, if_neg (by decide), show (([48, 55, 62, 69, 76, 105, 110, 118] : List Nat).getD ((nI 1).toInt - 0).toNat 0) = 55 by decide]
        simp only [sX6_count_0, sX6_count_1, sX6_count_2, sX6_count_48, sX6_count_49, sX6_count_52, sX6_count_53, sX6_count_54, sX6_count_55, sX6_count_56, sX6_count_59, sX6_count_60, sX6_count_61, sX6_count_62, sX6_count_63, sX6_count_66, sX6_count_67, sX6_count_68, sX6_count_69, sX6_count_70, sX6_count_73, sX6_count_74, sX6_count_75, sX6_count_76, sX6_count_77, sX6_count_79, sX6_count_80, sX6_count_83, sX6_count_84, sX6_count_85, sX6_count_88, sX6_count_89, sX6_count_90, sX6_count_91, sX6_count_92, sX6_count_95, sX6_count_96, sX6_count_97, sX6_count_100, sX6_count_103, sX6_count_104, sX6_count_105, sX6_count_106, sX6_count_109, sX6_count_110, sX6_count_111, sX6_count_114, sX6_count_116, sX6_count_117, sX6_count_118, sX6_count_119, sX6_count_121, sX6_count_123, sX6_count_126, sX6_count_127, sX6_count_128, sX6_count_131, sX6_count_133, sX6_count_134, sX6_count_135, sX6_count_136, sX6_count_139, sX6_count_140, sX6_count_143, sX6_count_144, sX6_count_145, sX6_count_146, sX6_count_149, sX6_count_152, sX6_count_153, sX6_count_154, sX6_count_155, sX6_count_157, sX6_count_160, opK_some, guK_true, calK_some, rk_nil, rk_int, rk_ref, tl_some, tl_none, nb_int, nb_0, nb_1, nb_if, nb_if', o130_0, o130_17, a131, ib_0_132, tn_0, ib_3_132, tn_3, ib_4_132, tn_4, ib_5_132, tn_5, ib_7_132, tn_7]
        rfl
      · rw [sX6_count_3, if_neg (by decide), show (([48, 55, 62, 69, 76, 105, 110, 118] : List Nat).getD ((nI 2).toInt - 0).toNat 0) = 62 by decide]
        simp only [sX6_count_0, sX6_count_1, sX6_count_2, sX6_count_48, sX6_count_49, sX6_count_52, sX6_count_53, sX6_count_54, sX6_count_55, sX6_count_56, sX6_count_59, sX6_count_60, sX6_count_61, sX6_count_62, sX6_count_63, sX6_count_66, sX6_count_67, sX6_count_68, sX6_count_69, sX6_count_70, sX6_count_73, sX6_count_74, sX6_count_75, sX6_count_76, sX6_count_77, sX6_count_79, sX6_count_80, sX6_count_83, sX6_count_84, sX6_count_85, sX6_count_88, sX6_count_89, sX6_count_90, sX6_count_91, sX6_count_92, sX6_count_95, sX6_count_96, sX6_count_97, sX6_count_100, sX6_count_103, sX6_count_104, sX6_count_105, sX6_count_106, sX6_count_109, sX6_count_110, sX6_count_111, sX6_count_114, sX6_count_116, sX6_count_117, sX6_count_118, sX6_count_119, sX6_count_121, sX6_count_123, sX6_count_126, sX6_count_127, sX6_count_128, sX6_count_131, sX6_count_133, sX6_count_134, sX6_count_135, sX6_count_136, sX6_count_139, sX6_count_140, sX6_count_143, sX6_count_144, sX6_count_145, sX6_count_146, sX6_count_149, sX6_count_152, sX6_count_153, sX6_count_154, sX6_count_155, sX6_count_157, sX6_count_160, opK_some, guK_true, calK_some, rk_nil, rk_int, rk_ref, tl_some, tl_none, nb_int, nb_0, nb_1, nb_if, nb_if', o130_0, o130_17, a131, ib_0_132, tn_0, ib_3_132, tn_3, ib_4_132, tn_4, ib_5_132, tn_5, ib_7_132, tn_7]
        rfl
      · rw [sX6_count_3, if_neg (by decide), show (([48, 55, 62, 69, 76, 105, 110, 118] : List Nat).getD ((nI 3).toInt - 0).toNat 0) = 69 by decide]
        simp only [sX6_count_0, sX6_count_1, sX6_count_2, sX6_count_48, sX6_count_49, sX6_count_52, sX6_count_53, sX6_count_54, sX6_count_55, sX6_count_56, sX6_count_59, sX6_count_60, sX6_count_61, sX6_count_62, sX6_count_63, sX6_count_66, sX6_count_67, sX6_count_68, sX6_count_69, sX6_count_70, sX6_count_73, sX6_count_74, sX6_count_75, sX6_count_76, sX6_count_77, sX6_count_79, sX6_count_80, sX6_count_83, sX6_count_84, sX6_count_85, sX6_count_88, sX6_count_89, sX6_count_90, sX6_count_91, sX6_count_92, sX6_count_95, sX6_count_96, sX6_count_97, sX6_count_100, sX6_count_103, sX6_count_104, sX6_count_105, sX6_count_106, sX6_count_109, sX6_count_110, sX6_count_111, sX6_count_114, sX6_count_116, sX6_count_117, sX6_count_118, sX6_count_119, sX6_count_121, sX6_count_123, sX6_count_126, sX6_count_127, sX6_count_128, sX6_count_131, sX6_count_133, sX6_count_134, sX6_count_135, sX6_count_136, sX6_count_139, sX6_count_140, sX6_count_143, sX6_count_144, sX6_count_145, sX6_count_146, sX6_count_149, sX6_count_152, sX6_count_153, sX6_count_154, sX6_count_155, sX6_count_157, sX6_count_160, opK_some, guK_true, calK_some, rk_nil, rk_int, rk_ref, tl_some, tl_none, nb_int, nb_0, nb_1, nb_if, nb_if', o130_0, o130_17, a131, ib_0_132, tn_0, ib_3_132, tn_3, ib_4_132, tn_4, ib_5_132, tn_5, ib_7_132, tn_7]
        rfl
      · rw [sX6_count_3, if_neg (by decide), show (([48, 55, 62, 69, 76, 105, 110, 118] : List Nat).getD ((nI 4).toInt - 0).toNat 0) = 76 by decide]
        simp only [sX6_count_0, sX6_count_1, sX6_count_2, sX6_count_48, sX6_count_49, sX6_count_52, sX6_count_53, sX6_count_54, sX6_count_55, sX6_count_56, sX6_count_59, sX6_count_60, sX6_count_61, sX6_count_62, sX6_count_63, sX6_count_66, sX6_count_67, sX6_count_68, sX6_count_69, sX6_count_70, sX6_count_73, sX6_count_74, sX6_count_75, sX6_count_76, sX6_count_77, sX6_count_79, sX6_count_80, sX6_count_83, sX6_count_84, sX6_count_85, sX6_count_88, sX6_count_89, sX6_count_90, sX6_count_91, sX6_count_92, sX6_count_95, sX6_count_96, sX6_count_97, sX6_count_100, sX6_count_103, sX6_count_104, sX6_count_105, sX6_count_106, sX6_count_109, sX6_count_110, sX6_count_111, sX6_count_114, sX6_count_116, sX6_count_117, sX6_count_118, sX6_count_119, sX6_count_121, sX6_count_123, sX6_count_126, sX6_count_127, sX6_count_128, sX6_count_131, sX6_count_133, sX6_count_134, sX6_count_135, sX6_count_136, sX6_count_139, sX6_count_140, sX6_count_143, sX6_count_144, sX6_count_145, sX6_count_146, sX6_count_149, sX6_count_152, sX6_count_153, sX6_count_154, sX6_count_155, sX6_count_157, sX6_count_160, opK_some, guK_true, calK_some, rk_nil, rk_int, rk_ref, tl_some, tl_none, nb_int, nb_0, nb_1, nb_if, nb_if', o130_0, o130_17, a131, ib_0_132, tn_0, ib_3_132, tn_3, ib_4_132, tn_4, ib_5_132, tn_5, ib_7_132, tn_7]
        exact L_m_worthOf w (nT (M 131)) 0 (by omega)
      · rw [sX6_count_3, if_neg (by decide), show (([48, 55, 62, 69, 76, 105, 110, 118] : List Nat).getD ((nI 5).toInt - 0).toNat 0) = 105 by decide]
        simp only [sX6_count_0, sX6_count_1, sX6_count_2, sX6_count_48, sX6_count_49, sX6_count_52, sX6_count_53, sX6_count_54, sX6_count_55, sX6_count_56, sX6_count_59, sX6_count_60, sX6_count_61, sX6_count_62, sX6_count_63, sX6_count_66, sX6_count_67, sX6_count_68, sX6_count_69, sX6_count_70, sX6_count_73, sX6_count_74, sX6_count_75, sX6_count_76, sX6_count_77, sX6_count_79, sX6_count_80, sX6_count_83, sX6_count_84, sX6_count_85, sX6_count_88, sX6_count_89, sX6_count_90, sX6_count_91, sX6_count_92, sX6_count_95, sX6_count_96, sX6_count_97, sX6_count_100, sX6_count_103, sX6_count_104, sX6_count_105, sX6_count_106, sX6_count_109, sX6_count_110, sX6_count_111, sX6_count_114, sX6_count_116, sX6_count_117, sX6_count_118, sX6_count_119, sX6_count_121, sX6_count_123, sX6_count_126, sX6_count_127, sX6_count_128, sX6_count_131, sX6_count_133, sX6_count_134, sX6_count_135, sX6_count_136, sX6_count_139, sX6_count_140, sX6_count_143, sX6_count_144, sX6_count_145, sX6_count_146, sX6_count_149, sX6_count_152, sX6_count_153, sX6_count_154, sX6_count_155, sX6_count_157, sX6_count_160, opK_some, guK_true, calK_some, rk_nil, rk_int, rk_ref, tl_some, tl_none, nb_int, nb_0, nb_1, nb_if, nb_if', o130_0, o130_17, a131, ib_0_132, tn_0, ib_3_132, tn_3, ib_4_132, tn_4, ib_5_132, tn_5, ib_7_132, tn_7]
        rfl
      · rw [sX6_count_3, if_neg (by decide), show (([48, 55, 62, 69, 76, 105, 110, 118] : List Nat).getD ((nI 6).toInt - 0).toNat 0) = 110 by decide]
        simp only [sX6_count_0, sX6_count_1, sX6_count_2, sX6_count_48, sX6_count_49, sX6_count_52, sX6_count_53, sX6_count_54, sX6_count_55, sX6_count_56, sX6_count_59, sX6_count_60, sX6_count_61, sX6_count_62, sX6_count_63, sX6_count_66, sX6_count_67, sX6_count_68, sX6_count_69, sX6_count_70, sX6_count_73, sX6_count_74, sX6_count_75, sX6_count_76, sX6_count_77, sX6_count_79, sX6_count_80, sX6_count_83, sX6_count_84, sX6_count_85, sX6_count_88, sX6_count_89, sX6_count_90, sX6_count_91, sX6_count_92, sX6_count_95, sX6_count_96, sX6_count_97, sX6_count_100, sX6_count_103, sX6_count_104, sX6_count_105, sX6_count_106, sX6_count_109, sX6_count_110, sX6_count_111, sX6_count_114, sX6_count_116, sX6_count_117, sX6_count_118, sX6_count_119, sX6_count_121, sX6_count_123, sX6_count_126, sX6_count_127, sX6_count_128, sX6_count_131, sX6_count_133, sX6_count_134, sX6_count_135, sX6_count_136, sX6_count_139, sX6_count_140, sX6_count_143, sX6_count_144, sX6_count_145, sX6_count_146, sX6_count_149, sX6_count_152, sX6_count_153, sX6_count_154, sX6_count_155, sX6_count_157, sX6_count_160, opK_some, guK_true, calK_some, rk_nil, rk_int, rk_ref, tl_some, tl_none, nb_int, nb_0, nb_1, nb_if, nb_if', o130_0, o130_17, a131, ib_0_132, tn_0, ib_3_132, tn_3, ib_4_132, tn_4, ib_5_132, tn_5, ib_7_132, tn_7]
        rfl
      · rw [sX6_count_3, if_neg (by decide), show (([48, 55, 62, 69, 76, 105, 110, 118] : List Nat).getD ((nI 7).toInt - 0).toNat 0) = 118 by decide]
        simp only [sX6_count_0, sX6_count_1, sX6_count_2, sX6_count_48, sX6_count_49, sX6_count_52, sX6_count_53, sX6_count_54, sX6_count_55, sX6_count_56, sX6_count_59, sX6_count_60, sX6_count_61, sX6_count_62, sX6_count_63, sX6_count_66, sX6_count_67, sX6_count_68, sX6_count_69, sX6_count_70, sX6_count_73, sX6_count_74, sX6_count_75, sX6_count_76, sX6_count_77, sX6_count_79, sX6_count_80, sX6_count_83, sX6_count_84, sX6_count_85, sX6_count_88, sX6_count_89, sX6_count_90, sX6_count_91, sX6_count_92, sX6_count_95, sX6_count_96, sX6_count_97, sX6_count_100, sX6_count_103, sX6_count_104, sX6_count_105, sX6_count_106, sX6_count_109, sX6_count_110, sX6_count_111, sX6_count_114, sX6_count_116, sX6_count_117, sX6_count_118, sX6_count_119, sX6_count_121, sX6_count_123, sX6_count_126, sX6_count_127, sX6_count_128, sX6_count_131, sX6_count_133, sX6_count_134, sX6_count_135, sX6_count_136, sX6_count_139, sX6_count_140, sX6_count_143, sX6_count_144, sX6_count_145, sX6_count_146, sX6_count_149, sX6_count_152, sX6_count_153, sX6_count_154, sX6_count_155, sX6_count_157, sX6_count_160, opK_some, guK_true, calK_some, rk_nil, rk_int, rk_ref, tl_some, tl_none, nb_int, nb_0, nb_1, nb_if, nb_if', o130_0, o130_17, a131, ib_0_132, tn_0, ib_3_132, tn_3, ib_4_132, tn_4, ib_5_132, tn_5, ib_7_132, tn_7]
        exact L_m_spots 10 0 (by omega)
theorem L_status {d : Nat} {M : Mem} {y : Int32} : ∀ (m f : Nat), f + m = 7 →
    lim (call (d + 1)) none 5 cX5_status (some .int) 31 [some (.ref 0), some (.int y), some (.int (sm (fun f => M 1 f) f)), some (.int (nI f))] [] M = some (some (.int (sm (fun f => M 1 f) 7)), M) := by
  intro m
  induction m with
  | zero =>
    intro f hf
    obtain rfl : f = 7 := by omega
    rw [sX5_status_31]
    simp only [sX5_status_0, sX5_status_1, sX5_status_2, sX5_status_4, sX5_status_7, sX5_status_10, sX5_status_11, sX5_status_12, sX5_status_15, sX5_status_16, sX5_status_17, sX5_status_20, sX5_status_21, sX5_status_24, sX5_status_25, sX5_status_26, sX5_status_27, sX5_status_28, sX5_status_29, sX5_status_30, sX5_status_32, sX5_status_34, sX5_status_37, sX5_status_38, sX5_status_39, sX5_status_42, sX5_status_43, sX5_status_44, sX5_status_45, sX5_status_46, sX5_status_49, sX5_status_52, sX5_status_53, opK_some, guK_true, calK_some, rk_nil, rk_int, rk_ref, tl_some, tl_none, nb_int, nb_0, nb_1, nb_if, nb_if']
    rw [if_pos (show (6 : Int32) < nI 7 by decide)]
  | succ m ih =>
    intro f hf
    rw [sX5_status_31]
    simp only [sX5_status_0, sX5_status_1, sX5_status_2, sX5_status_4, sX5_status_7, sX5_status_10, sX5_status_11, sX5_status_12, sX5_status_15, sX5_status_16, sX5_status_17, sX5_status_20, sX5_status_21, sX5_status_24, sX5_status_25, sX5_status_26, sX5_status_27, sX5_status_28, sX5_status_29, sX5_status_30, sX5_status_32, sX5_status_34, sX5_status_37, sX5_status_38, sX5_status_39, sX5_status_42, sX5_status_43, sX5_status_44, sX5_status_45, sX5_status_46, sX5_status_49, sX5_status_52, sX5_status_53, opK_some, guK_true, calK_some, rk_nil, rk_int, rk_ref, tl_some, tl_none, nb_int, nb_0, nb_1, nb_if, nb_if', o0_5, a1, inb_nI (show f < 7 by omega) (by omega), nI_clamp (show f < 2 ^ 31 by omega), nI_1]
    rw [if_neg (show ¬ (6 : Int32) < nI f from nI_nlt (a := 6) (by omega) (by omega))]
    exact ih (f + 1) (by omega)
theorem X_status {d : Nat} {M : Mem} {x : Int32} (j : J M) : Two (d + 2) 133 (d + 2) 245 [.int x] M := by
  obtain ⟨f1, f2⟩ := j.2.2.1
  by_cases hx : -1 ≤ x ∧ x ≤ 6
  · by_cases hn : x < 0
    · have ex : x = -1 := Int32.le_antisymm (by
        by_cases z : x ≤ -1
        · exact z
        · exfalso
          have h1 := Int32.not_le.mp z
          have h2 := Int32.lt_iff_toInt_lt.mp h1
          have h3 := Int32.lt_iff_toInt_lt.mp hn
          rw [show (-1 : Int32).toInt = -1 by decide] at h2
          rw [show (0 : Int32).toInt = 0 by decide] at h3
          omega) hx.1
      subst ex
      refine ⟨M, M, sm (fun f => M 1 f) 7, ?_, ?_, j⟩
      · rw [nX5_status]
        simp only [sX5_status_0, sX5_status_1, sX5_status_2, sX5_status_4, sX5_status_7, sX5_status_10, sX5_status_11, sX5_status_12, sX5_status_15, sX5_status_16, sX5_status_17, sX5_status_20, sX5_status_21, sX5_status_24, sX5_status_25, sX5_status_26, sX5_status_27, sX5_status_28, sX5_status_29, sX5_status_30, sX5_status_32, sX5_status_34, sX5_status_37, sX5_status_38, sX5_status_39, sX5_status_42, sX5_status_43, sX5_status_44, sX5_status_45, sX5_status_46, sX5_status_49, sX5_status_52, sX5_status_53, opK_some, guK_true, calK_some, rk_nil, rk_int, rk_ref, tl_some, tl_none, nb_int, nb_0, nb_1, nb_if, nb_if', q0, C_x_within, hx, and_self, if_true, one_ne, if_false, hn]
        exact L_status 7 0 (by omega)
      · rw [nX6_status]
        simp only [sX6_status_0, sX6_status_1, sX6_status_2, sX6_status_4, sX6_status_7, sX6_status_10, sX6_status_11, sX6_status_14, sX6_status_15, sX6_status_16, sX6_status_17, sX6_status_18, sX6_status_21, sX6_status_22, sX6_status_24, sX6_status_27, opK_some, guK_true, calK_some, rk_nil, rk_int, rk_ref, tl_some, tl_none, nb_int, nb_0, nb_1, nb_if, nb_if', q130, o130_4, a134, C_m_within, hx, and_self, if_true, one_ne, if_false, show (-1 : Int32) + 1 = 0 by decide, ib_0_8, tn_0]
        rw [f2]
    · obtain ⟨f, hf, rfl⟩ := nI_of2 (M := 6) (n := 6) rfl hn hx.2
      refine ⟨M, M, M 1 f, ?_, ?_, j⟩
      · rw [nX5_status]
        simp only [sX5_status_0, sX5_status_1, sX5_status_2, sX5_status_4, sX5_status_7, sX5_status_10, sX5_status_11, sX5_status_12, sX5_status_15, sX5_status_16, sX5_status_17, sX5_status_20, sX5_status_21, sX5_status_24, sX5_status_25, sX5_status_26, sX5_status_27, sX5_status_28, sX5_status_29, sX5_status_30, sX5_status_32, sX5_status_34, sX5_status_37, sX5_status_38, sX5_status_39, sX5_status_42, sX5_status_43, sX5_status_44, sX5_status_45, sX5_status_46, sX5_status_49, sX5_status_52, sX5_status_53, opK_some, guK_true, calK_some, rk_nil, rk_int, rk_ref, tl_some, tl_none, nb_int, nb_0, nb_1, nb_if, nb_if', q0, o0_5, a1, C_x_within, hx, and_self, if_true, one_ne, if_false, hn, inb_nI (show f < 7 by omega) (by omega), nI_clamp (show f < 2 ^ 31 by omega)]
      · rw [nX6_status]
        simp only [sX6_status_0, sX6_status_1, sX6_status_2, sX6_status_4, sX6_status_7, sX6_status_10, sX6_status_11, sX6_status_14, sX6_status_15, sX6_status_16, sX6_status_17, sX6_status_18, sX6_status_21, sX6_status_22, sX6_status_24, sX6_status_27, opK_some, guK_true, calK_some, rk_nil, rk_int, rk_ref, tl_some, tl_none, nb_int, nb_0, nb_1, nb_if, nb_if', q130, o130_4, a134, C_m_within, hx, and_self, if_true, one_ne, if_false, nI_1, inb_nI (show f + 1 < 8 by omega) (by omega), nI_clamp (show f + 1 < 2 ^ 31 by omega)]
        rw [f1 f (by omega)]
  · refine ⟨fX M 0, fM (fX M 0) 0, -1000001, ?_, ?_, J_fin j (by omega)⟩
    · rw [nX5_status]
      simp only [sX5_status_0, sX5_status_1, sX5_status_2, sX5_status_4, sX5_status_7, sX5_status_10, sX5_status_11, sX5_status_12, sX5_status_15, sX5_status_16, sX5_status_17, sX5_status_20, sX5_status_21, sX5_status_24, sX5_status_25, sX5_status_26, sX5_status_27, sX5_status_28, sX5_status_29, sX5_status_30, sX5_status_32, sX5_status_34, sX5_status_37, sX5_status_38, sX5_status_39, sX5_status_42, sX5_status_43, sX5_status_44, sX5_status_45, sX5_status_46, sX5_status_49, sX5_status_52, sX5_status_53, opK_some, guK_true, calK_some, rk_nil, rk_int, rk_ref, tl_some, tl_none, nb_int, nb_0, nb_1, nb_if, nb_if', q0, C_x_within, hx, if_true, zero_eq, if_false, C_xf0]
    · rw [nX6_status]
      simp only [sX6_status_0, sX6_status_1, sX6_status_2, sX6_status_4, sX6_status_7, sX6_status_10, sX6_status_11, sX6_status_14, sX6_status_15, sX6_status_16, sX6_status_17, sX6_status_18, sX6_status_21, sX6_status_22, sX6_status_24, sX6_status_27, opK_some, guK_true, calK_some, rk_nil, rk_int, rk_ref, tl_some, tl_none, nb_int, nb_0, nb_1, nb_if, nb_if', q130, C_m_within, hx, if_true, zero_eq, if_false, C_mf0]
