/-! the class's hen: what is told -/
def toldR (r : Rw) (t : Nat) (x : Nat) : Int32 := if x < 7 then r (at9 t x) else if x = 7 then tkK (r (at9 t 0)) else if x = 8 then stK (r (at9 t 0)) else leK (r (at9 t 0)) (r (at9 t 2)) (r (at9 t 6))
theorem nI_inj {i j : Nat} (hi : i < 2 ^ 31) (hj : j < 2 ^ 31) (h : nI i = nI j) : i = j := by
  have := congrArg iN h
  rwa [iN_nI hi, iN_nI hj] at this
theorem st_fold {x : Int32} : (stI 151).getD x.toNatClampNeg 0 = stK x := rfl
theorem C_told {d b t : Nat} {M : Mem} {r : Rw} (hb : isHen b) (h : HR M b r) (w : WR r) (ht : t < 10) : ∀ x, x ≤ 9 → call (d + 2) 7 [.ref b, .int (nI t), .int (nI x)] M = some (some (.int (toldR r t x)), M) := by
  intro x hx
  have e1 : M (b + 1) t = r (at9 t 0) := h.2.1 0 (by omega) t ht
  have e2 : M (b + 2) t = r (at9 t 1) := h.2.1 1 (by omega) t ht
  have e3 : M (b + 3) t = r (at9 t 2) := h.2.1 2 (by omega) t ht
  have e4 : M (b + 4) t = r (at9 t 3) := h.2.1 3 (by omega) t ht
  have e5 : M (b + 5) t = r (at9 t 4) := h.2.1 4 (by omega) t ht
  have e6 : M (b + 6) t = r (at9 t 5) := h.2.1 5 (by omega) t ht
  have e7 : M (b + 7) t = r (at9 t 6) := h.2.1 6 (by omega) t ht
  obtain ⟨k1, k2⟩ := (w.2.2.2 _ ht).1
  have k3 : inb (r (at9 t 0)) 7 = true := by rw [k2]; exact inb_nI (by omega) (by omega)
  have kl : ∀ x y, call (d + 1) 8 [.int (r (at9 t 0)), .int x, .int y] M = some (some (.int (leK (r (at9 t 0)) x y)), M) := by
    intro x y
    rw [k2]
    exact C_left (d := d + 0) _ k1
  rw [nX1_told]
  rcases (show x = 0 ∨ x = 1 ∨ x = 2 ∨ x = 3 ∨ x = 4 ∨ x = 5 ∨ x = 6 ∨ x = 7 ∨ x = 8 ∨ x = 9 by omega) with rfl | rfl | rfl | rfl | rfl | rfl | rfl | rfl | rfl | rfl
  · simp only [sX1_told_0]
    rw [sX1_told_1, if_neg (by decide), show (([52, 59, 66, 73, 80, 87, 94, 101, 112] : List Nat).getD ((nI 0).toInt - 0).toNat 0) = 52 by decide]
    simp only [sX1_told_52, sX1_told_53, sX1_told_56, sX1_told_57, sX1_told_58, sX1_told_59, sX1_told_60, sX1_told_63, sX1_told_64, sX1_told_65, sX1_told_66, sX1_told_67, sX1_told_70, sX1_told_71, sX1_told_72, sX1_told_73, sX1_told_74, sX1_told_77, sX1_told_78, sX1_told_79, sX1_told_80, sX1_told_81, sX1_told_84, sX1_told_85, sX1_told_86, sX1_told_87, sX1_told_88, sX1_told_91, sX1_told_92, sX1_told_93, sX1_told_94, sX1_told_95, sX1_told_98, sX1_told_99, sX1_told_100, sX1_told_101, sX1_told_104, sX1_told_105, sX1_told_108, sX1_told_109, sX1_told_110, sX1_told_111, sX1_told_112, sX1_told_115, sX1_told_116, sX1_told_119, sX1_told_120, sX1_told_121, sX1_told_122, sX1_told_123, sX1_told_124, sX1_told_127, sX1_told_128, sX1_told_129, sX1_told_130, sX1_told_133, sX1_told_134, sX1_told_135, sX1_told_136, sX1_told_139, sX1_told_140, sX1_told_141, sX1_told_144, opK_some, guK_true, calK_some, rk_nil, rk_int, rk_ref, tl_some, tl_none, nb_int, nb_0, nb_1, nb_if, nb_if', hs_1 hb, hs_2 hb, hs_3 hb, hs_4 hb, hs_5 hb, hs_6 hb, hs_7 hb, ha_1 hb, ha_2 hb, ha_3 hb, ha_4 hb, ha_5 hb, ha_6 hb, ha_7 hb, a150, a151, inb_nI ht (by omega), nI_clamp (show t < 2 ^ 31 by omega), e1, e2, e3, e4, e5, e6, e7, k3, kl, tk_fold, st_fold]
    rfl
  · simp only [sX1_told_0]
    rw [sX1_told_1, if_neg (by decide), show (([52, 59, 66, 73, 80, 87, 94, 101, 112] : List Nat).getD ((nI 1).toInt - 0).toNat 0) = 59 by decide]
    simp only [sX1_told_52, sX1_told_53, sX1_told_56, sX1_told_57, sX1_told_58, sX1_told_59, sX1_told_60, sX1_told_63, sX1_told_64, sX1_told_65, sX1_told_66, sX1_told_67, sX1_told_70, sX1_told_71, sX1_told_72, sX1_told_73, sX1_told_74, sX1_told_77, sX1_told_78, sX1_told_79, sX1_told_80, sX1_told_81, sX1_told_84, sX1_told_85, sX1_told_86, sX1_told_87, sX1_told_88, sX1_told_91, sX1_told_92, sX1_told_93, sX1_told_94, sX1_told_95, sX1_told_98, sX1_told_99, sX1_told_100, sX1_told_101, sX1_told_104, sX1_told_105, sX1_told_108, sX1_told_109, sX1_told_110, sX1_told_111, sX1_told_112, sX1_told_115, sX1_told_116, sX1_told_119, sX1_told_120, sX1_told_121, sX1_told_122, sX1_told_123, sX1_told_124, sX1_told_127, sX1_told_128, sX1_told_129, sX1_told_130, sX1_told_133, sX1_told_134, sX1_told_135, sX1_told_136, sX1_told_139, sX1_told_140, sX1_told_141, sX1_told_144, opK_some, guK_true, calK_some, rk_nil, rk_int, rk_ref, tl_some, tl_none, nb_int, nb_0, nb_1, nb_if, nb_if', hs_1 hb, hs_2 hb, hs_3 hb, hs_4 hb, hs_5 hb, hs_6 hb, hs_7 hb, ha_1 hb, ha_2 hb, ha_3 hb, ha_4 hb, ha_5 hb, ha_6 hb, ha_7 hb, a150, a151, inb_nI ht (by omega), nI_clamp (show t < 2 ^ 31 by omega), e1, e2, e3, e4, e5, e6, e7, k3, kl, tk_fold, st_fold]
    rfl
  · simp only [sX1_told_0]
    rw [sX1_told_1, if_neg (by decide), show (([52, 59, 66, 73, 80, 87, 94, 101, 112] : List Nat).getD ((nI 2).toInt - 0).toNat 0) = 66 by decide]
    simp only [sX1_told_52, sX1_told_53, sX1_told_56, sX1_told_57, sX1_told_58, sX1_told_59, sX1_told_60, sX1_told_63, sX1_told_64, sX1_told_65, sX1_told_66, sX1_told_67, sX1_told_70, sX1_told_71, sX1_told_72, sX1_told_73, sX1_told_74, sX1_told_77, sX1_told_78, sX1_told_79, sX1_told_80, sX1_told_81, sX1_told_84, sX1_told_85, sX1_told_86, sX1_told_87, sX1_told_88, sX1_told_91, sX1_told_92, sX1_told_93, sX1_told_94, sX1_told_95, sX1_told_98, sX1_told_99, sX1_told_100, sX1_told_101, sX1_told_104, sX1_told_105, sX1_told_108, sX1_told_109, sX1_told_110, sX1_told_111, sX1_told_112, sX1_told_115, sX1_told_116, sX1_told_119, sX1_told_120, sX1_told_121, sX1_told_122, sX1_told_123, sX1_told_124, sX1_told_127, sX1_told_128, sX1_told_129, sX1_told_130, sX1_told_133, sX1_told_134, sX1_told_135, sX1_told_136, sX1_told_139, sX1_told_140, sX1_told_141, sX1_told_144, opK_some, guK_true, calK_some, rk_nil, rk_int, rk_ref, tl_some, tl_none, nb_int, nb_0, nb_1, nb_if, nb_if', hs_1 hb, hs_2 hb, hs_3 hb, hs_4 hb, hs_5 hb, hs_6 hb, hs_7 hb, ha_1 hb, ha_2 hb, ha_3 hb, ha_4 hb, ha_5 hb, ha_6 hb, ha_7 hb, a150, a151, inb_nI ht (by omega), nI_clamp (show t < 2 ^ 31 by omega), e1, e2, e3, e4, e5, e6, e7, k3, kl, tk_fold, st_fold]
    rfl
  · simp only [sX1_told_0]
    rw [sX1_told_1, if_neg (by decide), show (([52, 59, 66, 73, 80, 87, 94, 101, 112] : List Nat).getD ((nI 3).toInt - 0).toNat 0) = 73 by decide]
    simp only [sX1_told_52, sX1_told_53, sX1_told_56, sX1_told_57, sX1_told_58, sX1_told_59, sX1_told_60, sX1_told_63, sX1_told_64, sX1_told_65, sX1_told_66, sX1_told_67, sX1_told_70, sX1_told_71, sX1_told_72, sX1_told_73, sX1_told_74, sX1_told_77, sX1_told_78, sX1_told_79, sX1_told_80, sX1_told_81, sX1_told_84, sX1_told_85, sX1_told_86, sX1_told_87, sX1_told_88, sX1_told_91, sX1_told_92, sX1_told_93, sX1_told_94, sX1_told_95, sX1_told_98, sX1_told_99, sX1_told_100, sX1_told_101, sX1_told_104, sX1_told_105, sX1_told_108, sX1_told_109, sX1_told_110, sX1_told_111, sX1_told_112, sX1_told_115, sX1_told_116, sX1_told_119, sX1_told_120, sX1_told_121, sX1_told_122, sX1_told_123, sX1_told_124, sX1_told_127, sX1_told_128, sX1_told_129, sX1_told_130, sX1_told_133, sX1_told_134, sX1_told_135, sX1_told_136, sX1_told_139, sX1_told_140, sX1_told_141, sX1_told_144, opK_some, guK_true, calK_some, rk_nil, rk_int, rk_ref, tl_some, tl_none, nb_int, nb_0, nb_1, nb_if, nb_if', hs_1 hb, hs_2 hb, hs_3 hb, hs_4 hb, hs_5 hb, hs_6 hb, hs_7 hb, ha_1 hb, ha_2 hb, ha_3 hb, ha_4 hb, ha_5 hb, ha_6 hb, ha_7 hb, a150, a151, inb_nI ht (by omega), nI_clamp (show t < 2 ^ 31 by omega), e1, e2, e3, e4, e5, e6, e7, k3, kl, tk_fold, st_fold]
    rfl
  · simp only [sX1_told_0]
    rw [sX1_told_1, if_neg (by decide), show (([52, 59, 66, 73, 80, 87, 94, 101, 112] : List Nat).getD ((nI 4).toInt - 0).toNat 0) = 80 by decide]
    simp only [sX1_told_52, sX1_told_53, sX1_told_56, sX1_told_57, sX1_told_58, sX1_told_59, sX1_told_60, sX1_told_63, sX1_told_64, sX1_told_65, sX1_told_66, sX1_told_67, sX1_told_70, sX1_told_71, sX1_told_72, sX1_told_73, sX1_told_74, sX1_told_77, sX1_told_78, sX1_told_79, sX1_told_80, sX1_told_81, sX1_told_84, sX1_told_85, sX1_told_86, sX1_told_87, sX1_told_88, sX1_told_91, sX1_told_92, sX1_told_93, sX1_told_94, sX1_told_95, sX1_told_98, sX1_told_99, sX1_told_100, sX1_told_101, sX1_told_104, sX1_told_105, sX1_told_108, sX1_told_109, sX1_told_110, sX1_told_111, sX1_told_112, sX1_told_115, sX1_told_116, sX1_told_119, sX1_told_120, sX1_told_121, sX1_told_122, sX1_told_123, sX1_told_124, sX1_told_127, sX1_told_128, sX1_told_129, sX1_told_130, sX1_told_133, sX1_told_134, sX1_told_135, sX1_told_136, sX1_told_139, sX1_told_140, sX1_told_141, sX1_told_144, opK_some, guK_true, calK_some, rk_nil, rk_int, rk_ref, tl_some, tl_none, nb_int, nb_0, nb_1, nb_if, nb_if', hs_1 hb, hs_2 hb, hs_3 hb, hs_4 hb, hs_5 hb, hs_6 hb, hs_7 hb, ha_1 hb, ha_2 hb, ha_3 hb, ha_4 hb, ha_5 hb, ha_6 hb, ha_7 hb, a150, a151, inb_nI ht (by omega), nI_clamp (show t < 2 ^ 31 by omega), e1, e2, e3, e4, e5, e6, e7, k3, kl, tk_fold, st_fold]
    rfl
  · simp only [sX1_told_0]
    rw [sX1_told_1, if_neg (by decide), show (([52, 59, 66, 73, 80, 87, 94, 101, 112] : List Nat).getD ((nI 5).toInt - 0).toNat 0) = 87 by decide]
    simp only [sX1_told_52, sX1_told_53, sX1_told_56, sX1_told_57, sX1_told_58, sX1_told_59, sX1_told_60, sX1_told_63, sX1_told_64, sX1_told_65, sX1_told_66, sX1_told_67, sX1_told_70, sX1_told_71, sX1_told_72, sX1_told_73, sX1_told_74, sX1_told_77, sX1_told_78, sX1_told_79, sX1_told_80, sX1_told_81, sX1_told_84, sX1_told_85, sX1_told_86, sX1_told_87, sX1_told_88, sX1_told_91, sX1_told_92, sX1_told_93, sX1_told_94, sX1_told_95, sX1_told_98, sX1_told_99, sX1_told_100, sX1_told_101, sX1_told_104, sX1_told_105, sX1_told_108, sX1_told_109, sX1_told_110, sX1_told_111, sX1_told_112, sX1_told_115, sX1_told_116, sX1_told_119, sX1_told_120, sX1_told_121, sX1_told_122, sX1_told_123, sX1_told_124, sX1_told_127, sX1_told_128, sX1_told_129, sX1_told_130, sX1_told_133, sX1_told_134, sX1_told_135, sX1_told_136, sX1_told_139, sX1_told_140, sX1_told_141, sX1_told_144, opK_some, guK_true, calK_some, rk_nil, rk_int, rk_ref, tl_some, tl_none, nb_int, nb_0, nb_1, nb_if, nb_if', hs_1 hb, hs_2 hb, hs_3 hb, hs_4 hb, hs_5 hb, hs_6 hb, hs_7 hb, ha_1 hb, ha_2 hb, ha_3 hb, ha_4 hb, ha_5 hb, ha_6 hb, ha_7 hb, a150, a151, inb_nI ht (by omega), nI_clamp (show t < 2 ^ 31 by omega), e1, e2, e3, e4, e5, e6, e7, k3, kl, tk_fold, st_fold]
    rfl
  · simp only [sX1_told_0]
    rw [sX1_told_1, if_neg (by decide), show (([52, 59, 66, 73, 80, 87, 94, 101, 112] : List Nat).getD ((nI 6).toInt - 0).toNat 0) = 94 by decide]
    simp only [sX1_told_52, sX1_told_53, sX1_told_56, sX1_told_57, sX1_told_58, sX1_told_59, sX1_told_60, sX1_told_63, sX1_told_64, sX1_told_65, sX1_told_66, sX1_told_67, sX1_told_70, sX1_told_71, sX1_told_72, sX1_told_73, sX1_told_74, sX1_told_77, sX1_told_78, sX1_told_79, sX1_told_80, sX1_told_81, sX1_told_84, sX1_told_85, sX1_told_86, sX1_told_87, sX1_told_88, sX1_told_91, sX1_told_92, sX1_told_93, sX1_told_94, sX1_told_95, sX1_told_98, sX1_told_99, sX1_told_100, sX1_told_101, sX1_told_104, sX1_told_105, sX1_told_108, sX1_told_109, sX1_told_110, sX1_told_111, sX1_told_112, sX1_told_115, sX1_told_116, sX1_told_119, sX1_told_120, sX1_told_121, sX1_told_122, sX1_told_123, sX1_told_124, sX1_told_127, sX1_told_128, sX1_told_129, sX1_told_130, sX1_told_133, sX1_told_134, sX1_told_135, sX1_told_136, sX1_told_139, sX1_told_140, sX1_told_141, sX1_told_144, opK_some, guK_true, calK_some, rk_nil, rk_int, rk_ref, tl_some, tl_none, nb_int, nb_0, nb_1, nb_if, nb_if', hs_1 hb, hs_2 hb, hs_3 hb, hs_4 hb, hs_5 hb, hs_6 hb, hs_7 hb, ha_1 hb, ha_2 hb, ha_3 hb, ha_4 hb, ha_5 hb, ha_6 hb, ha_7 hb, a150, a151, inb_nI ht (by omega), nI_clamp (show t < 2 ^ 31 by omega), e1, e2, e3, e4, e5, e6, e7, k3, kl, tk_fold, st_fold]
    rfl
  · simp only [sX1_told_0]
    rw [sX1_told_1, if_neg (by decide), show (([52, 59, 66, 73, 80, 87, 94, 101, 112] : List Nat).getD ((nI 7).toInt - 0).toNat 0) = 101 by decide]
    simp only [sX1_told_52, sX1_told_53, sX1_told_56, sX1_told_57, sX1_told_58, sX1_told_59, sX1_told_60, sX1_told_63, sX1_told_64, sX1_told_65, sX1_told_66, sX1_told_67, sX1_told_70, sX1_told_71, sX1_told_72, sX1_told_73, sX1_told_74, sX1_told_77, sX1_told_78, sX1_told_79, sX1_told_80, sX1_told_81, sX1_told_84, sX1_told_85, sX1_told_86, sX1_told_87, sX1_told_88, sX1_told_91, sX1_told_92, sX1_told_93, sX1_told_94, sX1_told_95, sX1_told_98, sX1_told_99, sX1_told_100, sX1_told_101, sX1_told_104, sX1_told_105, sX1_told_108, sX1_told_109, sX1_told_110, sX1_told_111, sX1_told_112, sX1_told_115, sX1_told_116, sX1_told_119, sX1_told_120, sX1_told_121, sX1_told_122, sX1_told_123, sX1_told_124, sX1_told_127, sX1_told_128, sX1_told_129, sX1_told_130, sX1_told_133, sX1_told_134, sX1_told_135, sX1_told_136, sX1_told_139, sX1_told_140, sX1_told_141, sX1_told_144, opK_some, guK_true, calK_some, rk_nil, rk_int, rk_ref, tl_some, tl_none, nb_int, nb_0, nb_1, nb_if, nb_if', hs_1 hb, hs_2 hb, hs_3 hb, hs_4 hb, hs_5 hb, hs_6 hb, hs_7 hb, ha_1 hb, ha_2 hb, ha_3 hb, ha_4 hb, ha_5 hb, ha_6 hb, ha_7 hb, a150, a151, inb_nI ht (by omega), nI_clamp (show t < 2 ^ 31 by omega), e1, e2, e3, e4, e5, e6, e7, k3, kl, tk_fold, st_fold]
    rfl
  · simp only [sX1_told_0]
    rw [sX1_told_1, if_neg (by decide), show (([52, 59, 66, 73, 80, 87, 94, 101, 112] : List Nat).getD ((nI 8).toInt - 0).toNat 0) = 112 by decide]
    simp only [sX1_told_52, sX1_told_53, sX1_told_56, sX1_told_57, sX1_told_58, sX1_told_59, sX1_told_60, sX1_told_63, sX1_told_64, sX1_told_65, sX1_told_66, sX1_told_67, sX1_told_70, sX1_told_71, sX1_told_72, sX1_told_73, sX1_told_74, sX1_told_77, sX1_told_78, sX1_told_79, sX1_told_80, sX1_told_81, sX1_told_84, sX1_told_85, sX1_told_86, sX1_told_87, sX1_told_88, sX1_told_91, sX1_told_92, sX1_told_93, sX1_told_94, sX1_told_95, sX1_told_98, sX1_told_99, sX1_told_100, sX1_told_101, sX1_told_104, sX1_told_105, sX1_told_108, sX1_told_109, sX1_told_110, sX1_told_111, sX1_told_112, sX1_told_115, sX1_told_116, sX1_told_119, sX1_told_120, sX1_told_121, sX1_told_122, sX1_told_123, sX1_told_124, sX1_told_127, sX1_told_128, sX1_told_129, sX1_told_130, sX1_told_133, sX1_told_134, sX1_told_135, sX1_told_136, sX1_told_139, sX1_told_140, sX1_told_141, sX1_told_144, opK_some, guK_true, calK_some, rk_nil, rk_int, rk_ref, tl_some, tl_none, nb_int, nb_0, nb_1, nb_if, nb_if', hs_1 hb, hs_2 hb, hs_3 hb, hs_4 hb, hs_5 hb, hs_6 hb, hs_7 hb, ha_1 hb, ha_2 hb, ha_3 hb, ha_4 hb, ha_5 hb, ha_6 hb, ha_7 hb, a150, a151, inb_nI ht (by omega), nI_clamp (show t < 2 ^ 31 by omega), e1, e2, e3, e4, e5, e6, e7, k3, kl, tk_fold, st_fold]
    rfl
  · simp only [sX1_told_0]
    rw [sX1_told_1, if_pos (by decide)]
    simp only [sX1_told_52, sX1_told_53, sX1_told_56, sX1_told_57, sX1_told_58, sX1_told_59, sX1_told_60, sX1_told_63, sX1_told_64, sX1_told_65, sX1_told_66, sX1_told_67, sX1_told_70, sX1_told_71, sX1_told_72, sX1_told_73, sX1_told_74, sX1_told_77, sX1_told_78, sX1_told_79, sX1_told_80, sX1_told_81, sX1_told_84, sX1_told_85, sX1_told_86, sX1_told_87, sX1_told_88, sX1_told_91, sX1_told_92, sX1_told_93, sX1_told_94, sX1_told_95, sX1_told_98, sX1_told_99, sX1_told_100, sX1_told_101, sX1_told_104, sX1_told_105, sX1_told_108, sX1_told_109, sX1_told_110, sX1_told_111, sX1_told_112, sX1_told_115, sX1_told_116, sX1_told_119, sX1_told_120, sX1_told_121, sX1_told_122, sX1_told_123, sX1_told_124, sX1_told_127, sX1_told_128, sX1_told_129, sX1_told_130, sX1_told_133, sX1_told_134, sX1_told_135, sX1_told_136, sX1_told_139, sX1_told_140, sX1_told_141, sX1_told_144, opK_some, guK_true, calK_some, rk_nil, rk_int, rk_ref, tl_some, tl_none, nb_int, nb_0, nb_1, nb_if, nb_if', hs_1 hb, hs_2 hb, hs_3 hb, hs_4 hb, hs_5 hb, hs_6 hb, hs_7 hb, ha_1 hb, ha_2 hb, ha_3 hb, ha_4 hb, ha_5 hb, ha_6 hb, ha_7 hb, a150, a151, inb_nI ht (by omega), nI_clamp (show t < 2 ^ 31 by omega), e1, e2, e3, e4, e5, e6, e7, k3, kl, tk_fold, st_fold]
    rfl
theorem C_alter {d b t f : Nat} {M : Mem} {r : Rw} {v : Int32} (hb : isHen b) (h : HR M b r) (ht : t < 10) (hf : f < 4) : ∃ M', call (d + 1) 11 [.ref b, .int (nI t), .int (nI f), .int v] M = some (none, M') ∧ HR M' b (upd r (at9 t f) v) ∧ Ou b M M' := by
  rw [nX1_alter]
  rcases (show f = 0 ∨ f = 1 ∨ f = 2 ∨ f = 3 by omega) with rfl | rfl | rfl | rfl
  · simp only [sX1_alter_0]
    rw [sX1_alter_1, if_neg (by decide), show (([32, 42, 52, 62] : List Nat).getD ((nI 0).toInt - 0).toNat 0) = 32 by decide]
    simp only [sX1_alter_32, sX1_alter_33, sX1_alter_36, sX1_alter_37, sX1_alter_38, sX1_alter_39, sX1_alter_42, sX1_alter_43, sX1_alter_46, sX1_alter_47, sX1_alter_48, sX1_alter_49, sX1_alter_52, sX1_alter_53, sX1_alter_56, sX1_alter_57, sX1_alter_58, sX1_alter_59, sX1_alter_62, sX1_alter_63, sX1_alter_66, sX1_alter_67, sX1_alter_68, sX1_alter_69, sX1_alter_72, opK_some, guK_true, calK_some, rk_nil, rk_int, rk_ref, tl_some, tl_none, nb_int, nb_0, nb_1, nb_if, nb_if', hs_1 hb, hn_1 hb, inb_nI ht (by omega), nI_clamp (show t < 2 ^ 31 by omega)]
    exact ⟨_, rfl, HR_cell (f := 0) h (by omega) ht, Ou.set (j := 1) (by omega)⟩
  · simp only [sX1_alter_0]
    rw [sX1_alter_1, if_neg (by decide), show (([32, 42, 52, 62] : List Nat).getD ((nI 1).toInt - 0).toNat 0) = 42 by decide]
    simp only [sX1_alter_32, sX1_alter_33, sX1_alter_36, sX1_alter_37, sX1_alter_38, sX1_alter_39, sX1_alter_42, sX1_alter_43, sX1_alter_46, sX1_alter_47, sX1_alter_48, sX1_alter_49, sX1_alter_52, sX1_alter_53, sX1_alter_56, sX1_alter_57, sX1_alter_58, sX1_alter_59, sX1_alter_62, sX1_alter_63, sX1_alter_66, sX1_alter_67, sX1_alter_68, sX1_alter_69, sX1_alter_72, opK_some, guK_true, calK_some, rk_nil, rk_int, rk_ref, tl_some, tl_none, nb_int, nb_0, nb_1, nb_if, nb_if', hs_2 hb, hn_2 hb, inb_nI ht (by omega), nI_clamp (show t < 2 ^ 31 by omega)]
    exact ⟨_, rfl, HR_cell (f := 1) h (by omega) ht, Ou.set (j := 2) (by omega)⟩
  · simp only [sX1_alter_0]
    rw [sX1_alter_1, if_neg (by decide), show (([32, 42, 52, 62] : List Nat).getD ((nI 2).toInt - 0).toNat 0) = 52 by decide]
    simp only [sX1_alter_32, sX1_alter_33, sX1_alter_36, sX1_alter_37, sX1_alter_38, sX1_alter_39, sX1_alter_42, sX1_alter_43, sX1_alter_46, sX1_alter_47, sX1_alter_48, sX1_alter_49, sX1_alter_52, sX1_alter_53, sX1_alter_56, sX1_alter_57, sX1_alter_58, sX1_alter_59, sX1_alter_62, sX1_alter_63, sX1_alter_66, sX1_alter_67, sX1_alter_68, sX1_alter_69, sX1_alter_72, opK_some, guK_true, calK_some, rk_nil, rk_int, rk_ref, tl_some, tl_none, nb_int, nb_0, nb_1, nb_if, nb_if', hs_3 hb, hn_3 hb, inb_nI ht (by omega), nI_clamp (show t < 2 ^ 31 by omega)]
    exact ⟨_, rfl, HR_cell (f := 2) h (by omega) ht, Ou.set (j := 3) (by omega)⟩
  · simp only [sX1_alter_0]
    rw [sX1_alter_1, if_neg (by decide), show (([32, 42, 52, 62] : List Nat).getD ((nI 3).toInt - 0).toNat 0) = 62 by decide]
    simp only [sX1_alter_32, sX1_alter_33, sX1_alter_36, sX1_alter_37, sX1_alter_38, sX1_alter_39, sX1_alter_42, sX1_alter_43, sX1_alter_46, sX1_alter_47, sX1_alter_48, sX1_alter_49, sX1_alter_52, sX1_alter_53, sX1_alter_56, sX1_alter_57, sX1_alter_58, sX1_alter_59, sX1_alter_62, sX1_alter_63, sX1_alter_66, sX1_alter_67, sX1_alter_68, sX1_alter_69, sX1_alter_72, opK_some, guK_true, calK_some, rk_nil, rk_int, rk_ref, tl_some, tl_none, nb_int, nb_0, nb_1, nb_if, nb_if', hs_4 hb, hn_4 hb, inb_nI ht (by omega), nI_clamp (show t < 2 ^ 31 by omega)]
    exact ⟨_, rfl, HR_cell (f := 3) h (by omega) ht, Ou.set (j := 4) (by omega)⟩
theorem C_isLaidOf {d b : Nat} {M : Mem} {r : Rw} {x : Int32} (hb : isHen b) (h : HR M b r) (hl : M b 12 = -1 ∨ ∃ t, t < 10 ∧ M b 12 = nI t) : call (d + 1) 70 [.ref b, .int x] M = some (some (.int (if 0 ≤ M b 12 ∧ r (at9 (iN (M b 12)) 3) = x then 1 else 0)), M) := by
  rw [nX1_isLaidOf]
  rcases hl with e | ⟨t, ht, e⟩
  · simp only [sX1_isLaidOf_0, sX1_isLaidOf_1, sX1_isLaidOf_4, sX1_isLaidOf_7, sX1_isLaidOf_8, sX1_isLaidOf_11, sX1_isLaidOf_12, sX1_isLaidOf_15, sX1_isLaidOf_16, sX1_isLaidOf_17, sX1_isLaidOf_20, sX1_isLaidOf_21, sX1_isLaidOf_24, sX1_isLaidOf_25, opK_some, guK_true, calK_some, rk_nil, rk_int, rk_ref, tl_some, tl_none, nb_int, nb_0, nb_1, nb_if, nb_if', hs_12 hb, hs_4 hb, ha_4 hb, e]
    rw [if_pos (by decide), if_neg (fun z => absurd z.1 (by decide))]
  · simp only [sX1_isLaidOf_0, sX1_isLaidOf_1, sX1_isLaidOf_4, sX1_isLaidOf_7, sX1_isLaidOf_8, sX1_isLaidOf_11, sX1_isLaidOf_12, sX1_isLaidOf_15, sX1_isLaidOf_16, sX1_isLaidOf_17, sX1_isLaidOf_20, sX1_isLaidOf_21, sX1_isLaidOf_24, sX1_isLaidOf_25, opK_some, guK_true, calK_some, rk_nil, rk_int, rk_ref, tl_some, tl_none, nb_int, nb_0, nb_1, nb_if, nb_if', hs_12 hb, hs_4 hb, ha_4 hb, e, inb_nI ht (by omega), nI_clamp (show t < 2 ^ 31 by omega), show M (b + 4) t = r (at9 t 3) from h.2.1 3 (by omega) t ht]
    have hp : 0 ≤ nI t := Int32.not_lt.mp (nI_pos (by omega))
    rw [if_neg (nI_pos (by omega))]
    by_cases c : r (at9 t 3) = x
    · rw [if_pos c, if_pos ⟨hp, c⟩]
    · rw [if_neg c, if_neg (fun z => c z.2)]
theorem C_laidLead {d b : Nat} {M : Mem} {r : Rw} (hb : isHen b) (h : HR M b r) (hl : M b 12 = -1 ∨ ∃ t, t < 10 ∧ M b 12 = nI t) : call (d + 2) 69 [.ref b] M = some (some (.int (if 0 ≤ M b 12 ∧ r (at9 (iN (M b 12)) 3) = 1 then - M b 13 else M b 13)), M) := by
  rw [nX1_laidLead]
  simp only [sX1_laidLead_0, sX1_laidLead_1, sX1_laidLead_2, sX1_laidLead_5, sX1_laidLead_8, sX1_laidLead_9, sX1_laidLead_12, sX1_laidLead_13, sX1_laidLead_16, sX1_laidLead_17, sX1_laidLead_20, opK_some, guK_true, calK_some, rk_nil, rk_int, rk_ref, tl_some, tl_none, nb_int, nb_0, nb_1, nb_if, nb_if', hen_c hb, hs_13 hb, C_isLaidOf hb h hl]
  by_cases c : 0 ≤ M b 12 ∧ r (at9 (iN (M b 12)) 3) = 1
  · rw [if_pos c, if_neg (by decide), if_pos c]
  · rw [if_neg c, if_pos rfl, if_neg c]
def abK : Nat → Nat := fun k => match k with
  | 3 => 2
  | 4 => 3
  | 5 => 1
  | _ => 0
theorem unK_up : ∀ k, k < 7 → ∀ j, j < 7 → k ≠ 0 → k ≠ j → unK k j = unK (abK k) j := by decide
theorem unK_0 : ∀ k, k < 7 → ∀ j, j < 7 → (k = 0 ∨ k = j) → unK k j = decide (k = j) := by decide
theorem abK_lt : ∀ k, k < 7 → k ≠ 0 → abK k < k ∧ (stI 152).getD k 0 = nI (abK k) := by decide
theorem U_x {d j : Nat} {M : Mem} {k0 : Int32} (hj : j ≤ 6) : ∀ (m k n : Nat), k ≤ 6 → k ≤ m → n + m ≤ 6 → lim (call d) none 2 cX2_isUnder (some .boolean) 4 [some (.int k0), some (.int (nI j)), some (.int (nI k)), some (.int (nI n))] [] M = some (some (.int (if unK k j then 1 else 0)), M) := by
  have ex : ∀ k n, k ≤ 6 → n ≤ 6 → (k = 0 ∨ k = j) → lim (call d) none 2 cX2_isUnder (some .boolean) 4 [some (.int k0), some (.int (nI j)), some (.int (nI k)), some (.int (nI n))] [] M = some (some (.int (if unK k j then 1 else 0)), M) := by
    intro k n hk hn h
    rw [sX2_isUnder_4]
    simp only [sX2_isUnder_0, sX2_isUnder_1, sX2_isUnder_2, sX2_isUnder_3, sX2_isUnder_5, sX2_isUnder_7, sX2_isUnder_10, sX2_isUnder_11, sX2_isUnder_14, sX2_isUnder_15, sX2_isUnder_16, sX2_isUnder_19, sX2_isUnder_22, sX2_isUnder_23, sX2_isUnder_24, sX2_isUnder_25, sX2_isUnder_28, sX2_isUnder_32, sX2_isUnder_33, sX2_isUnder_36, sX2_isUnder_37, sX2_isUnder_40, sX2_isUnder_41, opK_some, guK_true, calK_some, rk_nil, rk_int, rk_ref, tl_some, tl_none, nb_int, nb_0, nb_1, nb_if, nb_if']
    have e : lim (call d) none 2 cX2_isUnder (some .boolean) 31 [some (.int k0), some (.int (nI j)), some (.int (nI k)), some (.int (nI n))] [] M = some (some (.int (if unK k j then 1 else 0)), M) := by
      rw [sX2_isUnder_31]
      simp only [sX2_isUnder_0, sX2_isUnder_1, sX2_isUnder_2, sX2_isUnder_3, sX2_isUnder_5, sX2_isUnder_7, sX2_isUnder_10, sX2_isUnder_11, sX2_isUnder_14, sX2_isUnder_15, sX2_isUnder_16, sX2_isUnder_19, sX2_isUnder_22, sX2_isUnder_23, sX2_isUnder_24, sX2_isUnder_25, sX2_isUnder_28, sX2_isUnder_32, sX2_isUnder_33, sX2_isUnder_36, sX2_isUnder_37, sX2_isUnder_40, sX2_isUnder_41, opK_some, guK_true, calK_some, rk_nil, rk_int, rk_ref, tl_some, tl_none, nb_int, nb_0, nb_1, nb_if, nb_if']
      rw [unK_0 k (by omega) j (by omega) h]
      by_cases c : k = j
      · subst c
        rw [if_pos rfl, decide_eq_true rfl]
        rfl
      · rw [if_neg (fun z => c (nI_inj (by omega) (by omega) z)), decide_eq_false c]
        rfl
    rw [e, if_neg (show ¬ (6 : Int32) < nI n from Int32.not_lt.mpr (nI_le (b := 6) (by omega) (by omega)))]
    rcases h with rfl | rfl
    · rw [if_pos (by decide)]
    · by_cases c : nI k ≤ 0
      · rw [if_pos c]
      · rw [if_neg c, if_pos rfl]
  intro m
  induction m with
  | zero => intro k n hk hm hn; exact ex k n hk (by omega) (by omega)
  | succ m ih =>
    intro k n hk hm hn
    by_cases h0 : k = 0
    · exact ex k n hk (by omega) (by omega)
    · by_cases h1 : k = j
      · exact ex k n hk (by omega) (by omega)
      · obtain ⟨a1, a2⟩ := abK_lt k (by omega) h0
        rw [sX2_isUnder_4]
        simp only [sX2_isUnder_0, sX2_isUnder_1, sX2_isUnder_2, sX2_isUnder_3, sX2_isUnder_5, sX2_isUnder_7, sX2_isUnder_10, sX2_isUnder_11, sX2_isUnder_14, sX2_isUnder_15, sX2_isUnder_16, sX2_isUnder_19, sX2_isUnder_22, sX2_isUnder_23, sX2_isUnder_24, sX2_isUnder_25, sX2_isUnder_28, sX2_isUnder_31, sX2_isUnder_32, sX2_isUnder_33, sX2_isUnder_36, sX2_isUnder_37, sX2_isUnder_40, sX2_isUnder_41, opK_some, guK_true, calK_some, rk_nil, rk_int, rk_ref, tl_some, tl_none, nb_int, nb_0, nb_1, nb_if, nb_if', a152, inb_nI (show k < 7 by omega) (by omega), nI_clamp (show k < 2 ^ 31 by omega), a2, nI_1]
        rw [if_neg (show ¬ (6 : Int32) < nI n from Int32.not_lt.mpr (nI_le (b := 6) (by omega) (by omega))), if_neg (show ¬ nI k ≤ 0 from Int32.not_le.mpr (nI_lt (a := 0) (by omega) (by omega))), if_neg (fun z => h1 (nI_inj (by omega) (by omega) z)), unK_up k (by omega) j (by omega) h0 h1]
        exact ih _ _ (by omega) (by omega) (by omega)
theorem C_x_isUnder {d k j : Nat} {M : Mem} (hk : k ≤ 6) (hj : j ≤ 6) : call (d + 1) 115 [.int (nI k), .int (nI j)] M = some (some (.int (if unK k j then 1 else 0)), M) := by
  rw [nX2_isUnder]
  simp only [sX2_isUnder_0, sX2_isUnder_1, sX2_isUnder_2, sX2_isUnder_3, sX2_isUnder_5, sX2_isUnder_7, sX2_isUnder_10, sX2_isUnder_11, sX2_isUnder_14, sX2_isUnder_15, sX2_isUnder_16, sX2_isUnder_19, sX2_isUnder_22, sX2_isUnder_23, sX2_isUnder_24, sX2_isUnder_25, sX2_isUnder_28, sX2_isUnder_31, sX2_isUnder_32, sX2_isUnder_33, sX2_isUnder_36, sX2_isUnder_37, sX2_isUnder_40, sX2_isUnder_41, opK_some, guK_true, calK_some, rk_nil, rk_int, rk_ref, tl_some, tl_none, nb_int, nb_0, nb_1, nb_if, nb_if']
  exact U_x hj 6 k 0 hk (by omega) (by omega)
