/-! the class's tokens, in its rows -/
/-- but for its tokens -/
def Tk (M M' : Mem) : Prop := (∀ k, k ≠ 7 → (k < 92 ∨ 95 ≤ k) → M' k = M k) ∧ ∀ j, j ≠ 5 → j ≠ 6 → M' 7 j = M 7 j
theorem Tk.rf {M : Mem} : Tk M M := ⟨fun _ _ _ => rfl, fun _ _ _ => rfl⟩
theorem Tk.tr {M M1 M2 : Mem} (h1 : Tk M M1) (h2 : Tk M1 M2) : Tk M M2 := ⟨fun k a b => (h2.1 k a b).trans (h1.1 k a b), fun j a b => (h2.2 j a b).trans (h1.2 j a b)⟩
def To (M : Mem) (i : Nat) (s b v : Int32) : Prop := M 92 i = s ∧ M 93 i = b ∧ M 94 i = v
theorem C_addToken {d T : Nat} {M : Mem} {s b v : Int32} (e5 : M 7 5 = nI T) (hT : T < 121) : ∃ M', call (d + 1) 104 [.ref 7, .int s, .int b, .int v] M = some (none, M') ∧ Tk M M' ∧ M' 7 5 = nI (T + 1) ∧ M' 7 6 = M 7 6 ∧ To M' T s b v ∧ ∀ i, i < T → ∀ s' b' v', To M i s' b' v' → To M' i s' b' v' := by
  obtain ⟨M1, hM1⟩ : ∃ M1, M1 = mset M 92 T s := ⟨_, rfl⟩
  obtain ⟨M2, hM2⟩ : ∃ M2, M2 = mset M1 93 T b := ⟨_, rfl⟩
  obtain ⟨M3, hM3⟩ : ∃ M3, M3 = mset M2 94 T v := ⟨_, rfl⟩
  obtain ⟨M4, hM4⟩ : ∃ M4, M4 = mset M3 7 5 (nI (T + 1)) := ⟨_, rfl⟩
  have f1 : M1 7 5 = nI T := by rw [hM1, mset_ne (by omega)]; exact e5
  have f2 : M2 7 5 = nI T := by rw [hM2, mset_ne (by omega)]; exact f1
  have f3 : M3 7 5 = nI T := by rw [hM3, mset_ne (by omega)]; exact f2
  have iT : inb (nI T) 121 = true := inb_nI hT (by omega)
  have cT : (nI T).toNatClampNeg = T := nI_clamp (by omega)
  rw [nX4_addToken]
  simp only [sX4_addToken_0, sX4_addToken_1, sX4_addToken_4, sX4_addToken_5, sX4_addToken_9, sX4_addToken_12, sX4_addToken_13, sX4_addToken_16, sX4_addToken_17, sX4_addToken_20, sX4_addToken_22, sX4_addToken_23, sX4_addToken_26, sX4_addToken_27, sX4_addToken_30, sX4_addToken_32, sX4_addToken_33, sX4_addToken_36, sX4_addToken_37, sX4_addToken_40, sX4_addToken_42, sX4_addToken_43, sX4_addToken_43_i, sX4_addToken_44, sX4_addToken_47, sX4_addToken_48, sX4_addToken_49, sX4_addToken_52, opK_some, guK_true, calK_some, rk_nil, rk_int, rk_ref, tl_some, tl_none, nb_int, nb_0, nb_1, nb_if, nb_if', o7_5, o7_2, e5]
  rw [sX4_addToken_8 a92]
  simp only [sX4_addToken_0, sX4_addToken_1, sX4_addToken_4, sX4_addToken_5, sX4_addToken_9, sX4_addToken_12, sX4_addToken_13, sX4_addToken_16, sX4_addToken_17, sX4_addToken_20, sX4_addToken_22, sX4_addToken_23, sX4_addToken_26, sX4_addToken_27, sX4_addToken_30, sX4_addToken_32, sX4_addToken_33, sX4_addToken_36, sX4_addToken_37, sX4_addToken_40, sX4_addToken_42, sX4_addToken_43, sX4_addToken_43_i, sX4_addToken_44, sX4_addToken_47, sX4_addToken_48, sX4_addToken_49, sX4_addToken_52, opK_some, guK_true, calK_some, rk_nil, rk_int, rk_ref, tl_some, tl_none, nb_int, nb_0, nb_1, nb_if, nb_if', o7_5, o7_2, e5]
  rw [if_neg (show ¬ Int32.ofNat 121 ≤ nI T from nI_ge (b := 121) hT (by omega)), sX4_addToken_21]
  simp only [sX4_addToken_0, sX4_addToken_1, sX4_addToken_4, sX4_addToken_5, sX4_addToken_9, sX4_addToken_12, sX4_addToken_13, sX4_addToken_16, sX4_addToken_17, sX4_addToken_20, sX4_addToken_22, sX4_addToken_23, sX4_addToken_26, sX4_addToken_27, sX4_addToken_30, sX4_addToken_32, sX4_addToken_33, sX4_addToken_36, sX4_addToken_37, sX4_addToken_40, sX4_addToken_42, sX4_addToken_43, sX4_addToken_43_i, sX4_addToken_44, sX4_addToken_47, sX4_addToken_48, sX4_addToken_49, sX4_addToken_52, opK_some, guK_true, calK_some, rk_nil, rk_int, rk_ref, tl_some, tl_none, nb_int, nb_0, nb_1, nb_if, nb_if', b92, iT, cT, o7_5, o7_3, ← hM1, f1]
  rw [sX4_addToken_31]
  simp only [sX4_addToken_0, sX4_addToken_1, sX4_addToken_4, sX4_addToken_5, sX4_addToken_9, sX4_addToken_12, sX4_addToken_13, sX4_addToken_16, sX4_addToken_17, sX4_addToken_20, sX4_addToken_22, sX4_addToken_23, sX4_addToken_26, sX4_addToken_27, sX4_addToken_30, sX4_addToken_32, sX4_addToken_33, sX4_addToken_36, sX4_addToken_37, sX4_addToken_40, sX4_addToken_42, sX4_addToken_43, sX4_addToken_43_i, sX4_addToken_44, sX4_addToken_47, sX4_addToken_48, sX4_addToken_49, sX4_addToken_52, opK_some, guK_true, calK_some, rk_nil, rk_int, rk_ref, tl_some, tl_none, nb_int, nb_0, nb_1, nb_if, nb_if', b93, iT, cT, o7_5, o7_4, ← hM2, f2]
  rw [sX4_addToken_41]
  simp only [sX4_addToken_0, sX4_addToken_1, sX4_addToken_4, sX4_addToken_5, sX4_addToken_9, sX4_addToken_12, sX4_addToken_13, sX4_addToken_16, sX4_addToken_17, sX4_addToken_20, sX4_addToken_22, sX4_addToken_23, sX4_addToken_26, sX4_addToken_27, sX4_addToken_30, sX4_addToken_32, sX4_addToken_33, sX4_addToken_36, sX4_addToken_37, sX4_addToken_40, sX4_addToken_42, sX4_addToken_43, sX4_addToken_43_i, sX4_addToken_44, sX4_addToken_47, sX4_addToken_48, sX4_addToken_49, sX4_addToken_52, opK_some, guK_true, calK_some, rk_nil, rk_int, rk_ref, tl_some, tl_none, nb_int, nb_0, nb_1, nb_if, nb_if', b94, iT, cT, o7_5, p7_5, ← hM3, f3, nI_1, ← hM4]
  refine ⟨M4, rfl, ⟨fun k a b => by rw [hM4, mset_ne a, hM3, mset_ne (by omega), hM2, mset_ne (by omega), hM1, mset_ne (by omega)], fun j a _ => by rw [hM4, mset_at, upd_ne a, hM3, mset_ne (by omega), hM2, mset_ne (by omega), hM1, mset_ne (by omega)]⟩, by rw [hM4, mset_at, upd_at], by rw [hM4, mset_at, upd_ne (by omega), hM3, mset_ne (by omega), hM2, mset_ne (by omega), hM1, mset_ne (by omega)], ⟨?_, ?_, ?_⟩, fun i hi s' b' v' ht => ⟨?_, ?_, ?_⟩⟩
  · rw [hM4, mset_ne (by omega), hM3, mset_ne (by omega), hM2, mset_ne (by omega), hM1, mset_at, upd_at]
  · rw [hM4, mset_ne (by omega), hM3, mset_ne (by omega), hM2, mset_at, upd_at]
  · rw [hM4, mset_ne (by omega), hM3, mset_at, upd_at]
  · rw [hM4, mset_ne (by omega), hM3, mset_ne (by omega), hM2, mset_ne (by omega), hM1, mset_at, upd_ne (by omega)]
    exact ht.1
  · rw [hM4, mset_ne (by omega), hM3, mset_ne (by omega), hM2, mset_at, upd_ne (by omega), hM1, mset_ne (by omega)]
    exact ht.2.1
  · rw [hM4, mset_ne (by omega), hM3, mset_at, upd_ne (by omega), hM2, mset_ne (by omega), hM1, mset_ne (by omega)]
    exact ht.2.2
theorem L_rl {d Z q : Nat} {M : Mem} (e1 : M 7 1 = nI Z) (hZ : Z ≤ 120) : ∀ (m e : Nat), e + m = Z →
    lim (call (d + 7)) none 4 cX4_readToken (some .int) 16 [some (.ref 7), some (.int (nI q)), some (.int (nI e))] [] M = lim (call (d + 7)) none 4 cX4_readToken (some .int) 42 [some (.ref 7), some (.int (nI q)), some (.int (nI (rlF (M 91) m e)))] [] M := by
  intro m
  induction m with
  | zero =>
    intro e he
    obtain rfl : e = Z := by omega
    rw [sX4_readToken_16]
    simp only [sX4_readToken_0, sX4_readToken_1, sX4_readToken_2, sX4_readToken_3, sX4_readToken_4, sX4_readToken_5, sX4_readToken_8, sX4_readToken_9, sX4_readToken_10, sX4_readToken_13, sX4_readToken_17, sX4_readToken_18, sX4_readToken_21, sX4_readToken_24, sX4_readToken_25, sX4_readToken_28, sX4_readToken_29, sX4_readToken_30, sX4_readToken_33, sX4_readToken_36, sX4_readToken_39, sX4_readToken_43, sX4_readToken_44, sX4_readToken_45, sX4_readToken_46, sX4_readToken_47, sX4_readToken_48, sX4_readToken_51, sX4_readToken_54, sX4_readToken_57, sX4_readToken_58, sX4_readToken_61, sX4_readToken_62, sX4_readToken_63, sX4_readToken_66, sX4_readToken_70, sX4_readToken_71, sX4_readToken_74, sX4_readToken_77, sX4_readToken_78, sX4_readToken_81, sX4_readToken_82, sX4_readToken_83, sX4_readToken_86, sX4_readToken_89, sX4_readToken_92, sX4_readToken_96, sX4_readToken_97, sX4_readToken_98, sX4_readToken_99, sX4_readToken_100, sX4_readToken_101, sX4_readToken_104, sX4_readToken_107, sX4_readToken_110, sX4_readToken_111, sX4_readToken_112, sX4_readToken_115, sX4_readToken_116, sX4_readToken_117, sX4_readToken_119, sX4_readToken_122, sX4_readToken_123, sX4_readToken_126, sX4_readToken_127, sX4_readToken_128, sX4_readToken_129, sX4_readToken_133, opK_some, guK_true, calK_some, rk_nil, rk_int, rk_ref, tl_some, tl_none, nb_int, nb_0, nb_1, nb_if, nb_if', o7_1, e1]
    rw [if_pos (show nI e ≤ nI e from Int32.le_refl _)]
    rfl
  | succ m ih =>
    intro e he
    rw [sX4_readToken_16]
    simp only [sX4_readToken_0, sX4_readToken_1, sX4_readToken_2, sX4_readToken_3, sX4_readToken_4, sX4_readToken_5, sX4_readToken_8, sX4_readToken_9, sX4_readToken_10, sX4_readToken_13, sX4_readToken_17, sX4_readToken_18, sX4_readToken_21, sX4_readToken_24, sX4_readToken_25, sX4_readToken_28, sX4_readToken_29, sX4_readToken_30, sX4_readToken_33, sX4_readToken_36, sX4_readToken_39, sX4_readToken_43, sX4_readToken_44, sX4_readToken_45, sX4_readToken_46, sX4_readToken_47, sX4_readToken_48, sX4_readToken_51, sX4_readToken_54, sX4_readToken_57, sX4_readToken_58, sX4_readToken_61, sX4_readToken_62, sX4_readToken_63, sX4_readToken_66, sX4_readToken_70, sX4_readToken_71, sX4_readToken_74, sX4_readToken_77, sX4_readToken_78, sX4_readToken_81, sX4_readToken_82, sX4_readToken_83, sX4_readToken_86, sX4_readToken_89, sX4_readToken_92, sX4_readToken_96, sX4_readToken_97, sX4_readToken_98, sX4_readToken_99, sX4_readToken_100, sX4_readToken_101, sX4_readToken_104, sX4_readToken_107, sX4_readToken_110, sX4_readToken_111, sX4_readToken_112, sX4_readToken_115, sX4_readToken_116, sX4_readToken_117, sX4_readToken_119, sX4_readToken_122, sX4_readToken_123, sX4_readToken_126, sX4_readToken_127, sX4_readToken_128, sX4_readToken_129, sX4_readToken_133, opK_some, guK_true, calK_some, rk_nil, rk_int, rk_ref, tl_some, tl_none, nb_int, nb_0, nb_1, nb_if, nb_if', o7_0, o7_1, a91, q7, e1, inb_nI (show e < 120 by omega) (by omega), nI_clamp (show e < 2 ^ 31 by omega), C_isLetter, nI_1]
    rw [if_neg (show ¬ nI Z ≤ nI e from nI_ge (by omega) (by omega))]
    by_cases c : isL (M 91 e)
    · have ek : rlF (M 91) (m + 1) e = rlF (M 91) m (e + 1) := if_pos c
      rw [if_pos c, if_neg (by decide), ek]
      exact ih (e + 1) (by omega)
    · have ek : rlF (M 91) (m + 1) e = e := if_neg c
      rw [if_neg c, if_pos rfl, ek]
theorem L_rd {d Z q : Nat} {M : Mem} (e1 : M 7 1 = nI Z) (hZ : Z ≤ 120) : ∀ (m e : Nat), e + m = Z →
    lim (call (d + 7)) none 4 cX4_readToken (some .int) 69 [some (.ref 7), some (.int (nI q)), some (.int (nI e))] [] M = lim (call (d + 7)) none 4 cX4_readToken (some .int) 95 [some (.ref 7), some (.int (nI q)), some (.int (nI (rdF (M 91) m e)))] [] M := by
  intro m
  induction m with
  | zero =>
    intro e he
    obtain rfl : e = Z := by omega
    rw [sX4_readToken_69]
    simp only [sX4_readToken_0, sX4_readToken_1, sX4_readToken_2, sX4_readToken_3, sX4_readToken_4, sX4_readToken_5, sX4_readToken_8, sX4_readToken_9, sX4_readToken_10, sX4_readToken_13, sX4_readToken_17, sX4_readToken_18, sX4_readToken_21, sX4_readToken_24, sX4_readToken_25, sX4_readToken_28, sX4_readToken_29, sX4_readToken_30, sX4_readToken_33, sX4_readToken_36, sX4_readToken_39, sX4_readToken_43, sX4_readToken_44, sX4_readToken_45, sX4_readToken_46, sX4_readToken_47, sX4_readToken_48, sX4_readToken_51, sX4_readToken_54, sX4_readToken_57, sX4_readToken_58, sX4_readToken_61, sX4_readToken_62, sX4_readToken_63, sX4_readToken_66, sX4_readToken_70, sX4_readToken_71, sX4_readToken_74, sX4_readToken_77, sX4_readToken_78, sX4_readToken_81, sX4_readToken_82, sX4_readToken_83, sX4_readToken_86, sX4_readToken_89, sX4_readToken_92, sX4_readToken_96, sX4_readToken_97, sX4_readToken_98, sX4_readToken_99, sX4_readToken_100, sX4_readToken_101, sX4_readToken_104, sX4_readToken_107, sX4_readToken_110, sX4_readToken_111, sX4_readToken_112, sX4_readToken_115, sX4_readToken_116, sX4_readToken_117, sX4_readToken_119, sX4_readToken_122, sX4_readToken_123, sX4_readToken_126, sX4_readToken_127, sX4_readToken_128, sX4_readToken_129, sX4_readToken_133, opK_some, guK_true, calK_some, rk_nil, rk_int, rk_ref, tl_some, tl_none, nb_int, nb_0, nb_1, nb_if, nb_if', o7_1, e1]
    rw [if_pos (show nI e ≤ nI e from Int32.le_refl _)]
    rfl
  | succ m ih =>
    intro e he
    rw [sX4_readToken_69]
    simp only [sX4_readToken_0, sX4_readToken_1, sX4_readToken_2, sX4_readToken_3, sX4_readToken_4, sX4_readToken_5, sX4_readToken_8, sX4_readToken_9, sX4_readToken_10, sX4_readToken_13, sX4_readToken_17, sX4_readToken_18, sX4_readToken_21, sX4_readToken_24, sX4_readToken_25, sX4_readToken_28, sX4_readToken_29, sX4_readToken_30, sX4_readToken_33, sX4_readToken_36, sX4_readToken_39, sX4_readToken_43, sX4_readToken_44, sX4_readToken_45, sX4_readToken_46, sX4_readToken_47, sX4_readToken_48, sX4_readToken_51, sX4_readToken_54, sX4_readToken_57, sX4_readToken_58, sX4_readToken_61, sX4_readToken_62, sX4_readToken_63, sX4_readToken_66, sX4_readToken_70, sX4_readToken_71, sX4_readToken_74, sX4_readToken_77, sX4_readToken_78, sX4_readToken_81, sX4_readToken_82, sX4_readToken_83, sX4_readToken_86, sX4_readToken_89, sX4_readToken_92, sX4_readToken_96, sX4_readToken_97, sX4_readToken_98, sX4_readToken_99, sX4_readToken_100, sX4_readToken_101, sX4_readToken_104, sX4_readToken_107, sX4_readToken_110, sX4_readToken_111, sX4_readToken_112, sX4_readToken_115, sX4_readToken_116, sX4_readToken_117, sX4_readToken_119, sX4_readToken_122, sX4_readToken_123, sX4_readToken_126, sX4_readToken_127, sX4_readToken_128, sX4_readToken_129, sX4_readToken_133, opK_some, guK_true, calK_some, rk_nil, rk_int, rk_ref, tl_some, tl_none, nb_int, nb_0, nb_1, nb_if, nb_if', o7_0, o7_1, a91, q7, e1, inb_nI (show e < 120 by omega) (by omega), nI_clamp (show e < 2 ^ 31 by omega), C_isDigit, nI_1]
    rw [if_neg (show ¬ nI Z ≤ nI e from nI_ge (by omega) (by omega))]
    by_cases c : isD (M 91 e)
    · have ek : rdF (M 91) (m + 1) e = rdF (M 91) m (e + 1) := if_pos c
      rw [if_pos c, if_neg (by decide), ek]
      exact ih (e + 1) (by omega)
    · have ek : rdF (M 91) (m + 1) e = e := if_neg c
      rw [if_neg c, if_pos rfl, ek]
theorem C_readToken {d Z q T : Nat} {M : Mem} (e1 : M 7 1 = nI Z) (hZ : Z ≤ 120) (hq : q < Z) (e5 : M 7 5 = nI T) (hT : T < 121) : ∃ M', call (d + 8) 92 [.ref 7, .int (nI q)] M = some (some (.int (nI (tE (M 91) Z q))), M') ∧ Tk M M' ∧ M' 7 5 = nI (T + 1) ∧ M' 7 6 = M 7 6 ∧ To M' T (tQ (M 91) Z q) (nI q) (tV (M 91) Z q) ∧ ∀ i, i < T → ∀ s' b' v', To M i s' b' v' → To M' i s' b' v' := by
  have hq' : ¬ Z ≤ q := by omega
  have tz := tE_Z (B := M 91) hq
  have iq := inb_nI (show q < 120 by omega) (show 120 < 2 ^ 31 by omega)
  have cq := nI_clamp (show q < 2 ^ 31 by omega)
  rw [show d + 8 = d + 7 + 1 from rfl, nX4_readToken]
  simp only [sX4_readToken_0, sX4_readToken_1, sX4_readToken_2, sX4_readToken_3, sX4_readToken_4, sX4_readToken_5, sX4_readToken_8, sX4_readToken_9, sX4_readToken_10, sX4_readToken_13, sX4_readToken_17, sX4_readToken_18, sX4_readToken_21, sX4_readToken_24, sX4_readToken_25, sX4_readToken_28, sX4_readToken_29, sX4_readToken_30, sX4_readToken_33, sX4_readToken_36, sX4_readToken_39, sX4_readToken_43, sX4_readToken_44, sX4_readToken_45, sX4_readToken_46, sX4_readToken_47, sX4_readToken_48, sX4_readToken_51, sX4_readToken_54, sX4_readToken_57, sX4_readToken_58, sX4_readToken_61, sX4_readToken_62, sX4_readToken_63, sX4_readToken_66, sX4_readToken_70, sX4_readToken_71, sX4_readToken_74, sX4_readToken_77, sX4_readToken_78, sX4_readToken_81, sX4_readToken_82, sX4_readToken_83, sX4_readToken_86, sX4_readToken_89, sX4_readToken_92, sX4_readToken_96, sX4_readToken_97, sX4_readToken_98, sX4_readToken_99, sX4_readToken_100, sX4_readToken_101, sX4_readToken_104, sX4_readToken_107, sX4_readToken_110, sX4_readToken_111, sX4_readToken_112, sX4_readToken_115, sX4_readToken_116, sX4_readToken_117, sX4_readToken_119, sX4_readToken_122, sX4_readToken_123, sX4_readToken_126, sX4_readToken_127, sX4_readToken_128, sX4_readToken_129, sX4_readToken_133, opK_some, guK_true, calK_some, rk_nil, rk_int, rk_ref, tl_some, tl_none, nb_int, nb_0, nb_1, nb_if, nb_if', o7_0, a91, q7, iq, cq, C_isLetter, C_isDigit, nI_1]
  by_cases cL : isL (M 91 q)
  · have eE : tE (M 91) Z q = rlF (M 91) (Z - (q + 1)) (q + 1) := by
      rw [← rl_1 hq cL]
      unfold tE
      rw [if_neg hq', if_pos cL]
    have eS : tQ (M 91) Z q = 1 := by
      unfold tQ
      rw [if_neg hq', if_pos cL]
    have eV : tV (M 91) Z q = wxF (M 91) q (tE (M 91) Z q) 12 0 := by
      unfold tV
      rw [if_neg hq', if_pos cL]
    have cw := C_wordBetween (d := d + 1) (M := M) (b := q) (e := tE (M 91) Z q) (by omega) (by omega)
    rw [show d + 1 + 6 = d + 7 from rfl] at cw
    obtain ⟨M2, c2, t2, f5, f6, g, h⟩ := C_addToken (d := d + 7 - 1) (s := 1) (b := nI q) (v := wxF (M 91) q (tE (M 91) Z q) 12 0) e5 hT
    rw [show d + 7 - 1 + 1 = d + 7 by omega] at c2
    rw [if_pos cL, if_neg (by decide), L_rl (d := d) e1 hZ (Z - (q + 1)) (q + 1) (by omega), ← eE, sX4_readToken_42]
    simp only [sX4_readToken_0, sX4_readToken_1, sX4_readToken_2, sX4_readToken_3, sX4_readToken_4, sX4_readToken_5, sX4_readToken_8, sX4_readToken_9, sX4_readToken_10, sX4_readToken_13, sX4_readToken_17, sX4_readToken_18, sX4_readToken_21, sX4_readToken_24, sX4_readToken_25, sX4_readToken_28, sX4_readToken_29, sX4_readToken_30, sX4_readToken_33, sX4_readToken_36, sX4_readToken_39, sX4_readToken_43, sX4_readToken_44, sX4_readToken_45, sX4_readToken_46, sX4_readToken_47, sX4_readToken_48, sX4_readToken_51, sX4_readToken_54, sX4_readToken_57, sX4_readToken_58, sX4_readToken_61, sX4_readToken_62, sX4_readToken_63, sX4_readToken_66, sX4_readToken_70, sX4_readToken_71, sX4_readToken_74, sX4_readToken_77, sX4_readToken_78, sX4_readToken_81, sX4_readToken_82, sX4_readToken_83, sX4_readToken_86, sX4_readToken_89, sX4_readToken_92, sX4_readToken_96, sX4_readToken_97, sX4_readToken_98, sX4_readToken_99, sX4_readToken_100, sX4_readToken_101, sX4_readToken_104, sX4_readToken_107, sX4_readToken_110, sX4_readToken_111, sX4_readToken_112, sX4_readToken_115, sX4_readToken_116, sX4_readToken_117, sX4_readToken_119, sX4_readToken_122, sX4_readToken_123, sX4_readToken_126, sX4_readToken_127, sX4_readToken_128, sX4_readToken_129, sX4_readToken_133, opK_some, guK_true, calK_some, rk_nil, rk_int, rk_ref, tl_some, tl_none, nb_int, nb_0, nb_1, nb_if, nb_if', q7, cw, c2]
    rw [sX4_readToken_132]
    simp only [sX4_readToken_0, sX4_readToken_1, sX4_readToken_2, sX4_readToken_3, sX4_readToken_4, sX4_readToken_5, sX4_readToken_8, sX4_readToken_9, sX4_readToken_10, sX4_readToken_13, sX4_readToken_17, sX4_readToken_18, sX4_readToken_21, sX4_readToken_24, sX4_readToken_25, sX4_readToken_28, sX4_readToken_29, sX4_readToken_30, sX4_readToken_33, sX4_readToken_36, sX4_readToken_39, sX4_readToken_43, sX4_readToken_44, sX4_readToken_45, sX4_readToken_46, sX4_readToken_47, sX4_readToken_48, sX4_readToken_51, sX4_readToken_54, sX4_readToken_57, sX4_readToken_58, sX4_readToken_61, sX4_readToken_62, sX4_readToken_63, sX4_readToken_66, sX4_readToken_70, sX4_readToken_71, sX4_readToken_74, sX4_readToken_77, sX4_readToken_78, sX4_readToken_81, sX4_readToken_82, sX4_readToken_83, sX4_readToken_86, sX4_readToken_89, sX4_readToken_92, sX4_readToken_96, sX4_readToken_97, sX4_readToken_98, sX4_readToken_99, sX4_readToken_100, sX4_readToken_101, sX4_readToken_104, sX4_readToken_107, sX4_readToken_110, sX4_readToken_111, sX4_readToken_112, sX4_readToken_115, sX4_readToken_116, sX4_readToken_117, sX4_readToken_119, sX4_readToken_122, sX4_readToken_123, sX4_readToken_126, sX4_readToken_127, sX4_readToken_128, sX4_readToken_129, sX4_readToken_133, opK_some, guK_true, calK_some, rk_nil, rk_int, rk_ref, tl_some, tl_none, nb_int, nb_0, nb_1, nb_if, nb_if']
    refine ⟨M2, rfl, t2, f5, f6, ?_, h⟩
    rw [eS, eV]
    exact g
  · by_cases cD : isD (M 91 q)
    · have eE : tE (M 91) Z q = rdF (M 91) (Z - (q + 1)) (q + 1) := by
        rw [← rd_1 hq cD]
        unfold tE
        rw [if_neg hq', if_neg cL, if_pos cD]
      have eS : tQ (M 91) Z q = 2 := by
        unfold tQ
        rw [if_neg hq', if_neg cL, if_pos cD]
      have eV : tV (M 91) Z q = nuF (M 91) (tE (M 91) Z q - q) q 0 := by
        unfold tV
        rw [if_neg hq', if_neg cL, if_pos cD]
      have cw := C_number (d := d + 7 - 1) (M := M) (b := q) (e := tE (M 91) Z q) (by omega) (by omega)
      rw [show d + 7 - 1 + 1 = d + 7 by omega] at cw
      obtain ⟨M2, c2, t2, f5, f6, g, h⟩ := C_addToken (d := d + 7 - 1) (s := 2) (b := nI q) (v := nuF (M 91) (tE (M 91) Z q - q) q 0) e5 hT
      rw [show d + 7 - 1 + 1 = d + 7 by omega] at c2
      rw [if_neg cL, if_pos rfl, if_pos cD, if_neg (by decide), L_rd (d := d) e1 hZ (Z - (q + 1)) (q + 1) (by omega), ← eE, sX4_readToken_95]
      simp only [sX4_readToken_0, sX4_readToken_1, sX4_readToken_2, sX4_readToken_3, sX4_readToken_4, sX4_readToken_5, sX4_readToken_8, sX4_readToken_9, sX4_readToken_10, sX4_readToken_13, sX4_readToken_17, sX4_readToken_18, sX4_readToken_21, sX4_readToken_24, sX4_readToken_25, sX4_readToken_28, sX4_readToken_29, sX4_readToken_30, sX4_readToken_33, sX4_readToken_36, sX4_readToken_39, sX4_readToken_43, sX4_readToken_44, sX4_readToken_45, sX4_readToken_46, sX4_readToken_47, sX4_readToken_48, sX4_readToken_51, sX4_readToken_54, sX4_readToken_57, sX4_readToken_58, sX4_readToken_61, sX4_readToken_62, sX4_readToken_63, sX4_readToken_66, sX4_readToken_70, sX4_readToken_71, sX4_readToken_74, sX4_readToken_77, sX4_readToken_78, sX4_readToken_81, sX4_readToken_82, sX4_readToken_83, sX4_readToken_86, sX4_readToken_89, sX4_readToken_92, sX4_readToken_96, sX4_readToken_97, sX4_readToken_98, sX4_readToken_99, sX4_readToken_100, sX4_readToken_101, sX4_readToken_104, sX4_readToken_107, sX4_readToken_110, sX4_readToken_111, sX4_readToken_112, sX4_readToken_115, sX4_readToken_116, sX4_readToken_117, sX4_readToken_119, sX4_readToken_122, sX4_readToken_123, sX4_readToken_126, sX4_readToken_127, sX4_readToken_128, sX4_readToken_129, sX4_readToken_133, opK_some, guK_true, calK_some, rk_nil, rk_int, rk_ref, tl_some, tl_none, nb_int, nb_0, nb_1, nb_if, nb_if', q7, cw, c2]
      rw [sX4_readToken_132]
      simp only [sX4_readToken_0, sX4_readToken_1, sX4_readToken_2, sX4_readToken_3, sX4_readToken_4, sX4_readToken_5, sX4_readToken_8, sX4_readToken_9, sX4_readToken_10, sX4_readToken_13, sX4_readToken_17, sX4_readToken_18, sX4_readToken_21, sX4_readToken_24, sX4_readToken_25, sX4_readToken_28, sX4_readToken_29, sX4_readToken_30, sX4_readToken_33, sX4_readToken_36, sX4_readToken_39, sX4_readToken_43, sX4_readToken_44, sX4_readToken_45, sX4_readToken_46, sX4_readToken_47, sX4_readToken_48, sX4_readToken_51, sX4_readToken_54, sX4_readToken_57, sX4_readToken_58, sX4_readToken_61, sX4_readToken_62, sX4_readToken_63, sX4_readToken_66, sX4_readToken_70, sX4_readToken_71, sX4_readToken_74, sX4_readToken_77, sX4_readToken_78, sX4_readToken_81, sX4_readToken_82, sX4_readToken_83, sX4_readToken_86, sX4_readToken_89, sX4_readToken_92, sX4_readToken_96, sX4_readToken_97, sX4_readToken_98, sX4_readToken_99, sX4_readToken_100, sX4_readToken_101, sX4_readToken_104, sX4_readToken_107, sX4_readToken_110, sX4_readToken_111, sX4_readToken_112, sX4_readToken_115, sX4_readToken_116, sX4_readToken_117, sX4_readToken_119, sX4_readToken_122, sX4_readToken_123, sX4_readToken_126, sX4_readToken_127, sX4_readToken_128, sX4_readToken_129, sX4_readToken_133, opK_some, guK_true, calK_some, rk_nil, rk_int, rk_ref, tl_some, tl_none, nb_int, nb_0, nb_1, nb_if, nb_if']
      refine ⟨M2, rfl, t2, f5, f6, ?_, h⟩
      rw [eS, eV]
      exact g
    · have eE : tE (M 91) Z q = q + 1 := by
        unfold tE
        rw [if_neg hq', if_neg cL, if_neg cD]
      have eV : tV (M 91) Z q = 0 := by
        unfold tV
        rw [if_neg hq', if_neg cL, if_neg cD]
      rw [if_neg cL, if_pos rfl, if_neg cD, if_pos rfl]
      by_cases c59 : M 91 q = 59
      · have eS : tQ (M 91) Z q = 3 := by
          unfold tQ
          rw [if_neg hq', if_neg cL, if_neg cD, if_pos c59]
        obtain ⟨M2, c2, t2, f5, f6, g, h⟩ := C_addToken (d := d + 7 - 1) (s := 3) (b := nI q) (v := 0) e5 hT
        rw [show d + 7 - 1 + 1 = d + 7 by omega] at c2
        simp only [c59, if_true, c2, calK_some, tl_none]
        rw [sX4_readToken_132]
        simp only [sX4_readToken_0, sX4_readToken_1, sX4_readToken_2, sX4_readToken_3, sX4_readToken_4, sX4_readToken_5, sX4_readToken_8, sX4_readToken_9, sX4_readToken_10, sX4_readToken_13, sX4_readToken_17, sX4_readToken_18, sX4_readToken_21, sX4_readToken_24, sX4_readToken_25, sX4_readToken_28, sX4_readToken_29, sX4_readToken_30, sX4_readToken_33, sX4_readToken_36, sX4_readToken_39, sX4_readToken_43, sX4_readToken_44, sX4_readToken_45, sX4_readToken_46, sX4_readToken_47, sX4_readToken_48, sX4_readToken_51, sX4_readToken_54, sX4_readToken_57, sX4_readToken_58, sX4_readToken_61, sX4_readToken_62, sX4_readToken_63, sX4_readToken_66, sX4_readToken_70, sX4_readToken_71, sX4_readToken_74, sX4_readToken_77, sX4_readToken_78, sX4_readToken_81, sX4_readToken_82, sX4_readToken_83, sX4_readToken_86, sX4_readToken_89, sX4_readToken_92, sX4_readToken_96, sX4_readToken_97, sX4_readToken_98, sX4_readToken_99, sX4_readToken_100, sX4_readToken_101, sX4_readToken_104, sX4_readToken_107, sX4_readToken_110, sX4_readToken_111, sX4_readToken_112, sX4_readToken_115, sX4_readToken_116, sX4_readToken_117, sX4_readToken_119, sX4_readToken_122, sX4_readToken_123, sX4_readToken_126, sX4_readToken_127, sX4_readToken_128, sX4_readToken_129, sX4_readToken_133, opK_some, guK_true, calK_some, rk_nil, rk_int, rk_ref, tl_some, tl_none, nb_int, nb_0, nb_1, nb_if, nb_if', eE]
        refine ⟨M2, rfl, t2, f5, f6, ?_, h⟩
        rw [eS, eV]
        exact g
      · have eS : tQ (M 91) Z q = 4 := by
          unfold tQ
          rw [if_neg hq', if_neg cL, if_neg cD, if_neg c59]
        obtain ⟨M2, c2, t2, f5, f6, g, h⟩ := C_addToken (d := d + 7 - 1) (s := 4) (b := nI q) (v := 0) e5 hT
        rw [show d + 7 - 1 + 1 = d + 7 by omega] at c2
        simp only [c59, if_false, c2, calK_some, tl_none]
        rw [sX4_readToken_132]
        simp only [sX4_readToken_0, sX4_readToken_1, sX4_readToken_2, sX4_readToken_3, sX4_readToken_4, sX4_readToken_5, sX4_readToken_8, sX4_readToken_9, sX4_readToken_10, sX4_readToken_13, sX4_readToken_17, sX4_readToken_18, sX4_readToken_21, sX4_readToken_24, sX4_readToken_25, sX4_readToken_28, sX4_readToken_29, sX4_readToken_30, sX4_readToken_33, sX4_readToken_36, sX4_readToken_39, sX4_readToken_43, sX4_readToken_44, sX4_readToken_45, sX4_readToken_46, sX4_readToken_47, sX4_readToken_48, sX4_readToken_51, sX4_readToken_54, sX4_readToken_57, sX4_readToken_58, sX4_readToken_61, sX4_readToken_62, sX4_readToken_63, sX4_readToken_66, sX4_readToken_70, sX4_readToken_71, sX4_readToken_74, sX4_readToken_77, sX4_readToken_78, sX4_readToken_81, sX4_readToken_82, sX4_readToken_83, sX4_readToken_86, sX4_readToken_89, sX4_readToken_92, sX4_readToken_96, sX4_readToken_97, sX4_readToken_98, sX4_readToken_99, sX4_readToken_100, sX4_readToken_101, sX4_readToken_104, sX4_readToken_107, sX4_readToken_110, sX4_readToken_111, sX4_readToken_112, sX4_readToken_115, sX4_readToken_116, sX4_readToken_117, sX4_readToken_119, sX4_readToken_122, sX4_readToken_123, sX4_readToken_126, sX4_readToken_127, sX4_readToken_128, sX4_readToken_129, sX4_readToken_133, opK_some, guK_true, calK_some, rk_nil, rk_int, rk_ref, tl_some, tl_none, nb_int, nb_0, nb_1, nb_if, nb_if', eE]
        refine ⟨M2, rfl, t2, f5, f6, ?_, h⟩
        rw [eS, eV]
        exact g
/-- the tokens to the first END -/
def Tt (B : Nat → Int32) (Z n : Nat) (M : Mem) : Prop := n ≤ Z ∧ (∀ i, i < n → sk B Z (ps B Z i) < Z) ∧ sk B Z (ps B Z n) = Z ∧ M 7 5 = nI (n + 1) ∧ ∀ i, i ≤ n → To M i (tQ B Z (sk B Z (ps B Z i))) (nI (sk B Z (ps B Z i))) (tV B Z (sk B Z (ps B Z i)))
theorem L_readTokens {d Z : Nat} {M : Mem} (e1 : M 7 1 = nI Z) (hZ : Z ≤ 120) : ∀ (m i T c : Nat) (M1 : Mem), i + m = Z → c ≤ i → T ≤ i → Tk M M1 → M1 7 5 = nI T → ps (M 91) Z T ≤ i → sk (M 91) Z (ps (M 91) Z T) = sk (M 91) Z i → (∀ t, t < T → sk (M 91) Z (ps (M 91) Z t) < Z ∧ To M1 t (tQ (M 91) Z (sk (M 91) Z (ps (M 91) Z t))) (nI (sk (M 91) Z (ps (M 91) Z t))) (tV (M 91) Z (sk (M 91) Z (ps (M 91) Z t)))) →
    ∃ M' n, lim (call (d + 8)) none 4 cX4_readTokens none 9 [some (.ref 7), some (.int (nI i)), some (.int (nI c))] [] M1 = some (none, M') ∧ Tk M M' ∧ Tt (M 91) Z n M' := by
  intro m
  induction m using Nat.strongRecOn with
  | ind m ih =>
    intro i T c M1 hi hc hT tk e5 hps hsk htk
    have e1' : M1 7 1 = nI Z := (tk.2 1 (by omega) (by omega)).trans e1
    have e91 : M1 91 = M 91 := tk.1 91 (by omega) (by omega)
    rw [sX4_readTokens_9]
    by_cases hz : i = Z
    · subst hz
      obtain ⟨M2, c2, t2, f5, f6, g, h⟩ := C_addToken (d := d + 8 - 1) (M := M1) (s := 0) (b := nI i) (v := 0) e5 (by omega)
      rw [show d + 8 - 1 + 1 = d + 8 by omega] at c2
      have eZ : sk (M 91) i (ps (M 91) i T) = i := by rw [hsk, sk_e]
      have fin : lim (call (d + 8)) none 4 cX4_readTokens none 52 [some (.ref 7), some (.int (nI i)), some (.int (nI c))] [] M1 = some (none, M2) := by
        rw [sX4_readTokens_52]
        simp only [sX4_readTokens_0, sX4_readTokens_1, sX4_readTokens_2, sX4_readTokens_5, sX4_readTokens_6, sX4_readTokens_7, sX4_readTokens_8, sX4_readTokens_10, sX4_readTokens_12, sX4_readTokens_15, sX4_readTokens_16, sX4_readTokens_17, sX4_readTokens_20, sX4_readTokens_23, sX4_readTokens_24, sX4_readTokens_27, sX4_readTokens_28, sX4_readTokens_29, sX4_readTokens_31, sX4_readTokens_34, sX4_readTokens_35, sX4_readTokens_36, sX4_readTokens_37, sX4_readTokens_40, sX4_readTokens_41, sX4_readTokens_42, sX4_readTokens_45, sX4_readTokens_46, sX4_readTokens_49, sX4_readTokens_53, sX4_readTokens_54, sX4_readTokens_55, sX4_readTokens_58, sX4_readTokens_59, sX4_readTokens_62, opK_some, guK_true, calK_some, rk_nil, rk_int, rk_ref, tl_some, tl_none, nb_int, nb_0, nb_1, nb_if, nb_if', q7, o7_1, e1', c2]
      simp only [sX4_readTokens_0, sX4_readTokens_1, sX4_readTokens_2, sX4_readTokens_5, sX4_readTokens_6, sX4_readTokens_7, sX4_readTokens_8, sX4_readTokens_10, sX4_readTokens_12, sX4_readTokens_15, sX4_readTokens_16, sX4_readTokens_17, sX4_readTokens_20, sX4_readTokens_23, sX4_readTokens_24, sX4_readTokens_27, sX4_readTokens_28, sX4_readTokens_29, sX4_readTokens_31, sX4_readTokens_34, sX4_readTokens_35, sX4_readTokens_36, sX4_readTokens_37, sX4_readTokens_40, sX4_readTokens_41, sX4_readTokens_42, sX4_readTokens_45, sX4_readTokens_46, sX4_readTokens_49, sX4_readTokens_53, sX4_readTokens_54, sX4_readTokens_55, sX4_readTokens_58, sX4_readTokens_59, sX4_readTokens_62, opK_some, guK_true, calK_some, rk_nil, rk_int, rk_ref, tl_some, tl_none, nb_int, nb_0, nb_1, nb_if, nb_if', o7_1, e1']
      refine ⟨M2, T, ?_, tk.tr t2, hT, fun t ht => (htk t ht).1, eZ, f5, fun t ht => ?_⟩
      · by_cases h120 : (120 : Int32) ≤ nI c
        · rw [if_pos h120]
          exact fin
        · rw [if_neg h120, if_pos (show nI i ≤ nI i from Int32.le_refl _)]
          exact fin
      · by_cases e : t = T
        · subst e
          rw [eZ]
          have q0 : tQ (M 91) i i = 0 := if_pos (Nat.le_refl i)
          have v0 : tV (M 91) i i = 0 := if_pos (Nat.le_refl i)
          rw [q0, v0]
          exact g
        · exact h t (by omega) _ _ _ (htk t (by omega)).2
    · have hiZ : i < Z := by omega
      simp only [sX4_readTokens_0, sX4_readTokens_1, sX4_readTokens_2, sX4_readTokens_5, sX4_readTokens_6, sX4_readTokens_7, sX4_readTokens_8, sX4_readTokens_10, sX4_readTokens_12, sX4_readTokens_15, sX4_readTokens_16, sX4_readTokens_17, sX4_readTokens_20, sX4_readTokens_23, sX4_readTokens_24, sX4_readTokens_27, sX4_readTokens_28, sX4_readTokens_29, sX4_readTokens_31, sX4_readTokens_34, sX4_readTokens_35, sX4_readTokens_36, sX4_readTokens_37, sX4_readTokens_40, sX4_readTokens_41, sX4_readTokens_42, sX4_readTokens_45, sX4_readTokens_46, sX4_readTokens_49, sX4_readTokens_53, sX4_readTokens_54, sX4_readTokens_55, sX4_readTokens_58, sX4_readTokens_59, sX4_readTokens_62, opK_some, guK_true, calK_some, rk_nil, rk_int, rk_ref, tl_some, tl_none, nb_int, nb_0, nb_1, nb_if, nb_if', o7_0, o7_1, a91, q7, e1', e91, inb_nI (show i < 120 by omega) (by omega), nI_clamp (show i < 2 ^ 31 by omega), nI_1]
      rw [if_neg (show ¬ (120 : Int32) ≤ nI c from nI_ge (b := 120) (by omega) (by omega)), if_neg (show ¬ nI Z ≤ nI i from nI_ge hiZ (by omega))]
      by_cases c32 : M 91 i = 32
      · rw [if_pos c32]
        exact ih (m - 1) (by omega) (i + 1) T (c + 1) M1 (by omega) (by omega) (by omega) tk e5 (by omega) (by rw [hsk]; exact sk_sp hiZ c32) htk
      · have ei : sk (M 91) Z (ps (M 91) Z T) = i := by rw [hsk]; exact sk_no hiZ c32
        obtain ⟨M2, c2, t2, f5, f6, g, h⟩ := C_readToken (d := d) (M := M1) e1' hZ hiZ e5 (by omega)
        rw [e91] at c2 g
        have tz := tE_Z (B := M 91) hiZ
        have en : ps (M 91) Z (T + 1) = tE (M 91) Z i := by
          show tE (M 91) Z (sk (M 91) Z (ps (M 91) Z T)) = _
          rw [ei]
        rw [if_neg c32]
        simp only [sX4_readTokens_0, sX4_readTokens_1, sX4_readTokens_2, sX4_readTokens_5, sX4_readTokens_6, sX4_readTokens_7, sX4_readTokens_8, sX4_readTokens_10, sX4_readTokens_12, sX4_readTokens_15, sX4_readTokens_16, sX4_readTokens_17, sX4_readTokens_20, sX4_readTokens_23, sX4_readTokens_24, sX4_readTokens_27, sX4_readTokens_28, sX4_readTokens_29, sX4_readTokens_31, sX4_readTokens_34, sX4_readTokens_35, sX4_readTokens_36, sX4_readTokens_37, sX4_readTokens_40, sX4_readTokens_41, sX4_readTokens_42, sX4_readTokens_45, sX4_readTokens_46, sX4_readTokens_49, sX4_readTokens_53, sX4_readTokens_54, sX4_readTokens_55, sX4_readTokens_58, sX4_readTokens_59, sX4_readTokens_62, opK_some, guK_true, calK_some, rk_nil, rk_int, rk_ref, tl_some, tl_none, nb_int, nb_0, nb_1, nb_if, nb_if', c2, nI_1]
        refine ih (Z - tE (M 91) Z i) (by omega) (tE (M 91) Z i) (T + 1) (c + 1) M2 (by omega) (by omega) (by omega) (tk.tr t2) f5 (by rw [en]; exact Nat.le_refl _) (by rw [en]) (fun t ht => ?_)
        by_cases e : t = T
        · subst e
          rw [ei]
          exact ⟨hiZ, g⟩
        · have := htk t (by omega)
          exact ⟨this.1, h t (by omega) _ _ _ this.2⟩
theorem C_readTokens {d Z : Nat} {M : Mem} (e1 : M 7 1 = nI Z) (hZ : Z ≤ 120) : ∃ M' n, call (d + 9) 91 [.ref 7] M = some (none, M') ∧ Tk M M' ∧ Tt (M 91) Z n M' := by
  obtain ⟨M2, n, c2, t2, h2⟩ := L_readTokens (d := d) e1 hZ Z 0 0 0 (mset M 7 5 0) (by omega) (Nat.le_refl _) (Nat.le_refl _) ⟨fun k a _ => mset_ne a, fun j a _ => by rw [mset_at, upd_ne a]⟩ (by rw [mset_at, upd_at]; rfl) (Nat.le_refl _) rfl (fun t ht => absurd ht (Nat.not_lt_zero t))
  rw [show d + 9 = d + 8 + 1 from rfl, nX4_readTokens]
  simp only [sX4_readTokens_0, sX4_readTokens_1, sX4_readTokens_2, sX4_readTokens_5, sX4_readTokens_6, sX4_readTokens_7, sX4_readTokens_8, sX4_readTokens_10, sX4_readTokens_12, sX4_readTokens_15, sX4_readTokens_16, sX4_readTokens_17, sX4_readTokens_20, sX4_readTokens_23, sX4_readTokens_24, sX4_readTokens_27, sX4_readTokens_28, sX4_readTokens_29, sX4_readTokens_31, sX4_readTokens_34, sX4_readTokens_35, sX4_readTokens_36, sX4_readTokens_37, sX4_readTokens_40, sX4_readTokens_41, sX4_readTokens_42, sX4_readTokens_45, sX4_readTokens_46, sX4_readTokens_49, sX4_readTokens_53, sX4_readTokens_54, sX4_readTokens_55, sX4_readTokens_58, sX4_readTokens_59, sX4_readTokens_62, opK_some, guK_true, calK_some, rk_nil, rk_int, rk_ref, tl_some, tl_none, nb_int, nb_0, nb_1, nb_if, nb_if', p7_5]
  exact ⟨M2, n, c2, t2, h2⟩

