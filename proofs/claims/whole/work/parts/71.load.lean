/-! calls: load -/
def ldR (r : Rw) (u : Nat → Int32) : Nat → Rw
  | 0 => r
  | k + 1 => upd (ldR r u k) (at9 k 2) (u k)
def ldN (u : Nat → Int32) : Nat → Nat → Nat
  | k, 0 => k
  | k, m + 1 => if 0 ≤ u k ∧ u k ≤ 99 then ldN u (k + 1) m else k
theorem ld_e {r : Rw} {u : Nat → Int32} {j : Nat} (h : j < 18 ∨ 88 ≤ j) : ∀ k, k ≤ 10 → ldR r u k j = r j := by
  intro k
  induction k with
  | zero => intro _; rfl
  | succ k ih =>
    intro hk
    have g := at9_ge k 2
    have l := at9_lt (t := k) (f := 2) (by omega) (by omega)
    show upd (ldR r u k) (at9 k 2) (u k) j = r j
    rw [upd_ne (by omega)]
    exact ih (by omega)
theorem L_load {d s T z : Nat} {M : Mem} {r : Rw} (hs : s < 4) (hz : z ≤ 40) (hT : T ≤ 10) (u : Nat → Int32) (hu : ∀ k, k < 40 → M (121 + 2 * s) k = u k) : ∀ (m k : Nat) (M1 : Mem), k + m = min z T → HR M1 10 (ldR r u k) → IR (ldR r u k) → Ou 10 M M1 →
    ∃ M' n, n ≤ 10 ∧ n = ldN u k m ∧ lim (call (d + 2)) none 5 cX5_load (some .int) 56 [some (.ref 0), some (.int (nI s)), some (.int (nI (min z T))), some (.int (nI k))] [] M1 = some (some (.int (nI n)), M') ∧ HR M' 10 (ldR r u n) ∧ IR (ldR r u n) ∧ Ou 10 M M' := by
  intro m
  induction m with
  | zero =>
    intro k M1 hk h i o
    refine ⟨M1, k, by omega, rfl, ?_, h, i, o⟩
    rw [sX5_load_56]
    simp only [sX5_load_0, sX5_load_1, sX5_load_4, sX5_load_7, sX5_load_8, sX5_load_9, sX5_load_12, sX5_load_13, sX5_load_14, sX5_load_17, sX5_load_18, sX5_load_19, sX5_load_22, sX5_load_25, sX5_load_26, sX5_load_27, sX5_load_30, sX5_load_31, sX5_load_32, sX5_load_35, sX5_load_36, sX5_load_37, sX5_load_40, sX5_load_41, sX5_load_44, sX5_load_47, sX5_load_50, sX5_load_53, sX5_load_54, sX5_load_55, sX5_load_57, sX5_load_58, sX5_load_61, sX5_load_62, sX5_load_65, sX5_load_66, sX5_load_67, sX5_load_70, sX5_load_71, sX5_load_72, sX5_load_73, sX5_load_75, sX5_load_78, sX5_load_81, sX5_load_82, sX5_load_85, sX5_load_88, sX5_load_91, sX5_load_92, sX5_load_93, sX5_load_96, sX5_load_97, sX5_load_98, sX5_load_101, sX5_load_102, sX5_load_103, sX5_load_104, sX5_load_107, sX5_load_110, sX5_load_111, opK_some, guK_true, calK_some, rk_nil, rk_int, rk_ref, tl_some, tl_none, nb_int, nb_0, nb_1, nb_if, nb_if']
    rw [if_pos (show nI (min z T) ≤ nI k from nI_le (by omega) (by omega))]
  | succ m ih =>
    intro k M1 hk h i o
    have k10 : k < 10 := by omega
    have eu : M1 (121 + 2 * s) k = u k := by rw [o _ (by omega)]; exact hu k (by omega)
    by_cases c : 0 ≤ u k ∧ u k ≤ 99
    · have h2 : HR (mset M1 13 k (u k)) 10 (upd (ldR r u k) (at9 k 2) (u k)) := HR_cell (f := 2) h (by omega) k10
      have i2 : IR (upd (ldR r u k) (at9 k 2) (u k)) := IR_cell i (by omega) k10 ⟨fun e => absurd e (by omega), fun e => absurd e (by omega), fun _ => rg_cut c (Int32.le_refl 0) rfl (by omega), fun e => absurd e (by omega)⟩
      obtain ⟨M2, n, hn, en, c2, h3, i3, o3⟩ := ih (k + 1) (mset M1 13 k (u k)) (by omega) h2 i2 (o.tr (Ou.set (b := 10) (j := 3) (by omega)))
      refine ⟨M2, n, hn, by rw [en]; exact (if_pos c).symm, ?_, h3, i3, o3⟩
      rw [sX5_load_56]
      simp only [sX5_load_0, sX5_load_1, sX5_load_4, sX5_load_7, sX5_load_8, sX5_load_9, sX5_load_12, sX5_load_13, sX5_load_14, sX5_load_17, sX5_load_18, sX5_load_19, sX5_load_22, sX5_load_25, sX5_load_26, sX5_load_27, sX5_load_30, sX5_load_31, sX5_load_32, sX5_load_35, sX5_load_36, sX5_load_37, sX5_load_40, sX5_load_41, sX5_load_44, sX5_load_47, sX5_load_50, sX5_load_53, sX5_load_54, sX5_load_55, sX5_load_57, sX5_load_58, sX5_load_61, sX5_load_62, sX5_load_65, sX5_load_66, sX5_load_67, sX5_load_70, sX5_load_71, sX5_load_72, sX5_load_73, sX5_load_75, sX5_load_78, sX5_load_81, sX5_load_82, sX5_load_85, sX5_load_88, sX5_load_91, sX5_load_92, sX5_load_93, sX5_load_96, sX5_load_97, sX5_load_98, sX5_load_101, sX5_load_102, sX5_load_104, sX5_load_107, sX5_load_110, sX5_load_111, opK_some, guK_true, calK_some, rk_nil, rk_int, rk_ref, tl_some, tl_none, nb_int, nb_0, nb_1, nb_if, nb_if', o0_0, o0_4, o100_0, r5, sa_i hs, sa_g hs, shc hs, sh2 hs, sha hs, hs_3 hen10, inb_nI (show k < 40 by omega) (by omega), nI_clamp (show k < 2 ^ 31 by omega), eu, C_x_within, c, and_self, if_true, one_ne, if_false]
      rw [if_neg (show ¬ nI (min z T) ≤ nI k from nI_ge (by omega) (by omega)), sX5_load_103]
      simp only [sX5_load_0, sX5_load_1, sX5_load_4, sX5_load_7, sX5_load_8, sX5_load_9, sX5_load_12, sX5_load_13, sX5_load_14, sX5_load_17, sX5_load_18, sX5_load_19, sX5_load_22, sX5_load_25, sX5_load_26, sX5_load_27, sX5_load_30, sX5_load_31, sX5_load_32, sX5_load_35, sX5_load_36, sX5_load_37, sX5_load_40, sX5_load_41, sX5_load_44, sX5_load_47, sX5_load_50, sX5_load_53, sX5_load_54, sX5_load_55, sX5_load_57, sX5_load_58, sX5_load_61, sX5_load_62, sX5_load_65, sX5_load_66, sX5_load_67, sX5_load_70, sX5_load_71, sX5_load_72, sX5_load_73, sX5_load_75, sX5_load_78, sX5_load_81, sX5_load_82, sX5_load_85, sX5_load_88, sX5_load_91, sX5_load_92, sX5_load_93, sX5_load_96, sX5_load_97, sX5_load_98, sX5_load_101, sX5_load_102, sX5_load_104, sX5_load_107, sX5_load_110, sX5_load_111, opK_some, guK_true, calK_some, rk_nil, rk_int, rk_ref, tl_some, tl_none, nb_int, nb_0, nb_1, nb_if, nb_if', hn_3 hen10, ha_3 hen10, inb_nI k10 (by omega), nI_clamp (show k < 2 ^ 31 by omega), nI_1]
      exact c2
    · refine ⟨M1, k, by omega, (if_neg c).symm, ?_, h, i, o⟩
      rw [sX5_load_56]
      simp only [sX5_load_0, sX5_load_1, sX5_load_4, sX5_load_7, sX5_load_8, sX5_load_9, sX5_load_12, sX5_load_13, sX5_load_14, sX5_load_17, sX5_load_18, sX5_load_19, sX5_load_22, sX5_load_25, sX5_load_26, sX5_load_27, sX5_load_30, sX5_load_31, sX5_load_32, sX5_load_35, sX5_load_36, sX5_load_37, sX5_load_40, sX5_load_41, sX5_load_44, sX5_load_47, sX5_load_50, sX5_load_53, sX5_load_54, sX5_load_55, sX5_load_57, sX5_load_58, sX5_load_61, sX5_load_62, sX5_load_65, sX5_load_66, sX5_load_67, sX5_load_70, sX5_load_71, sX5_load_72, sX5_load_73, sX5_load_75, sX5_load_78, sX5_load_81, sX5_load_82, sX5_load_85, sX5_load_88, sX5_load_91, sX5_load_92, sX5_load_93, sX5_load_96, sX5_load_97, sX5_load_98, sX5_load_101, sX5_load_102, sX5_load_104, sX5_load_107, sX5_load_110, sX5_load_111, opK_some, guK_true, calK_some, rk_nil, rk_int, rk_ref, tl_some, tl_none, nb_int, nb_0, nb_1, nb_if, nb_if', o0_0, o0_4, o100_0, r5, sa_i hs, sa_g hs, shc hs, sh2 hs, sha hs, inb_nI (show k < 40 by omega) (by omega), nI_clamp (show k < 2 ^ 31 by omega), eu, C_x_within, c, if_true, zero_eq, if_false]
      rw [if_neg (show ¬ nI (min z T) ≤ nI k from nI_ge (by omega) (by omega))]
theorem L_m_load {d s T z : Nat} {M : Mem} {r : Rw} (hs : s < 4) (hz : z ≤ 40) (ez : M 142 s = nI z) (hT : T ≤ 10) (eT : r 3 = nI T) (u : Nat → Int32) (hu : ∀ k, k < 40 → M 143 (40 * s + k) = u k) : ∀ (m k : Nat) (M1 : Mem), k + m = min z T → M1 131 = ldR r u k → Mo M M1 →
    ∃ M', lim (call (d + 2)) none 6 cX6_load (some .int) 33 [some (.ref 130), some (.int (nI s)), some (.int (nI k))] [] M1 = some (some (.int (nI (ldN u k m))), M') ∧ Mo M M' ∧ M' 131 = ldR r u (ldN u k m) := by
  intro m
  induction m with
  | zero =>
    intro k M1 hk e1 o
    have e3 : M1 131 3 = nI T := by rw [e1, ld_e (by omega) k (by omega)]; exact eT
    have e142 : M1 142 s = nI z := by rw [o.1 142 (by omega) (by omega)]; exact ez
    have hc : ¬ (k < z ∧ k < T) := by omega
    refine ⟨M1, ?_, o, e1⟩
    rw [sX6_load_33]
    simp only [sX6_load_0, sX6_load_1, sX6_load_4, sX6_load_7, sX6_load_8, sX6_load_10, sX6_load_13, sX6_load_14, sX6_load_15, sX6_load_18, sX6_load_19, sX6_load_20, sX6_load_23, sX6_load_24, sX6_load_27, sX6_load_30, sX6_load_31, sX6_load_32, sX6_load_34, sX6_load_35, sX6_load_38, sX6_load_39, sX6_load_40, sX6_load_43, sX6_load_44, sX6_load_45, sX6_load_48, sX6_load_51, sX6_load_52, sX6_load_55, sX6_load_57, sX6_load_58, sX6_load_59, sX6_load_60, sX6_load_61, sX6_load_62, sX6_load_63, sX6_load_65, sX6_load_68, sX6_load_71, sX6_load_72, sX6_load_75, sX6_load_76, sX6_load_77, sX6_load_80, sX6_load_81, sX6_load_84, sX6_load_86, sX6_load_87, sX6_load_88, sX6_load_89, sX6_load_90, sX6_load_91, sX6_load_92, sX6_load_95, sX6_load_98, sX6_load_99, opK_some, guK_true, calK_some, rk_nil, rk_int, rk_ref, tl_some, tl_none, nb_int, nb_0, nb_1, nb_if, nb_if', q130, o130_28, a142, inb_nI hs (by omega), nI_clamp (show s < 2 ^ 31 by omega), e142, C_m_isThing, e3]
    by_cases h1 : k < z
    · have h2 : ¬ (0 ≤ nI k ∧ nI k ≤ nI T - 1) := by
        rintro ⟨_, q⟩
        have q2 : nI k < nI T := by
          rcases Nat.eq_zero_or_pos T with c | c
          · rw [c] at q
            exact absurd q (Int32.not_le.mpr (Int32.lt_of_lt_of_le (show nI 0 - 1 < nI 0 by decide) (nI_le (by omega) (by omega))))
          · rw [pk_sub1 (by omega)] at q
            have := (nI_leI (by omega) (by omega)).mp q
            exact nI_lt (by omega) (by omega)
        have := (nI_ltI (by omega) (by omega)).mp q2
        omega
      simp only [show ¬ nI z ≤ nI k from nI_ge h1 (by omega), h2, zero_eq, if_true, if_false]
      rfl
    · simp only [show nI z ≤ nI k from nI_le (by omega) (by omega), if_true]
      rfl
  | succ m ih =>
    intro k M1 hk e1 o
    have k10 : k < 10 := by omega
    have e3 : M1 131 3 = nI T := by rw [e1, ld_e (by omega) k (by omega)]; exact eT
    have e142 : M1 142 s = nI z := by rw [o.1 142 (by omega) (by omega)]; exact ez
    have eu : M1 143 (40 * s + k) = u k := by rw [o.1 143 (by omega) (by omega)]; exact hu k (by omega)
    have h2 : 0 ≤ nI k ∧ nI k ≤ nI T - 1 := ⟨nI_le (a := 0) (by omega) (by omega), by rw [pk_sub1 (by omega)]; exact nI_le (by omega) (by omega)⟩
    have l := at9_lt (t := k) (f := 2) k10 (by omega)
    rw [sX6_load_33]
    simp only [sX6_load_0, sX6_load_1, sX6_load_4, sX6_load_7, sX6_load_8, sX6_load_10, sX6_load_13, sX6_load_14, sX6_load_15, sX6_load_18, sX6_load_19, sX6_load_20, sX6_load_23, sX6_load_24, sX6_load_27, sX6_load_30, sX6_load_31, sX6_load_32, sX6_load_34, sX6_load_35, sX6_load_38, sX6_load_39, sX6_load_40, sX6_load_43, sX6_load_44, sX6_load_45, sX6_load_48, sX6_load_51, sX6_load_52, sX6_load_55, sX6_load_57, sX6_load_58, sX6_load_59, sX6_load_60, sX6_load_61, sX6_load_62, sX6_load_63, sX6_load_65, sX6_load_68, sX6_load_71, sX6_load_72, sX6_load_75, sX6_load_76, sX6_load_77, sX6_load_80, sX6_load_81, sX6_load_84, sX6_load_86, sX6_load_87, sX6_load_88, sX6_load_89, sX6_load_90, sX6_load_92, sX6_load_95, sX6_load_98, sX6_load_99, opK_some, guK_true, calK_some, rk_nil, rk_int, rk_ref, tl_some, tl_none, nb_int, nb_0, nb_1, nb_if, nb_if', q130, o130_0, o130_28, o130_29, a142, a143, inb_nI hs (by omega), nI_clamp (show s < 2 ^ 31 by omega), e142, C_m_isThing, e3, h2, and_self, if_true, one_ne, if_false, show ¬ nI z ≤ nI k from nI_ge (by omega) (by omega), I40, nI_add, inb_nI (show 40 * s + k < 160 by omega) (by omega), nI_clamp (show 40 * s + k < 2 ^ 31 by omega), eu, C_m_within, C_m_at, A9_2]
    by_cases c : 0 ≤ u k ∧ u k ≤ 99
    · have ek : ldN u k (m + 1) = ldN u (k + 1) m := if_pos c
      simp only [c, and_self, if_true, one_ne, if_false]
      rw [sX6_load_91]
      simp only [sX6_load_0, sX6_load_1, sX6_load_4, sX6_load_7, sX6_load_8, sX6_load_10, sX6_load_13, sX6_load_14, sX6_load_15, sX6_load_18, sX6_load_19, sX6_load_20, sX6_load_23, sX6_load_24, sX6_load_27, sX6_load_30, sX6_load_31, sX6_load_32, sX6_load_34, sX6_load_35, sX6_load_38, sX6_load_39, sX6_load_40, sX6_load_43, sX6_load_44, sX6_load_45, sX6_load_48, sX6_load_51, sX6_load_52, sX6_load_55, sX6_load_57, sX6_load_58, sX6_load_59, sX6_load_60, sX6_load_61, sX6_load_62, sX6_load_63, sX6_load_65, sX6_load_68, sX6_load_71, sX6_load_72, sX6_load_75, sX6_load_76, sX6_load_77, sX6_load_80, sX6_load_81, sX6_load_84, sX6_load_86, sX6_load_87, sX6_load_88, sX6_load_89, sX6_load_90, sX6_load_92, sX6_load_95, sX6_load_98, sX6_load_99, opK_some, guK_true, calK_some, rk_nil, rk_int, rk_ref, tl_some, tl_none, nb_int, nb_0, nb_1, nb_if, nb_if', a131, b131, inb_nI (show at9 k 2 < 132 by omega) (by omega), nI_clamp (show at9 k 2 < 2 ^ 31 by omega), nI_1]
      rw [ek]
      exact ih (k + 1) _ (by omega) (by rw [mset_at, e1]; rfl) (o.tr Mo.rset)
    · have ek : ldN u k (m + 1) = k := if_neg c
      simp only [c, if_false, zero_eq, if_true]
      rw [ek]
      exact ⟨M1, rfl, o, e1⟩
theorem X_load {d : Nat} {M : Mem} {x : Int32} (j : J M) : Two (d + 3) 124 (d + 3) 239 [.int x] M := by
  have w := j_wr j
  have h := j_hr j
  have hT := wr_T w
  by_cases hx : 0 ≤ x ∧ x ≤ 3
  · obtain ⟨s, hs, rfl⟩ := sheet_of hx
    obtain ⟨⟨j1, j1'⟩, j2, j3, j4, j5⟩ := j.2.2.2.2 s hs
    have cm := C_isMissing (d := d + 1) (M := M) hs
    rw [show d + 1 + 1 = d + 2 from rfl] at cm
    rw [j1] at cm
    have i4 := inb_nI hs (show 4 < 2 ^ 31 by omega)
    have c4 := nI_clamp (show s < 2 ^ 31 by omega)
    by_cases h0 : M 141 s = 0
    · refine ⟨fX M 5, fM (fX M 5) 5, -1000006, ?_, ?_, J_fin j (by omega)⟩
      · rw [nX5_load]
        simp only [sX5_load_0, sX5_load_1, sX5_load_4, sX5_load_7, sX5_load_8, sX5_load_9, sX5_load_12, sX5_load_13, sX5_load_14, sX5_load_17, sX5_load_18, sX5_load_19, sX5_load_22, sX5_load_25, sX5_load_26, sX5_load_27, sX5_load_30, sX5_load_31, sX5_load_32, sX5_load_35, sX5_load_36, sX5_load_37, sX5_load_40, sX5_load_41, sX5_load_44, sX5_load_47, sX5_load_50, sX5_load_53, sX5_load_54, sX5_load_55, sX5_load_57, sX5_load_58, sX5_load_61, sX5_load_62, sX5_load_65, sX5_load_66, sX5_load_67, sX5_load_70, sX5_load_71, sX5_load_72, sX5_load_73, sX5_load_75, sX5_load_78, sX5_load_81, sX5_load_82, sX5_load_85, sX5_load_88, sX5_load_91, sX5_load_92, sX5_load_93, sX5_load_96, sX5_load_97, sX5_load_98, sX5_load_101, sX5_load_102, sX5_load_103, sX5_load_104, sX5_load_107, sX5_load_110, sX5_load_111, opK_some, guK_true, calK_some, rk_nil, rk_int, rk_ref, tl_some, tl_none, nb_int, nb_0, nb_1, nb_if, nb_if', q0, C_x_isSheet, hx, and_self, if_true, one_ne, if_false, o0_4, r5, sa_i hs, sa_g hs, shc hs, cm, h0, C_xf5]
      · rw [nX6_load]
        simp only [sX6_load_0, sX6_load_1, sX6_load_4, sX6_load_7, sX6_load_8, sX6_load_10, sX6_load_13, sX6_load_14, sX6_load_15, sX6_load_18, sX6_load_19, sX6_load_20, sX6_load_23, sX6_load_24, sX6_load_27, sX6_load_30, sX6_load_31, sX6_load_32, sX6_load_34, sX6_load_35, sX6_load_38, sX6_load_39, sX6_load_40, sX6_load_43, sX6_load_44, sX6_load_45, sX6_load_48, sX6_load_51, sX6_load_52, sX6_load_55, sX6_load_57, sX6_load_58, sX6_load_59, sX6_load_60, sX6_load_61, sX6_load_62, sX6_load_63, sX6_load_65, sX6_load_68, sX6_load_71, sX6_load_72, sX6_load_75, sX6_load_76, sX6_load_77, sX6_load_80, sX6_load_81, sX6_load_84, sX6_load_86, sX6_load_87, sX6_load_88, sX6_load_89, sX6_load_90, sX6_load_91, sX6_load_92, sX6_load_95, sX6_load_98, sX6_load_99, opK_some, guK_true, calK_some, rk_nil, rk_int, rk_ref, tl_some, tl_none, nb_int, nb_0, nb_1, nb_if, nb_if', q130, C_m_isSheet, hx, and_self, if_true, one_ne, if_false, o130_27, a141, i4, c4, fX_k (show 141 ≠ 1 by omega), h0, C_mf5]
    · obtain ⟨z, hz⟩ : ∃ z, z = iN (M 142 s) := ⟨_, rfl⟩
      have ez : M 142 s = nI z := by rw [hz]; exact j3.2
      have lz : z ≤ 40 := by rw [hz]; exact j3.1
      have e0 : M 10 0 = nI (nT (M 131)) := h.1.1.trans hT.2
      have emin : (if nI (nT (M 131)) < nI z then nI (nT (M 131)) else nI z) = nI (min z (nT (M 131))) := by
        by_cases c : nT (M 131) < z
        · rw [if_pos (nI_lt c (by omega)), Nat.min_eq_right (by omega)]
        · rw [if_neg (nI_nlt (by omega) (by omega)), Nat.min_eq_left (by omega)]
      obtain ⟨u, hu⟩ : ∃ u : Nat → Int32, u = fun k => M 143 (40 * s + k) := ⟨_, rfl⟩
      obtain ⟨M1, n, hn, en, c1, h1, i1, o1⟩ := L_load (d := d) (M := M) (r := M 131) hs lz hT.1 u (fun k hk => by rw [hu]; exact j5 k hk) (min z (nT (M 131))) 0 M (by omega) h j.1.1 Ou.rf
      obtain ⟨M2, c2, o2, r2⟩ := L_m_load (d := d) (M := M1) (r := M 131) hs lz (by rw [o1 142 (by omega)]; exact ez) hT.1 hT.2 u (fun k hk => by rw [hu, o1 143 (by omega)]) (min z (nT (M 131))) 0 M1 (by omega) (o1 131 (by omega)) Mo.rf
      rw [← en] at c2 r2
      have hfr : FR M1 100 (ldR (M 131) u n) := FR_hen j.1.2 h1 (fun q k1 _ => o1 q (by omega)) (fun i hi => ld_e (by omega) n hn)
      refine ⟨M1, M2, nI n, ?_, ?_, ?_⟩
      · rw [nX5_load]
        simp only [sX5_load_0, sX5_load_1, sX5_load_4, sX5_load_7, sX5_load_8, sX5_load_9, sX5_load_12, sX5_load_13, sX5_load_14, sX5_load_17, sX5_load_18, sX5_load_19, sX5_load_22, sX5_load_25, sX5_load_26, sX5_load_27, sX5_load_30, sX5_load_31, sX5_load_32, sX5_load_35, sX5_load_36, sX5_load_37, sX5_load_40, sX5_load_41, sX5_load_44, sX5_load_47, sX5_load_50, sX5_load_53, sX5_load_54, sX5_load_55, sX5_load_57, sX5_load_58, sX5_load_61, sX5_load_62, sX5_load_65, sX5_load_66, sX5_load_67, sX5_load_70, sX5_load_71, sX5_load_72, sX5_load_73, sX5_load_75, sX5_load_78, sX5_load_81, sX5_load_82, sX5_load_85, sX5_load_88, sX5_load_91, sX5_load_92, sX5_load_93, sX5_load_96, sX5_load_97, sX5_load_98, sX5_load_101, sX5_load_102, sX5_load_103, sX5_load_104, sX5_load_107, sX5_load_110, sX5_load_111, opK_some, guK_true, calK_some, rk_nil, rk_int, rk_ref, tl_some, tl_none, nb_int, nb_0, nb_1, nb_if, nb_if', q0, o0_0, o100_0, hs_0 hen10, C_x_isSheet, hx, and_self, if_true, one_ne, zero_eq, if_false, o0_4, r5, sa_i hs, sa_g hs, shc hs, sh1 hs, cm, h0, j1', ez, e0, emin]
        exact c1
      · rw [nX6_load]
        simp only [sX6_load_0, sX6_load_1, sX6_load_4, sX6_load_7, sX6_load_8, sX6_load_10, sX6_load_13, sX6_load_14, sX6_load_15, sX6_load_18, sX6_load_19, sX6_load_20, sX6_load_23, sX6_load_24, sX6_load_27, sX6_load_30, sX6_load_31, sX6_load_32, sX6_load_34, sX6_load_35, sX6_load_38, sX6_load_39, sX6_load_40, sX6_load_43, sX6_load_44, sX6_load_45, sX6_load_48, sX6_load_51, sX6_load_52, sX6_load_55, sX6_load_57, sX6_load_58, sX6_load_59, sX6_load_60, sX6_load_61, sX6_load_62, sX6_load_63, sX6_load_65, sX6_load_68, sX6_load_71, sX6_load_72, sX6_load_75, sX6_load_76, sX6_load_77, sX6_load_80, sX6_load_81, sX6_load_84, sX6_load_86, sX6_load_87, sX6_load_88, sX6_load_89, sX6_load_90, sX6_load_91, sX6_load_92, sX6_load_95, sX6_load_98, sX6_load_99, opK_some, guK_true, calK_some, rk_nil, rk_int, rk_ref, tl_some, tl_none, nb_int, nb_0, nb_1, nb_if, nb_if', q130, C_m_isSheet, hx, and_self, if_true, one_ne, if_false, o130_27, a141, i4, c4, o1 141 (by omega), h0]
        exact c2
      · exact J_row j i1 hfr (fun q hq => o1 q (by omega)) (by rw [o1 0 (by omega)]) (by rw [o1 7 (by omega)]) r2 (fun q k1 k2 _ => o2.1 q k1 k2) (o2.2 3 (by omega) (by omega) (by omega)) (o2.2 17 (by omega) (by omega) (by omega))
  · refine ⟨fX M 0, fM (fX M 0) 0, -1000001, ?_, ?_, J_fin j (by omega)⟩
    · rw [nX5_load]
      simp only [sX5_load_0, sX5_load_1, sX5_load_4, sX5_load_7, sX5_load_8, sX5_load_9, sX5_load_12, sX5_load_13, sX5_load_14, sX5_load_17, sX5_load_18, sX5_load_19, sX5_load_22, sX5_load_25, sX5_load_26, sX5_load_27, sX5_load_30, sX5_load_31, sX5_load_32, sX5_load_35, sX5_load_36, sX5_load_37, sX5_load_40, sX5_load_41, sX5_load_44, sX5_load_47, sX5_load_50, sX5_load_53, sX5_load_54, sX5_load_55, sX5_load_57, sX5_load_58, sX5_load_61, sX5_load_62, sX5_load_65, sX5_load_66, sX5_load_67, sX5_load_70, sX5_load_71, sX5_load_72, sX5_load_73, sX5_load_75, sX5_load_78, sX5_load_81, sX5_load_82, sX5_load_85, sX5_load_88, sX5_load_91, sX5_load_92, sX5_load_93, sX5_load_96, sX5_load_97, sX5_load_98, sX5_load_101, sX5_load_102, sX5_load_103, sX5_load_104, sX5_load_107, sX5_load_110, sX5_load_111, opK_some, guK_true, calK_some, rk_nil, rk_int, rk_ref, tl_some, tl_none, nb_int, nb_0, nb_1, nb_if, nb_if', q0, C_x_isSheet, hx, if_true, zero_eq, if_false, C_xf0]
    · rw [nX6_load]
      simp only [sX6_load_0, sX6_load_1, sX6_load_4, sX6_load_7, sX6_load_8, sX6_load_10, sX6_load_13, sX6_load_14, sX6_load_15, sX6_load_18, sX6_load_19, sX6_load_20, sX6_load_23, sX6_load_24, sX6_load_27, sX6_load_30, sX6_load_31, sX6_load_32, sX6_load_34, sX6_load_35, sX6_load_38, sX6_load_39, sX6_load_40, sX6_load_43, sX6_load_44, sX6_load_45, sX6_load_48, sX6_load_51, sX6_load_52, sX6_load_55, sX6_load_57, sX6_load_58, sX6_load_59, sX6_load_60, sX6_load_61, sX6_load_62, sX6_load_63, sX6_load_65, sX6_load_68, sX6_load_71, sX6_load_72, sX6_load_75, sX6_load_76, sX6_load_77, sX6_load_80, sX6_load_81, sX6_load_84, sX6_load_86, sX6_load_87, sX6_load_88, sX6_load_89, sX6_load_90, sX6_load_91, sX6_load_92, sX6_load_95, sX6_load_98, sX6_load_99, opK_some, guK_true, calK_some, rk_nil, rk_int, rk_ref, tl_some, tl_none, nb_int, nb_0, nb_1, nb_if, nb_if', q130, C_m_isSheet, hx, if_true, zero_eq, if_false, C_mf0]
/-! calls: judge -/
abbrev jw (q : Rw) : Int32 := if laiD q < 0 then -1 else worD q
def jdR (r : Rw) (u : Nat → Int32) : Nat → Nat → Nat
  | _, 0 => 0
  | i, n + 1 => if u i = jw (dN r i) then jdR r u (i + 1) n else i + 1
theorem L_judge {d s z : Nat} {M : Mem} {r : Rw} {y : Int32} (hs : s < 4) (lz : z ≤ 40) (w : WR r) (ez : M (120 + 2 * s) 1 = nI z) (u : Nat → Int32) (hu : ∀ k, k < 40 → M (121 + 2 * s) k = u k) : ∀ (m i : Nat) (M1 : Mem) (v : Option Value), i + m = z → HR M1 30 (dN r i) → Ou 30 M M1 →
    ∃ M', lim (call (d + 3)) none 5 cX5_judge (some .int) 66 [some (.ref 0), some (.int y), some (.ref (120 + 2 * s)), some (.int (nI i)), v] [] M1 = some (some (.int (nI (jdR r u i m))), M') ∧ Ou 30 M M' := by
  intro m
  induction m with
  | zero =>
    intro i M1 v hi h o
    obtain rfl : i = z := by omega
    rw [sX5_judge_66]
    simp only [sX5_judge_0, sX5_judge_1, sX5_judge_4, sX5_judge_7, sX5_judge_8, sX5_judge_9, sX5_judge_12, sX5_judge_13, sX5_judge_14, sX5_judge_17, sX5_judge_18, sX5_judge_19, sX5_judge_20, sX5_judge_21, sX5_judge_24, sX5_judge_27, sX5_judge_28, sX5_judge_29, sX5_judge_32, sX5_judge_33, sX5_judge_34, sX5_judge_35, sX5_judge_38, sX5_judge_41, sX5_judge_44, sX5_judge_45, sX5_judge_46, sX5_judge_49, sX5_judge_50, sX5_judge_51, sX5_judge_54, sX5_judge_55, sX5_judge_58, sX5_judge_61, sX5_judge_64, sX5_judge_65, sX5_judge_67, sX5_judge_68, sX5_judge_71, sX5_judge_74, sX5_judge_75, sX5_judge_78, sX5_judge_81, sX5_judge_83, sX5_judge_84, sX5_judge_87, sX5_judge_88, sX5_judge_89, sX5_judge_90, sX5_judge_93, sX5_judge_96, sX5_judge_99, sX5_judge_101, sX5_judge_104, sX5_judge_105, sX5_judge_108, sX5_judge_109, sX5_judge_110, sX5_judge_111, sX5_judge_112, sX5_judge_115, sX5_judge_118, sX5_judge_119, opK_some, guK_true, calK_some, rk_nil, rk_int, rk_ref, tl_some, tl_none, nb_int, nb_0, nb_1, nb_if, nb_if', sh1 hs, o (120 + 2 * s) (by omega), ez]
    rw [if_pos (show nI i ≤ nI i from Int32.le_refl _)]
    exact ⟨M1, rfl, o⟩
  | succ m ih =>
    intro i M1 v hi h o
    obtain ⟨M2, c2, h2, o2, a12, a13, _⟩ := C_passDay (d := d + 0) hen30 h (WR_dN w i)
    rw [show d + 0 + 3 = d + 3 from rfl] at c2
    have om := o.tr o2
    have eu : M2 (121 + 2 * s) i = u i := by rw [om _ (by omega)]; exact hu i (by omega)
    have fin := ih (i + 1) M2 (some (.int (worD (dN r i)))) (by omega) h2 om
    rw [sX5_judge_66]
    simp only [sX5_judge_0, sX5_judge_1, sX5_judge_4, sX5_judge_7, sX5_judge_8, sX5_judge_9, sX5_judge_12, sX5_judge_13, sX5_judge_14, sX5_judge_17, sX5_judge_18, sX5_judge_19, sX5_judge_20, sX5_judge_21, sX5_judge_24, sX5_judge_27, sX5_judge_28, sX5_judge_29, sX5_judge_32, sX5_judge_33, sX5_judge_34, sX5_judge_35, sX5_judge_38, sX5_judge_41, sX5_judge_44, sX5_judge_45, sX5_judge_46, sX5_judge_49, sX5_judge_50, sX5_judge_51, sX5_judge_54, sX5_judge_55, sX5_judge_58, sX5_judge_61, sX5_judge_64, sX5_judge_65, sX5_judge_67, sX5_judge_68, sX5_judge_71, sX5_judge_74, sX5_judge_75, sX5_judge_78, sX5_judge_81, sX5_judge_83, sX5_judge_84, sX5_judge_87, sX5_judge_88, sX5_judge_89, sX5_judge_90, sX5_judge_93, sX5_judge_96, sX5_judge_99, sX5_judge_101, sX5_judge_104, sX5_judge_108, sX5_judge_109, sX5_judge_110, sX5_judge_111, sX5_judge_112, sX5_judge_115, sX5_judge_118, sX5_judge_119, opK_some, guK_true, calK_some, rk_nil, rk_int, rk_ref, tl_some, tl_none, nb_int, nb_0, nb_1, nb_if, nb_if', o0_6, hen_c hen30, hs_12 hen30, sh1 hs, sh2 hs, sha hs, o (120 + 2 * s) (by omega), ez, c2, a12, inb_nI (show i < 40 by omega) (by omega), nI_clamp (show i < 2 ^ 31 by omega), eu]
    rw [if_neg (show ¬ nI z ≤ nI i from nI_ge (by omega) (by omega))]
    have tail : ∀ b : Int32, b = jw (dN r i) → ∃ M', lim (call (d + 3)) none 5 cX5_judge (some .int) 105 [some (.ref 0), some (.int y), some (.ref (120 + 2 * s)), some (.int (nI i)), some (.int (worD (dN r i)))] [.int b, .int (u i)] M2 = some (some (.int (nI (jdR r u i (m + 1)))), M') ∧ Ou 30 M M' := by
      intro b eb
      rw [sX5_judge_105]
      simp only [sX5_judge_0, sX5_judge_1, sX5_judge_4, sX5_judge_7, sX5_judge_8, sX5_judge_9, sX5_judge_12, sX5_judge_13, sX5_judge_14, sX5_judge_17, sX5_judge_18, sX5_judge_19, sX5_judge_20, sX5_judge_21, sX5_judge_24, sX5_judge_27, sX5_judge_28, sX5_judge_29, sX5_judge_32, sX5_judge_33, sX5_judge_34, sX5_judge_35, sX5_judge_38, sX5_judge_41, sX5_judge_44, sX5_judge_45, sX5_judge_46, sX5_judge_49, sX5_judge_50, sX5_judge_51, sX5_judge_54, sX5_judge_55, sX5_judge_58, sX5_judge_61, sX5_judge_64, sX5_judge_65, sX5_judge_67, sX5_judge_68, sX5_judge_71, sX5_judge_74, sX5_judge_75, sX5_judge_78, sX5_judge_81, sX5_judge_83, sX5_judge_84, sX5_judge_87, sX5_judge_88, sX5_judge_89, sX5_judge_90, sX5_judge_93, sX5_judge_96, sX5_judge_99, sX5_judge_101, sX5_judge_104, sX5_judge_108, sX5_judge_109, sX5_judge_110, sX5_judge_111, sX5_judge_112, sX5_judge_115, sX5_judge_118, sX5_judge_119, opK_some, guK_true, calK_some, rk_nil, rk_int, rk_ref, tl_some, tl_none, nb_int, nb_0, nb_1, nb_if, nb_if', nI_1]
      by_cases c : u i = jw (dN r i)
      · have ek : jdR r u i (m + 1) = jdR r u (i + 1) m := if_pos c
        rw [eb, if_pos c, ek]
        exact fin
      · have ek : jdR r u i (m + 1) = i + 1 := if_neg c
        rw [eb, if_neg c, ek]
        refine ⟨M2, ?_, om⟩
        rw [← nI_1, Int32.add_comm]
    by_cases hl : laiD (dN r i) < 0
    · rw [if_pos hl]
      exact tail _ (if_pos hl).symm
    · rw [if_neg hl]
      exact tail _ (if_neg hl).symm
theorem L_m_judge {d s z : Nat} {r a : Rw} {M : Mem} (hs : s < 4) (lz : z ≤ 40) (w : WX r 9999) (ha : M 133 = cpR r a) (ez : M 142 s = nI z) (u : Nat → Int32) (hu : ∀ k, k < 40 → M 143 (40 * s + k) = u k) : ∀ (m i : Nat) (M1 : Mem) (v : Option Value), i + m = z → M1 131 = dN r i → Mo M M1 →
    ∃ M', lim (call (d + 5)) none 6 cX6_judge (some .int) 66 [some (.ref 130), some (.int (nI s)), some (.int (nI i)), some (.int 1), v] [] M1 = some (some (.int (nI (jdR r u i m))), M') ∧ Mo M M' ∧ M' 131 = r := by
  intro m
  induction m with
  | zero =>
    intro i M1 v hi e1 o
    obtain rfl : i = z := by omega
    have e142 : M1 142 s = nI i := by rw [o.1 142 (by omega) (by omega)]; exact ez
    have hp := fun x => m_back (d := d + 3) (x := x) w.1 e1 ((o.1 133 (by omega) (by omega)).trans ha)
    rw [show d + 3 + 2 = d + 5 from rfl] at hp
    rw [sX6_judge_66]
    simp only [sX6_judge_0, sX6_judge_1, sX6_judge_4, sX6_judge_7, sX6_judge_8, sX6_judge_10, sX6_judge_13, sX6_judge_14, sX6_judge_15, sX6_judge_18, sX6_judge_19, sX6_judge_20, sX6_judge_23, sX6_judge_24, sX6_judge_27, sX6_judge_30, sX6_judge_31, sX6_judge_32, sX6_judge_33, sX6_judge_36, sX6_judge_37, sX6_judge_38, sX6_judge_41, sX6_judge_44, sX6_judge_45, sX6_judge_47, sX6_judge_50, sX6_judge_51, sX6_judge_52, sX6_judge_55, sX6_judge_56, sX6_judge_59, sX6_judge_62, sX6_judge_63, sX6_judge_64, sX6_judge_65, sX6_judge_67, sX6_judge_68, sX6_judge_71, sX6_judge_72, sX6_judge_73, sX6_judge_76, sX6_judge_77, sX6_judge_80, sX6_judge_81, sX6_judge_84, sX6_judge_86, sX6_judge_87, sX6_judge_90, sX6_judge_92, sX6_judge_93, sX6_judge_94, sX6_judge_95, sX6_judge_96, sX6_judge_97, sX6_judge_98, sX6_judge_101, sX6_judge_104, sX6_judge_105, sX6_judge_108, sX6_judge_110, sX6_judge_113, sX6_judge_114, sX6_judge_117, sX6_judge_118, sX6_judge_119, sX6_judge_120, sX6_judge_121, sX6_judge_124, sX6_judge_125, sX6_judge_128, sX6_judge_129, sX6_judge_130, sX6_judge_131, sX6_judge_134, sX6_judge_135, sX6_judge_136, sX6_judge_139, sX6_judge_140, sX6_judge_143, sX6_judge_144, sX6_judge_145, sX6_judge_146, sX6_judge_149, opK_some, guK_true, calK_some, rk_nil, rk_int, rk_ref, tl_some, tl_none, nb_int, nb_0, nb_1, nb_if, nb_if', q130, o130_28, a142, inb_nI hs (by omega), nI_clamp (show s < 2 ^ 31 by omega), e142, one_ne, if_false, hp]
    rw [if_pos (show nI i ≤ nI i from Int32.le_refl _)]
    exact ⟨_, rfl, o.tr Mo.row, mrow_at⟩
  | succ m ih =>
    intro i M1 v hi e1 o
    have e142 : M1 142 s = nI z := by rw [o.1 142 (by omega) (by omega)]; exact ez
    obtain ⟨M2, c2, o2, r2, f5, f6⟩ := m_step (d := d + 0) w (by omega) e1
    rw [show d + 0 + 5 = d + 5 from rfl] at c2
    have om := o.tr o2
    have e142' : M2 142 s = nI z := by rw [om.1 142 (by omega) (by omega)]; exact ez
    have eu : M2 143 (40 * s + i) = u i := by rw [om.1 143 (by omega) (by omega)]; exact hu i (by omega)
    have fin := ih (i + 1) M2 (some (.int (worD (dN r i)))) (by omega) r2 om
    rw [sX6_judge_66]
    simp only [sX6_judge_0, sX6_judge_1, sX6_judge_4, sX6_judge_7, sX6_judge_8, sX6_judge_10, sX6_judge_13, sX6_judge_14, sX6_judge_15, sX6_judge_18, sX6_judge_19, sX6_judge_20, sX6_judge_23, sX6_judge_24, sX6_judge_27, sX6_judge_30, sX6_judge_31, sX6_judge_32, sX6_judge_33, sX6_judge_36, sX6_judge_37, sX6_judge_38, sX6_judge_41, sX6_judge_44, sX6_judge_45, sX6_judge_47, sX6_judge_50, sX6_judge_51, sX6_judge_52, sX6_judge_55, sX6_judge_56, sX6_judge_59, sX6_judge_62, sX6_judge_63, sX6_judge_64, sX6_judge_65, sX6_judge_67, sX6_judge_68, sX6_judge_71, sX6_judge_72, sX6_judge_73, sX6_judge_76, sX6_judge_77, sX6_judge_80, sX6_judge_81, sX6_judge_84, sX6_judge_86, sX6_judge_87, sX6_judge_90, sX6_judge_92, sX6_judge_93, sX6_judge_94, sX6_judge_95, sX6_judge_96, sX6_judge_97, sX6_judge_98, sX6_judge_101, sX6_judge_104, sX6_judge_105, sX6_judge_108, sX6_judge_113, sX6_judge_114, sX6_judge_117, sX6_judge_118, sX6_judge_119, sX6_judge_120, sX6_judge_121, sX6_judge_124, sX6_judge_125, sX6_judge_128, sX6_judge_129, sX6_judge_130, sX6_judge_131, sX6_judge_134, sX6_judge_135, sX6_judge_136, sX6_judge_139, sX6_judge_140, sX6_judge_143, sX6_judge_144, sX6_judge_145, sX6_judge_146, sX6_judge_149, opK_some, guK_true, calK_some, rk_nil, rk_int, rk_ref, tl_some, tl_none, nb_int, nb_0, nb_1, nb_if, nb_if', q130, o130_5, o130_28, o130_29, a142, a143, inb_nI hs (by omega), nI_clamp (show s < 2 ^ 31 by omega), e142, one_ne, if_false, c2, f5, I40, nI_add, inb_nI (show 40 * s + i < 160 by omega) (by omega), nI_clamp (show 40 * s + i < 2 ^ 31 by omega), eu]
    rw [if_neg (show ¬ nI z ≤ nI i from nI_ge (by omega) (by omega))]
    have tail : ∀ b : Int32, b = jw (dN r i) → ∃ M', lim (call (d + 5)) none 6 cX6_judge (some .int) 110 [some (.ref 130), some (.int (nI s)), some (.int (nI i)), some (.int 1), some (.int (worD (dN r i)))] [.int b, .int (u i)] M2 = some (some (.int (nI (jdR r u i (m + 1)))), M') ∧ Mo M M' ∧ M' 131 = r := by
      intro b eb
      rw [sX6_judge_110]
      simp only [sX6_judge_0, sX6_judge_1, sX6_judge_4, sX6_judge_7, sX6_judge_8, sX6_judge_10, sX6_judge_13, sX6_judge_14, sX6_judge_15, sX6_judge_18, sX6_judge_19, sX6_judge_20, sX6_judge_23, sX6_judge_24, sX6_judge_27, sX6_judge_30, sX6_judge_31, sX6_judge_32, sX6_judge_33, sX6_judge_36, sX6_judge_37, sX6_judge_38, sX6_judge_41, sX6_judge_44, sX6_judge_45, sX6_judge_47, sX6_judge_50, sX6_judge_51, sX6_judge_52, sX6_judge_55, sX6_judge_56, sX6_judge_59, sX6_judge_62, sX6_judge_63, sX6_judge_64, sX6_judge_65, sX6_judge_67, sX6_judge_68, sX6_judge_71, sX6_judge_72, sX6_judge_73, sX6_judge_76, sX6_judge_77, sX6_judge_80, sX6_judge_81, sX6_judge_84, sX6_judge_86, sX6_judge_87, sX6_judge_90, sX6_judge_92, sX6_judge_93, sX6_judge_94, sX6_judge_95, sX6_judge_96, sX6_judge_97, sX6_judge_98, sX6_judge_101, sX6_judge_104, sX6_judge_105, sX6_judge_108, sX6_judge_113, sX6_judge_114, sX6_judge_117, sX6_judge_118, sX6_judge_119, sX6_judge_120, sX6_judge_121, sX6_judge_124, sX6_judge_125, sX6_judge_128, sX6_judge_129, sX6_judge_130, sX6_judge_131, sX6_judge_134, sX6_judge_135, sX6_judge_136, sX6_judge_139, sX6_judge_140, sX6_judge_143, sX6_judge_144, sX6_judge_145, sX6_judge_146, sX6_judge_149, opK_some, guK_true, calK_some, rk_nil, rk_int, rk_ref, tl_some, tl_none, nb_int, nb_0, nb_1, nb_if, nb_if']
      by_cases c : u i = jw (dN r i)
      · have ek : jdR r u i (m + 1) = jdR r u (i + 1) m := if_pos c
        rw [eb, if_pos c, ek]
        simp only [one_ne, if_false, nI_1]
        exact fin
      · have ek : jdR r u i (m + 1) = i + 1 := if_neg c
        have hp := fun x => m_back (d := d + 3) (x := x) w.1 r2 ((om.1 133 (by omega) (by omega)).trans ha)
        rw [show d + 3 + 2 = d + 5 from rfl] at hp
        rw [eb, if_neg c, ek]
        simp only [zero_eq, if_true, Int32.add_zero]
        rw [sX6_judge_66]
        simp only [sX6_judge_0, sX6_judge_1, sX6_judge_4, sX6_judge_7, sX6_judge_8, sX6_judge_10, sX6_judge_13, sX6_judge_14, sX6_judge_15, sX6_judge_18, sX6_judge_19, sX6_judge_20, sX6_judge_23, sX6_judge_24, sX6_judge_27, sX6_judge_30, sX6_judge_31, sX6_judge_32, sX6_judge_33, sX6_judge_36, sX6_judge_37, sX6_judge_38, sX6_judge_41, sX6_judge_44, sX6_judge_45, sX6_judge_47, sX6_judge_50, sX6_judge_51, sX6_judge_52, sX6_judge_55, sX6_judge_56, sX6_judge_59, sX6_judge_62, sX6_judge_63, sX6_judge_64, sX6_judge_65, sX6_judge_67, sX6_judge_68, sX6_judge_71, sX6_judge_72, sX6_judge_73, sX6_judge_76, sX6_judge_77, sX6_judge_80, sX6_judge_81, sX6_judge_84, sX6_judge_86, sX6_judge_87, sX6_judge_90, sX6_judge_92, sX6_judge_93, sX6_judge_94, sX6_judge_95, sX6_judge_96, sX6_judge_97, sX6_judge_98, sX6_judge_101, sX6_judge_104, sX6_judge_105, sX6_judge_108, sX6_judge_113, sX6_judge_114, sX6_judge_117, sX6_judge_118, sX6_judge_119, sX6_judge_120, sX6_judge_121, sX6_judge_124, sX6_judge_125, sX6_judge_128, sX6_judge_129, sX6_judge_130, sX6_judge_131, sX6_judge_134, sX6_judge_135, sX6_judge_136, sX6_judge_139, sX6_judge_140, sX6_judge_143, sX6_judge_144, sX6_judge_145, sX6_judge_146, sX6_judge_149, opK_some, guK_true, calK_some, rk_nil, rk_int, rk_ref, tl_some, tl_none, nb_int, nb_0, nb_1, nb_if, nb_if', q130, o130_28, a142, inb_nI hs (by omega), nI_clamp (show s < 2 ^ 31 by omega), e142', zero_eq, if_true, hp]
        rw [same_if]
        refine ⟨mrow M2 131 r, ?_, om.tr Mo.row, mrow_at⟩
        rw [← nI_1, Int32.add_comm]
    by_cases hl : laiD (dN r i) < 0
    · rw [if_neg (Int32.not_le.mpr hl)]
      exact tail _ (if_pos hl).symm
    · rw [if_pos (Int32.not_lt.mp hl)]
      exact tail _ (if_neg hl).symm
theorem X_judge {d : Nat} {M : Mem} {x : Int32} (j : J M) : Two (d + 4) 125 (d + 6) 240 [.int x] M := by
  have w := j_wr j
  have ed : M 100 1 = M 131 0 := j.1.2.2.1.1
  by_cases hx : 0 ≤ x ∧ x ≤ 3
  · obtain ⟨s, hs, rfl⟩ := sheet_of hx
    obtain ⟨⟨j1, j1'⟩, j2, j3, j4, j5⟩ := j.2.2.2.2 s hs
    have cm := C_isMissing (d := d + 2) (M := M) hs
    rw [show d + 2 + 1 = d + 3 from rfl] at cm
    rw [j1] at cm
    have i4 := inb_nI hs (show 4 < 2 ^ 31 by omega)
    have c4 := nI_clamp (show s < 2 ^ 31 by omega)
    have f141 : ∀ w, fX M w 141 = M 141 := fun w => fX_k (by omega)
    have f142 : ∀ w, fX M w 142 = M 142 := fun w => fX_k (by omega)
    by_cases h0 : M 141 s = 0
    · refine ⟨fX M 5, fM (fX M 5) 5, -1000006, ?_, ?_, J_fin j (by omega)⟩
      · rw [nX5_judge]
        simp only [sX5_judge_0, sX5_judge_1, sX5_judge_4, sX5_judge_7, sX5_judge_8, sX5_judge_9, sX5_judge_12, sX5_judge_13, sX5_judge_14, sX5_judge_17, sX5_judge_18, sX5_judge_19, sX5_judge_20, sX5_judge_21, sX5_judge_24, sX5_judge_27, sX5_judge_28, sX5_judge_29, sX5_judge_32, sX5_judge_33, sX5_judge_34, sX5_judge_35, sX5_judge_38, sX5_judge_41, sX5_judge_44, sX5_judge_45, sX5_judge_46, sX5_judge_49, sX5_judge_50, sX5_judge_51, sX5_judge_54, sX5_judge_55, sX5_judge_58, sX5_judge_61, sX5_judge_64, sX5_judge_65, sX5_judge_67, sX5_judge_68, sX5_judge_71, sX5_judge_74, sX5_judge_75, sX5_judge_78, sX5_judge_81, sX5_judge_83, sX5_judge_84, sX5_judge_87, sX5_judge_88, sX5_judge_89, sX5_judge_90, sX5_judge_93, sX5_judge_96, sX5_judge_99, sX5_judge_101, sX5_judge_104, sX5_judge_105, sX5_judge_108, sX5_judge_109, sX5_judge_110, sX5_judge_111, sX5_judge_112, sX5_judge_115, sX5_judge_118, sX5_judge_119, opK_some, guK_true, calK_some, rk_nil, rk_int, rk_ref, tl_some, tl_none, nb_int, nb_0, nb_1, nb_if, nb_if', q0, C_x_isSheet, hx, and_self, if_true, one_ne, if_false, o0_4, r5, sa_i hs, sa_g hs, shc hs, cm, h0, C_xf5]
      · rw [nX6_judge]
        simp only [sX6_judge_0, sX6_judge_1, sX6_judge_4, sX6_judge_7, sX6_judge_8, sX6_judge_10, sX6_judge_13, sX6_judge_14, sX6_judge_15, sX6_judge_18, sX6_judge_19, sX6_judge_20, sX6_judge_23, sX6_judge_24, sX6_judge_27, sX6_judge_30, sX6_judge_31, sX6_judge_32, sX6_judge_33, sX6_judge_36, sX6_judge_37, sX6_judge_38, sX6_judge_41, sX6_judge_44, sX6_judge_45, sX6_judge_47, sX6_judge_50, sX6_judge_51, sX6_judge_52, sX6_judge_55, sX6_judge_56, sX6_judge_59, sX6_judge_62, sX6_judge_63, sX6_judge_64, sX6_judge_65, sX6_judge_67, sX6_judge_68, sX6_judge_71, sX6_judge_72, sX6_judge_73, sX6_judge_76, sX6_judge_77, sX6_judge_80, sX6_judge_81, sX6_judge_84, sX6_judge_86, sX6_judge_87, sX6_judge_90, sX6_judge_92, sX6_judge_93, sX6_judge_94, sX6_judge_95, sX6_judge_96, sX6_judge_97, sX6_judge_98, sX6_judge_101, sX6_judge_104, sX6_judge_105, sX6_judge_108, sX6_judge_110, sX6_judge_113, sX6_judge_114, sX6_judge_117, sX6_judge_118, sX6_judge_119, sX6_judge_120, sX6_judge_121, sX6_judge_124, sX6_judge_125, sX6_judge_128, sX6_judge_129, sX6_judge_130, sX6_judge_131, sX6_judge_134, sX6_judge_135, sX6_judge_136, sX6_judge_139, sX6_judge_140, sX6_judge_143, sX6_judge_144, sX6_judge_145, sX6_judge_146, sX6_judge_149, opK_some, guK_true, calK_some, rk_nil, rk_int, rk_ref, tl_some, tl_none, nb_int, nb_0, nb_1, nb_if, nb_if', q130, C_m_isSheet, hx, and_self, if_true, one_ne, if_false, o130_27, a141, i4, c4, f141, h0, C_mf5]
    · by_cases hl : 9999 < M 131 0 + M 142 s
      · refine ⟨fX M 4, fM (fX M 4) 4, -1000005, ?_, ?_, J_fin j (by omega)⟩
        · rw [nX5_judge]
          simp only [sX5_judge_0, sX5_judge_1, sX5_judge_4, sX5_judge_7, sX5_judge_8, sX5_judge_9, sX5_judge_12, sX5_judge_13, sX5_judge_14, sX5_judge_17, sX5_judge_18, sX5_judge_19, sX5_judge_20, sX5_judge_21, sX5_judge_24, sX5_judge_27, sX5_judge_28, sX5_judge_29, sX5_judge_32, sX5_judge_33, sX5_judge_34, sX5_judge_35, sX5_judge_38, sX5_judge_41, sX5_judge_44, sX5_judge_45, sX5_judge_46, sX5_judge_49, sX5_judge_50, sX5_judge_51, sX5_judge_54, sX5_judge_55, sX5_judge_58, sX5_judge_61, sX5_judge_64, sX5_judge_65, sX5_judge_67, sX5_judge_68, sX5_judge_71, sX5_judge_74, sX5_judge_75, sX5_judge_78, sX5_judge_81, sX5_judge_83, sX5_judge_84, sX5_judge_87, sX5_judge_88, sX5_judge_89, sX5_judge_90, sX5_judge_93, sX5_judge_96, sX5_judge_99, sX5_judge_101, sX5_judge_104, sX5_judge_105, sX5_judge_108, sX5_judge_109, sX5_judge_110, sX5_judge_111, sX5_judge_112, sX5_judge_115, sX5_judge_118, sX5_judge_119, opK_some, guK_true, calK_some, rk_nil, rk_int, rk_ref, tl_some, tl_none, nb_int, nb_0, nb_1, nb_if, nb_if', q0, C_x_isSheet, C_x_isTooLate, ed, hx, and_self, if_true, one_ne, zero_eq, if_false, o0_4, r5, sa_i hs, sa_g hs, shc hs, sh1 hs, cm, h0, j1', hl, C_xf4]
        · rw [nX6_judge]
          simp only [sX6_judge_0, sX6_judge_1, sX6_judge_4, sX6_judge_7, sX6_judge_8, sX6_judge_10, sX6_judge_13, sX6_judge_14, sX6_judge_15, sX6_judge_18, sX6_judge_19, sX6_judge_20, sX6_judge_23, sX6_judge_24, sX6_judge_27, sX6_judge_30, sX6_judge_31, sX6_judge_32, sX6_judge_33, sX6_judge_36, sX6_judge_37, sX6_judge_38, sX6_judge_41, sX6_judge_44, sX6_judge_45, sX6_judge_47, sX6_judge_50, sX6_judge_51, sX6_judge_52, sX6_judge_55, sX6_judge_56, sX6_judge_59, sX6_judge_62, sX6_judge_63, sX6_judge_64, sX6_judge_65, sX6_judge_67, sX6_judge_68, sX6_judge_71, sX6_judge_72, sX6_judge_73, sX6_judge_76, sX6_judge_77, sX6_judge_80, sX6_judge_81, sX6_judge_84, sX6_judge_86, sX6_judge_87, sX6_judge_90, sX6_judge_92, sX6_judge_93, sX6_judge_94, sX6_judge_95, sX6_judge_96, sX6_judge_97, sX6_judge_98, sX6_judge_101, sX6_judge_104, sX6_judge_105, sX6_judge_108, sX6_judge_110, sX6_judge_113, sX6_judge_114, sX6_judge_117, sX6_judge_118, sX6_judge_119, sX6_judge_120, sX6_judge_121, sX6_judge_124, sX6_judge_125, sX6_judge_128, sX6_judge_129, sX6_judge_130, sX6_judge_131, sX6_judge_134, sX6_judge_135, sX6_judge_136, sX6_judge_139, sX6_judge_140, sX6_judge_143, sX6_judge_144, sX6_judge_145, sX6_judge_146, sX6_judge_149, opK_some, guK_true, calK_some, rk_nil, rk_int, rk_ref, tl_some, tl_none, nb_int, nb_0, nb_1, nb_if, nb_if', q130, C_m_isSheet, C_m_isTooLate, hx, and_self, if_true, one_ne, if_false, o130_27, o130_28, a141, a142, i4, c4, f141, f142, fX_131, h0, hl, C_mf4]
      · obtain ⟨z, hz⟩ : ∃ z, z = iN (M 142 s) := ⟨_, rfl⟩
        have ez : M 142 s = nI z := by rw [hz]; exact j3.2
        have lz : z ≤ 40 := by rw [hz]; exact j3.1
        obtain ⟨u, hu⟩ : ∃ u : Nat → Int32, u = fun k => M 143 (40 * s + k) := ⟨_, rfl⟩
        obtain ⟨M1, c1, h1, o1⟩ := C_become (d := d + 2) hen30 hen10 (by omega) (j_hr j) w
        rw [show d + 2 + 1 = d + 3 from rfl] at c1
        obtain ⟨M2, c2, o2⟩ := L_judge (d := d) (y := nI s) hs lz w (by rw [j1']; exact ez) u (fun k hk => by rw [hu]; exact j5 k hk) z 0 M1 none (by omega) h1 o1
        have cs : Cs M M2 := Cs.ou (by omega) (by omega) o2
        have e2 := cs.e
        have hc := C_aside (d := d + 4) (M := M2)
        rw [show d + 4 + 1 = d + 5 from rfl] at hc
        obtain ⟨M3, hM3⟩ : ∃ M3, M3 = mrow M2 133 (cpR (M2 131) (M2 133)) := ⟨_, rfl⟩
        rw [← hM3] at hc
        have ms3 : Ms M2 M3 := by rw [hM3]; exact Ms.as
        have r3 : M3 131 = M 131 := (ms3.1 131 (by omega)).trans e2
        have a3 : M3 133 = cpR (M 131) (M2 133) := by rw [hM3, mrow_at, e2]
        have k3 : ∀ k, 141 ≤ k → k < 144 → M3 k = M k := fun k h1 h2 => (ms3.1 k (by omega)).trans (cs.1 k (by omega))
        obtain ⟨M4, c4', o4, r4⟩ := L_m_judge (d := d) (M := M3) hs lz j.1.1.1 a3 (by rw [k3 142 (by omega) (by omega)]; exact ez) u (fun k hk => by rw [k3 143 (by omega) (by omega), hu]) z 0 M3 none (by omega) r3 Mo.rf
        refine ⟨M2, M4, nI (jdR (M 131) u 0 z), ?_, ?_, Ms.j (cs.j j) (ms3.tr (o4.ms (by rw [r4, r3])))⟩
        · rw [nX5_judge]
          simp only [sX5_judge_0, sX5_judge_1, sX5_judge_4, sX5_judge_7, sX5_judge_8, sX5_judge_9, sX5_judge_12, sX5_judge_13, sX5_judge_14, sX5_judge_17, sX5_judge_18, sX5_judge_19, sX5_judge_20, sX5_judge_21, sX5_judge_24, sX5_judge_27, sX5_judge_28, sX5_judge_29, sX5_judge_32, sX5_judge_33, sX5_judge_34, sX5_judge_35, sX5_judge_38, sX5_judge_41, sX5_judge_44, sX5_judge_45, sX5_judge_46, sX5_judge_49, sX5_judge_50, sX5_judge_51, sX5_judge_54, sX5_judge_55, sX5_judge_58, sX5_judge_61, sX5_judge_64, sX5_judge_65, sX5_judge_67, sX5_judge_68, sX5_judge_71, sX5_judge_74, sX5_judge_75, sX5_judge_78, sX5_judge_81, sX5_judge_83, sX5_judge_84, sX5_judge_87, sX5_judge_88, sX5_judge_89, sX5_judge_90, sX5_judge_93, sX5_judge_96, sX5_judge_99, sX5_judge_101, sX5_judge_104, sX5_judge_105, sX5_judge_108, sX5_judge_109, sX5_judge_110, sX5_judge_111, sX5_judge_112, sX5_judge_115, sX5_judge_118, sX5_judge_119, opK_some, guK_true, calK_some, rk_nil, rk_int, rk_ref, tl_some, tl_none, nb_int, nb_0, nb_1, nb_if, nb_if', q0, o0_0, o0_6, o100_0, hen_c hen30, hen_c hen10, C_x_isSheet, C_x_isTooLate, ed, hx, and_self, if_true, one_ne, zero_eq, if_false, o0_4, r5, sa_i hs, sa_g hs, shc hs, sh1 hs, cm, h0, j1', hl, c1]
          exact c2
        · rw [nX6_judge]
          simp only [sX6_judge_0, sX6_judge_1, sX6_judge_4, sX6_judge_7, sX6_judge_8, sX6_judge_10, sX6_judge_13, sX6_judge_14, sX6_judge_15, sX6_judge_18, sX6_judge_19, sX6_judge_20, sX6_judge_23, sX6_judge_24, sX6_judge_27, sX6_judge_30, sX6_judge_31, sX6_judge_32, sX6_judge_33, sX6_judge_36, sX6_judge_37, sX6_judge_38, sX6_judge_41, sX6_judge_44, sX6_judge_45, sX6_judge_47, sX6_judge_50, sX6_judge_51, sX6_judge_52, sX6_judge_55, sX6_judge_56, sX6_judge_59, sX6_judge_62, sX6_judge_63, sX6_judge_64, sX6_judge_65, sX6_judge_67, sX6_judge_68, sX6_judge_71, sX6_judge_72, sX6_judge_73, sX6_judge_76, sX6_judge_77, sX6_judge_80, sX6_judge_81, sX6_judge_84, sX6_judge_86, sX6_judge_87, sX6_judge_90, sX6_judge_92, sX6_judge_93, sX6_judge_94, sX6_judge_95, sX6_judge_96, sX6_judge_97, sX6_judge_98, sX6_judge_101, sX6_judge_104, sX6_judge_105, sX6_judge_108, sX6_judge_110, sX6_judge_113, sX6_judge_114, sX6_judge_117, sX6_judge_118, sX6_judge_119, sX6_judge_120, sX6_judge_121, sX6_judge_124, sX6_judge_125, sX6_judge_128, sX6_judge_129, sX6_judge_130, sX6_judge_131, sX6_judge_134, sX6_judge_135, sX6_judge_136, sX6_judge_139, sX6_judge_140, sX6_judge_143, sX6_judge_144, sX6_judge_145, sX6_judge_146, sX6_judge_149, opK_some, guK_true, calK_some, rk_nil, rk_int, rk_ref, tl_some, tl_none, nb_int, nb_0, nb_1, nb_if, nb_if', q130, o130_0, o130_2, C_m_isSheet, C_m_isTooLate, hx, and_self, if_true, one_ne, zero_eq, if_false, o130_27, o130_28, a141, a142, i4, c4, cs.1 141 (by omega), cs.1 142 (by omega), e2, h0, hl, hc]
          exact c4'
  · refine ⟨fX M 0, fM (fX M 0) 0, -1000001, ?_, ?_, J_fin j (by omega)⟩
    · rw [nX5_judge]
      simp only [sX5_judge_0, sX5_judge_1, sX5_judge_4, sX5_judge_7, sX5_judge_8, sX5_judge_9, sX5_judge_12, sX5_judge_13, sX5_judge_14, sX5_judge_17, sX5_judge_18, sX5_judge_19, sX5_judge_20, sX5_judge_21, sX5_judge_24, sX5_judge_27, sX5_judge_28, sX5_judge_29, sX5_judge_32, sX5_judge_33, sX5_judge_34, sX5_judge_35, sX5_judge_38, sX5_judge_41, sX5_judge_44, sX5_judge_45, sX5_judge_46, sX5_judge_49, sX5_judge_50, sX5_judge_51, sX5_judge_54, sX5_judge_55, sX5_judge_58, sX5_judge_61, sX5_judge_64, sX5_judge_65, sX5_judge_67, sX5_judge_68, sX5_judge_71, sX5_judge_74, sX5_judge_75, sX5_judge_78, sX5_judge_81, sX5_judge_83, sX5_judge_84, sX5_judge_87, sX5_judge_88, sX5_judge_89, sX5_judge_90, sX5_judge_93, sX5_judge_96, sX5_judge_99, sX5_judge_101, sX5_judge_104, sX5_judge_105, sX5_judge_108, sX5_judge_109, sX5_judge_110, sX5_judge_111, sX5_judge_112, sX5_judge_115, sX5_judge_118, sX5_judge_119, opK_some, guK_true, calK_some, rk_nil, rk_int, rk_ref, tl_some, tl_none, nb_int, nb_0, nb_1, nb_if, nb_if', q0, C_x_isSheet, hx, if_true, zero_eq, if_false, C_xf0]
    · rw [nX6_judge]
      simp only [sX6_judge_0, sX6_judge_1, sX6_judge_4, sX6_judge_7, sX6_judge_8, sX6_judge_10, sX6_judge_13, sX6_judge_14, sX6_judge_15, sX6_judge_18, sX6_judge_19, sX6_judge_20, sX6_judge_23, sX6_judge_24, sX6_judge_27, sX6_judge_30, sX6_judge_31, sX6_judge_32, sX6_judge_33, sX6_judge_36, sX6_judge_37, sX6_judge_38, sX6_judge_41, sX6_judge_44, sX6_judge_45, sX6_judge_47, sX6_judge_50, sX6_judge_51, sX6_judge_52, sX6_judge_55, sX6_judge_56, sX6_judge_59, sX6_judge_62, sX6_judge_63, sX6_judge_64, sX6_judge_65, sX6_judge_67, sX6_judge_68, sX6_judge_71, sX6_judge_72, sX6_judge_73, sX6_judge_76, sX6_judge_77, sX6_judge_80, sX6_judge_81, sX6_judge_84, sX6_judge_86, sX6_judge_87, sX6_judge_90, sX6_judge_92, sX6_judge_93, sX6_judge_94, sX6_judge_95, sX6_judge_96, sX6_judge_97, sX6_judge_98, sX6_judge_101, sX6_judge_104, sX6_judge_105, sX6_judge_108, sX6_judge_110, sX6_judge_113, sX6_judge_114, sX6_judge_117, sX6_judge_118, sX6_judge_119, sX6_judge_120, sX6_judge_121, sX6_judge_124, sX6_judge_125, sX6_judge_128, sX6_judge_129, sX6_judge_130, sX6_judge_131, sX6_judge_134, sX6_judge_135, sX6_judge_136, sX6_judge_139, sX6_judge_140, sX6_judge_143, sX6_judge_144, sX6_judge_145, sX6_judge_146, sX6_judge_149, opK_some, guK_true, calK_some, rk_nil, rk_int, rk_ref, tl_some, tl_none, nb_int, nb_0, nb_1, nb_if, nb_if', q130, C_m_isSheet, hx, if_true, zero_eq, if_false, C_mf0]

