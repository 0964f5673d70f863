/-! calls: text, the class -/
theorem L_tell {d n : Nat} {S V : Nat → Int32} {Bg : Nat → Nat} (hn : n ≤ 120) (hS : S n = 0) (hS2 : ∀ i, S i = 2 → i ≤ n → i < n) (hV : ∀ i, S i = 1 → V i = -1 ∨ ∃ k, k < 12 ∧ V i = nI k) (hB : ∀ i, i ≤ n → Bg i ≤ 120) : ∀ (m i : Nat) (q : Rw) (c : Nat) (M1 : Mem), i ≤ n → n < i + m → 1 ≤ c → 2 * c ≤ i + 2 → Tl S V Bg n M1 → M1 7 6 = nI i → HR M1 30 q → IR q →
    ∃ M', lim (call (d + 9)) none 4 cX4_tellTo (some .int) 11 [some (.ref 7), some (.ref 30), some (.int (nI c))] [] M1 = some (some (.int (pxT S V Bg m i q c).1), M') ∧ Tc M1 M' ∧ ((pxT S V Bg m i q c).2.2 = true → HR M' 30 (pxT S V Bg m i q c).2.1 ∧ IR (pxT S V Bg m i q c).2.1 ∧ ¬ (pxT S V Bg m i q c).1 < 0) ∧ ((pxT S V Bg m i q c).2.2 = false → (pxT S V Bg m i q c).1 < 0) := by
  intro m
  induction m with
  | zero => intro i q c M1 h1 h2; omega
  | succ m ih =>
    intro i q c M1 hi him hc hc2 tl e6 h ir
    obtain ⟨M2, c2, t12, g2, l2, h2⟩ := C_tellItem (d := d + 4) tl hn hS hS2 hV e6 hi ir h
    rw [show d + 4 + 5 = d + 9 from rfl] at c2
    have tl2 := tl.tc t12
    have neg : ∀ j, j ≤ n → (-1 : Int32) - nI (Bg j) < 0 := by
      intro j hj
      have hb := hB j hj
      have : (-1 : Int32) - nI (Bg j) = nI 0 - nI (Bg j + 1) := by
        rw [← nI_1, nI_0, Int32.zero_sub, Int32.neg_add, Int32.sub_eq_add_neg, Int32.add_comm]
        exact (Int32.sub_eq_add_neg ..).symm
      rw [this]
      exact pk_sneg (by omega) (by omega)
    obtain ⟨s1, s2, s3⟩ := tl2.2 (piT S V i q).2.1 l2
    have ia := inb_nI (show (piT S V i q).2.1 < 121 by omega) (show 121 < 2 ^ 31 by omega)
    have ca := nI_clamp (show (piT S V i q).2.1 < 2 ^ 31 by omega)
    have fl_ : lim (call (d + 9)) none 4 cX4_tellTo (some .int) 65 [some (.ref 7), some (.ref 30), some (.int (nI c))] [] M2 = some (some (.int (-1 - nI (Bg (piT S V i q).2.1))), M2) := by
      rw [sX4_tellTo_65]
      simp only [sX4_tellTo_0, sX4_tellTo_1, sX4_tellTo_4, sX4_tellTo_5, sX4_tellTo_6, sX4_tellTo_9, sX4_tellTo_10, sX4_tellTo_12, sX4_tellTo_14, sX4_tellTo_17, sX4_tellTo_18, sX4_tellTo_19, sX4_tellTo_22, sX4_tellTo_25, sX4_tellTo_26, sX4_tellTo_29, sX4_tellTo_30, sX4_tellTo_33, sX4_tellTo_34, sX4_tellTo_37, sX4_tellTo_38, sX4_tellTo_39, sX4_tellTo_40, sX4_tellTo_43, sX4_tellTo_44, sX4_tellTo_47, sX4_tellTo_48, sX4_tellTo_49, sX4_tellTo_52, sX4_tellTo_55, sX4_tellTo_56, sX4_tellTo_59, sX4_tellTo_62, sX4_tellTo_66, sX4_tellTo_67, sX4_tellTo_70, sX4_tellTo_71, sX4_tellTo_74, sX4_tellTo_75, sX4_tellTo_76, opK_some, guK_true, calK_some, rk_nil, rk_int, rk_ref, tl_some, tl_none, nb_int, nb_0, nb_1, nb_if, nb_if', o7_3, o7_6, a93, g2, ia, ca, s2]
    rw [sX4_tellTo_11]
    simp only [sX4_tellTo_0, sX4_tellTo_1, sX4_tellTo_4, sX4_tellTo_5, sX4_tellTo_6, sX4_tellTo_9, sX4_tellTo_10, sX4_tellTo_12, sX4_tellTo_14, sX4_tellTo_17, sX4_tellTo_18, sX4_tellTo_19, sX4_tellTo_22, sX4_tellTo_25, sX4_tellTo_26, sX4_tellTo_29, sX4_tellTo_30, sX4_tellTo_33, sX4_tellTo_34, sX4_tellTo_37, sX4_tellTo_38, sX4_tellTo_39, sX4_tellTo_40, sX4_tellTo_43, sX4_tellTo_44, sX4_tellTo_47, sX4_tellTo_48, sX4_tellTo_49, sX4_tellTo_52, sX4_tellTo_55, sX4_tellTo_56, sX4_tellTo_59, sX4_tellTo_62, sX4_tellTo_66, sX4_tellTo_67, sX4_tellTo_70, sX4_tellTo_71, sX4_tellTo_74, sX4_tellTo_75, sX4_tellTo_76, opK_some, guK_true, calK_some, rk_nil, rk_int, rk_ref, tl_some, tl_none, nb_int, nb_0, nb_1, nb_if, nb_if', q7, c2]
    rw [if_neg (show ¬ (120 : Int32) < nI c from nI_nlt (a := 120) (by omega) (by omega))]
    by_cases k : (piT S V i q).1 = true
    · have k' : ¬ ¬ (piT S V i q).1 = true := fun z => z k
      have ge := pT_ge k
      rw [if_pos k, if_neg (by decide)]
      simp only [sX4_tellTo_0, sX4_tellTo_1, sX4_tellTo_4, sX4_tellTo_5, sX4_tellTo_6, sX4_tellTo_9, sX4_tellTo_10, sX4_tellTo_12, sX4_tellTo_14, sX4_tellTo_17, sX4_tellTo_18, sX4_tellTo_19, sX4_tellTo_22, sX4_tellTo_25, sX4_tellTo_26, sX4_tellTo_29, sX4_tellTo_30, sX4_tellTo_33, sX4_tellTo_34, sX4_tellTo_37, sX4_tellTo_38, sX4_tellTo_39, sX4_tellTo_40, sX4_tellTo_43, sX4_tellTo_44, sX4_tellTo_47, sX4_tellTo_48, sX4_tellTo_49, sX4_tellTo_52, sX4_tellTo_55, sX4_tellTo_56, sX4_tellTo_59, sX4_tellTo_62, sX4_tellTo_66, sX4_tellTo_67, sX4_tellTo_70, sX4_tellTo_71, sX4_tellTo_74, sX4_tellTo_75, sX4_tellTo_76, opK_some, guK_true, calK_some, rk_nil, rk_int, rk_ref, tl_some, tl_none, nb_int, nb_0, nb_1, nb_if, nb_if', o7_2, o7_6, a92, g2, ia, ca, s1]
      by_cases k0 : S (piT S V i q).2.1 = 0
      · have ek : pxT S V Bg (m + 1) i q c = (nI c, (piT S V i q).2.2, true) := by
          unfold pxT
          rw [if_neg k', if_pos k0]
        rw [if_pos k0, ek]
        exact ⟨M2, rfl, t12, fun _ => ⟨h2 k, pT_IR ir k, nI_nlt (b := 0) (by omega) (by omega)⟩, fun z => absurd (show true = false from z) (by decide)⟩
      · rw [if_neg k0]
        by_cases k3 : S (piT S V i q).2.1 = 3
        · have ek : pxT S V Bg (m + 1) i q c = pxT S V Bg m ((piT S V i q).2.1 + 1) (piT S V i q).2.2 (c + 1) := by
            show (if _ then _ else _) = _
            rw [if_neg k', if_neg k0, if_pos k3]
          have ln : (piT S V i q).2.1 < n := by
            rcases Nat.lt_or_ge (piT S V i q).2.1 n with z | z
            · exact z
            · have : (piT S V i q).2.1 = n := by omega
              rw [this] at k0
              exact absurd hS k0
          have c4 := C_step (d := d + 8) (M := M2) tl2.1 g2 ln hn
          rw [show d + 8 + 1 = d + 9 from rfl] at c4
          obtain ⟨M3, hM3⟩ : ∃ M3, M3 = mset M2 7 6 (nI ((piT S V i q).2.1 + 1)) := ⟨_, rfl⟩
          rw [← hM3] at c4
          have t23 : Tc M2 M3 := by rw [hM3]; exact Tc.at
          obtain ⟨M4, c5, t34, y1, y2⟩ := ih ((piT S V i q).2.1 + 1) (piT S V i q).2.2 (c + 1) M3 (by omega) (by omega) (by omega) (by omega) (tl2.tc t23) (by rw [hM3, mset_at, upd_at]) (by rw [hM3]; exact HR_7 (h2 k)) (pT_IR ir k)
          rw [if_pos k3, ek]
          simp only [sX4_tellTo_0, sX4_tellTo_1, sX4_tellTo_4, sX4_tellTo_5, sX4_tellTo_6, sX4_tellTo_9, sX4_tellTo_10, sX4_tellTo_12, sX4_tellTo_14, sX4_tellTo_17, sX4_tellTo_18, sX4_tellTo_19, sX4_tellTo_22, sX4_tellTo_25, sX4_tellTo_26, sX4_tellTo_29, sX4_tellTo_30, sX4_tellTo_33, sX4_tellTo_34, sX4_tellTo_37, sX4_tellTo_38, sX4_tellTo_39, sX4_tellTo_40, sX4_tellTo_43, sX4_tellTo_44, sX4_tellTo_47, sX4_tellTo_48, sX4_tellTo_49, sX4_tellTo_52, sX4_tellTo_55, sX4_tellTo_56, sX4_tellTo_59, sX4_tellTo_62, sX4_tellTo_66, sX4_tellTo_67, sX4_tellTo_70, sX4_tellTo_71, sX4_tellTo_74, sX4_tellTo_75, sX4_tellTo_76, opK_some, guK_true, calK_some, rk_nil, rk_int, rk_ref, tl_some, tl_none, nb_int, nb_0, nb_1, nb_if, nb_if', q7, c4, nI_1]
          exact ⟨M4, c5, (t12.tr t23).tr t34, y1, y2⟩
        · have ek : pxT S V Bg (m + 1) i q c = (-1 - nI (Bg (piT S V i q).2.1), q, false) := by
            show (if _ then _ else _) = _
            rw [if_neg k', if_neg k0, if_neg k3]
          rw [if_neg k3, ek, fl_]
          exact ⟨M2, rfl, t12, fun z => absurd (show false = true from z) (by decide), fun _ => neg _ l2⟩
    · have ek : pxT S V Bg (m + 1) i q c = (-1 - nI (Bg (piT S V i q).2.1), q, false) := by
        show (if _ then _ else _) = _
        rw [if_pos k]
      rw [if_neg k, if_pos rfl, ek, fl_]
      exact ⟨M2, rfl, t12, fun z => absurd (show false = true from z) (by decide), fun _ => neg _ l2⟩
/-- the tokens of a tape -/
abbrev qS (B : Nat → Int32) (Z i : Nat) : Int32 := tQ B Z (sk B Z (ps B Z i))
abbrev qV (B : Nat → Int32) (Z i : Nat) : Int32 := tV B Z (sk B Z (ps B Z i))
abbrev qB (B : Nat → Int32) (Z i : Nat) : Nat := sk B Z (ps B Z i)
theorem qV_w {B : Nat → Int32} {Z i : Nat} (h : qS B Z i = 1) : qV B Z i = -1 ∨ ∃ k, k < 12 ∧ qV B Z i = nI k := by
  have g : ∀ q, tQ B Z q = 1 → tV B Z q = -1 ∨ ∃ k, k < 12 ∧ tV B Z q = nI k := by
    intro q hq
    unfold tQ at hq
    unfold tV
    by_cases c : Z ≤ q
    · rw [if_pos c] at hq
      exact absurd hq (by decide)
    · rw [if_neg c] at hq ⊢
      by_cases cl : isL (B q)
      · rw [if_pos cl]
        exact wx_or
      · rw [if_neg cl] at hq
        by_cases cd : isD (B q)
        · rw [if_pos cd] at hq
          exact absurd hq (by decide)
        · rw [if_neg cd] at hq
          by_cases c9 : B q = 59
          · rw [if_pos c9] at hq
            exact absurd hq (by decide)
          · rw [if_neg c9] at hq
            exact absurd hq (by decide)
  exact g _ h
theorem qS_0 {B : Nat → Int32} {Z q : Nat} : tQ B Z q = 0 ↔ Z ≤ q := by
  unfold tQ
  by_cases c : Z ≤ q
  · rw [if_pos c]
    exact ⟨fun _ => c, fun _ => rfl⟩
  · rw [if_neg c]
    refine ⟨fun z => ?_, fun z => absurd z c⟩
    exfalso
    by_cases cl : isL (B q)
    · rw [if_pos cl] at z
      exact absurd z (by decide)
    · rw [if_neg cl] at z
      by_cases cd : isD (B q)
      · rw [if_pos cd] at z
        exact absurd z (by decide)
      · rw [if_neg cd] at z
        by_cases c9 : B q = 59
        · rw [if_pos c9] at z
          exact absurd z (by decide)
        · rw [if_neg c9] at z
          exact absurd z (by decide)
abbrev txR (B : Nat → Int32) (Z : Nat) (r : Rw) : Int32 × Rw × Bool := pxT (qS B Z) (qV B Z) (qB B Z) 121 0 r 1
/-- the class's text: what it answers, and what its farm's hen is then -/
theorem C_x_text {d Z : Nat} {M : Mem} {r : Rw} (e1 : M 7 1 = nI Z) (hZ : Z ≤ 120) (h : HR M 10 r) (ir : IR r) :
    ∃ M' n, n ≤ Z ∧ (∀ i, i < n → sk (M 91) Z (ps (M 91) Z i) < Z) ∧ sk (M 91) Z (ps (M 91) Z n) = Z ∧ call (d + 11) 89 [.ref 0] M = some (some (.int (txR (M 91) Z r).1), M') ∧ (∀ k, k ≠ 7 → (k < 10 ∨ (19 ≤ k ∧ k < 30) ∨ (39 ≤ k ∧ k < 92) ∨ 95 ≤ k) → M' k = M k) ∧ M' 7 1 = 0 ∧ ((txR (M 91) Z r).2.2 = true → HR M' 10 (txR (M 91) Z r).2.1 ∧ IR (txR (M 91) Z r).2.1) ∧ ((txR (M 91) Z r).2.2 = false → HR M' 10 r) := by
  obtain ⟨M1, c1, h1, o1⟩ := C_become (d := d + 9) hen30 hen10 (by omega) h ir.1.1
  rw [show d + 9 + 1 = d + 10 from rfl] at c1
  obtain ⟨M2, n, c2, t2, tt⟩ := C_readTokens (d := d) (M := M1) (Z := Z) (by rw [o1 7 (by omega)]; exact e1) hZ
  have e91 : M1 91 = M 91 := o1 91 (by omega)
  rw [e91] at tt
  obtain ⟨nZ, tb, te, t5, tr⟩ := tt
  obtain ⟨M3, hM3⟩ : ∃ M3, M3 = mset M2 7 6 0 := ⟨_, rfl⟩
  have h2 : HR M2 30 r := HR_ou h1 (fun k a b => t2.1 k (by omega) (by omega))
  have h3 : HR M3 30 r := by rw [hM3]; exact HR_7 h2
  have hSn : qS (M 91) Z n = 0 := qS_0.mpr (by omega)
  have tl3 : Tl (qS (M 91) Z) (qV (M 91) Z) (qB (M 91) Z) n M3 := ⟨by rw [hM3, mset_at, upd_ne (by omega)]; exact t5, fun i hi => by rw [hM3, mset_ne (by omega), mset_ne (by omega), mset_ne (by omega)]; exact tr i hi⟩
  obtain ⟨M4, c4, t34, y1, y2⟩ := L_tell (d := d) (S := qS (M 91) Z) (V := qV (M 91) Z) (Bg := qB (M 91) Z) (show n ≤ 120 by omega) hSn (fun i hi hin => by
    rcases Nat.lt_or_ge i n with z | z
    · exact z
    · have : i = n := by omega
      rw [this, hSn] at hi
      exact absurd hi (by decide)) (fun i hi => qV_w hi) (fun i _ => by
      have := (sk_Z (B := M 91) (ps_Z (M 91) Z i)).2
      show sk (M 91) Z (ps (M 91) Z i) ≤ 120
      omega) 121 0 r 1 M3 (by omega) (by omega) (by omega) (by omega) tl3 (by rw [hM3, mset_at, upd_at]; rfl) h3 ir
  have c3 : call (d + 10) 90 [.ref 7, .ref 30] M1 = some (some (.int (txR (M 91) Z r).1), M4) := by
    rw [show d + 10 = d + 9 + 1 from rfl, nX4_tellTo]
    simp only [sX4_tellTo_0, sX4_tellTo_1, sX4_tellTo_4, sX4_tellTo_5, sX4_tellTo_6, sX4_tellTo_9, sX4_tellTo_10, sX4_tellTo_12, sX4_tellTo_14, sX4_tellTo_17, sX4_tellTo_18, sX4_tellTo_19, sX4_tellTo_22, sX4_tellTo_25, sX4_tellTo_26, sX4_tellTo_29, sX4_tellTo_30, sX4_tellTo_33, sX4_tellTo_34, sX4_tellTo_37, sX4_tellTo_38, sX4_tellTo_39, sX4_tellTo_40, sX4_tellTo_43, sX4_tellTo_44, sX4_tellTo_47, sX4_tellTo_48, sX4_tellTo_49, sX4_tellTo_52, sX4_tellTo_55, sX4_tellTo_56, sX4_tellTo_59, sX4_tellTo_62, sX4_tellTo_66, sX4_tellTo_67, sX4_tellTo_70, sX4_tellTo_71, sX4_tellTo_74, sX4_tellTo_75, sX4_tellTo_76, opK_some, guK_true, calK_some, rk_nil, rk_int, rk_ref, tl_some, tl_none, nb_int, nb_0, nb_1, nb_if, nb_if', q7, c2, p7_6, ← hM3]
    exact c4
  have k14 : ∀ k, k ≠ 7 → (k < 30 ∨ (39 ≤ k ∧ k < 92) ∨ 95 ≤ k) → M4 k = M k := fun k a b => by
    rw [t34.1 k a (by omega), hM3, mset_ne a, t2.1 k a (by omega), o1 k (by omega)]
  have h10 : HR M4 10 r := HR_ou h (fun k a b => k14 k (by omega) (by omega))
  rw [show d + 11 = d + 10 + 1 from rfl, nX5_text]
  simp only [sX5_text_0, sX5_text_1, sX5_text_4, sX5_text_5, sX5_text_8, sX5_text_11, sX5_text_14, sX5_text_15, sX5_text_18, sX5_text_19, sX5_text_22, sX5_text_25, sX5_text_26, sX5_text_27, sX5_text_30, sX5_text_31, sX5_text_34, sX5_text_37, sX5_text_38, sX5_text_41, sX5_text_45, sX5_text_48, sX5_text_49, sX5_text_52, sX5_text_53, opK_some, guK_true, calK_some, rk_nil, rk_int, rk_ref, tl_some, tl_none, nb_int, nb_0, nb_1, nb_if, nb_if', o0_0, o0_3, o0_6, o100_0, hen_c hen30, hen_c hen10, q7, c1, c3]
  cases hb : (txR (M 91) Z r).2.2 with
  | true =>
    obtain ⟨y3, y4, y5⟩ := y1 hb
    obtain ⟨M5, c5, h5, o5⟩ := C_become (d := d + 9) hen10 hen30 (by omega) y3 y4.1.1
    rw [show d + 9 + 1 = d + 10 from rfl] at c5
    rw [if_neg y5]
    simp only [sX5_text_0, sX5_text_1, sX5_text_4, sX5_text_5, sX5_text_8, sX5_text_11, sX5_text_14, sX5_text_15, sX5_text_18, sX5_text_19, sX5_text_22, sX5_text_25, sX5_text_26, sX5_text_27, sX5_text_30, sX5_text_31, sX5_text_34, sX5_text_37, sX5_text_38, sX5_text_41, sX5_text_45, sX5_text_48, sX5_text_49, sX5_text_52, sX5_text_53, opK_some, guK_true, calK_some, rk_nil, rk_int, rk_ref, tl_some, tl_none, nb_int, nb_0, nb_1, nb_if, nb_if', o0_0, o0_6, o100_0, hen_c hen30, hen_c hen10, c5]
    rw [sX5_text_44]
    simp only [sX5_text_0, sX5_text_1, sX5_text_4, sX5_text_5, sX5_text_8, sX5_text_11, sX5_text_14, sX5_text_15, sX5_text_18, sX5_text_19, sX5_text_22, sX5_text_25, sX5_text_26, sX5_text_27, sX5_text_30, sX5_text_31, sX5_text_34, sX5_text_37, sX5_text_38, sX5_text_41, sX5_text_45, sX5_text_48, sX5_text_49, sX5_text_52, sX5_text_53, opK_some, guK_true, calK_some, rk_nil, rk_int, rk_ref, tl_some, tl_none, nb_int, nb_0, nb_1, nb_if, nb_if', o0_3, p7_1]
    exact ⟨mset M5 7 1 0, n, nZ, tb, te, rfl, fun k a b => by rw [mset_ne a, o5 k (by omega), k14 k a (by omega)], by rw [mset_at, upd_at], fun _ => ⟨HR_ou h5 (fun k a b => mset_ne (by omega)), y4⟩, fun z => absurd z (by decide)⟩
  | false =>
    rw [if_pos (y2 hb), sX5_text_44]
    simp only [sX5_text_0, sX5_text_1, sX5_text_4, sX5_text_5, sX5_text_8, sX5_text_11, sX5_text_14, sX5_text_15, sX5_text_18, sX5_text_19, sX5_text_22, sX5_text_25, sX5_text_26, sX5_text_27, sX5_text_30, sX5_text_31, sX5_text_34, sX5_text_37, sX5_text_38, sX5_text_41, sX5_text_45, sX5_text_48, sX5_text_49, sX5_text_52, sX5_text_53, opK_some, guK_true, calK_some, rk_nil, rk_int, rk_ref, tl_some, tl_none, nb_int, nb_0, nb_1, nb_if, nb_if', o0_3, p7_1]
    exact ⟨mset M4 7 1 0, n, nZ, tb, te, rfl, fun k a b => by rw [mset_ne a, k14 k a (by omega)], by rw [mset_at, upd_at], fun z => absurd z (by decide), fun _ => (HR_ou h10 (fun k a b => mset_ne (by omega)))⟩

