/-! calls: text, both -/
theorem mrow_is {M : Mem} {k : Nat} {f : Nat → Int32} (h : M k = f) : mrow M k f = M := by
  funext j
  by_cases c : j = k
  · rw [c, mrow_at, h]
  · rw [mrow_ne c]
theorem C_m_text {d n Z : Nat} {M : Mem} {r : Rw} (hZ : Z ≤ 120) (hB : ∀ i, i < Z → rg (M 138 i) 255) (hn : n ≤ Z) (hE : qB (M 138) Z n = Z) (e17 : M 130 17 = nI Z) (e131 : M 131 = r) (ir : IR r) : ∃ M', call (d + 8) 220 [.ref 130] M = some (some (.int (txR (M 138) Z r).1), M') ∧ (∀ k, k ≠ 130 → k ≠ 140 → k ≠ 131 → M' k = M k) ∧ M' 130 3 = M 130 3 ∧ M' 130 17 = 0 ∧ ((txR (M 138) Z r).2.2 = true → M' 131 = (txR (M 138) Z r).2.1 ∧ ∀ j, (j = 0 ∨ (5 ≤ j ∧ j < 18) ∨ (96 ≤ j ∧ j < 132)) → (txR (M 138) Z r).2.1 j = r j) ∧ ((txR (M 138) Z r).2.2 = false → M' 131 = r) := by
  obtain ⟨M0, hM0⟩ : ∃ M0, M0 = mset (mset (mset (mset M 130 19 0) 130 22 0) 130 25 0) 130 26 (r 3) := ⟨_, rfl⟩
  have fk : ∀ k, k ≠ 130 → M0 k = M k := fun k hk => by rw [hM0, mset_ne hk, mset_ne hk, mset_ne hk, mset_ne hk]
  have fj : ∀ j, j ≠ 19 → j ≠ 22 → j ≠ 25 → j ≠ 26 → M0 130 j = M 130 j := fun j a b c e => by rw [hM0, mset_at, mset_at, mset_at, mset_at, upd_ne e, upd_ne c, upd_ne b, upd_ne a]
  have f19 : M0 130 19 = 0 := by rw [hM0, mset_at, mset_at, mset_at, mset_at, upd_ne (by omega), upd_ne (by omega), upd_ne (by omega), upd_at]
  have f22 : M0 130 22 = 0 := by rw [hM0, mset_at, mset_at, mset_at, mset_at, upd_ne (by omega), upd_ne (by omega), upd_at]
  have f25 : M0 130 25 = 0 := by rw [hM0, mset_at, mset_at, mset_at, mset_at, upd_ne (by omega), upd_at]
  have f26 : M0 130 26 = r 3 := by rw [hM0, mset_at, upd_at]
  have f17 : M0 130 17 = nI Z := (fj 17 (by omega) (by omega) (by omega) (by omega)).trans e17
  have f138 : M0 138 = M 138 := fk 138 (by omega)
  obtain ⟨M1, c1, l1, g18, g19, g20, g21⟩ := C_next (d := d + 5) (p := 0) (M := M0) hZ (Nat.zero_le Z) f17 f19 (fun i hi => by rw [f138]; exact hB i hi)
  rw [show d + 5 + 2 = d + 7 from rfl] at c1
  rw [f138] at g18 g19 g20 g21
  have ok : Ok (M 138) Z 0 M1 := ⟨⟨(l1.2 17 (by omega) (by omega) (by omega) (by omega)).trans f17, (l1.1 138 (by omega)).trans f138, g18, g19, g20, g21⟩, (l1.2 22 (by omega) (by omega) (by omega) (by omega)).trans f22⟩
  obtain ⟨M2, c2, g2⟩ := C_readItem (d := d) (c := 0) (r := r) hZ hB ok ((l1.2 26 (by omega) (by omega) (by omega) (by omega)).trans f26) ((l1.2 25 (by omega) (by omega) (by omega) (by omega)).trans f25) (by omega)
  have rs := g2.s (r0 := r) rfl (fun k hk => absurd hk (Nat.not_lt_zero k)) ir
  obtain ⟨M3, c3, l3, h3⟩ := L_txt (d := d) hZ hB hn hE 120 0 1 r M2 (by omega) (by omega) (by omega) (by omega) ir rs
  obtain ⟨M4, hM4⟩ : ∃ M4, M4 = mset M3 130 17 0 := ⟨_, rfl⟩
  have l13 : Lw M1 M3 := g2.1.tr l3
  have k4 : ∀ k, k ≠ 130 → k ≠ 140 → M4 k = M k := fun k a b => by rw [hM4, mset_ne a, l13.1 k a b, l1.1 k a, fk k a]
  have q4 : ∀ j, j ≠ 17 → M4 130 j = M3 130 j := fun j a => by rw [hM4, mset_at, upd_ne a]
  have e3 : M4 130 3 = M 130 3 := by rw [q4 3 (by omega), l13.2 3 (by omega) (by omega) (by omega) (by omega) (by omega) (by omega) (by omega), l1.2 3 (by omega) (by omega) (by omega) (by omega), fj 3 (by omega) (by omega) (by omega) (by omega)]
  have e4 : M4 130 17 = 0 := by rw [hM4, mset_at, upd_at]
  have e140 : M4 140 = M3 140 := by rw [hM4, mset_ne (by omega)]
  have r4 : M4 131 = r := (k4 131 (by omega) (by omega)).trans e131
  obtain ⟨s1, s2⟩ := h3
  rw [show d + 8 = d + 7 + 1 from rfl, nX6_text]
  simp only [sX6_text_0, sX6_text_1, sX6_text_2, sX6_text_5, sX6_text_6, sX6_text_7, sX6_text_10, sX6_text_11, sX6_text_12, sX6_text_15, sX6_text_16, sX6_text_17, sX6_text_20, sX6_text_21, sX6_text_22, sX6_text_25, sX6_text_26, sX6_text_29, sX6_text_30, sX6_text_34, sX6_text_37, sX6_text_40, sX6_text_41, sX6_text_44, sX6_text_45, sX6_text_48, sX6_text_49, sX6_text_52, sX6_text_53, sX6_text_56, sX6_text_57, sX6_text_59, sX6_text_62, sX6_text_63, sX6_text_64, sX6_text_67, sX6_text_68, sX6_text_71, sX6_text_74, sX6_text_75, sX6_text_76, sX6_text_79, sX6_text_82, sX6_text_83, sX6_text_86, sX6_text_87, sX6_text_91, sX6_text_92, sX6_text_95, sX6_text_96, sX6_text_99, sX6_text_102, sX6_text_103, sX6_text_104, sX6_text_107, sX6_text_108, sX6_text_109, sX6_text_110, sX6_text_111, sX6_text_112, sX6_text_114, sX6_text_115, sX6_text_118, sX6_text_121, sX6_text_122, sX6_text_123, sX6_text_124, sX6_text_125, sX6_text_126, sX6_text_129, sX6_text_132, sX6_text_133, sX6_text_136, sX6_text_137, sX6_text_138, sX6_text_139, sX6_text_142, sX6_text_145, sX6_text_146, opK_some, guK_true, calK_some, rk_nil, rk_int, rk_ref, tl_some, tl_none, nb_int, nb_0, nb_1, nb_if, nb_if', q130, p130_19, p130_22, p130_25, p130_26, o130_0, a131, ib_3_132, tn_3, mset_ne (show 131 ≠ 130 by omega), e131, ← hM0, c1, c2, c3]
  rw [sX6_text_90]
  cases hb : (txR (M 138) Z r).2.2 with
  | true =>
    obtain ⟨y1, c, y2, y3, y4, y5, y6⟩ := s1 hb
    have lc := L_cnt (d := d + 7 - 3) (M := M4) (r := r) y2 ((q4 25 (by omega)).trans y4) (by rw [e140]; exact y6) c 0 (by omega)
    rw [show d + 7 - 3 + 3 = d + 7 by omega, show itF (M4 140) 0 r = r from rfl, mrow_is r4, nI_0, ← y3, e140, y5] at lc
    simp only [sX6_text_0, sX6_text_1, sX6_text_2, sX6_text_5, sX6_text_6, sX6_text_7, sX6_text_10, sX6_text_11, sX6_text_12, sX6_text_15, sX6_text_16, sX6_text_17, sX6_text_20, sX6_text_21, sX6_text_22, sX6_text_25, sX6_text_26, sX6_text_29, sX6_text_30, sX6_text_34, sX6_text_37, sX6_text_40, sX6_text_41, sX6_text_44, sX6_text_45, sX6_text_48, sX6_text_49, sX6_text_52, sX6_text_53, sX6_text_56, sX6_text_57, sX6_text_59, sX6_text_62, sX6_text_63, sX6_text_64, sX6_text_67, sX6_text_68, sX6_text_71, sX6_text_74, sX6_text_75, sX6_text_76, sX6_text_79, sX6_text_82, sX6_text_83, sX6_text_86, sX6_text_87, sX6_text_91, sX6_text_92, sX6_text_95, sX6_text_96, sX6_text_99, sX6_text_102, sX6_text_103, sX6_text_104, sX6_text_107, sX6_text_108, sX6_text_109, sX6_text_110, sX6_text_111, sX6_text_112, sX6_text_114, sX6_text_115, sX6_text_118, sX6_text_121, sX6_text_122, sX6_text_123, sX6_text_124, sX6_text_125, sX6_text_126, sX6_text_129, sX6_text_132, sX6_text_133, sX6_text_136, sX6_text_137, sX6_text_138, sX6_text_139, sX6_text_142, sX6_text_145, sX6_text_146, opK_some, guK_true, calK_some, rk_nil, rk_int, rk_ref, tl_some, tl_none, nb_int, nb_0, nb_1, nb_if, nb_if', p130_17, o130_22, ← hM4, q4 22 (by omega), y1, zero_eq, if_true]
    refine ⟨_, lc, fun k a b e => by rw [mrow_ne e]; exact k4 k a b, by rw [mrow_ne (by omega)]; exact e3, by rw [mrow_ne (by omega)]; exact e4, fun _ => ⟨by rw [mrow_at], fun j hj => ?_⟩, fun z => absurd z (by decide)⟩
    have := itF_er hj c y6
    rw [y5] at this
    exact this
  | false =>
    obtain ⟨y1, y2⟩ := s2 hb
    simp only [sX6_text_0, sX6_text_1, sX6_text_2, sX6_text_5, sX6_text_6, sX6_text_7, sX6_text_10, sX6_text_11, sX6_text_12, sX6_text_15, sX6_text_16, sX6_text_17, sX6_text_20, sX6_text_21, sX6_text_22, sX6_text_25, sX6_text_26, sX6_text_29, sX6_text_30, sX6_text_34, sX6_text_37, sX6_text_40, sX6_text_41, sX6_text_44, sX6_text_45, sX6_text_48, sX6_text_49, sX6_text_52, sX6_text_53, sX6_text_56, sX6_text_57, sX6_text_59, sX6_text_62, sX6_text_63, sX6_text_64, sX6_text_67, sX6_text_68, sX6_text_71, sX6_text_74, sX6_text_75, sX6_text_76, sX6_text_79, sX6_text_82, sX6_text_83, sX6_text_86, sX6_text_87, sX6_text_91, sX6_text_92, sX6_text_95, sX6_text_96, sX6_text_99, sX6_text_102, sX6_text_103, sX6_text_104, sX6_text_107, sX6_text_108, sX6_text_109, sX6_text_110, sX6_text_111, sX6_text_112, sX6_text_114, sX6_text_115, sX6_text_118, sX6_text_121, sX6_text_122, sX6_text_123, sX6_text_124, sX6_text_125, sX6_text_126, sX6_text_129, sX6_text_132, sX6_text_133, sX6_text_136, sX6_text_137, sX6_text_138, sX6_text_139, sX6_text_142, sX6_text_145, sX6_text_146, opK_some, guK_true, calK_some, rk_nil, rk_int, rk_ref, tl_some, tl_none, nb_int, nb_0, nb_1, nb_if, nb_if', p130_17, o130_22, o130_18, ← hM4, q4 22 (by omega), q4 18 (by omega), y1, one_ne, if_false]
    refine ⟨M4, ?_, fun k a b _ => k4 k a b, e3, e4, fun z => absurd z (by decide), fun _ => r4⟩
    rw [show (txR (M 138) Z r).1 = -1 - M3 130 18 from y2]
theorem X_text {d : Nat} {M : Mem} (j : J M) : Two (d + 11) 89 (d + 11) 220 [] M := by
  obtain ⟨t1, t2, t3⟩ := j.2.2.2.1
  obtain ⟨Z, hZ⟩ : ∃ Z, Z = iN (M 130 17) := ⟨_, rfl⟩
  have e17 : M 130 17 = nI Z := by rw [hZ]; exact t2.2
  have lZ : Z ≤ 120 := by rw [hZ]; exact t2.1
  rw [← hZ] at t3
  obtain ⟨M1, n, nZ, _, te, c1, k1, f1, h1, h0⟩ := C_x_text (d := d) (M := M) (r := M 131) (t1.trans e17) lZ (j_hr j) j.1.1
  have ec := txR_cg (B := M 91) (C := M 138) (r := M 131) (fun i hi => (t3 i hi).1)
  have eq := qB_cg (B := M 91) (C := M 138) (fun i hi => (t3 i hi).1)
  have hE : qB (M 138) Z n = Z := by rw [← eq]; exact te
  rw [ec] at c1 h1 h0
  have e138 : M1 138 = M 138 := k1 138 (by omega) (by omega)
  have e130 : M1 130 = M 130 := k1 130 (by omega) (by omega)
  obtain ⟨M2, c2, k2, g3, g17, h2, h3⟩ := C_m_text (d := d + 3) (n := n) (M := M1) (r := M 131) lZ (fun i hi => by rw [e138]; exact (t3 i hi).2) nZ (by rw [e138]; exact hE) (by rw [e130]; exact e17) (k1 131 (by omega) (by omega)) j.1.1
  rw [e138] at c2 h2 h3
  rw [show d + 3 + 8 = d + 11 from rfl] at c2
  have c : ∀ k, k ≠ 7 → k ≠ 130 → k ≠ 131 → k ≠ 140 → (k < 10 ∨ (19 ≤ k ∧ k < 30) ∨ (39 ≤ k ∧ k < 92) ∨ 95 ≤ k) → M2 k = M k := fun k a b e f g => (k2 k b f e).trans (k1 k a g)
  have c10 : ∀ k, 10 ≤ k → k < 19 → M2 k = M1 k := fun k a b => k2 k (by omega) (by omega) (by omega)
  refine ⟨M1, M2, _, c1, c2, ?_, JK_ou j.2.1 (by rw [c 0 (by omega) (by omega) (by omega) (by omega) (by omega)]) (by rw [g3, e130]) (fun k hk => c k (by omega) (by omega) (by omega) (by omega) (by omega)), JF_ou j.2.2.1 (fun k hk => c k (by omega) (by omega) (by omega) (by omega) (by omega)), ⟨?_, ?_, fun i hi => ?_⟩, JS_ou j.2.2.2.2 (fun k hk => c k (by omega) (by omega) (by omega) (by omega) (by omega))⟩
  · cases hb : (txR (M 138) Z (M 131)).2.2 with
    | true =>
      obtain ⟨x1, x2⟩ := h1 hb
      obtain ⟨y1, y2⟩ := h2 hb
      exact ⟨by rw [y1]; exact x2, by rw [y1]; exact FR_hen j.1.2 (HR_ou x1 (fun k a b => c10 k a (by omega))) (fun k a b => c k (by omega) (by omega) (by omega) (by omega) (by omega)) y2⟩
    | false =>
      have y1 := h3 hb
      exact ⟨by rw [y1]; exact j.1.1, by rw [y1]; exact FR_hen j.1.2 (HR_ou (h0 hb) (fun k a b => c10 k a (by omega))) (fun k a b => c k (by omega) (by omega) (by omega) (by omega) (by omega)) (fun _ _ => rfl)⟩
  · rw [k2 7 (by omega) (by omega) (by omega), f1, g17]
  · rw [g17]
    exact ⟨by decide, by decide⟩
  · rw [g17] at hi
    exact absurd (show i < 0 from hi) (Nat.not_lt_zero i)
