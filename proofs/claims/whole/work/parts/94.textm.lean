/-! calls: text -/
/-- read to here: c items -/
def RdS (B : Nat → Int32) (Z c : Nat) (r0 : Rw) (p : Bool × Nat × Rw) (M : Mem) : Prop := M 130 25 = nI c ∧ (p.1 = true → Ok B Z p.2.1 M ∧ M 130 26 = p.2.2 3 ∧ itF (M 140) c r0 = p.2.2 ∧ okI (M 140) c r0) ∧ (p.1 = false → Wr B Z p.2.1 M)
theorem RdI.s {B : Nat → Int32} {Z i c : Nat} {r r0 : Rw} {p : Bool × Nat × Rw} {M M' : Mem} (h : RdI B Z i c r p M M') (e : itF (M 140) c r0 = r) (ok : okI (M 140) c r0) (ir : IR r) : RdS B Z (c + 1) r0 p M' := by
  obtain ⟨_, a25, aj, h1, h2⟩ := h
  refine ⟨a25, fun z => ?_, h2⟩
  obtain ⟨k1, k2, k3, k4⟩ := h1 z
  have ec : itF (M' 140) c r0 = r := (itF_cg c aj).trans e
  have ok' := okI_cg ok aj
  refine ⟨k1, k2, ?_, fun k hk => ?_⟩
  · show efI _ _ _ _ (itF (M' 140) c r0) = _
    rw [ec]
    exact k3
  · by_cases g : k = c
    · subst g
      rw [ec]
      exact ⟨ir, k4⟩
    · exact ok' k (by omega)
/-- the reading's end -/
def RdE (B : Nat → Int32) (Z : Nat) (r0 : Rw) (P : Int32 × Rw × Bool) (M : Mem) : Prop := (P.2.2 = true → M 130 22 = 0 ∧ ∃ c, c < 120 ∧ P.1 = nI c ∧ M 130 25 = nI c ∧ itF (M 140) c r0 = P.2.1 ∧ okI (M 140) c r0) ∧ (P.2.2 = false → M 130 22 = 1 ∧ P.1 = -1 - M 130 18)
theorem L_txs {d n Z m i c : Nat} {B : Nat → Int32} {r0 q : Rw} {M1 : Mem} (hZ : Z ≤ 120) (hB : ∀ i, i < Z → rg (B i) 255) (hn : n ≤ Z) (hE : qB B Z n = Z) (h1 : i ≤ n) (h3 : 1 ≤ c) (h4 : 2 * c ≤ i + 2) (ir : IR q) (rs : RdS B Z c r0 (piT (qS B Z) (qV B Z) i q) M1) (go : qS B Z (piT (qS B Z) (qV B Z) i q).2.1 = 3 → (piT (qS B Z) (qV B Z) i q).1 = true → ∀ M2, RdS B Z (c + 1) r0 (piT (qS B Z) (qV B Z) ((piT (qS B Z) (qV B Z) i q).2.1 + 1) (piT (qS B Z) (qV B Z) i q).2.2) M2 → ∃ M', lim (call (d + 7)) none 6 cX6_text (some .int) 33 [some (.ref 130), none, none] [] M2 = lim (call (d + 7)) none 6 cX6_text (some .int) 90 [some (.ref 130), none, none] [] M' ∧ Lw M2 M' ∧ RdE B Z r0 (pxT (qS B Z) (qV B Z) (qB B Z) m ((piT (qS B Z) (qV B Z) i q).2.1 + 1) (piT (qS B Z) (qV B Z) i q).2.2 (c + 1)) M') :
    ∃ M', lim (call (d + 7)) none 6 cX6_text (some .int) 33 [some (.ref 130), none, none] [] M1 = lim (call (d + 7)) none 6 cX6_text (some .int) 90 [some (.ref 130), none, none] [] M' ∧ Lw M1 M' ∧ RdE B Z r0 (pxT (qS B Z) (qV B Z) (qB B Z) (m + 1) i q c) M' := by
  obtain ⟨a25, rt, rf⟩ := rs
  obtain ⟨p, hp⟩ : ∃ p, p = piT (qS B Z) (qV B Z) i q := ⟨_, rfl⟩
  rw [← hp] at rt rf go
  have ex : pxT (qS B Z) (qV B Z) (qB B Z) (m + 1) i q c = if ¬ p.1 = true then (-1 - nI (qB B Z p.2.1), q, false) else if qS B Z p.2.1 = 0 then (nI c, p.2.2, true) else if qS B Z p.2.1 = 3 then pxT (qS B Z) (qV B Z) (qB B Z) m (p.2.1 + 1) p.2.2 (c + 1) else (-1 - nI (qB B Z p.2.1), q, false) := by
    rw [hp]
    rfl
  have mw : ∀ (x : Int32) (M2 : Mem), ((M2 130 22 = 0 ∧ x = 0) ∨ M2 130 22 = 1) → M2 130 18 = nI (qB B Z p.2.1) → ∃ M', call (d + 7) 226 [.ref 130, .int x] M2 = some (none, M') ∧ Wr B Z p.2.1 M' ∧ Lu M2 M' := fun x M2 => C_must0 (d := d + 4)
  have fin : ∀ M', Wr B Z p.2.1 M' → RdE B Z r0 (-1 - nI (qB B Z p.2.1), q, false) M' := fun M' w => ⟨fun z => absurd (show false = true from z) (by decide), fun _ => ⟨w.1, by rw [w.2]⟩⟩
  rw [ex]
  by_cases k : p.1 = true
  · obtain ⟨ok, e26, eI, oI⟩ := rt k
    have k' : ¬ ¬ p.1 = true := fun z => z k
    have e22 := ok.2
    have e20 := ok.1.2.2.2.2.1
    have e18 := ok.1.2.2.1
    rw [if_neg k']
    rcases qS_or (B := B) (Z := Z) (i := p.2.1) with s | s | s | ⟨s, l, b9⟩ | ⟨s, l, b9⟩
    · obtain ⟨M2, cm, ok2, l2⟩ := C_must1 (d := d + 4) hZ hB ok
      rw [show d + 4 + 3 = d + 7 from rfl] at cm
      have e20' : M1 130 20 = 0 := by rw [e20, s]; rfl
      rw [if_pos s]
      refine ⟨M2, ?_, Lw.lu l2, fun _ => ⟨ok2.2, c, by omega, rfl, ?_, ?_, ?_⟩, fun z => absurd (show true = false from z) (by decide)⟩
      · rw [sX6_text_33]
        simp only [sX6_text_0, sX6_text_1, sX6_text_2, sX6_text_5, sX6_text_6, sX6_text_7, sX6_text_10, sX6_text_11, sX6_text_12, sX6_text_15, sX6_text_16, sX6_text_17, sX6_text_20, sX6_text_21, sX6_text_22, sX6_text_25, sX6_text_26, sX6_text_29, sX6_text_30, sX6_text_34, sX6_text_37, sX6_text_40, sX6_text_41, sX6_text_44, sX6_text_45, sX6_text_48, sX6_text_49, sX6_text_52, sX6_text_53, sX6_text_56, sX6_text_57, sX6_text_59, sX6_text_62, sX6_text_63, sX6_text_64, sX6_text_67, sX6_text_68, sX6_text_71, sX6_text_74, sX6_text_75, sX6_text_76, sX6_text_79, sX6_text_82, sX6_text_83, sX6_text_86, sX6_text_87, sX6_text_91, sX6_text_92, sX6_text_95, sX6_text_96, sX6_text_99, sX6_text_102, sX6_text_103, sX6_text_104, sX6_text_107, sX6_text_108, sX6_text_109, sX6_text_110, sX6_text_111, sX6_text_112, sX6_text_114, sX6_text_115, sX6_text_118, sX6_text_121, sX6_text_122, sX6_text_123, sX6_text_124, sX6_text_125, sX6_text_126, sX6_text_129, sX6_text_132, sX6_text_133, sX6_text_136, sX6_text_137, sX6_text_138, sX6_text_139, sX6_text_142, sX6_text_145, sX6_text_146, opK_some, guK_true, calK_some, rk_nil, rk_int, rk_ref, tl_some, tl_none, nb_int, nb_0, nb_1, nb_if, nb_if', q130, o130_22, o130_20, e22, e20', zero_eq, if_true, show ((0 : Int32) = 3) = False from eq_false (by decide), if_false, cm]
      · rw [l2.2 25 (by omega) (by omega) (by omega) (by omega) (by omega)]
        exact a25
      · rw [l2.1 140 (by omega)]
        exact eI
      · rw [l2.1 140 (by omega)]
        exact oI
    · obtain ⟨M2, cm, w2, l2⟩ := mw 0 M1 (Or.inl ⟨e22, rfl⟩) e18
      have e20' : M1 130 20 = 1 := by rw [e20, s]; rfl
      rw [if_neg (by rw [s]; decide), if_neg (by rw [s]; decide)]
      refine ⟨M2, ?_, Lw.lu l2, fin M2 w2⟩
      rw [sX6_text_33]
      simp only [sX6_text_0, sX6_text_1, sX6_text_2, sX6_text_5, sX6_text_6, sX6_text_7, sX6_text_10, sX6_text_11, sX6_text_12, sX6_text_15, sX6_text_16, sX6_text_17, sX6_text_20, sX6_text_21, sX6_text_22, sX6_text_25, sX6_text_26, sX6_text_29, sX6_text_30, sX6_text_34, sX6_text_37, sX6_text_40, sX6_text_41, sX6_text_44, sX6_text_45, sX6_text_48, sX6_text_49, sX6_text_52, sX6_text_53, sX6_text_56, sX6_text_57, sX6_text_59, sX6_text_62, sX6_text_63, sX6_text_64, sX6_text_67, sX6_text_68, sX6_text_71, sX6_text_74, sX6_text_75, sX6_text_76, sX6_text_79, sX6_text_82, sX6_text_83, sX6_text_86, sX6_text_87, sX6_text_91, sX6_text_92, sX6_text_95, sX6_text_96, sX6_text_99, sX6_text_102, sX6_text_103, sX6_text_104, sX6_text_107, sX6_text_108, sX6_text_109, sX6_text_110, sX6_text_111, sX6_text_112, sX6_text_114, sX6_text_115, sX6_text_118, sX6_text_121, sX6_text_122, sX6_text_123, sX6_text_124, sX6_text_125, sX6_text_126, sX6_text_129, sX6_text_132, sX6_text_133, sX6_text_136, sX6_text_137, sX6_text_138, sX6_text_139, sX6_text_142, sX6_text_145, sX6_text_146, opK_some, guK_true, calK_some, rk_nil, rk_int, rk_ref, tl_some, tl_none, nb_int, nb_0, nb_1, nb_if, nb_if', q130, o130_22, o130_20, e22, e20', zero_eq, one_ne, if_true, show ((1 : Int32) = 3) = False from eq_false (by decide), if_false, cm]
    · obtain ⟨M2, cm, w2, l2⟩ := mw 0 M1 (Or.inl ⟨e22, rfl⟩) e18
      have e20' : M1 130 20 = 2 := by rw [e20, s]; rfl
      rw [if_neg (by rw [s]; decide), if_neg (by rw [s]; decide)]
      refine ⟨M2, ?_, Lw.lu l2, fin M2 w2⟩
      rw [sX6_text_33]
      simp only [sX6_text_0, sX6_text_1, sX6_text_2, sX6_text_5, sX6_text_6, sX6_text_7, sX6_text_10, sX6_text_11, sX6_text_12, sX6_text_15, sX6_text_16, sX6_text_17, sX6_text_20, sX6_text_21, sX6_text_22, sX6_text_25, sX6_text_26, sX6_text_29, sX6_text_30, sX6_text_34, sX6_text_37, sX6_text_40, sX6_text_41, sX6_text_44, sX6_text_45, sX6_text_48, sX6_text_49, sX6_text_52, sX6_text_53, sX6_text_56, sX6_text_57, sX6_text_59, sX6_text_62, sX6_text_63, sX6_text_64, sX6_text_67, sX6_text_68, sX6_text_71, sX6_text_74, sX6_text_75, sX6_text_76, sX6_text_79, sX6_text_82, sX6_text_83, sX6_text_86, sX6_text_87, sX6_text_91, sX6_text_92, sX6_text_95, sX6_text_96, sX6_text_99, sX6_text_102, sX6_text_103, sX6_text_104, sX6_text_107, sX6_text_108, sX6_text_109, sX6_text_110, sX6_text_111, sX6_text_112, sX6_text_114, sX6_text_115, sX6_text_118, sX6_text_121, sX6_text_122, sX6_text_123, sX6_text_124, sX6_text_125, sX6_text_126, sX6_text_129, sX6_text_132, sX6_text_133, sX6_text_136, sX6_text_137, sX6_text_138, sX6_text_139, sX6_text_142, sX6_text_145, sX6_text_146, opK_some, guK_true, calK_some, rk_nil, rk_int, rk_ref, tl_some, tl_none, nb_int, nb_0, nb_1, nb_if, nb_if', q130, o130_22, o130_20, e22, e20', zero_eq, if_true, show ((2 : Int32) = 3) = False from eq_false (by decide), show ((2 : Int32) = 0) = False from eq_false (by decide), if_false, cm]
    · obtain ⟨M2, cm, ok2, l2⟩ := C_must1 (d := d + 4) hZ hB ok
      rw [show d + 4 + 3 = d + 7 from rfl] at cm
      have e20' : M1 130 20 = 3 := by rw [e20, s]; rfl
      have e138 : M1 138 (qB B Z p.2.1) = 59 := by rw [ok.1.2.1]; exact b9
      have ge := pT_ge (S := qS B Z) (V := qV B Z) (i := i) (r := q) (by rw [← hp]; exact k)
      rw [← hp] at ge
      have jn : p.2.1 < n := by
        rcases Nat.lt_or_ge p.2.1 n with z | z
        · exact z
        · exact absurd (s.symm.trans (qS_end hE z)) (by decide)
      have irp : IR p.2.2 := by
        have := pT_IR (S := qS B Z) (V := qV B Z) (i := i) (r := q) ir (by rw [← hp]; exact k)
        rw [← hp] at this
        exact this
      have f140 : M2 140 = M1 140 := l2.1 140 (by omega)
      obtain ⟨M3, c3, g3⟩ := C_readItem (d := d) (c := c) (r := p.2.2) hZ hB ok2 ((l2.2 26 (by omega) (by omega) (by omega) (by omega) (by omega)).trans e26) ((l2.2 25 (by omega) (by omega) (by omega) (by omega) (by omega)).trans a25) (by omega)
      have rs3 := g3.s (r0 := r0) (by rw [f140]; exact eI) (by rw [f140]; exact oI) irp
      obtain ⟨M4, c4, l4, h4'⟩ := go s k M3 rs3
      rw [if_neg (by rw [s]; decide), if_pos s]
      refine ⟨M4, ?_, ((Lw.lu l2).tr g3.1).tr l4, h4'⟩
      rw [← c4, sX6_text_33]
      simp only [sX6_text_0, sX6_text_1, sX6_text_2, sX6_text_5, sX6_text_6, sX6_text_7, sX6_text_10, sX6_text_11, sX6_text_12, sX6_text_15, sX6_text_16, sX6_text_17, sX6_text_20, sX6_text_21, sX6_text_22, sX6_text_25, sX6_text_26, sX6_text_29, sX6_text_30, sX6_text_34, sX6_text_37, sX6_text_40, sX6_text_41, sX6_text_44, sX6_text_45, sX6_text_48, sX6_text_49, sX6_text_52, sX6_text_53, sX6_text_56, sX6_text_57, sX6_text_59, sX6_text_62, sX6_text_63, sX6_text_64, sX6_text_67, sX6_text_68, sX6_text_71, sX6_text_74, sX6_text_75, sX6_text_76, sX6_text_79, sX6_text_82, sX6_text_83, sX6_text_86, sX6_text_87, sX6_text_91, sX6_text_92, sX6_text_95, sX6_text_96, sX6_text_99, sX6_text_102, sX6_text_103, sX6_text_104, sX6_text_107, sX6_text_108, sX6_text_109, sX6_text_110, sX6_text_111, sX6_text_112, sX6_text_114, sX6_text_115, sX6_text_118, sX6_text_121, sX6_text_122, sX6_text_123, sX6_text_124, sX6_text_125, sX6_text_126, sX6_text_129, sX6_text_132, sX6_text_133, sX6_text_136, sX6_text_137, sX6_text_138, sX6_text_139, sX6_text_142, sX6_text_145, sX6_text_146, opK_some, guK_true, calK_some, rk_nil, rk_int, rk_ref, tl_some, tl_none, nb_int, nb_0, nb_1, nb_if, nb_if', q130, o130_22, o130_20, o130_18, o130_16, a138, e22, e20', e18, inb_nI (show qB B Z p.2.1 < 120 by omega) (by omega), nI_clamp (show qB B Z p.2.1 < 2 ^ 31 by omega), e138, zero_eq, if_true, cm, c3]
    · obtain ⟨M2, cm, w2, l2⟩ := mw 0 M1 (Or.inl ⟨e22, rfl⟩) e18
      have e20' : M1 130 20 = 3 := by rw [e20, s]; rfl
      have e138 : ¬ M1 138 (qB B Z p.2.1) = 59 := by rw [ok.1.2.1]; exact b9
      rw [if_neg (by rw [s]; decide), if_neg (by rw [s]; decide)]
      refine ⟨M2, ?_, Lw.lu l2, fin M2 w2⟩
      rw [sX6_text_33]
      simp only [sX6_text_0, sX6_text_1, sX6_text_2, sX6_text_5, sX6_text_6, sX6_text_7, sX6_text_10, sX6_text_11, sX6_text_12, sX6_text_15, sX6_text_16, sX6_text_17, sX6_text_20, sX6_text_21, sX6_text_22, sX6_text_25, sX6_text_26, sX6_text_29, sX6_text_30, sX6_text_34, sX6_text_37, sX6_text_40, sX6_text_41, sX6_text_44, sX6_text_45, sX6_text_48, sX6_text_49, sX6_text_52, sX6_text_53, sX6_text_56, sX6_text_57, sX6_text_59, sX6_text_62, sX6_text_63, sX6_text_64, sX6_text_67, sX6_text_68, sX6_text_71, sX6_text_74, sX6_text_75, sX6_text_76, sX6_text_79, sX6_text_82, sX6_text_83, sX6_text_86, sX6_text_87, sX6_text_91, sX6_text_92, sX6_text_95, sX6_text_96, sX6_text_99, sX6_text_102, sX6_text_103, sX6_text_104, sX6_text_107, sX6_text_108, sX6_text_109, sX6_text_110, sX6_text_111, sX6_text_112, sX6_text_114, sX6_text_115, sX6_text_118, sX6_text_121, sX6_text_122, sX6_text_123, sX6_text_124, sX6_text_125, sX6_text_126, sX6_text_129, sX6_text_132, sX6_text_133, sX6_text_136, sX6_text_137, sX6_text_138, sX6_text_139, sX6_text_142, sX6_text_145, sX6_text_146, opK_some, guK_true, calK_some, rk_nil, rk_int, rk_ref, tl_some, tl_none, nb_int, nb_0, nb_1, nb_if, nb_if', q130, o130_22, o130_20, o130_18, o130_16, a138, e22, e20', e18, inb_nI (show qB B Z p.2.1 < 120 by omega) (by omega), nI_clamp (show qB B Z p.2.1 < 2 ^ 31 by omega), e138, zero_eq, if_true, show ((3 : Int32) = 0) = False from eq_false (by decide), if_false, cm]
  · have w := rf (Bool.eq_false_iff.mpr k)
    have e22 := w.1
    rw [if_pos k]
    by_cases z : M1 130 20 = 0
    · obtain ⟨M2, cm, w2, l2⟩ := mw 1 M1 (Or.inr w.1) w.2
      refine ⟨M2, ?_, Lw.lu l2, fin M2 w2⟩
      rw [sX6_text_33]
      simp only [sX6_text_0, sX6_text_1, sX6_text_2, sX6_text_5, sX6_text_6, sX6_text_7, sX6_text_10, sX6_text_11, sX6_text_12, sX6_text_15, sX6_text_16, sX6_text_17, sX6_text_20, sX6_text_21, sX6_text_22, sX6_text_25, sX6_text_26, sX6_text_29, sX6_text_30, sX6_text_34, sX6_text_37, sX6_text_40, sX6_text_41, sX6_text_44, sX6_text_45, sX6_text_48, sX6_text_49, sX6_text_52, sX6_text_53, sX6_text_56, sX6_text_57, sX6_text_59, sX6_text_62, sX6_text_63, sX6_text_64, sX6_text_67, sX6_text_68, sX6_text_71, sX6_text_74, sX6_text_75, sX6_text_76, sX6_text_79, sX6_text_82, sX6_text_83, sX6_text_86, sX6_text_87, sX6_text_91, sX6_text_92, sX6_text_95, sX6_text_96, sX6_text_99, sX6_text_102, sX6_text_103, sX6_text_104, sX6_text_107, sX6_text_108, sX6_text_109, sX6_text_110, sX6_text_111, sX6_text_112, sX6_text_114, sX6_text_115, sX6_text_118, sX6_text_121, sX6_text_122, sX6_text_123, sX6_text_124, sX6_text_125, sX6_text_126, sX6_text_129, sX6_text_132, sX6_text_133, sX6_text_136, sX6_text_137, sX6_text_138, sX6_text_139, sX6_text_142, sX6_text_145, sX6_text_146, opK_some, guK_true, calK_some, rk_nil, rk_int, rk_ref, tl_some, tl_none, nb_int, nb_0, nb_1, nb_if, nb_if', q130, o130_22, o130_20, e22, z, one_ne, zero_eq, if_true, if_false, cm]
    · obtain ⟨M2, cm, w2, l2⟩ := mw 0 M1 (Or.inr w.1) w.2
      refine ⟨M2, ?_, Lw.lu l2, fin M2 w2⟩
      rw [sX6_text_33]
      simp only [sX6_text_0, sX6_text_1, sX6_text_2, sX6_text_5, sX6_text_6, sX6_text_7, sX6_text_10, sX6_text_11, sX6_text_12, sX6_text_15, sX6_text_16, sX6_text_17, sX6_text_20, sX6_text_21, sX6_text_22, sX6_text_25, sX6_text_26, sX6_text_29, sX6_text_30, sX6_text_34, sX6_text_37, sX6_text_40, sX6_text_41, sX6_text_44, sX6_text_45, sX6_text_48, sX6_text_49, sX6_text_52, sX6_text_53, sX6_text_56, sX6_text_57, sX6_text_59, sX6_text_62, sX6_text_63, sX6_text_64, sX6_text_67, sX6_text_68, sX6_text_71, sX6_text_74, sX6_text_75, sX6_text_76, sX6_text_79, sX6_text_82, sX6_text_83, sX6_text_86, sX6_text_87, sX6_text_91, sX6_text_92, sX6_text_95, sX6_text_96, sX6_text_99, sX6_text_102, sX6_text_103, sX6_text_104, sX6_text_107, sX6_text_108, sX6_text_109, sX6_text_110, sX6_text_111, sX6_text_112, sX6_text_114, sX6_text_115, sX6_text_118, sX6_text_121, sX6_text_122, sX6_text_123, sX6_text_124, sX6_text_125, sX6_text_126, sX6_text_129, sX6_text_132, sX6_text_133, sX6_text_136, sX6_text_137, sX6_text_138, sX6_text_139, sX6_text_142, sX6_text_145, sX6_text_146, opK_some, guK_true, calK_some, rk_nil, rk_int, rk_ref, tl_some, tl_none, nb_int, nb_0, nb_1, nb_if, nb_if', q130, o130_22, o130_20, e22, z, one_ne, if_false, cm]
theorem L_txt {d n Z : Nat} {B : Nat → Int32} {r0 : Rw} (hZ : Z ≤ 120) (hB : ∀ i, i < Z → rg (B i) 255) (hn : n ≤ Z) (hE : qB B Z n = Z) : ∀ (m i c : Nat) (q : Rw) (M1 : Mem), i ≤ n → n < i + (m + 1) → 1 ≤ c → 2 * c ≤ i + 2 → IR q → RdS B Z c r0 (piT (qS B Z) (qV B Z) i q) M1 →
    ∃ M', lim (call (d + 7)) none 6 cX6_text (some .int) 33 [some (.ref 130), none, none] [] M1 = lim (call (d + 7)) none 6 cX6_text (some .int) 90 [some (.ref 130), none, none] [] M' ∧ Lw M1 M' ∧ RdE B Z r0 (pxT (qS B Z) (qV B Z) (qB B Z) (m + 1) i q c) M' := by
  intro m
  induction m with
  | zero =>
    intro i c q M1 h1 h2 h3 h4 ir rs
    obtain rfl : i = n := by omega
    exact L_txs hZ hB hn hE h1 h3 h4 ir rs (fun k3 k => absurd (k3.symm.trans (qS_end hE (by have := pT_ge k; omega))) (by decide))
  | succ m ih =>
    intro i c q M1 h1 h2 h3 h4 ir rs
    refine L_txs hZ hB hn hE h1 h3 h4 ir rs (fun k3 k M2 g => ?_)
    have ge := pT_ge k
    have jn : (piT (qS B Z) (qV B Z) i q).2.1 < n := by
      rcases Nat.lt_or_ge (piT (qS B Z) (qV B Z) i q).2.1 n with z | z
      · exact z
      · exact absurd (k3.symm.trans (qS_end hE z)) (by decide)
    exact ih ((piT (qS B Z) (qV B Z) i q).2.1 + 1) (c + 1) (piT (qS B Z) (qV B Z) i q).2.2 M2 (by omega) (by omega) (by omega) (by omega) (pT_IR ir k) g
