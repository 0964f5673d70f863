/-! calls: spoils -/
theorem lai_or {r : Rw} (w : WR r) : laiD r = -1 ∨ ∃ t, t < 10 ∧ laiD r = nI t := by
  by_cases h : readyG (gR r)
  · exact Or.inr ((lai_ready w).1 h)
  · exact Or.inl ((lai_ready w).2 h)
theorem Mo.ms {M M1 : Mem} (h : Mo M M1) (e : M1 131 = M 131) : Ms M M1 := by
  refine ⟨fun k hk => ?_, h.2 3 (by omega) (by omega) (by omega), h.2 17 (by omega) (by omega) (by omega)⟩
  by_cases c : k = 131
  · subst c
    exact e
  · exact h.1 k (by omega) c
theorem Ms.as {M : Mem} {f : Nat → Int32} : Ms M (mrow M 133 f) := ⟨fun k hk => mrow_ne (by omega), by rw [mrow_ne (by omega)], by rw [mrow_ne (by omega)]⟩
/-- one day of a look, the reference -/
theorem m_step {d i : Nat} {r : Rw} {M1 : Mem} (w : WX r 9999) (hi : i ≤ 1000) (e1 : M1 131 = dN r i) : ∃ M2, call (d + 5) 165 [.ref 130] M1 = some (some (.int (worD (dN r i))), M2) ∧ Mo M1 M2 ∧ M2 131 = dN r (i + 1) ∧ M2 130 5 = laiD (dN r i) ∧ M2 130 6 = worD (dN r i) := by
  have wi := WX_dN w i (by omega)
  obtain ⟨g1, g2⟩ := wx_5 wi (by omega)
  obtain ⟨M2, c2, o2, r2, f5, f6⟩ := C_m_day (d := d) (M := M1) (e := iN (dN r i 5)) (by rw [e1]; exact wi.1) (by rw [e1]; exact g1) g2
  rw [e1] at c2 r2 f5 f6
  exact ⟨M2, c2, o2, r2, f5, f6⟩
theorem m_back {d k : Nat} {r a : Rw} {M2 : Mem} {x : Int32} (w : WR r) (e1 : M2 131 = dN r k) (e2 : M2 133 = cpR r a) : call (d + 2) 172 [.ref 130, .int x] M2 = some (some (.int x), mrow M2 131 r) := by
  have := C_putBack (d := d) (M := M2) (x := x)
  rw [e1, e2, cp_back (fun q hq => dN_hi w (by omega) k)] at this
  exact this
theorem same_if (p : Prop) [Decidable p] (z : Option (Option Value × Mem)) : (if p then z else z) = z := by split <;> rfl
abbrev spP (q : Rw) : Prop := 0 ≤ laiD q ∧ worD q < dayR q (at9 (iN (laiD q)) 2)
def spR (r : Rw) : Nat → Nat → Nat
  | _, 0 => 0
  | i, n + 1 => if spP (dN r i) then i + 1 else spR r (i + 1) n
theorem sp_le (r : Rw) : ∀ n i, spR r i n ≤ i + n := by
  intro n
  induction n with
  | zero => intro i; exact Nat.zero_le _
  | succ n ih =>
    intro i
    show (if _ then _ else _) ≤ _
    split
    · show i + 1 ≤ i + (n + 1)
      omega
    · have := ih (i + 1)
      show _ ≤ i + (n + 1)
      omega
theorem L_spoils {d : Nat} {M : Mem} {r : Rw} (w : WR r) : ∀ (n i : Nat) (M1 : Mem), i + n = 60 → HR M1 30 (dN r i) → Ou 30 M M1 →
    ∃ M', lim (call (d + 3)) none 5 cX5_spoils (some .int) 31 [some (.ref 0), some (.int (nI (i + 1)))] [] M1 = some (some (.int (if spR r i n = 0 then -1000004 else nI (spR r i n))), if spR r i n = 0 then fX M' 3 else M') ∧ Ou 30 M M' := by
  intro n
  induction n with
  | zero =>
    intro i M1 hi h ho
    rw [sX5_spoils_31]
    simp only [sX5_spoils_0, sX5_spoils_1, sX5_spoils_3, sX5_spoils_6, sX5_spoils_9, sX5_spoils_10, sX5_spoils_11, sX5_spoils_14, sX5_spoils_15, sX5_spoils_16, sX5_spoils_19, sX5_spoils_20, sX5_spoils_23, sX5_spoils_26, sX5_spoils_29, sX5_spoils_30, sX5_spoils_32, sX5_spoils_34, sX5_spoils_37, sX5_spoils_38, sX5_spoils_41, sX5_spoils_44, sX5_spoils_45, sX5_spoils_46, sX5_spoils_49, sX5_spoils_52, sX5_spoils_55, sX5_spoils_56, sX5_spoils_59, sX5_spoils_62, sX5_spoils_63, sX5_spoils_66, sX5_spoils_69, sX5_spoils_70, sX5_spoils_73, sX5_spoils_76, sX5_spoils_77, sX5_spoils_80, sX5_spoils_81, sX5_spoils_82, sX5_spoils_85, sX5_spoils_88, sX5_spoils_89, sX5_spoils_90, sX5_spoils_93, opK_some, guK_true, calK_some, rk_nil, rk_int, rk_ref, tl_some, tl_none, nb_int, nb_0, nb_1, nb_if, nb_if', q0, C_xf3]
    rw [if_pos (show (60 : Int32) < nI (i + 1) from nI_lt (a := 60) (by omega) (by omega))]
    exact ⟨M1, rfl, ho⟩
  | succ n ih =>
    intro i M1 hi h ho
    obtain ⟨M2, c2, h2, o2, a12, a13, _⟩ := C_passDay (d := d + 0) hen30 h (WR_dN w i)
    rw [show d + 0 + 3 = d + 3 from rfl] at c2
    rw [sX5_spoils_31]
    simp only [sX5_spoils_0, sX5_spoils_1, sX5_spoils_3, sX5_spoils_6, sX5_spoils_9, sX5_spoils_10, sX5_spoils_11, sX5_spoils_14, sX5_spoils_15, sX5_spoils_16, sX5_spoils_19, sX5_spoils_20, sX5_spoils_23, sX5_spoils_26, sX5_spoils_29, sX5_spoils_30, sX5_spoils_32, sX5_spoils_34, sX5_spoils_37, sX5_spoils_38, sX5_spoils_41, sX5_spoils_44, sX5_spoils_45, sX5_spoils_46, sX5_spoils_49, sX5_spoils_52, sX5_spoils_55, sX5_spoils_56, sX5_spoils_59, sX5_spoils_62, sX5_spoils_63, sX5_spoils_66, sX5_spoils_69, sX5_spoils_70, sX5_spoils_73, sX5_spoils_76, sX5_spoils_77, sX5_spoils_80, sX5_spoils_81, sX5_spoils_82, sX5_spoils_85, sX5_spoils_88, sX5_spoils_89, sX5_spoils_90, sX5_spoils_93, opK_some, guK_true, calK_some, rk_nil, rk_int, rk_ref, tl_some, tl_none, nb_int, nb_0, nb_1, nb_if, nb_if', o0_6, hen_c hen30, hs_12 hen30, hs_13 hen30, hs_3 hen30, ha_3 hen30, c2, a12, a13, nI_1]
    rw [if_neg (show ¬ (60 : Int32) < nI (i + 1) from nI_nlt (a := 60) (by omega) (by omega))]
    have go : ¬ spP (dN r i) → ∃ M', lim (call (d + 3)) none 5 cX5_spoils (some .int) 31 [some (.ref 0), some (.int (nI (i + 1 + 1)))] [] M2 = some (some (.int (if spR r i (n + 1) = 0 then -1000004 else nI (spR r i (n + 1)))), if spR r i (n + 1) = 0 then fX M' 3 else M') ∧ Ou 30 M M' := by
      intro e
      have ek : spR r i (n + 1) = spR r (i + 1) n := by
        show (if _ then _ else _) = _
        rw [if_neg e]
      rw [ek]
      exact ih (i + 1) M2 (by omega) h2 (ho.tr o2)
    rcases lai_or (WR_dN w i) with hl | ⟨t, ht, hl⟩
    · have e : ¬ spP (dN r i) := fun z => absurd z.1 (by rw [hl]; decide)
      simp only [sX5_spoils_0, sX5_spoils_1, sX5_spoils_3, sX5_spoils_6, sX5_spoils_9, sX5_spoils_10, sX5_spoils_11, sX5_spoils_14, sX5_spoils_15, sX5_spoils_16, sX5_spoils_19, sX5_spoils_20, sX5_spoils_23, sX5_spoils_26, sX5_spoils_29, sX5_spoils_30, sX5_spoils_32, sX5_spoils_34, sX5_spoils_37, sX5_spoils_38, sX5_spoils_41, sX5_spoils_44, sX5_spoils_45, sX5_spoils_46, sX5_spoils_49, sX5_spoils_52, sX5_spoils_55, sX5_spoils_56, sX5_spoils_59, sX5_spoils_62, sX5_spoils_63, sX5_spoils_66, sX5_spoils_69, sX5_spoils_70, sX5_spoils_73, sX5_spoils_76, sX5_spoils_77, sX5_spoils_80, sX5_spoils_81, sX5_spoils_82, sX5_spoils_85, sX5_spoils_88, sX5_spoils_89, sX5_spoils_90, sX5_spoils_93, opK_some, guK_true, calK_some, rk_nil, rk_int, rk_ref, tl_some, tl_none, nb_int, nb_0, nb_1, nb_if, nb_if', hl, show ((-1 : Int32) < 0) = True from eq_true (by decide), show ((0 : Int32) ≤ -1) = False from eq_false (by decide), if_true, if_false]
      exact go e
    · have e33 : M2 33 t = dayR (dN r i) (at9 t 2) := h2.2.1 2 (by omega) t ht
      have hn : ¬ nI t < 0 := nI_nlt (b := 0) (by omega) (by omega)
      have hn' : (0 : Int32) ≤ nI t := nI_le (a := 0) (by omega) (by omega)
      have ep : spP (dN r i) ↔ worD (dN r i) < M2 33 t := by
        rw [e33]
        unfold spP
        rw [hl, iN_nI (by omega)]
        exact ⟨fun z => z.2, fun z => ⟨hn', z⟩⟩
      simp only [sX5_spoils_0, sX5_spoils_1, sX5_spoils_3, sX5_spoils_6, sX5_spoils_9, sX5_spoils_10, sX5_spoils_11, sX5_spoils_14, sX5_spoils_15, sX5_spoils_16, sX5_spoils_19, sX5_spoils_20, sX5_spoils_23, sX5_spoils_26, sX5_spoils_29, sX5_spoils_30, sX5_spoils_32, sX5_spoils_34, sX5_spoils_37, sX5_spoils_38, sX5_spoils_41, sX5_spoils_44, sX5_spoils_45, sX5_spoils_46, sX5_spoils_49, sX5_spoils_52, sX5_spoils_55, sX5_spoils_56, sX5_spoils_59, sX5_spoils_62, sX5_spoils_63, sX5_spoils_66, sX5_spoils_69, sX5_spoils_70, sX5_spoils_73, sX5_spoils_76, sX5_spoils_77, sX5_spoils_80, sX5_spoils_81, sX5_spoils_82, sX5_spoils_85, sX5_spoils_88, sX5_spoils_89, sX5_spoils_90, sX5_spoils_93, opK_some, guK_true, calK_some, rk_nil, rk_int, rk_ref, tl_some, tl_none, nb_int, nb_0, nb_1, nb_if, nb_if', hl, hn, hn', if_true, if_false, inb_nI ht (by omega), nI_clamp (show t < 2 ^ 31 by omega), nI_1]
      by_cases e : spP (dN r i)
      · have ek : spR r i (n + 1) = i + 1 := by
          show (if _ then _ else _) = _
          rw [if_pos e]
        rw [if_neg (Int32.not_le.mpr (ep.mp e)), ek, if_neg (by omega)]
        exact ⟨M2, by rw [if_neg (by omega)], ho.tr o2⟩
      · rw [if_pos (Int32.not_lt.mp (fun z => e (ep.mpr z)))]
        exact go e
theorem L_m_spoils {d : Nat} {r a : Rw} {M : Mem} (w : WX r 9999) (ha : M 133 = cpR r a) : ∀ (n i : Nat) (M1 : Mem) (v : Option Value), i + n = 60 → M1 131 = dN r i → Mo M M1 →
    ∃ M', lim (call (d + 5)) none 6 cX6_spoils (some .int) 29 [some (.ref 130), some (.int (nI i)), some (.int 0), v] [] M1 = some (some (.int (if spR r i n = 0 then -1000004 else nI (spR r i n))), if spR r i n = 0 then fM M' 3 else M') ∧ Mo M M' ∧ M' 131 = r := by
  intro n
  induction n with
  | zero =>
    intro i M1 v hi e1 o
    have hp := fun x => m_back (d := d + 3) (x := x) w.1 e1 ((o.1 133 (by omega) (by omega)).trans ha)
    rw [show d + 3 + 2 = d + 5 from rfl] at hp
    rw [sX6_spoils_29]
    simp only [sX6_spoils_0, sX6_spoils_1, sX6_spoils_4, sX6_spoils_7, sX6_spoils_8, sX6_spoils_10, sX6_spoils_13, sX6_spoils_14, sX6_spoils_15, sX6_spoils_18, sX6_spoils_19, sX6_spoils_22, sX6_spoils_25, sX6_spoils_26, sX6_spoils_27, sX6_spoils_28, sX6_spoils_30, sX6_spoils_32, sX6_spoils_35, sX6_spoils_36, sX6_spoils_39, sX6_spoils_40, sX6_spoils_43, sX6_spoils_44, sX6_spoils_45, sX6_spoils_48, sX6_spoils_51, sX6_spoils_52, sX6_spoils_53, sX6_spoils_54, sX6_spoils_57, sX6_spoils_58, sX6_spoils_61, sX6_spoils_64, sX6_spoils_65, sX6_spoils_68, sX6_spoils_69, sX6_spoils_70, sX6_spoils_73, sX6_spoils_76, sX6_spoils_77, sX6_spoils_78, sX6_spoils_81, sX6_spoils_82, sX6_spoils_85, sX6_spoils_86, sX6_spoils_89, sX6_spoils_92, sX6_spoils_93, sX6_spoils_95, sX6_spoils_98, sX6_spoils_101, sX6_spoils_102, opK_some, guK_true, calK_some, rk_nil, rk_int, rk_ref, tl_some, tl_none, nb_int, nb_0, nb_1, nb_if, nb_if', q130, zero_eq, if_true, hp, C_mf3]
    rw [if_pos (show (60 : Int32) ≤ nI i from nI_le (a := 60) (by omega) (by omega))]
    exact ⟨_, rfl, o.tr Mo.row, mrow_at⟩
  | succ n ih =>
    intro i M1 v hi e1 o
    obtain ⟨M2, c2, o2, r2, f5, f6⟩ := m_step (d := d + 0) w (by omega) e1
    rw [show d + 0 + 5 = d + 5 from rfl] at c2
    have om := o.tr o2
    have w2 := WR_dN w.1 (i + 1)
    rw [sX6_spoils_29]
    simp only [sX6_spoils_0, sX6_spoils_1, sX6_spoils_4, sX6_spoils_7, sX6_spoils_8, sX6_spoils_10, sX6_spoils_13, sX6_spoils_14, sX6_spoils_15, sX6_spoils_18, sX6_spoils_19, sX6_spoils_22, sX6_spoils_25, sX6_spoils_26, sX6_spoils_27, sX6_spoils_28, sX6_spoils_30, sX6_spoils_32, sX6_spoils_35, sX6_spoils_36, sX6_spoils_39, sX6_spoils_40, sX6_spoils_43, sX6_spoils_44, sX6_spoils_45, sX6_spoils_48, sX6_spoils_51, sX6_spoils_52, sX6_spoils_53, sX6_spoils_54, sX6_spoils_57, sX6_spoils_58, sX6_spoils_61, sX6_spoils_64, sX6_spoils_65, sX6_spoils_68, sX6_spoils_69, sX6_spoils_70, sX6_spoils_73, sX6_spoils_76, sX6_spoils_77, sX6_spoils_78, sX6_spoils_81, sX6_spoils_82, sX6_spoils_85, sX6_spoils_86, sX6_spoils_89, sX6_spoils_92, sX6_spoils_93, sX6_spoils_95, sX6_spoils_98, sX6_spoils_101, sX6_spoils_102, opK_some, guK_true, calK_some, rk_nil, rk_int, rk_ref, tl_some, tl_none, nb_int, nb_0, nb_1, nb_if, nb_if', o130_5, q130, zero_eq, if_true, c2, f5, nI_1]
    rw [if_neg (show ¬ (60 : Int32) ≤ nI i from nI_ge (b := 60) (by omega) (by omega))]
    have go : ¬ spP (dN r i) → ∃ M', lim (call (d + 5)) none 6 cX6_spoils (some .int) 29 [some (.ref 130), some (.int (nI (i + 1))), some (.int 0), some (.int (worD (dN r i)))] [] M2 = some (some (.int (if spR r i (n + 1) = 0 then -1000004 else nI (spR r i (n + 1)))), if spR r i (n + 1) = 0 then fM M' 3 else M') ∧ Mo M M' ∧ M' 131 = r := by
      intro e
      have ek : spR r i (n + 1) = spR r (i + 1) n := by
        show (if _ then _ else _) = _
        rw [if_neg e]
      rw [ek]
      exact ih (i + 1) M2 _ (by omega) r2 om
    rcases lai_or (WR_dN w.1 i) with hl | ⟨t, ht, hl⟩
    · have e : ¬ spP (dN r i) := fun z => absurd z.1 (by rw [hl]; decide)
      simp only [hl, show ((-1 : Int32) < 0) = True from eq_true (by decide), show ((0 : Int32) ≤ -1) = False from eq_false (by decide), if_true, if_false]
      exact go e
    · have hn : ¬ nI t < 0 := nI_nlt (b := 0) (by omega) (by omega)
      have hn' : (0 : Int32) ≤ nI t := nI_le (a := 0) (by omega) (by omega)
      have ep : spP (dN r i) ↔ worD (dN r i) < M2 131 (at9 t 2) := by
        rw [r2]
        unfold spP
        rw [hl, iN_nI (by omega)]
        exact ⟨fun z => z.2, fun z => ⟨hn', z⟩⟩
      simp only [sX6_spoils_0, sX6_spoils_1, sX6_spoils_4, sX6_spoils_7, sX6_spoils_8, sX6_spoils_10, sX6_spoils_13, sX6_spoils_14, sX6_spoils_15, sX6_spoils_18, sX6_spoils_19, sX6_spoils_22, sX6_spoils_25, sX6_spoils_26, sX6_spoils_27, sX6_spoils_28, sX6_spoils_30, sX6_spoils_32, sX6_spoils_35, sX6_spoils_36, sX6_spoils_39, sX6_spoils_40, sX6_spoils_43, sX6_spoils_44, sX6_spoils_45, sX6_spoils_48, sX6_spoils_51, sX6_spoils_52, sX6_spoils_53, sX6_spoils_54, sX6_spoils_57, sX6_spoils_58, sX6_spoils_61, sX6_spoils_64, sX6_spoils_65, sX6_spoils_68, sX6_spoils_69, sX6_spoils_70, sX6_spoils_73, sX6_spoils_76, sX6_spoils_77, sX6_spoils_78, sX6_spoils_81, sX6_spoils_82, sX6_spoils_85, sX6_spoils_86, sX6_spoils_89, sX6_spoils_92, sX6_spoils_93, sX6_spoils_95, sX6_spoils_98, sX6_spoils_101, sX6_spoils_102, opK_some, guK_true, calK_some, rk_nil, rk_int, rk_ref, tl_some, tl_none, nb_int, nb_0, nb_1, nb_if, nb_if', hl, hn, hn', if_true, if_false, T2 ht, nI_1]
      by_cases e : spP (dN r i)
      · have ek : spR r i (n + 1) = i + 1 := by
          show (if _ then _ else _) = _
          rw [if_pos e]
        have hp := fun x => m_back (d := d + 3) (x := x) w.1 r2 ((om.1 133 (by omega) (by omega)).trans ha)
        rw [show d + 3 + 2 = d + 5 from rfl] at hp
        have n0 : ¬ nI (i + 1) = 0 := fun z => absurd (nI_inj (i := i + 1) (j := 0) (by omega) (by omega) z) (by omega)
        rw [if_neg (Int32.not_le.mpr (ep.mp e)), ek, if_neg (by omega), sX6_spoils_29]
        simp only [sX6_spoils_0, sX6_spoils_1, sX6_spoils_4, sX6_spoils_7, sX6_spoils_8, sX6_spoils_10, sX6_spoils_13, sX6_spoils_14, sX6_spoils_15, sX6_spoils_18, sX6_spoils_19, sX6_spoils_22, sX6_spoils_25, sX6_spoils_26, sX6_spoils_27, sX6_spoils_28, sX6_spoils_30, sX6_spoils_32, sX6_spoils_35, sX6_spoils_36, sX6_spoils_39, sX6_spoils_40, sX6_spoils_43, sX6_spoils_44, sX6_spoils_45, sX6_spoils_48, sX6_spoils_51, sX6_spoils_52, sX6_spoils_53, sX6_spoils_54, sX6_spoils_57, sX6_spoils_58, sX6_spoils_61, sX6_spoils_64, sX6_spoils_65, sX6_spoils_68, sX6_spoils_69, sX6_spoils_70, sX6_spoils_73, sX6_spoils_76, sX6_spoils_77, sX6_spoils_78, sX6_spoils_81, sX6_spoils_82, sX6_spoils_85, sX6_spoils_86, sX6_spoils_89, sX6_spoils_92, sX6_spoils_93, sX6_spoils_95, sX6_spoils_98, sX6_spoils_101, sX6_spoils_102, opK_some, guK_true, calK_some, rk_nil, rk_int, rk_ref, tl_some, tl_none, nb_int, nb_0, nb_1, nb_if, nb_if', q130, one_ne, if_false, hp, n0]
        rw [same_if]
        exact ⟨mrow M2 131 r, by rw [if_neg (show ¬ i + 1 = 0 by omega)], om.tr Mo.row, mrow_at⟩
      · rw [if_pos (Int32.not_lt.mp (fun z => e (ep.mpr z)))]
        exact go e

