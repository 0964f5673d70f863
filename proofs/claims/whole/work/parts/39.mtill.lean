/-! till one is laid: the reference -/
theorem L_m_till {d t : Nat} {r a : Rw} (w : WX r 9999) : ∀ (n i : Nat) (M1 : Mem), i + n = 60 → M1 131 = dN r i → M1 133 = cpR r a →
    ∃ M', lim (call (d + 5)) none 6 cX6_tillLaid (some .int) 15 [some (.ref 130), some (.int (nI t)), some (.int (nI i)), some (.int 0)] [] M1 = some (some (.int (nI (tlR r (nI t) i n))), M') ∧ (∀ k, k ≠ 130 → k ≠ 131 → M' k = M1 k) ∧ M' 131 = r ∧ M' 130 3 = M1 130 3 ∧ M' 130 17 = M1 130 17 ∧ (0 < tlR r (nI t) i n → M' 130 8 = worD (dN r (tlR r (nI t) i n - 1))) := by
  have back : ∀ (M2 : Mem) (k : Nat), M2 131 = dN r k → M2 133 = cpR r a → cpR (M2 133) (M2 131) = r := by
    intro M2 k e1 e2
    rw [e1, e2]
    exact cp_back (fun q hq => dN_hi w.1 (by omega) k)
  intro n
  induction n with
  | zero =>
    intro i M1 hi e1 e2
    have hp := C_putBack (d := d + 3) (M := M1) (x := 0)
    rw [show d + 3 + 2 = d + 5 from rfl] at hp
    rw [back M1 i e1 e2] at hp
    rw [sX6_tillLaid_15]
    simp only [sX6_tillLaid_0, sX6_tillLaid_1, sX6_tillLaid_4, sX6_tillLaid_5, sX6_tillLaid_8, sX6_tillLaid_11, sX6_tillLaid_12, sX6_tillLaid_13, sX6_tillLaid_14, sX6_tillLaid_16, sX6_tillLaid_18, sX6_tillLaid_21, sX6_tillLaid_22, sX6_tillLaid_25, sX6_tillLaid_26, sX6_tillLaid_27, sX6_tillLaid_30, sX6_tillLaid_33, sX6_tillLaid_34, sX6_tillLaid_37, sX6_tillLaid_38, sX6_tillLaid_41, sX6_tillLaid_42, sX6_tillLaid_45, sX6_tillLaid_46, sX6_tillLaid_47, sX6_tillLaid_50, sX6_tillLaid_53, sX6_tillLaid_54, sX6_tillLaid_55, sX6_tillLaid_58, sX6_tillLaid_59, sX6_tillLaid_62, sX6_tillLaid_63, sX6_tillLaid_66, opK_some, guK_true, calK_some, rk_nil, rk_int, rk_ref, tl_some, tl_none, nb_int, nb_0, nb_1, nb_if, nb_if', q130, zero_eq, if_true, hp]
    rw [if_pos (show (60 : Int32) ≤ nI i from nI_le (a := 60) (by omega) (by omega))]
    exact ⟨_, rfl, fun k _ k2 => mrow_ne k2, mrow_at, by rw [mrow_ne (by omega)], by rw [mrow_ne (by omega)], fun z => absurd z (Nat.lt_irrefl 0)⟩
  | succ n ih =>
    intro i M1 hi e1 e2
    have wi := WX_dN w i (by omega)
    obtain ⟨g1, g2⟩ := wx_5 wi (by omega)
    obtain ⟨M2, c2, o2, r2, f5, f6⟩ := C_m_day (d := d + 0) (M := M1) (e := iN (dN r i 5)) (by rw [e1]; exact wi.1) (by rw [e1]; exact g1) g2
    rw [show d + 0 + 5 = d + 5 from rfl] at c2
    rw [e1] at c2 r2 f5 f6
    obtain ⟨M3, hM3⟩ : ∃ M3, M3 = mset M2 130 8 (worD (dN r i)) := ⟨_, rfl⟩
    have h5 : M3 130 5 = laiD (dN r i) := by rw [hM3, mset_at, upd_ne (by omega)]; exact f5
    have h8 : M3 130 8 = worD (dN r i) := by rw [hM3, mset_at, upd_at]
    have r3 : M3 131 = dN r (i + 1) := by rw [hM3, mset_ne (by omega)]; exact r2
    have k3 : ∀ k, k ≠ 130 → k ≠ 131 → M3 k = M1 k := fun k a1 a2 => by rw [hM3, mset_ne a1]; exact o2.1 k a1 a2
    have s3 : M3 130 3 = M1 130 3 := by rw [hM3, mset_at, upd_ne (by omega)]; exact o2.2 3 (by omega) (by omega) (by omega)
    have s17 : M3 130 17 = M1 130 17 := by rw [hM3, mset_at, upd_ne (by omega)]; exact o2.2 17 (by omega) (by omega) (by omega)
    have a3 : M3 133 = cpR r a := by rw [k3 133 (by omega) (by omega)]; exact e2
    rw [sX6_tillLaid_15]
    simp only [sX6_tillLaid_0, sX6_tillLaid_1, sX6_tillLaid_4, sX6_tillLaid_5, sX6_tillLaid_8, sX6_tillLaid_11, sX6_tillLaid_12, sX6_tillLaid_13, sX6_tillLaid_14, sX6_tillLaid_16, sX6_tillLaid_18, sX6_tillLaid_21, sX6_tillLaid_22, sX6_tillLaid_25, sX6_tillLaid_26, sX6_tillLaid_27, sX6_tillLaid_30, sX6_tillLaid_33, sX6_tillLaid_34, sX6_tillLaid_37, sX6_tillLaid_38, sX6_tillLaid_41, sX6_tillLaid_42, sX6_tillLaid_45, sX6_tillLaid_46, sX6_tillLaid_47, sX6_tillLaid_50, sX6_tillLaid_53, sX6_tillLaid_54, sX6_tillLaid_55, sX6_tillLaid_58, sX6_tillLaid_59, sX6_tillLaid_62, sX6_tillLaid_63, sX6_tillLaid_66, opK_some, guK_true, calK_some, rk_nil, rk_int, rk_ref, tl_some, tl_none, nb_int, nb_0, nb_1, nb_if, nb_if', o130_5, p130_8, q130, zero_eq, if_true, c2, ← hM3, h5, nI_1]
    rw [if_neg (show ¬ (60 : Int32) ≤ nI i from nI_ge (b := 60) (by omega) (by omega))]
    by_cases e : laiD (dN r i) = nI t
    · have ek : tlR r (nI t) i (n + 1) = i + 1 := by
        show (if _ then _ else _) = _
        rw [if_pos e]
      have hp := C_putBack (d := d + 3) (M := M3) (x := nI (i + 1))
      rw [show d + 3 + 2 = d + 5 from rfl] at hp
      rw [back M3 (i + 1) r3 a3] at hp
      rw [if_pos e, ek, sX6_tillLaid_15]
      simp only [sX6_tillLaid_0, sX6_tillLaid_1, sX6_tillLaid_4, sX6_tillLaid_5, sX6_tillLaid_8, sX6_tillLaid_11, sX6_tillLaid_12, sX6_tillLaid_13, sX6_tillLaid_14, sX6_tillLaid_16, sX6_tillLaid_18, sX6_tillLaid_21, sX6_tillLaid_22, sX6_tillLaid_25, sX6_tillLaid_26, sX6_tillLaid_27, sX6_tillLaid_30, sX6_tillLaid_33, sX6_tillLaid_34, sX6_tillLaid_37, sX6_tillLaid_38, sX6_tillLaid_41, sX6_tillLaid_42, sX6_tillLaid_45, sX6_tillLaid_46, sX6_tillLaid_47, sX6_tillLaid_50, sX6_tillLaid_53, sX6_tillLaid_54, sX6_tillLaid_55, sX6_tillLaid_58, sX6_tillLaid_59, sX6_tillLaid_62, sX6_tillLaid_63, sX6_tillLaid_66, opK_some, guK_true, calK_some, rk_nil, rk_int, rk_ref, tl_some, tl_none, nb_int, nb_0, nb_1, nb_if, nb_if', q130, one_ne, if_false, hp]
      have same : ∀ (p : Prop) [Decidable p] (z : Option (Option Value × Mem)), (if p then z else z) = z := fun p _ z => by split <;> rfl
      rw [same]
      exact ⟨_, rfl, fun k a1 a2 => by rw [mrow_ne a2]; exact k3 k a1 a2, mrow_at, by rw [mrow_ne (by omega)]; exact s3, by rw [mrow_ne (by omega)]; exact s17, fun _ => by rw [mrow_ne (by omega)]; exact h8⟩
    · have ek : tlR r (nI t) i (n + 1) = tlR r (nI t) (i + 1) n := by
        show (if _ then _ else _) = _
        rw [if_neg e]
      rw [if_neg e, ek]
      obtain ⟨M4, c4, b1, b2, b3, b4, b5⟩ := ih (i + 1) M3 (by omega) r3 a3
      exact ⟨M4, c4, fun k a1 a2 => (b1 k a1 a2).trans (k3 k a1 a2), b2, b3.trans s3, b4.trans s17, b5⟩

