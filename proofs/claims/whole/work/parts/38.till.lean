/-! till one is laid -/
def tlR (r : Rw) (t : Int32) : Nat → Nat → Nat
  | _, 0 => 0
  | i, n + 1 => if laiD (dN r i) = t then i + 1 else tlR r t (i + 1) n
theorem L_till {d t : Nat} {M : Mem} {r : Rw} (w : WR r) : ∀ (n i : Nat) (M1 : Mem), i + n = 60 → HR M1 30 (dN r i) → Ou 30 M M1 →
    ∃ M', lim (call (d + 3)) none 5 cX5_daysUntilLaid (some .int) 16 [some (.ref 0), some (.int (nI t)), some (.int (nI (i + 1)))] [] M1 = some (some (.int (nI (tlR r (nI t) i n))), M') ∧ Ou 30 M M' ∧ (0 < tlR r (nI t) i n → M' 30 13 = worD (dN r (tlR r (nI t) i n - 1))) := by
  have hen30 : isHen 30 := Or.inr (Or.inr (Or.inl rfl))
  intro n
  induction n with
  | zero =>
    intro i M1 hi h ho
    rw [sX5_daysUntilLaid_16]
    simp only [sX5_daysUntilLaid_0, sX5_daysUntilLaid_1, sX5_daysUntilLaid_4, sX5_daysUntilLaid_5, sX5_daysUntilLaid_8, sX5_daysUntilLaid_11, sX5_daysUntilLaid_14, sX5_daysUntilLaid_15, sX5_daysUntilLaid_17, sX5_daysUntilLaid_19, sX5_daysUntilLaid_22, sX5_daysUntilLaid_23, sX5_daysUntilLaid_26, sX5_daysUntilLaid_29, sX5_daysUntilLaid_30, sX5_daysUntilLaid_31, sX5_daysUntilLaid_34, sX5_daysUntilLaid_37, sX5_daysUntilLaid_38, sX5_daysUntilLaid_41, sX5_daysUntilLaid_42, sX5_daysUntilLaid_43, sX5_daysUntilLaid_46, sX5_daysUntilLaid_49, sX5_daysUntilLaid_50, opK_some, guK_true, calK_some, rk_nil, rk_int, rk_ref, tl_some, tl_none, nb_int, nb_0, nb_1, nb_if, nb_if']
    rw [if_pos (show (60 : Int32) < nI (i + 1) from nI_lt (a := 60) (by omega) (by omega))]
    exact ⟨M1, rfl, ho, fun z => absurd z (Nat.lt_irrefl 0)⟩
  | succ n ih =>
    intro i M1 hi h ho
    obtain ⟨M2, c2, h2, o2, a12, a13, _⟩ := C_passDay (d := d + 0) hen30 h (WR_dN w i)
    rw [show d + 0 + 3 = d + 3 from rfl] at c2
    rw [sX5_daysUntilLaid_16]
    simp only [sX5_daysUntilLaid_0, sX5_daysUntilLaid_1, sX5_daysUntilLaid_4, sX5_daysUntilLaid_5, sX5_daysUntilLaid_8, sX5_daysUntilLaid_11, sX5_daysUntilLaid_14, sX5_daysUntilLaid_15, sX5_daysUntilLaid_17, sX5_daysUntilLaid_19, sX5_daysUntilLaid_22, sX5_daysUntilLaid_23, sX5_daysUntilLaid_26, sX5_daysUntilLaid_29, sX5_daysUntilLaid_30, sX5_daysUntilLaid_31, sX5_daysUntilLaid_34, sX5_daysUntilLaid_37, sX5_daysUntilLaid_38, sX5_daysUntilLaid_41, sX5_daysUntilLaid_42, sX5_daysUntilLaid_43, sX5_daysUntilLaid_46, sX5_daysUntilLaid_49, sX5_daysUntilLaid_50, opK_some, guK_true, calK_some, rk_nil, rk_int, rk_ref, tl_some, tl_none, nb_int, nb_0, nb_1, nb_if, nb_if', o0_6, hen_c hen30, hs_12 hen30, c2, a12, nI_1]
    rw [if_neg (show ¬ (60 : Int32) < nI (i + 1) from nI_nlt (a := 60) (by omega) (by omega))]
    by_cases e : laiD (dN r i) = nI t
    · have ek : tlR r (nI t) i (n + 1) = i + 1 := by
        show (if _ then _ else _) = _
        rw [if_pos e]
      rw [if_pos e, ek]
      exact ⟨M2, rfl, ho.tr o2, fun _ => a13⟩
    · have ek : tlR r (nI t) i (n + 1) = tlR r (nI t) (i + 1) n := by
        show (if _ then _ else _) = _
        rw [if_neg e]
      rw [if_neg e, ek]
      exact ih (i + 1) M2 (by omega) h2 (ho.tr o2)
theorem C_x_till {d t : Nat} {M : Mem} (j : J M) : ∃ M', call (d + 4) 39 [.ref 0, .int (nI t)] M = some (some (.int (nI (tlR (M 131) (nI t) 0 60))), M') ∧ Ou 30 M M' ∧ (0 < tlR (M 131) (nI t) 0 60 → M' 30 13 = worD (dN (M 131) (tlR (M 131) (nI t) 0 60 - 1))) := by
  have hen30 : isHen 30 := Or.inr (Or.inr (Or.inl rfl))
  obtain ⟨M1, c1, h1, o1⟩ := C_become (d := d + 2) hen30 hen10 (by omega) (j_hr j) (j_wr j)
  rw [show d + 2 + 1 = d + 3 from rfl] at c1
  obtain ⟨M2, c2, o2, a⟩ := L_till (d := d) (t := t) (j_wr j) 60 0 M1 (by omega) h1 o1
  rw [nX5_daysUntilLaid]
  simp only [sX5_daysUntilLaid_0, sX5_daysUntilLaid_1, sX5_daysUntilLaid_4, sX5_daysUntilLaid_5, sX5_daysUntilLaid_8, sX5_daysUntilLaid_11, sX5_daysUntilLaid_14, sX5_daysUntilLaid_15, sX5_daysUntilLaid_17, sX5_daysUntilLaid_19, sX5_daysUntilLaid_22, sX5_daysUntilLaid_23, sX5_daysUntilLaid_26, sX5_daysUntilLaid_29, sX5_daysUntilLaid_30, sX5_daysUntilLaid_31, sX5_daysUntilLaid_34, sX5_daysUntilLaid_37, sX5_daysUntilLaid_38, sX5_daysUntilLaid_41, sX5_daysUntilLaid_42, sX5_daysUntilLaid_43, sX5_daysUntilLaid_46, sX5_daysUntilLaid_49, sX5_daysUntilLaid_50, opK_some, guK_true, calK_some, rk_nil, rk_int, rk_ref, tl_some, tl_none, nb_int, nb_0, nb_1, nb_if, nb_if', o0_0, o0_6, o100_0, hen_c hen30, hen_c hen10, c1]
  exact ⟨M2, c2, o2, a⟩

