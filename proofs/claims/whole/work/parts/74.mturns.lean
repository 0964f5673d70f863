/-! feeding by turns: the reference -/
theorem m_stepW {d i m : Nat} {r : Rw} {M1 : Mem} (w : WX r m) (hi : m + i < 2 ^ 31) (e1 : M1 131 = dN r i) : ∃ M2, call (d + 5) 165 [.ref 130] M1 = some (some (.int (worD (dN r i))), M2) ∧ Mo M1 M2 ∧ M2 131 = dN r (i + 1) ∧ M2 130 5 = laiD (dN r i) ∧ M2 130 6 = worD (dN r i) := by
  have wi := WX_dN w i hi
  obtain ⟨g1, g2⟩ := wx_5 wi hi
  obtain ⟨M2, c2, o2, r2, f5, f6⟩ := C_m_day (d := d) (M := M1) (e := iN (dN r i 5)) (by rw [e1]; exact wi.1) (by rw [e1]; exact g1) g2
  rw [e1] at c2 r2 f5 f6
  exact ⟨M2, c2, o2, r2, f5, f6⟩
theorem wor_0 {q : Rw} (w : WR q) (h : laiD q = -1) : worD q = 0 := by
  by_cases z : readyG (gR q)
  · obtain ⟨t, ht, et⟩ := (lai_ready w).1 z
    rw [h] at et
    exact absurd (show (0 : Int32) ≤ -1 by rw [et]; exact nI_le (a := 0) (by omega) (by omega)) (by decide)
  · exact if_neg z
theorem L_sharesGo {d n m : Nat} {r : Rw} {M : Mem} (w : WX r m) (hm : m + n < 2 ^ 31) : ∀ (c i : Nat) (M1 : Mem) (v : Option Value), i + c = n → M1 131 = dN r i → Mo M M1 →
    ∃ M', lim (call (d + 5)) none 6 cX6_sharesGo (some .int) 4 [some (.ref 130), some (.int (nI n)), some (.int (ldS r i)), some (.int (nI i)), v] [] M1 = some (some (.int (ldS r n)), M') ∧ Mo M M' ∧ M' 131 = dN r n := by
  intro c
  induction c with
  | zero =>
    intro i M1 v hi e1 o
    obtain rfl : i = n := by omega
    rw [sX6_sharesGo_4]
    simp only [sX6_sharesGo_0, sX6_sharesGo_1, sX6_sharesGo_2, sX6_sharesGo_3, sX6_sharesGo_5, sX6_sharesGo_6, sX6_sharesGo_9, sX6_sharesGo_10, sX6_sharesGo_13, sX6_sharesGo_15, sX6_sharesGo_16, sX6_sharesGo_17, sX6_sharesGo_20, sX6_sharesGo_23, sX6_sharesGo_24, sX6_sharesGo_27, sX6_sharesGo_28, sX6_sharesGo_29, sX6_sharesGo_32, sX6_sharesGo_33, sX6_sharesGo_36, sX6_sharesGo_39, sX6_sharesGo_41, sX6_sharesGo_44, sX6_sharesGo_46, sX6_sharesGo_47, sX6_sharesGo_48, sX6_sharesGo_49, sX6_sharesGo_52, sX6_sharesGo_55, sX6_sharesGo_56, opK_some, guK_true, calK_some, rk_nil, rk_int, rk_ref, tl_some, tl_none, nb_int, nb_0, nb_1, nb_if, nb_if']
    rw [if_pos (show nI i ≤ nI i from Int32.le_refl _)]
    exact ⟨M1, rfl, o, e1⟩
  | succ c ih =>
    intro i M1 v hi e1 o
    have wi := WX_dN w i (by omega)
    obtain ⟨M2, c2, o2, r2, f5, f6⟩ := m_stepW (d := d + 0) w (show m + i < 2 ^ 31 by omega) e1
    rw [show d + 0 + 5 = d + 5 from rfl] at c2
    have om := o.tr o2
    have fin := ih (i + 1) M2 (some (.int (worD (dN r i)))) (by omega) r2 om
    have ek : ldS r (i + 1) = ldS r i + leadR (dN r i) := rfl
    rw [ek] at fin
    rw [sX6_sharesGo_4]
    simp only [sX6_sharesGo_0, sX6_sharesGo_1, sX6_sharesGo_2, sX6_sharesGo_3, sX6_sharesGo_5, sX6_sharesGo_6, sX6_sharesGo_9, sX6_sharesGo_10, sX6_sharesGo_13, sX6_sharesGo_15, sX6_sharesGo_16, sX6_sharesGo_17, sX6_sharesGo_20, sX6_sharesGo_23, sX6_sharesGo_24, sX6_sharesGo_27, sX6_sharesGo_28, sX6_sharesGo_29, sX6_sharesGo_32, sX6_sharesGo_33, sX6_sharesGo_36, sX6_sharesGo_39, sX6_sharesGo_41, sX6_sharesGo_44, sX6_sharesGo_46, sX6_sharesGo_47, sX6_sharesGo_48, sX6_sharesGo_49, sX6_sharesGo_52, sX6_sharesGo_55, sX6_sharesGo_56, opK_some, guK_true, calK_some, rk_nil, rk_int, rk_ref, tl_some, tl_none, nb_int, nb_0, nb_1, nb_if, nb_if', q130, o130_5, c2, f5, nI_1]
    rw [if_neg (show ¬ nI n ≤ nI i from nI_ge (by omega) (by omega))]
    rcases lai_or wi.1 with hl | ⟨t, ht, hl⟩
    · have et : leadR (dN r i) = 0 := by
        show (if _ then _ else _) = _
        rw [if_neg (fun z => absurd z.1 (by rw [hl]; decide)), wor_0 wi.1 hl]
      rw [et] at fin
      simp only [hl, show ((0 : Int32) ≤ -1) = False from eq_false (by decide), if_false]
      exact fin
    · have hn' : (0 : Int32) ≤ nI t := nI_le (a := 0) (by omega) (by omega)
      have e3 : M2 131 (at9 t 3) = dayR (dN r i) (at9 t 3) := by rw [r2]; rfl
      have wd := (WR_day wi.1).2.2.2 t ht
      have el : leadR (dN r i) = if dayR (dN r i) (at9 t 3) = 1 then - worD (dN r i) else worD (dN r i) := by
        show (if 0 ≤ laiD (dN r i) ∧ dayR (dN r i) (at9 (iN (laiD (dN r i))) 3) = 1 then _ else _) = _
        rw [hl, iN_nI (by omega)]
        by_cases z : dayR (dN r i) (at9 t 3) = 1
        · rw [if_pos z, if_pos ⟨hn', z⟩]
        · rw [if_neg z, if_neg (fun y => z y.2)]
      simp only [sX6_sharesGo_0, sX6_sharesGo_1, sX6_sharesGo_2, sX6_sharesGo_3, sX6_sharesGo_5, sX6_sharesGo_6, sX6_sharesGo_9, sX6_sharesGo_10, sX6_sharesGo_13, sX6_sharesGo_15, sX6_sharesGo_16, sX6_sharesGo_17, sX6_sharesGo_20, sX6_sharesGo_23, sX6_sharesGo_24, sX6_sharesGo_27, sX6_sharesGo_28, sX6_sharesGo_29, sX6_sharesGo_32, sX6_sharesGo_33, sX6_sharesGo_36, sX6_sharesGo_39, sX6_sharesGo_41, sX6_sharesGo_44, sX6_sharesGo_46, sX6_sharesGo_47, sX6_sharesGo_48, sX6_sharesGo_49, sX6_sharesGo_52, sX6_sharesGo_55, sX6_sharesGo_56, opK_some, guK_true, calK_some, rk_nil, rk_int, rk_ref, tl_some, tl_none, nb_int, nb_0, nb_1, nb_if, nb_if', hl, hn', if_true, T3 ht, e3, nI_1]
      have o1 := wd.2.2.2.1
      rcases (show iN (dayR (dN r i) (at9 t 3)) = 0 ∨ iN (dayR (dN r i) (at9 t 3)) = 1 by have := o1.1; omega) with c0 | c0
      · have ev : dayR (dN r i) (at9 t 3) = 0 := by rw [o1.2, c0]; rfl
        rw [ev, if_neg (by decide)] at el
        rw [el] at fin
        rw [ev, if_pos rfl]
        exact fin
      · have ev : dayR (dN r i) (at9 t 3) = 1 := by rw [o1.2, c0]; rfl
        rw [ev, if_pos rfl] at el
        rw [el] at fin
        rw [ev, if_neg (by decide)]
        exact fin
theorem C_sharesGo {d n m : Nat} {r : Rw} {M : Mem} (w : WX r m) (hm : m + n < 2 ^ 31) (e : M 131 = r) : ∃ M', call (d + 6) 203 [.ref 130, .int (nI n)] M = some (some (.int (ldS r n)), M') ∧ Mo M M' ∧ M' 131 = dN r n := by
  rw [nX6_sharesGo]
  simp only [sX6_sharesGo_0, sX6_sharesGo_1, sX6_sharesGo_2, sX6_sharesGo_3, sX6_sharesGo_5, sX6_sharesGo_6, sX6_sharesGo_9, sX6_sharesGo_10, sX6_sharesGo_13, sX6_sharesGo_15, sX6_sharesGo_16, sX6_sharesGo_17, sX6_sharesGo_20, sX6_sharesGo_23, sX6_sharesGo_24, sX6_sharesGo_27, sX6_sharesGo_28, sX6_sharesGo_29, sX6_sharesGo_32, sX6_sharesGo_33, sX6_sharesGo_36, sX6_sharesGo_39, sX6_sharesGo_41, sX6_sharesGo_44, sX6_sharesGo_46, sX6_sharesGo_47, sX6_sharesGo_48, sX6_sharesGo_49, sX6_sharesGo_52, sX6_sharesGo_55, sX6_sharesGo_56, opK_some, guK_true, calK_some, rk_nil, rk_int, rk_ref, tl_some, tl_none, nb_int, nb_0, nb_1, nb_if, nb_if']
  exact L_sharesGo w hm n 0 M none (by omega) e Mo.rf
theorem I132 {l k : Nat} : (132 : Int32) * nI l + nI k = nI (132 * l + k) := by
  rw [show (132 : Int32) * nI l = nI (132 * l) from pk_mul 132 l, nI_add]
theorem L_save {d l : Nat} {M : Mem} (hl : l ≤ 4) : ∀ (c k : Nat) (M1 : Mem), k + c = 132 → (∀ j, j ≠ 137 → M1 j = M j) → (∀ i, (i < 132 * l ∨ 132 * l + k ≤ i) → M1 137 i = M 137 i) → (∀ i, i < k → M1 137 (132 * l + i) = M 131 i) →
    ∃ M', lim (call (d + 0)) none 6 cX6_save none 2 [some (.ref 130), some (.int (nI l)), some (.int (nI k))] [] M1 = some (none, M') ∧ (∀ j, j ≠ 137 → M' j = M j) ∧ (∀ i, i < 132 * l → M' 137 i = M 137 i) ∧ ∀ i, i < 132 → M' 137 (132 * l + i) = M 131 i := by
  intro c
  induction c with
  | zero =>
    intro k M1 hk o u v
    obtain rfl : k = 132 := by omega
    rw [sX6_save_2]
    simp only [sX6_save_0, sX6_save_1, sX6_save_3, sX6_save_6, sX6_save_9, sX6_save_10, sX6_save_13, sX6_save_16, sX6_save_17, sX6_save_18, sX6_save_19, sX6_save_20, sX6_save_21, sX6_save_24, sX6_save_25, sX6_save_26, sX6_save_27, sX6_save_30, sX6_save_33, opK_some, guK_true, calK_some, rk_nil, rk_int, rk_ref, tl_some, tl_none, nb_int, nb_0, nb_1, nb_if, nb_if']
    rw [if_pos (show (132 : Int32) ≤ nI 132 by decide)]
    exact ⟨M1, rfl, o, fun i hi => u i (by omega), v⟩
  | succ c ih =>
    intro k M1 hk o u v
    rw [sX6_save_2]
    simp only [sX6_save_0, sX6_save_1, sX6_save_3, sX6_save_6, sX6_save_9, sX6_save_10, sX6_save_13, sX6_save_16, sX6_save_17, sX6_save_18, sX6_save_19, sX6_save_20, sX6_save_21, sX6_save_24, sX6_save_25, sX6_save_26, sX6_save_27, sX6_save_30, sX6_save_33, opK_some, guK_true, calK_some, rk_nil, rk_int, rk_ref, tl_some, tl_none, nb_int, nb_0, nb_1, nb_if, nb_if', o130_0, o130_13, a131, show arrN 137 = some 660 from rfl, I132, inb_nI (show k < 132 by omega) (by omega), nI_clamp (show k < 2 ^ 31 by omega), inb_nI (show 132 * l + k < 660 by omega) (by omega), nI_clamp (show 132 * l + k < 2 ^ 31 by omega), o 131 (by omega), nI_1]
    rw [if_neg (show ¬ (132 : Int32) ≤ nI k from nI_ge (b := 132) (by omega) (by omega))]
    refine ih (k + 1) _ (by omega) (fun j hj => by rw [mset_ne hj]; exact o j hj) (fun i hi => ?_) (fun i hi => ?_)
    · rw [mset_at, upd_ne (by omega)]
      exact u i (by omega)
    · rw [mset_at]
      by_cases e : i = k
      · rw [e, upd_at]
      · rw [upd_ne (by omega)]
        exact v i (by omega)
theorem C_save {d l : Nat} {M : Mem} (hl : l ≤ 4) : ∃ M', call (d + 1) 202 [.ref 130, .int (nI l)] M = some (none, M') ∧ (∀ j, j ≠ 137 → M' j = M j) ∧ (∀ i, i < 132 * l → M' 137 i = M 137 i) ∧ ∀ i, i < 132 → M' 137 (132 * l + i) = M 131 i := by
  rw [nX6_save]
  simp only [sX6_save_0, sX6_save_1, sX6_save_3, sX6_save_6, sX6_save_9, sX6_save_10, sX6_save_13, sX6_save_16, sX6_save_17, sX6_save_18, sX6_save_19, sX6_save_20, sX6_save_21, sX6_save_24, sX6_save_25, sX6_save_26, sX6_save_27, sX6_save_30, sX6_save_33, opK_some, guK_true, calK_some, rk_nil, rk_int, rk_ref, tl_some, tl_none, nb_int, nb_0, nb_1, nb_if, nb_if']
  exact L_save hl 132 0 M (by omega) (fun _ _ => rfl) (fun _ _ => rfl) (fun i hi => absurd hi (Nat.not_lt_zero i))
theorem L_restore {d l : Nat} {M : Mem} (hl : l ≤ 4) : ∀ (c k : Nat) (M1 : Mem), k + c = 132 → M1 = mrow M 131 (fun i => if i < k then M 137 (132 * l + i) else M 131 i) →
    lim (call (d + 0)) none 6 cX6_restore none 2 [some (.ref 130), some (.int (nI l)), some (.int (nI k))] [] M1 = some (none, mrow M 131 (fun i => if i < 132 then M 137 (132 * l + i) else M 131 i)) := by
  intro c
  induction c with
  | zero =>
    intro k M1 hk e
    obtain rfl : k = 132 := by omega
    rw [sX6_restore_2]
    simp only [sX6_restore_0, sX6_restore_1, sX6_restore_3, sX6_restore_6, sX6_restore_9, sX6_restore_10, sX6_restore_13, sX6_restore_14, sX6_restore_15, sX6_restore_18, sX6_restore_21, sX6_restore_22, sX6_restore_23, sX6_restore_24, sX6_restore_25, sX6_restore_26, sX6_restore_27, sX6_restore_30, sX6_restore_33, opK_some, guK_true, calK_some, rk_nil, rk_int, rk_ref, tl_some, tl_none, nb_int, nb_0, nb_1, nb_if, nb_if']
    rw [if_pos (show (132 : Int32) ≤ nI 132 by decide), e]
  | succ c ih =>
    intro k M1 hk e
    have e7 : M1 137 = M 137 := by rw [e, mrow_ne (by omega)]
    rw [sX6_restore_2]
    simp only [sX6_restore_0, sX6_restore_1, sX6_restore_3, sX6_restore_6, sX6_restore_9, sX6_restore_10, sX6_restore_13, sX6_restore_14, sX6_restore_15, sX6_restore_18, sX6_restore_21, sX6_restore_22, sX6_restore_23, sX6_restore_24, sX6_restore_25, sX6_restore_26, sX6_restore_27, sX6_restore_30, sX6_restore_33, opK_some, guK_true, calK_some, rk_nil, rk_int, rk_ref, tl_some, tl_none, nb_int, nb_0, nb_1, nb_if, nb_if', o130_0, o130_13, a137, b131, I132, inb_nI (show k < 132 by omega) (by omega), nI_clamp (show k < 2 ^ 31 by omega), inb_nI (show 132 * l + k < 660 by omega) (by omega), nI_clamp (show 132 * l + k < 2 ^ 31 by omega), e7, nI_1]
    rw [if_neg (show ¬ (132 : Int32) ≤ nI k from nI_ge (b := 132) (by omega) (by omega))]
    refine ih (k + 1) _ (by omega) ?_
    funext j
    by_cases c : j = 131
    · subst c
      rw [mset_at, mrow_at, e, mrow_at]
      funext i
      by_cases ci : i = k
      · subst ci
        rw [upd_at, if_pos (by omega)]
      · rw [upd_ne ci]
        by_cases c2 : i < k
        · rw [if_pos c2, if_pos (by omega)]
        · rw [if_neg c2, if_neg (by omega)]
    · rw [mset_ne c, mrow_ne c, e, mrow_ne c]
theorem C_restore {d l : Nat} {M : Mem} {q : Rw} (hl : l ≤ 4) (h1 : ∀ i, i < 132 → M 137 (132 * l + i) = q i) (h2 : ∀ i, 132 ≤ i → M 131 i = q i) : call (d + 1) 204 [.ref 130, .int (nI l)] M = some (none, mrow M 131 q) := by
  have e : (fun i => if i < 132 then M 137 (132 * l + i) else M 131 i) = q := by
    funext i
    by_cases c : i < 132
    · rw [if_pos c, h1 i c]
    · rw [if_neg c, h2 i (by omega)]
  have e0 : M = mrow M 131 (fun i => if i < 0 then M 137 (132 * l + i) else M 131 i) := by
    funext j
    by_cases c : j = 131
    · subst c
      rw [mrow_at]
      rfl
    · rw [mrow_ne c]
  rw [nX6_restore]
  simp only [sX6_restore_0, sX6_restore_1, sX6_restore_3, sX6_restore_6, sX6_restore_9, sX6_restore_10, sX6_restore_13, sX6_restore_14, sX6_restore_15, sX6_restore_18, sX6_restore_21, sX6_restore_22, sX6_restore_23, sX6_restore_24, sX6_restore_25, sX6_restore_26, sX6_restore_27, sX6_restore_30, sX6_restore_33, opK_some, guK_true, calK_some, rk_nil, rk_int, rk_ref, tl_some, tl_none, nb_int, nb_0, nb_1, nb_if, nb_if']
  have := L_restore (d := d) (M := M) hl 132 0 M (by omega) e0
  rw [e] at this
  exact this
def Tm (l : Nat) (M M' : Mem) : Prop := (∀ j, j ≠ 130 → j ≠ 131 → j ≠ 137 → M' j = M j) ∧ (∀ i, i < 132 * l → M' 137 i = M 137 i) ∧ ∀ j, j ≠ 5 → j ≠ 6 → j ≠ 7 → j ≠ 14 → M' 130 j = M 130 j
theorem Tm.rf {l : Nat} {M : Mem} : Tm l M M := ⟨fun _ _ _ _ => rfl, fun _ _ => rfl, fun _ _ _ _ _ => rfl⟩
theorem Tm.tr {l : Nat} {M M1 M2 : Mem} (h1 : Tm l M M1) (h2 : Tm l M1 M2) : Tm l M M2 := ⟨fun j a b c => (h2.1 j a b c).trans (h1.1 j a b c), fun i a => (h2.2.1 i a).trans (h1.2.1 i a), fun j a b c e => (h2.2.2 j a b c e).trans (h1.2.2 j a b c e)⟩
theorem Tm.mo {l : Nat} {M M1 : Mem} (h : Mo M M1) : Tm l M M1 := ⟨fun j a b _ => h.1 j a b, fun i _ => by rw [h.1 137 (by omega) (by omega)], fun j a b c _ => h.2 j a b c⟩
theorem Tm.le {l l' : Nat} {M M1 : Mem} (h : Tm l M M1) (hl : l' ≤ l) : Tm l' M M1 := ⟨h.1, fun i hi => h.2.1 i (by omega), h.2.2⟩
theorem Tm.sv {l : Nat} {M M1 : Mem} (o : ∀ j, j ≠ 137 → M1 j = M j) (u : ∀ i, i < 132 * l → M1 137 i = M 137 i) : Tm l M M1 := ⟨fun j _ _ c => o j c, u, fun j _ _ _ _ => by rw [o 130 (by omega)]⟩
theorem Tm.ms {l : Nat} {M M1 : Mem} (h : Tm l M M1) (e : M1 131 = M 131) : Ms M M1 := by
  refine ⟨fun k hk => ?_, h.2.2 3 (by omega) (by omega) (by omega) (by omega), h.2.2 17 (by omega) (by omega) (by omega) (by omega)⟩
  by_cases c : k = 131
  · subst c
    exact e
  · exact h.1 k (by omega) c (by omega)

