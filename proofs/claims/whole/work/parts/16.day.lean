/-! a day of the class's hen -/
theorem gN_keep {r : Rw} {j : Nat} (hj : ¬ (18 ≤ j ∧ j < 88 ∧ ((j - 18) % 7 = 5 ∨ (j - 18) % 7 = 6))) : ∀ i, (∀ k, k < i → cr r k < 10) → gN r i j = r j := by
  intro i
  induction i with
  | zero => intro _; rfl
  | succ i ih =>
    intro hc
    have h1 := hc i (by omega)
    show upd (upd (gN r i) (at9 (cr r i) 5) _) (at9 (cr r i) 6) _ j = r j
    rw [upd_ne (by unfold at9; omega), upd_ne (by unfold at9; omega)]
    exact ih (fun k hk => hc k (by omega))
theorem gN_f {r : Rw} {i t f : Nat} (hc : ∀ k, k < i → cr r k < 10) (ht : t < 10) (hf : f < 5) : gN r i (at9 t f) = r (at9 t f) := gN_keep (by unfold at9; omega) i hc
theorem gN_lo {r : Rw} {i j : Nat} (hc : ∀ k, k < i → cr r k < 10) (hj : j < 18 ∨ 88 ≤ j) : gN r i j = r j := gN_keep (by omega) i hc
theorem gN_nC {r : Rw} {i : Nat} (hc : ∀ k, k < i → cr r k < 10) : nC (gN r i) = nC r := by unfold nC; rw [gN_lo hc (by omega)]
theorem gN_cr {r : Rw} {i k : Nat} (hc : ∀ k, k < i → cr r k < 10) : cr (gN r i) k = cr r k := by unfold cr; rw [gN_lo hc (by omega)]
theorem wr_crs {r : Rw} (w : WR r) {i : Nat} (hi : i ≤ nC r) : ∀ k, k < i → cr r k < 10 := fun k hk => (wr_cr w (i := k) (by omega)).1
theorem saR_gN {r : Rw} {i : Nat} {x : Int32} (hc : ∀ k, k < i → cr r k < 10) (w : WR r) : saR (gN r i) x = saR r x := by
  unfold saR
  rw [gN_lo hc (by omega), gN_cr hc]
  by_cases h : 0 ≤ x ∧ x < r 4
  · rw [if_pos h, if_pos h]
    obtain ⟨j, hj, rfl⟩ := nI_of (Int32.not_lt.mpr h.1)
    have h8 := wr_C w
    have h2 := h.2
    rw [h8.2] at h2
    rw [iN_nI hj]
    rw [gN_f hc (wr_cr w (i := j) ((nI_ltI hj (by omega)).mp h2)).1 (by omega)]
  · rw [if_neg h, if_neg h]
theorem stK_le : ∀ k, k ≤ 6 → ∃ s, s ≤ 4 ∧ stK (nI k) = nI s := by
  intro k hk
  rcases (show k = 0 ∨ k = 1 ∨ k = 2 ∨ k = 3 ∨ k = 4 ∨ k = 5 ∨ k = 6 by omega) with rfl | rfl | rfl | rfl | rfl | rfl | rfl
  · exact ⟨1, by omega, by decide⟩
  · exact ⟨0, by omega, by decide⟩
  · exact ⟨2, by omega, by decide⟩
  · exact ⟨1, by omega, by decide⟩
  · exact ⟨1, by omega, by decide⟩
  · exact ⟨2, by omega, by decide⟩
  · exact ⟨4, by omega, by decide⟩
theorem saR_le {r : Rw} (w : WR r) (x : Int32) : ∃ s, s ≤ 4 ∧ saR r x = nI s := by
  unfold saR
  by_cases h : 0 ≤ x ∧ x < r 4
  · rw [if_pos h]
    obtain ⟨j, hj, rfl⟩ := nI_of (Int32.not_lt.mpr h.1)
    have h8 := wr_C w
    have h2 := h.2
    rw [h8.2] at h2
    rw [iN_nI hj]
    have hk := (w.2.2.2 _ (wr_cr w (i := j) ((nI_ltI hj (by omega)).mp h2)).1).1
    rw [hk.2]
    exact stK_le _ hk.1
  · rw [if_neg h]
    exact ⟨0, by omega, nI_0.symm⟩
theorem mn99_nI {j : Nat} (h : j < 1000) : ∃ s, s ≤ 99 ∧ mn99 (nI j) = nI s := by
  unfold mn99
  by_cases h1 : nI j < 99
  · rw [if_pos h1]
    refine ⟨j, ?_, rfl⟩
    rcases Nat.lt_or_ge j 100 with q | q
    · omega
    · exact absurd h1 (Int32.not_lt.mpr (nI_le (a := 99) (by omega) (by omega)))
  · rw [if_neg h1]
    exact ⟨99, by omega, rfl⟩
theorem WR_gN {r : Rw} (w : WR r) : ∀ i, i ≤ nC r → WR (gN r i) := by
  intro i
  induction i with
  | zero => intro _; exact w
  | succ i ih =>
    intro hi
    have hc := wr_crs w hi
    have hc' := wr_crs w (show i ≤ nC r by omega)
    have wi := ih (by omega)
    refine ⟨by rw [gN_lo hc (by omega)]; exact w.1, by rw [gN_lo hc (by omega)]; exact w.2.1, fun k hk => ?_, fun t ht => ?_⟩
    · rw [gN_nC hc] at hk
      rw [gN_lo hc (by omega)]
      exact w.2.2.1 k hk
    · rw [gN_f hc ht (by omega), gN_f hc ht (by omega), gN_f hc ht (by omega), gN_f hc ht (by omega)]
      obtain ⟨a0, a1, a2, a3, a4⟩ := w.2.2.2 t ht
      refine ⟨a0, a1, a2, a3, ?_⟩
      show rg (upd (upd (gN r i) (at9 (cr r i) 5) _) (at9 (cr r i) 6) (mn99 (gN r i (at9 (cr r i) 6) + saR r (nI i - 1) + saR r (nI (i + 1)))) (at9 t 6)) 99
      have hci := hc i (by omega)
      by_cases e : t = cr r i
      · subst e
        rw [upd_at]
        have h6 := (wi.2.2.2 _ ht).2.2.2.2
        obtain ⟨s1, g1, e1⟩ := saR_le w (nI i - 1)
        obtain ⟨s2, g2, e2⟩ := saR_le w (nI (i + 1))
        rw [h6.2, e1, e2, nI_add, nI_add]
        obtain ⟨s, g, e3⟩ := mn99_nI (j := iN (gN r i (at9 (cr r i) 6)) + s1 + s2) (by have := h6.1; omega)
        rw [e3]
        exact rg_nI g (by omega)
      · rw [upd_ne (fun z => e (at9_inj (by omega) (by omega) z).1), upd_ne (fun z => by have := (at9_inj (by omega) (by omega) z).2; omega)]
        exact (wi.2.2.2 t ht).2.2.2.2
theorem nC_5 {q : Rw} {t : Nat} {v : Int32} : nC (upd q (at9 t 5) v) = nC q := by unfold nC; rw [upd_ne (by unfold at9; omega)]
theorem cr_5 {q : Rw} {t k : Nat} {v : Int32} (ht : t < 10) : cr (upd q (at9 t 5) v) k = cr q k := by unfold cr; rw [upd_ne (by unfold at9; omega)]
theorem at_5 {q : Rw} {t t' f : Nat} {v : Int32} (hf : f < 7) (h5 : f ≠ 5) : upd q (at9 t 5) v (at9 t' f) = q (at9 t' f) := upd_ne (fun z => h5 (at9_inj hf (by omega) z).2)
theorem WR_5 {q : Rw} {t : Nat} {v : Int32} (w : WR q) (ht : t < 10) : WR (upd q (at9 t 5) v) := by
  refine ⟨by rw [upd_ne (by unfold at9; omega)]; exact w.1, by rw [upd_ne (by unfold at9; omega)]; exact w.2.1, fun k hk => ?_, fun t' ht' => ?_⟩
  · rw [nC_5] at hk
    rw [upd_ne (by unfold at9; omega)]
    exact w.2.2.1 k hk
  · rw [at_5 (by omega) (by omega), at_5 (by omega) (by omega), at_5 (by omega) (by omega), at_5 (by omega) (by omega), at_5 (by omega) (by omega)]
    exact w.2.2.2 t' ht'
theorem saR_5 {q : Rw} {t : Nat} {v x : Int32} (ht : t < 10) : saR (upd q (at9 t 5) v) x = saR q x := by
  unfold saR
  rw [upd_ne (by unfold at9; omega), cr_5 ht, at_5 (by omega) (by omega)]
theorem mn99_fold {x : Int32} : (if x < 99 then x else 99) = mn99 x := rfl
theorem mx0_fold {x : Int32} : (if 0 < x then x else 0) = mx0 x := rfl
theorem gN_succ {r : Rw} {i : Nat} : gN r (i + 1) = upd (upd (gN r i) (at9 (cr r i) 5) (gN r i (at9 (cr r i) 5) + 1)) (at9 (cr r i) 6) (mn99 (gN r i (at9 (cr r i) 6) + saR r (nI i - 1) + saR r (nI (i + 1)))) := rfl
set_option maxHeartbeats 400000 in
theorem L_grow {d b : Nat} {M : Mem} {r : Rw} (hb : isHen b) (w : WR r) : ∀ (n i : Nat) (M1 : Mem) (v : Option Value), i + n = nC r → HR M1 b (gN r i) → Ou b M M1 →
    ∃ M', lim (call (d + 1)) none 1 cX1_grow none 2 [some (.ref b), some (.int (nI i)), v] [] M1 = some (none, M') ∧ HR M' b (gN r (nC r)) ∧ Ou b M M' := by
  have h8 := wr_C w
  intro n
  induction n with
  | zero =>
    intro i M1 v hi h ho
    have hc := wr_crs w (show i ≤ nC r by omega)
    have e4 : M1 b 9 = nI (nC r) := by rw [h.1.2.1, gN_lo hc (by omega)]; exact h8.2
    rw [sX1_grow_2]
    simp only [sX1_grow_0, sX1_grow_1, sX1_grow_3, sX1_grow_4, sX1_grow_7, sX1_grow_10, sX1_grow_11, sX1_grow_14, sX1_grow_15, sX1_grow_16, sX1_grow_17, sX1_grow_18, sX1_grow_21, sX1_grow_22, sX1_grow_23, sX1_grow_24, sX1_grow_25, sX1_grow_26, sX1_grow_27, sX1_grow_28, sX1_grow_31, sX1_grow_32, sX1_grow_34, sX1_grow_35, sX1_grow_38, sX1_grow_39, sX1_grow_40, sX1_grow_41, sX1_grow_42, sX1_grow_43, sX1_grow_44, sX1_grow_47, sX1_grow_48, sX1_grow_49, sX1_grow_50, sX1_grow_51, sX1_grow_52, sX1_grow_55, sX1_grow_56, sX1_grow_59, sX1_grow_60, sX1_grow_63, sX1_grow_66, opK_some, guK_true, calK_some, rk_nil, rk_int, rk_ref, tl_some, tl_none, nb_int, nb_0, nb_1, nb_if, nb_if', hs_9 hb, e4]
    rw [if_pos (nI_le (by omega) (by omega))]
    rw [show i = nC r by omega] at h
    exact ⟨M1, rfl, h, ho⟩
  | succ n ih =>
    intro i M1 v hi h ho
    have hc := wr_crs w (show i ≤ nC r by omega)
    have wi := WR_gN w i (by omega)
    have e4 : M1 b 9 = nI (nC r) := by rw [h.1.2.1, gN_lo hc (by omega)]; exact h8.2
    obtain ⟨c1, c2⟩ := wr_cr w (i := i) (by omega)
    have ec : M1 (b + 8) i = nI (cr r i) := by rw [h.2.2 i (by rw [gN_nC hc]; omega), gN_lo hc (by omega)]; exact c2
    rw [sX1_grow_2]
    have e6 : M1 (b + 6) (cr r i) = gN r i (at9 (cr r i) 5) := h.2.1 5 (by omega) _ c1
    have h2 := HR_cell (v := gN r i (at9 (cr r i) 5) + 1) h (show 5 < 7 by omega) c1
    have e7 : mset M1 (b + 6) (cr r i) (gN r i (at9 (cr r i) 5) + 1) (b + 7) (cr r i) = gN r i (at9 (cr r i) 6) := by rw [mset_ne (by omega)]; exact h.2.1 6 (by omega) _ c1
    have hsa : ∀ x, call (d + 1) 29 [.ref b, .int x] (mset M1 (b + 6) (cr r i) (gN r i (at9 (cr r i) 5) + 1)) = some (some (.int (saR r x)), mset M1 (b + 6) (cr r i) (gN r i (at9 (cr r i) 5) + 1)) := by
      intro x
      rw [C_stainsAt hb h2 (WR_5 wi c1), saR_5 c1, saR_gN hc w]
    simp only [sX1_grow_0, sX1_grow_1, sX1_grow_3, sX1_grow_4, sX1_grow_7, sX1_grow_10, sX1_grow_11, sX1_grow_14, sX1_grow_15, sX1_grow_16, sX1_grow_17, sX1_grow_18, sX1_grow_21, sX1_grow_22, sX1_grow_23, sX1_grow_24, sX1_grow_25, sX1_grow_26, sX1_grow_27, sX1_grow_28, sX1_grow_31, sX1_grow_32, sX1_grow_34, sX1_grow_35, sX1_grow_38, sX1_grow_39, sX1_grow_40, sX1_grow_41, sX1_grow_42, sX1_grow_43, sX1_grow_44, sX1_grow_47, sX1_grow_48, sX1_grow_49, sX1_grow_50, sX1_grow_51, sX1_grow_52, sX1_grow_55, sX1_grow_56, sX1_grow_59, sX1_grow_60, sX1_grow_63, sX1_grow_66, opK_some, guK_true, calK_some, rk_nil, rk_int, rk_ref, tl_some, tl_none, nb_int, nb_0, nb_1, nb_if, nb_if', hen_c hb, hs_9 hb, hs_8 hb, hs_6 hb, hs_7 hb, ha_8 hb, ha_6 hb, ha_7 hb, hn_6 hb, hn_7 hb, e4, nI_clamp (show i < 2 ^ 31 by omega), inb_nI (show i < 8 by omega) (by omega), ec, inb_nI c1 (by omega), nI_clamp (show cr r i < 2 ^ 31 by omega), e6, hsa, e7, mn99_fold, nI_1]
    rw [if_neg (nI_ge (by omega) (by omega))]
    refine ih (i + 1) _ _ (by omega) ?_ ((ho.tr (Ou.set (j := 6) (by omega))).tr (Ou.set (j := 7) (by omega)))
    rw [gN_succ]
    exact HR_cell h2 (show 6 < 7 by omega) c1

theorem C_grow {d b : Nat} {M : Mem} {r : Rw} (hb : isHen b) (h : HR M b r) (w : WR r) : ∃ M', call (d + 2) 28 [.ref b] M = some (none, M') ∧ HR M' b (gN r (nC r)) ∧ Ou b M M' := by
  rw [nX1_grow]
  simp only [sX1_grow_0, sX1_grow_1, sX1_grow_3, sX1_grow_4, sX1_grow_7, sX1_grow_10, sX1_grow_11, sX1_grow_14, sX1_grow_15, sX1_grow_16, sX1_grow_17, sX1_grow_18, sX1_grow_21, sX1_grow_22, sX1_grow_23, sX1_grow_24, sX1_grow_25, sX1_grow_26, sX1_grow_27, sX1_grow_28, sX1_grow_31, sX1_grow_32, sX1_grow_34, sX1_grow_35, sX1_grow_38, sX1_grow_39, sX1_grow_40, sX1_grow_41, sX1_grow_42, sX1_grow_43, sX1_grow_44, sX1_grow_47, sX1_grow_48, sX1_grow_49, sX1_grow_50, sX1_grow_51, sX1_grow_52, sX1_grow_55, sX1_grow_56, sX1_grow_59, sX1_grow_60, sX1_grow_63, sX1_grow_66, opK_some, guK_true, calK_some, rk_nil, rk_int, rk_ref, tl_some, tl_none, nb_int, nb_0, nb_1, nb_if, nb_if']
  rw [← nI_0]
  exact L_grow hb w (nC r) 0 M none (by omega) h Ou.rf
