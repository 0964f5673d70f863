/-! the class's farm lives on -/
theorem day_egg {r : Rw} (w : WR r) {q c : Nat} (hq : q < 12) (hc : c < 3) : dayR r (96 + 3 * q + c) = if readyG (gR r) ∧ q = iN (r 5) % 12 then (if c = 0 then laiD r else if c = 1 then worD r else r 0) else r (96 + 3 * q + c) := by
  have hcs := wr_crs w (Nat.le_refl (nC r))
  have wg := WR_gN w (nC r) (Nat.le_refl _)
  have hg : gR r (96 + 3 * q + c) = r (96 + 3 * q + c) := gN_lo hcs (by omega)
  have hg0 : gR r 0 = r 0 := gN_lo hcs (by omega)
  have hg5 : gR r 5 = r 5 := gN_lo hcs (by omega)
  unfold dayR
  rw [upd_ne (by omega)]
  unfold layR
  by_cases hr : readyG (gR r)
  · have hp := (wr_pos wg).mp hr.1
    have h8 := wr_C wg
    have c1 := (wr_cr wg (i := 0) hp).1
    have en : nC (eggR (gR r) (worG (gR r)) (hlwG (gR r))) = nC (gR r) := by unfold nC; rw [egg_keep (by omega)]
    have ec : cr (eggR (gR r) (worG (gR r)) (hlwG (gR r))) 0 = cr (gR r) 0 := by unfold cr; rw [egg_keep (by omega)]
    rw [if_pos hr, leav_hi (by omega) (by rw [en]; exact hp) (by rw [en]; exact h8.1) (by rw [ec]; exact c1)]
    unfold eggR
    rw [upd_ne (by omega), upd_ne (by omega), hg5]
    have hm : iN (r 5) % 12 < 12 := Nat.mod_lt _ (by omega)
    by_cases e : q = iN (r 5) % 12
    · rw [if_pos ⟨hr, e⟩, ← e]
      rcases (show c = 0 ∨ c = 1 ∨ c = 2 by omega) with rfl | rfl | rfl
      · rw [upd_ne (by omega), upd_ne (by omega), if_pos rfl]
        show upd (gR r) (96 + 3 * q) (gR r 88) (96 + 3 * q) = _
        rw [upd_at]
        unfold laiD laiG
        rw [if_pos hr]
      · rw [upd_ne (by omega), upd_at, if_neg (by omega), if_pos rfl]
        rfl
      · rw [upd_at, if_neg (by omega), if_neg (by omega), hg0]
    · rw [if_neg (fun z => e z.2), upd_ne (by omega), upd_ne (by omega), upd_ne (by omega), hg]
  · rw [if_neg hr, if_neg (fun z => hr z.1), hg]
theorem lai_ready {r : Rw} (w : WR r) : (readyG (gR r) → ∃ t, t < 10 ∧ laiD r = nI t) ∧ (¬ readyG (gR r) → laiD r = -1) := by
  have wg := WR_gN w (nC r) (Nat.le_refl _)
  refine ⟨fun hr => ?_, fun hr => ?_⟩
  · obtain ⟨c1, c2⟩ := wr_cr wg (i := 0) ((wr_pos wg).mp hr.1)
    refine ⟨_, c1, ?_⟩
    unfold laiD laiG
    rw [if_pos hr]
    exact c2
  · unfold laiD laiG
    rw [if_neg hr]
theorem egg_shift {r : Rw} {m : Nat} (w : WX r m) (hm : m + 1 < 2 ^ 31) (hr : readyG (gR r)) {c i : Nat} (hc : c < 3) (hi : i < 12) : egR (dayR r) i c = (if i = 0 then (if c = 0 then laiD r else if c = 1 then worD r else r 0) else egR r (i - 1) c) ∨ iN (r 5) < i := by
  have h1 := w.2.2
  have h2 := w.2.1.1
  have e5 : iN (dayR r 5) = iN (r 5) + 1 := by
    rw [(day_5 w.1).1, if_pos hr, h1.2, nI_1, iN_nI (by have := h1.1; omega), ← h1.2]
  rcases Nat.lt_or_ge (iN (r 5)) i with q | q
  · exact Or.inr q
  · left
    unfold egR
    rw [e5, day_egg w.1 (Nat.mod_lt _ (by omega)) hc]
    by_cases h0 : i = 0
    · subst h0
      rw [if_pos ⟨hr, by omega⟩, if_pos rfl]
    · rw [if_neg (fun z => by have := z.2; omega), if_neg h0, show iN (r 5) + 1 - 1 - i = iN (r 5) - 1 - (i - 1) by omega]
theorem egg_same {r : Rw} (w : WR r) (hr : ¬ readyG (gR r)) {c i : Nat} (hc : c < 3) : egR (dayR r) i c = egR r i c := by
  unfold egR
  rw [(day_5 w).1, if_neg hr, day_egg w (Nat.mod_lt _ (by omega)) hc, if_neg (fun z => hr z.1)]
theorem hlw_no {r : Rw} (hr : ¬ readyG (gR r)) : hlwG (gR r) = 0 := by
  unfold hlwG
  rw [if_neg hr]
theorem hlw_or (g : Rw) : hlwG g = 0 ∨ hlwG g = 1 := by
  unfold hlwG
  by_cases hr : readyG g
  · rw [if_pos hr]
    by_cases hh : holG g
    · rw [if_pos hh]
      exact Or.inr rfl
    · rw [if_neg hh]
      exact Or.inl rfl
  · rw [if_neg hr]
    exact Or.inl rfl
set_option maxHeartbeats 800000 in
theorem C_liveDay {d f m : Nat} {M : Mem} {r : Rw} (hf : isFarm f) (h : FR M f r) (w : WX r m) (hm : m + 1 < 2 ^ 31) : ∃ M', call (d + 4) 26 [.ref f] M = some (some (.int (worD r)), M') ∧ FR M' f (dayR r) ∧ Fo f M M' := by
  have hb := farm_hen hf
  have hf' : f = 100 ∨ f = 110 := hf
  obtain ⟨M1, c1, h1, o1, a12, a13, a14⟩ := C_passDay (d := d + 0) hb h.1 w.1
  rw [show d + 0 + 3 = d + 3 from rfl] at c1
  have ou : ∀ k, (k + 90 < f ∨ f ≤ k + 81) → M1 k = M k := fun k hk => o1 k (by rcases hf' with e | e <;> subst e <;> omega)
  have lo : ∀ k, f ≤ k → M1 k = M k := fun k hk => o1 k (by omega)
  have d0 : dayR r 0 = r 0 + 1 := by unfold dayR; rw [upd_at]
  have dl : ∀ j, j = 7 ∨ (8 ≤ j ∧ j < 18) → dayR r j = r j := fun j hj => day_hi w.1 (by omega)
  rw [nX0_liveDay]
  simp only [sX0_liveDay_0, sX0_liveDay_1, sX0_liveDay_4, sX0_liveDay_7, sX0_liveDay_8, sX0_liveDay_9, sX0_liveDay_12, sX0_liveDay_15, sX0_liveDay_18, sX0_liveDay_19, sX0_liveDay_23, sX0_liveDay_23_i, sX0_liveDay_24, sX0_liveDay_27, sX0_liveDay_28, sX0_liveDay_29, sX0_liveDay_32, sX0_liveDay_33, opK_some, guK_true, calK_some, rk_nil, rk_int, rk_ref, tl_some, tl_none, nb_int, nb_0, nb_1, nb_if, nb_if', fs_0 hf, hen_c hb, farm_c hf, c1, hs_12 hb, a12]
  have fin : ∀ M2 : Mem, HR M2 (f - 90) (dayR r) → (M2 f 1 = r 0 ∧ M2 f 2 = r 7 ∧ M2 f 3 = dayR r 5 ∧ M2 f 4 = dayR r 6) → (∀ c, c < 3 → ∀ i, i < 12 → i < iN (dayR r 5) → M2 (f + 1 + c) i = egR (dayR r) i c) → (∀ s, s < 10 → M2 (f + 4) s = r (8 + s)) → Fo f M M2 → ∃ M', lim (call (d + 3)) none 0 cX0_liveDay (some .int) 22 [some (.ref f), some (.int (worD r))] [] M2 = some (some (.int (worD r)), M') ∧ FR M' f (dayR r) ∧ Fo f M M' := by
    intro M2 k1 k2 k3 k4 k5
    rw [sX0_liveDay_22]
    simp only [sX0_liveDay_0, sX0_liveDay_1, sX0_liveDay_4, sX0_liveDay_7, sX0_liveDay_8, sX0_liveDay_9, sX0_liveDay_12, sX0_liveDay_15, sX0_liveDay_18, sX0_liveDay_19, sX0_liveDay_23, sX0_liveDay_23_i, sX0_liveDay_24, sX0_liveDay_27, sX0_liveDay_28, sX0_liveDay_29, sX0_liveDay_32, sX0_liveDay_33, opK_some, guK_true, calK_some, rk_nil, rk_int, rk_ref, tl_some, tl_none, nb_int, nb_0, nb_1, nb_if, nb_if', fs_1 hf, fi_1 hf, k2.1]
    refine ⟨_, rfl, ⟨HR_ou k1 (fun k _ _ => mset_ne (by omega)), ?_, fun c hc i hi hn => ?_, fun s hs => ?_⟩, fun k g1 g2 => ?_⟩
    · rw [mset_at, upd_at, upd_ne (by omega), upd_ne (by omega), upd_ne (by omega), d0, dl 7 (Or.inl rfl)]
      exact ⟨rfl, k2.2⟩
    · rw [mset_ne (by omega)]
      exact k3 c hc i hi hn
    · rw [mset_ne (by omega), dl (8 + s) (by omega)]
      exact k4 s hs
    · rw [mset_ne (by omega)]
      exact k5 k g1 g2
  obtain ⟨l1, l2⟩ := lai_ready w.1
  by_cases hr : readyG (gR r)
  · obtain ⟨t, ht, et⟩ := l1 hr
    obtain ⟨M2, c2, ⟨b1, b2, b3, b4⟩, b5, b6, b7, b8⟩ := C_keepEgg (d := d + 2) (M := M1) hf
    rw [show d + 2 + 1 = d + 3 from rfl] at c2
    have e5 : iN (dayR r 5) = iN (r 5) + 1 := by
      have h1' := w.2.2
      have h2' := w.2.1.1
      rw [(day_5 w.1).1, if_pos hr, h1'.2, nI_1, iN_nI (by have := h1'.1; omega), ← h1'.2]
    simp only [et]
    rw [if_neg (nI_pos (by omega)), c2]
    simp only [sX0_liveDay_0, sX0_liveDay_1, sX0_liveDay_4, sX0_liveDay_7, sX0_liveDay_8, sX0_liveDay_9, sX0_liveDay_12, sX0_liveDay_15, sX0_liveDay_18, sX0_liveDay_19, sX0_liveDay_23, sX0_liveDay_23_i, sX0_liveDay_24, sX0_liveDay_27, sX0_liveDay_28, sX0_liveDay_29, sX0_liveDay_32, sX0_liveDay_33, opK_some, guK_true, calK_some, rk_nil, rk_int, rk_ref, tl_some, tl_none, nb_int, nb_0, nb_1, nb_if, nb_if']
    refine fin M2 (HR_ou h1 (fun k g1 g2 => b8 k (by omega) (by omega) (by omega) (by omega))) ⟨?_, ?_, ?_, ?_⟩ ?_ (fun s hs => ?_) (fun k g1 g2 => ?_)
    · rw [b1, lo f (Nat.le_refl _)]
      exact h.2.1.1
    · rw [b2, lo f (Nat.le_refl _)]
      exact h.2.1.2.1
    · rw [b3, lo f (Nat.le_refl _), h.2.1.2.2.1, (day_5 w.1).1, if_pos hr]
    · rw [b4, lo f (Nat.le_refl _), h.2.1.2.2.2, (day_5 w.1).2, a14]
      rcases hlw_or (gR r) with q | q
      · rw [q, if_pos rfl, Int32.add_zero]
      · rw [q, if_neg (by decide)]
    · intro c hc i hi hn
      have hs := egg_shift w hm hr hc hi
      have es : ∀ v, shE (M1 (f + 1 + c)) v i = if i = 0 then v else M1 (f + 1 + c) (i - 1) := fun _ => rfl
      have old : i ≠ 0 → M1 (f + 1 + c) (i - 1) = egR r (i - 1) c := by
        intro h0
        rw [lo _ (by omega)]
        exact h.2.2.1 c hc (i - 1) (by omega) (by omega)
      have main : ∀ v, v = (if c = 0 then laiD r else if c = 1 then worD r else r 0) → M2 (f + 1 + c) i = shE (M1 (f + 1 + c)) v i → M2 (f + 1 + c) i = egR (dayR r) i c := by
        intro v hv hM
        rw [hM, es v]
        rcases hs with hs | hs
        · rw [hs, hv]
          by_cases h0 : i = 0
          · rw [if_pos h0, if_pos h0]
          · rw [if_neg h0, if_neg h0, old h0]
        · exact absurd hn (by omega)
      rcases (show c = 0 ∨ c = 1 ∨ c = 2 by omega) with rfl | rfl | rfl
      · exact main (laiD r) rfl (by rw [← a12]; exact b5 i hi)
      · exact main (worD r) rfl (by rw [← a13]; exact b6 i hi)
      · refine main (r 0) rfl ?_
        have : M1 f 1 = r 0 := by rw [lo f (Nat.le_refl _)]; exact h.2.1.1
        rw [← this]
        exact b7 i hi
    · rw [b8 _ (by omega) (by omega) (by omega) (by omega), lo _ (by omega)]
      exact h.2.2.2 s hs
    · rw [b8 k (by omega) (by omega) (by omega) (by omega)]
      exact ou k g1
  · rw [l2 hr, if_pos (by decide)]
    refine fin M1 h1 ⟨?_, ?_, ?_, ?_⟩ ?_ (fun s hs => ?_) (fun k g1 _ => ou k g1)
    · rw [lo f (Nat.le_refl _)]
      exact h.2.1.1
    · rw [lo f (Nat.le_refl _)]
      exact h.2.1.2.1
    · rw [lo f (Nat.le_refl _), h.2.1.2.2.1, (day_5 w.1).1, if_neg hr]
    · rw [lo f (Nat.le_refl _), h.2.1.2.2.2, (day_5 w.1).2, hlw_no hr, Int32.add_zero]
    · intro c hc i hi hn
      rw [egg_same w.1 hr hc, lo _ (by omega)]
      rw [(day_5 w.1).1, if_neg hr] at hn
      exact h.2.2.1 c hc i hi hn
    · rw [lo _ (by omega)]
      exact h.2.2.2 s hs

