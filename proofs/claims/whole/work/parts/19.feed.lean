theorem upd_comm {f : Nat → Int32} {k j : Nat} {x y : Int32} (h : k ≠ j) : upd (upd f k x) j y = upd (upd f j y) k x := by
  funext i
  unfold upd
  by_cases a : i = j
  · rw [if_pos a, if_neg (by omega), if_pos a]
  · rw [if_neg a]
    by_cases c : i = k
    · rw [if_pos c, if_pos c]
    · rw [if_neg c, if_neg c, if_neg a]
theorem bec_upd {q : Rw} {t k : Nat} {x v : Int32} (ht : t < 10) (hk : k < 18 ∨ 88 ≤ k) : becR (upd q k v) t x = upd (becR q t x) k v := by
  unfold becR at9
  rw [upd_comm (k := k) (j := 18 + 7 * t + 4) (by omega), upd_comm (k := k) (j := 18 + 7 * t + 5) (by omega), upd_comm (k := k) (j := 18 + 7 * t + 6) (by omega)]
theorem feed_q {r : Rw} {t : Nat} (ht : t < 10) : becR (upd (upd r (88 + nC r) (nI t)) 4 (r 4 + 1)) t 1 = feedR r t := by
  rw [bec_upd ht (by omega), bec_upd ht (by omega)]
  rfl
theorem HR_in {b n : Nat} {M : Mem} {r : Rw} {v : Int32} (h : HR M b r) (w : WR r) (hn : n = nC r) (h8 : n < 8) : HR (mset (mset M (b + 8) n v) b 9 (r 4 + 1)) b (upd (upd r (88 + n) v) 4 (r 4 + 1)) := by
  have h9 := wr_C w
  have e4 : r 4 + 1 = nI (n + 1) := by rw [h9.2, hn]; exact nI_1 _
  have en : nC (upd (upd r (88 + n) v) 4 (r 4 + 1)) = n + 1 := by unfold nC; rw [upd_at, e4]; exact iN_nI (by omega)
  refine ⟨?_, fun f hf t ht => ?_, fun i hi => ?_⟩
  · rw [mset_at, upd_ne (by omega), upd_at, upd_ne (by omega), upd_ne (by omega), upd_at, mset_ne (by omega), upd_ne (by omega), upd_ne (by omega), upd_ne (by omega), upd_ne (by omega), upd_ne (by omega), upd_ne (by omega)]
    exact ⟨h.1.1, rfl, h.1.2.2⟩
  · have h1 := at9_lt ht hf
    have h2 := at9_ge t f
    rw [mset_ne (by omega), mset_ne (by omega), upd_ne (by omega), upd_ne (by omega)]
    exact h.2.1 f hf t ht
  · rw [en] at hi
    rw [mset_ne (by omega), mset_at, upd_ne (k := 4) (by omega)]
    by_cases e : i = n
    · subst e
      rw [upd_at, upd_at]
    · rw [upd_ne e, upd_ne (by omega)]
      exact h.2.2 i (by omega)
theorem wr_lt8 {r : Rw} (w : WR r) : r 4 < 8 ↔ nC r < 8 := by
  have h8 := wr_C w
  rw [h8.2]
  exact nI_ltI (a := nC r) (b := 8) (by omega) (by omega)
theorem C_swallow {d b t : Nat} {M : Mem} {r : Rw} (hb : isHen b) (h : HR M b r) (w : WR r) (ht : t < 10) (h8 : r 4 < 8) : ∃ M', call (d + 2) 17 [.ref b, .int (nI t)] M = some (none, M') ∧ HR M' b (feedR r t) ∧ Ou b M M' := by
  have hn := (wr_lt8 w).mp h8
  have h9 := wr_C w
  have h1 := HR_in (v := nI t) h w rfl hn
  obtain ⟨M2, c2, h2, o2, _, _⟩ := C_putAside (d := d + 0) (x := 1) hb h1 ht
  rw [show d + 0 + 1 = d + 1 from rfl] at c2
  have e9 : M b 9 = nI (nC r) := h.1.2.1.trans h9.2
  have e98 : mset M (b + 8) (nC r) (nI t) b 9 = r 4 := by rw [mset_ne (by omega)]; exact h.1.2.1
  rw [nX1_swallow]
  simp only [sX1_swallow_0, sX1_swallow_1, sX1_swallow_4, sX1_swallow_6, sX1_swallow_9, sX1_swallow_10, sX1_swallow_11, sX1_swallow_14, sX1_swallow_15, sX1_swallow_18, sX1_swallow_19, sX1_swallow_20, sX1_swallow_21, sX1_swallow_21_i, sX1_swallow_22, sX1_swallow_25, sX1_swallow_26, sX1_swallow_27, sX1_swallow_30, sX1_swallow_31, sX1_swallow_32, sX1_swallow_33, sX1_swallow_36, opK_some, guK_true, calK_some, rk_nil, rk_int, rk_ref, tl_some, tl_none, nb_int, nb_0, nb_1, nb_if, nb_if', hs_9 hb, hs_8 hb, hi_9 hb, hn_8 hb, hen_c hb, e9, e98, inb_nI hn (by omega), nI_clamp (show nC r < 2 ^ 31 by omega), c2]
  rw [if_pos (show nI (nC r) < 8 from nI_lt (b := 8) (by omega) (by omega))]
  rw [feed_q ht] at h2
  exact ⟨M2, rfl, h2, (Ou.set (j := 8) (by omega)).tr (Ou.set0.tr o2)⟩
theorem WR_feed {r : Rw} {t : Nat} (w : WR r) (ht : t < 10) (h8 : r 4 < 8) : WR (feedR r t) ∧ nC (feedR r t) = nC r + 1 := by
  have hn := (wr_lt8 w).mp h8
  have h9 := wr_C w
  have e4 : r 4 + 1 = nI (nC r + 1) := by rw [h9.2]; exact nI_1 _
  have en : nC (feedR r t) = nC r + 1 := by unfold nC feedR; rw [upd_at, e4]; exact iN_nI (by omega)
  refine ⟨⟨?_, ?_, fun k hk => ?_, fun t' ht' => ?_⟩, en⟩
  · unfold feedR
    rw [upd_ne (by omega), upd_ne (by omega), bec_ne (by omega) ht]
    exact w.1
  · unfold feedR
    rw [upd_at, e4]
    exact rg_nI (by omega) (by omega)
  · rw [en] at hk
    unfold feedR
    rw [upd_ne (by omega)]
    by_cases e : k = nC r
    · subst e
      rw [upd_at]
      exact rg_nI (by omega) (by omega)
    · rw [upd_ne (by omega), bec_ne (by omega) ht]
      exact w.2.2.1 k (by omega)
  · have hx : ∀ f, f < 7 → feedR r t (at9 t' f) = becR r t 1 (at9 t' f) := by
      intro f hf
      have := at9_lt ht' hf
      have := at9_ge t' f
      unfold feedR
      rw [upd_ne (by omega), upd_ne (by omega)]
    rw [hx 0 (by omega), hx 1 (by omega), hx 2 (by omega), hx 3 (by omega), hx 6 (by omega)]
    exact WR_bec4 w t' ht'
/-- one comes -/
def comR (r : Rw) (k bk wo ow : Int32) : Rw := upd (becR (upd (upd (upd (upd r (at9 (nT r) 0) k) (at9 (nT r) 1) bk) (at9 (nT r) 2) wo) (at9 (nT r) 3) ow) (nT r) 0) 3 (r 3 + 1)
theorem HR_3 {b : Nat} {M : Mem} {q : Rw} {v : Int32} (h : HR M b q) : HR (mset M b 0 v) b (upd q 3 v) := by
  have hn : nC (upd q 3 v) = nC q := by unfold nC; rw [upd_ne (by omega)]
  refine ⟨?_, fun f hf t ht => ?_, fun i hi => ?_⟩
  · rw [mset_at, upd_at, upd_at, upd_ne (by omega), upd_ne (by omega), upd_ne (by omega), upd_ne (by omega), upd_ne (by omega), upd_ne (by omega)]
    exact ⟨rfl, h.1.2⟩
  · have h2 := at9_ge t f
    rw [mset_ne (by omega), upd_ne (by omega)]
    exact h.2.1 f hf t ht
  · rw [hn] at hi
    rw [mset_ne (by omega), upd_ne (by omega)]
    exact h.2.2 i hi
theorem wr_lt10 {r : Rw} (w : WR r) : r 3 < 10 ↔ nT r < 10 := by
  have h8 := wr_T w
  rw [h8.2]
  exact nI_ltI (a := nT r) (b := 10) (by omega) (by omega)
theorem C_addThing {d b : Nat} {M : Mem} {r : Rw} {k : Int32} (hb : isHen b) (h : HR M b r) (w : WR r) : (10 ≤ r 3 → call (d + 2) 3 [.ref b, .int k] M = some (some (.int (-1)), M)) ∧ (r 3 < 10 → ∃ M', call (d + 2) 3 [.ref b, .int k] M = some (some (.int (r 3)), M') ∧ HR M' b (comR r k 2 10 0) ∧ Ou b M M') := by
  refine ⟨fun h1 => ?_, fun h1 => ?_⟩
  · rw [nX1_addThing]
    simp only [sX1_addThing_0, sX1_addThing_1, sX1_addThing_4, sX1_addThing_6, sX1_addThing_9, sX1_addThing_10, sX1_addThing_11, sX1_addThing_12, sX1_addThing_15, sX1_addThing_16, sX1_addThing_17, sX1_addThing_20, sX1_addThing_21, sX1_addThing_22, sX1_addThing_23, sX1_addThing_24, sX1_addThing_27, sX1_addThing_28, sX1_addThing_29, sX1_addThing_30, sX1_addThing_31, sX1_addThing_34, sX1_addThing_35, sX1_addThing_37, sX1_addThing_38, sX1_addThing_39, sX1_addThing_42, sX1_addThing_43, sX1_addThing_44, sX1_addThing_45, sX1_addThing_46, sX1_addThing_47, sX1_addThing_48, sX1_addThing_51, sX1_addThing_52, sX1_addThing_52_i, sX1_addThing_53, sX1_addThing_56, sX1_addThing_57, sX1_addThing_58, sX1_addThing_61, sX1_addThing_62, opK_some, guK_true, calK_some, rk_nil, rk_int, rk_ref, tl_some, tl_none, nb_int, nb_0, nb_1, nb_if, nb_if', hs_0 hb, h.1.1]
    rw [if_neg (Int32.not_lt.mpr h1)]
  · have hn := (wr_lt10 w).mp h1
    have h9 := wr_T w
    have h4 := HR_cell (v := 0) (HR_cell (v := 10) (HR_cell (v := 2) (HR_cell (v := k) h (show 0 < 7 by omega) hn) (show 1 < 7 by omega) hn) (show 2 < 7 by omega) hn) (show 3 < 7 by omega) hn
    obtain ⟨M2, c2, h2, o2, o3, _⟩ := C_putAside (d := d + 0) (x := 0) hb h4 hn
    rw [show d + 0 + 1 = d + 1 from rfl] at c2
    have e0 : M b 0 = nI (nT r) := h.1.1.trans h9.2
    have e2 : M2 b 0 = r 3 := by rw [o3, mset_ne (by omega), mset_ne (by omega), mset_ne (by omega), mset_ne (by omega)]; exact h.1.1
    rw [nX1_addThing]
    simp only [sX1_addThing_0, sX1_addThing_1, sX1_addThing_4, sX1_addThing_6, sX1_addThing_9, sX1_addThing_10, sX1_addThing_11, sX1_addThing_12, sX1_addThing_15, sX1_addThing_16, sX1_addThing_17, sX1_addThing_20, sX1_addThing_21, sX1_addThing_22, sX1_addThing_23, sX1_addThing_24, sX1_addThing_27, sX1_addThing_28, sX1_addThing_29, sX1_addThing_30, sX1_addThing_31, sX1_addThing_34, sX1_addThing_35, sX1_addThing_37, sX1_addThing_38, sX1_addThing_39, sX1_addThing_42, sX1_addThing_43, sX1_addThing_44, sX1_addThing_45, sX1_addThing_46, sX1_addThing_47, sX1_addThing_48, sX1_addThing_51, sX1_addThing_52, sX1_addThing_52_i, sX1_addThing_53, sX1_addThing_56, sX1_addThing_57, sX1_addThing_58, sX1_addThing_61, sX1_addThing_62, opK_some, guK_true, calK_some, rk_nil, rk_int, rk_ref, tl_some, tl_none, nb_int, nb_0, nb_1, nb_if, nb_if', hs_0 hb, hs_1 hb, hs_2 hb, hs_3 hb, hs_4 hb, hn_1 hb, hn_2 hb, hn_3 hb, hn_4 hb, hi_0 hb, hen_c hb, e0, inb_nI hn (by omega), nI_clamp (show nT r < 2 ^ 31 by omega)]
    rw [if_pos (show nI (nT r) < 10 from nI_lt (b := 10) (by omega) (by omega)), c2]
    simp only [sX1_addThing_0, sX1_addThing_1, sX1_addThing_4, sX1_addThing_6, sX1_addThing_9, sX1_addThing_10, sX1_addThing_11, sX1_addThing_12, sX1_addThing_15, sX1_addThing_16, sX1_addThing_17, sX1_addThing_20, sX1_addThing_21, sX1_addThing_22, sX1_addThing_23, sX1_addThing_24, sX1_addThing_27, sX1_addThing_28, sX1_addThing_29, sX1_addThing_30, sX1_addThing_31, sX1_addThing_34, sX1_addThing_35, sX1_addThing_37, sX1_addThing_38, sX1_addThing_39, sX1_addThing_42, sX1_addThing_43, sX1_addThing_44, sX1_addThing_45, sX1_addThing_46, sX1_addThing_47, sX1_addThing_48, sX1_addThing_51, sX1_addThing_52, sX1_addThing_52_i, sX1_addThing_53, sX1_addThing_56, sX1_addThing_57, sX1_addThing_58, sX1_addThing_61, sX1_addThing_62, opK_some, guK_true, calK_some, rk_nil, rk_int, rk_ref, tl_some, tl_none, nb_int, nb_0, nb_1, nb_if, nb_if', hs_0 hb, hi_0 hb, e2]
    refine ⟨_, by rw [← h9.2], HR_3 h2, ?_⟩
    exact ((((Ou.set (j := 1) (by omega)).tr (Ou.set (j := 2) (by omega))).tr (Ou.set (j := 3) (by omega))).tr (Ou.set (j := 4) (by omega))).tr (o2.tr Ou.set0)

