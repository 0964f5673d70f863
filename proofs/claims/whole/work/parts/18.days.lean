/-! days of the class's hen -/
theorem leav_f {r : Rw} {i t f : Nat} {x : Int32} (ht : t < 10) (hf : f < 7) : leavR r i x (at9 t f) = becR r (cr r i) x (at9 t f) := by
  have h1 := at9_lt ht hf
  have h2 := at9_ge t f
  unfold leavR
  rw [if_neg (by omega), if_neg (by omega), if_neg (by omega)]
theorem leav_4 {r : Rw} {i : Nat} {x : Int32} : leavR r i x 4 = r 4 - 1 := by unfold leavR; rw [if_pos rfl]
theorem leav_up {r : Rw} {i k : Nat} {x : Int32} (h1 : i ≤ k) (h2 : k < nC r - 1) : leavR r i x (88 + k) = r (88 + (k + 1)) := by
  unfold leavR
  rw [if_neg (by omega), if_pos (by omega)]
  rfl
theorem leav_dn {r : Rw} {i k : Nat} {x : Int32} (h1 : k < i) (h2 : k < nC r - 1) (hc : cr r i < 10) : leavR r i x (88 + k) = r (88 + k) := by
  unfold leavR
  rw [if_neg (by omega), if_neg (by omega), if_neg (by omega), bec_ne (by omega) hc]
theorem leav_lo {r : Rw} {i j : Nat} {x : Int32} (h1 : j < 18) (h2 : j ≠ 4) (hc : cr r i < 10) : leavR r i x j = r j := by
  unfold leavR
  rw [if_neg (by omega), if_neg (by omega), if_neg (by omega), bec_ne (by omega) hc]
theorem leav_hi {r : Rw} {i j : Nat} {x : Int32} (h1 : 96 ≤ j) (h2 : 1 ≤ nC r) (h3 : nC r ≤ 8) (hc : cr r i < 10) : leavR r i x j = r j := by
  unfold leavR
  rw [if_neg (by omega), if_neg (by omega), if_neg (by omega), bec_ne (by omega) hc]
theorem leav_nC {r : Rw} {i : Nat} {x : Int32} (w : WR r) (h : 0 < nC r) : nC (leavR r i x) = nC r - 1 ∧ r 4 - 1 = nI (nC r - 1) := by
  have h8 := wr_C w
  have e4 : r 4 - 1 = nI (nC r - 1) := by rw [h8.2]; exact pk_sub (a := nC r) (b := 1) (by omega)
  refine ⟨?_, e4⟩
  show iN (leavR r i x 4) = _
  rw [leav_4, e4]
  exact iN_nI (by omega)
theorem WR_bec4 {r : Rw} {t : Nat} {x : Int32} (w : WR r) (t' : Nat) (ht' : t' < 10) : rg (becR r t x (at9 t' 0)) 6 ∧ rg (becR r t x (at9 t' 1)) 9 ∧ rg (becR r t x (at9 t' 2)) 99 ∧ rg (becR r t x (at9 t' 3)) 1 ∧ rg (becR r t x (at9 t' 6)) 99 := by
  obtain ⟨a0, a1, a2, a3, a4⟩ := w.2.2.2 t' ht'
  rw [bec_at (by omega), bec_at (by omega), bec_at (by omega), bec_at (by omega), bec_at (by omega)]
  by_cases e : t' = t
  · rw [if_pos e, if_pos e, if_pos e, if_pos e, if_pos e]
    exact ⟨a0, a1, a2, a3, rg_nI (j := 0) (by omega) (by omega)⟩
  · rw [if_neg e, if_neg e, if_neg e, if_neg e, if_neg e]
    exact ⟨a0, a1, a2, a3, a4⟩
theorem WR_leav {r : Rw} {i : Nat} {x : Int32} (w : WR r) (h : i < nC r) : WR (leavR r i x) := by
  have h8 := wr_C w
  have hc := (wr_cr w h).1
  obtain ⟨n1, n2⟩ := leav_nC (i := i) (x := x) w (by omega)
  refine ⟨by rw [leav_lo (by omega) (by omega) hc]; exact w.1, by rw [leav_4, n2]; exact rg_nI (by omega) (by omega), fun k hk => ?_, fun t ht => ?_⟩
  · rw [n1] at hk
    by_cases e : i ≤ k
    · rw [leav_up e hk]
      exact w.2.2.1 _ (by omega)
    · rw [leav_dn (by omega) hk hc]
      exact w.2.2.1 _ (by omega)
  · rw [leav_f ht (by omega), leav_f ht (by omega), leav_f ht (by omega), leav_f ht (by omega), leav_f ht (by omega)]
    exact WR_bec4 w t ht
theorem WR_cong {r r' : Rw} (w : WR r) (e : ∀ j, (j = 3 ∨ j = 4 ∨ (18 ≤ j ∧ j < 96)) → r' j = r j) : WR r' := by
  have hn : nC r' = nC r := by unfold nC; rw [e 4 (by omega)]
  have h8 := wr_C w
  refine ⟨by rw [e 3 (by omega)]; exact w.1, by rw [e 4 (by omega)]; exact w.2.1, fun k hk => ?_, fun t ht => ?_⟩
  · rw [hn] at hk
    rw [e _ (by omega)]
    exact w.2.2.1 k hk
  · have hx : ∀ f, f < 7 → r' (at9 t f) = r (at9 t f) := fun f hf => e _ (by have := at9_lt ht hf; have := at9_ge t f; omega)
    rw [hx 0 (by omega), hx 1 (by omega), hx 2 (by omega), hx 3 (by omega), hx 6 (by omega)]
    exact w.2.2.2 t ht
theorem WR_egg {g : Rw} {v x : Int32} (w : WR g) : WR (eggR g v x) := WR_cong w (fun j hj => egg_keep (by omega))
theorem WR_lay {g : Rw} (w : WR g) : WR (layR g) := by
  unfold layR
  by_cases h : readyG g
  · rw [if_pos h]
    refine WR_leav (WR_egg w) ?_
    have : nC (eggR g (worG g) (hlwG g)) = nC g := by unfold nC; rw [egg_keep (by omega)]
    rw [this]
    exact (wr_pos w).mp h.1
  · rw [if_neg h]
    exact w
theorem WR_day {r : Rw} (w : WR r) : WR (dayR r) := WR_cong (WR_lay (WR_gN w (nC r) (Nat.le_refl _))) (fun j hj => by unfold dayR; rw [upd_ne (by omega)]; rfl)
theorem C_passDay {d b : Nat} {M : Mem} {r : Rw} (hb : isHen b) (h : HR M b r) (w : WR r) : ∃ M', call (d + 3) 27 [.ref b] M = some (some (.int (worD r)), M') ∧ HR M' b (dayR r) ∧ Ou b M M' ∧ M' b 12 = laiD r ∧ M' b 13 = worD r ∧ M' b 14 = hlwG (gR r) := by
  obtain ⟨M1, c1, h1, o1⟩ := C_grow (d := d + 0) hb h w
  rw [show d + 0 + 2 = d + 2 from rfl] at c1
  have w1 := WR_gN w (nC r) (Nat.le_refl _)
  obtain ⟨M2, c2, h2, o2, a1, a2, a3⟩ := C_layFront (d := d + 0) hb h1 w1
  rw [show d + 0 + 2 = d + 2 from rfl] at c2
  rw [nX1_passDay]
  simp only [sX1_passDay_0, sX1_passDay_1, sX1_passDay_4, sX1_passDay_5, sX1_passDay_8, sX1_passDay_9, sX1_passDay_12, opK_some, guK_true, calK_some, rk_nil, rk_int, rk_ref, tl_some, tl_none, nb_int, nb_0, nb_1, nb_if, nb_if', hen_c hb, hs_13 hb, c1, c2, a2]
  exact ⟨M2, rfl, HR_congr h2 (wr_C (WR_lay w1)).1 (fun j hj => by unfold dayR; rw [upd_ne (by omega)]; rfl), o1.tr o2, a1, a2, a3⟩
/-- days on from a row -/
def dN (r : Rw) : Nat → Rw
  | 0 => r
  | n + 1 => dayR (dN r n)
def sW (r : Rw) (n : Nat) : Int32 := sm (fun k => worD (dN r k)) n
theorem sW_1 {r : Rw} {n : Nat} : sW r (n + 1) = sW r n + worD (dN r n) := rfl
theorem WR_dN {r : Rw} (w : WR r) : ∀ n, WR (dN r n) := by
  intro n
  induction n with
  | zero => exact w
  | succ n ih => exact WR_day ih
theorem day_0 {r : Rw} (w : WR r) (h : nC r = 0) : dayR r = upd r 0 (r 0 + 1) ∧ worD r = 0 ∧ laiD r = -1 := by
  have hg : gR r = r := by unfold gR; rw [h]; rfl
  have hr : ¬ readyG r := fun z => by have := (wr_pos w).mp z.1; omega
  refine ⟨?_, ?_, ?_⟩
  · unfold dayR layR
    rw [hg, if_neg hr]
  · unfold worD worG
    rw [hg, if_neg hr]
  · unfold laiD laiG
    rw [hg, if_neg hr]
theorem nC_0 {r : Rw} {v : Int32} : nC (upd r 0 v) = nC r := by unfold nC; rw [upd_ne (by omega)]
theorem dN_0 {r : Rw} (w : WR r) : ∀ (n i : Nat), nC (dN r i) = 0 → sW r (i + n) = sW r i ∧ nC (dN r (i + n)) = 0 ∧ ∀ j, j ≠ 0 → dN r (i + n) j = dN r i j := by
  intro n
  induction n with
  | zero => intro i h; exact ⟨rfl, h, fun _ _ => rfl⟩
  | succ n ih =>
    intro i h
    obtain ⟨a, b, c⟩ := ih i h
    obtain ⟨d1, d2, d3⟩ := day_0 (WR_dN w (i + n)) b
    refine ⟨?_, ?_, fun j hj => ?_⟩
    · rw [show i + (n + 1) = (i + n) + 1 from rfl, sW_1, a, d2, Int32.add_zero]
    · show nC (dayR (dN r (i + n))) = 0
      rw [d1, nC_0, b]
    · show dayR (dN r (i + n)) j = _
      rw [d1, upd_ne hj, c j hj]
theorem HR_0 {b : Nat} {M : Mem} {r : Rw} (w : WR r) {n i : Nat} (h : HR M b (dN r i)) (hn : nC (dN r i) = 0) (hi : i ≤ n) : sW r n = sW r i ∧ HR M b (dN r n) := by
  obtain ⟨a, _, c⟩ := dN_0 w (n - i) i hn
  rw [show i + (n - i) = n by omega] at a c
  exact ⟨a, HR_congr h (wr_C (WR_dN w i)).1 (fun j hj => c j (by omega))⟩
theorem L_pass {d b : Nat} {M : Mem} {r : Rw} {n : Nat} (hb : isHen b) (w : WR r) (hn : n < 2 ^ 31) : ∀ (m i : Nat) (M1 : Mem), i + m = n → HR M1 b (dN r i) → Ou b M M1 →
    ∃ M', lim (call (d + 3)) none 1 cX1_pass (some .int) 4 [some (.ref b), some (.int (nI n)), some (.int (sW r i)), some (.int (nI i))] [] M1 = some (some (.int (sW r n)), M') ∧ HR M' b (dN r n) ∧ Ou b M M' := by
  intro m
  induction m with
  | zero =>
    intro i M1 hi h ho
    rw [sX1_pass_4]
    simp only [sX1_pass_0, sX1_pass_1, sX1_pass_2, sX1_pass_3, sX1_pass_5, sX1_pass_6, sX1_pass_9, sX1_pass_10, sX1_pass_13, sX1_pass_16, sX1_pass_17, sX1_pass_18, sX1_pass_21, sX1_pass_22, sX1_pass_23, sX1_pass_26, sX1_pass_29, sX1_pass_30, opK_some, guK_true, calK_some, rk_nil, rk_int, rk_ref, tl_some, tl_none, nb_int, nb_0, nb_1, nb_if, nb_if']
    rw [if_pos (nI_le (by omega) (by omega))]
    rw [show i = n by omega] at h ⊢
    exact ⟨M1, rfl, h, ho⟩
  | succ m ih =>
    intro i M1 hi h ho
    have wi := WR_dN w i
    have h8 := wr_C wi
    rw [sX1_pass_4]
    by_cases h0 : dN r i 4 ≤ 0
    · have hz : nC (dN r i) = 0 := by
        rcases Nat.eq_zero_or_pos (nC (dN r i)) with q | q
        · exact q
        · exact absurd h0 (Int32.not_le.mpr ((wr_pos wi).mpr q))
      obtain ⟨a, c⟩ := HR_0 w h hz (show i ≤ n by omega)
      simp only [sX1_pass_0, sX1_pass_1, sX1_pass_2, sX1_pass_3, sX1_pass_5, sX1_pass_6, sX1_pass_9, sX1_pass_10, sX1_pass_13, sX1_pass_16, sX1_pass_17, sX1_pass_18, sX1_pass_21, sX1_pass_22, sX1_pass_23, sX1_pass_26, sX1_pass_29, sX1_pass_30, opK_some, guK_true, calK_some, rk_nil, rk_int, rk_ref, tl_some, tl_none, nb_int, nb_0, nb_1, nb_if, nb_if', hs_9 hb, h.1.2.1]
      rw [if_neg (nI_ge (by omega) (by omega)), if_pos h0, a]
      exact ⟨M1, rfl, c, ho⟩
    · obtain ⟨M2, c2, h2, o2, _, _, _⟩ := C_passDay (d := d + 0) hb h wi
      rw [show d + 0 + 3 = d + 3 from rfl] at c2
      simp only [sX1_pass_0, sX1_pass_1, sX1_pass_2, sX1_pass_3, sX1_pass_5, sX1_pass_6, sX1_pass_9, sX1_pass_10, sX1_pass_13, sX1_pass_16, sX1_pass_17, sX1_pass_18, sX1_pass_21, sX1_pass_22, sX1_pass_23, sX1_pass_26, sX1_pass_29, sX1_pass_30, opK_some, guK_true, calK_some, rk_nil, rk_int, rk_ref, tl_some, tl_none, nb_int, nb_0, nb_1, nb_if, nb_if', hs_9 hb, hen_c hb, h.1.2.1, c2, nI_1]
      rw [if_neg (nI_ge (by omega) (by omega)), if_neg h0]
      exact ih (i + 1) M2 (by omega) h2 (ho.tr o2)
theorem C_pass {d b : Nat} {M : Mem} {r : Rw} {n : Nat} (hb : isHen b) (h : HR M b r) (w : WR r) (hn : n < 2 ^ 31) : ∃ M', call (d + 4) 35 [.ref b, .int (nI n)] M = some (some (.int (sW r n)), M') ∧ HR M' b (dN r n) ∧ Ou b M M' := by
  rw [nX1_pass]
  simp only [sX1_pass_0, sX1_pass_1, sX1_pass_2, sX1_pass_3, sX1_pass_5, sX1_pass_6, sX1_pass_9, sX1_pass_10, sX1_pass_13, sX1_pass_16, sX1_pass_17, sX1_pass_18, sX1_pass_21, sX1_pass_22, sX1_pass_23, sX1_pass_26, sX1_pass_29, sX1_pass_30, opK_some, guK_true, calK_some, rk_nil, rk_int, rk_ref, tl_some, tl_none, nb_int, nb_0, nb_1, nb_if, nb_if']
  have := L_pass (d := d) hb w hn n 0 M (by omega) h Ou.rf
  rw [show sW r 0 = 0 from rfl, nI_0] at this
  exact this
def staR (r : Rw) : Int32 := sm (fun i => r (at9 (cr r i) 6)) (nC r)
theorem L_stainIn {d b : Nat} {M : Mem} {r : Rw} (hb : isHen b) (h : HR M b r) (w : WR r) : ∀ (n i : Nat) (s : Int32), i + n = nC r → s = sm (fun j => r (at9 (cr r j) 6)) i →
    lim (call d) none 1 cX1_stainIn (some .int) 4 [some (.ref b), some (.int s), some (.int (nI i))] [] M = some (some (.int (staR r)), M) := by
  have h8 := wr_C w
  intro n
  induction n with
  | zero =>
    intro i s hi hs
    rw [sX1_stainIn_4]
    simp only [sX1_stainIn_0, sX1_stainIn_1, sX1_stainIn_2, sX1_stainIn_3, sX1_stainIn_5, sX1_stainIn_6, sX1_stainIn_9, sX1_stainIn_12, sX1_stainIn_13, sX1_stainIn_14, sX1_stainIn_17, sX1_stainIn_18, sX1_stainIn_21, sX1_stainIn_22, sX1_stainIn_23, sX1_stainIn_24, sX1_stainIn_25, sX1_stainIn_26, sX1_stainIn_29, sX1_stainIn_32, sX1_stainIn_33, opK_some, guK_true, calK_some, rk_nil, rk_int, rk_ref, tl_some, tl_none, nb_int, nb_0, nb_1, nb_if, nb_if', hs_9 hb, hs_7 hb, hs_8 hb, ha_7 hb, ha_8 hb, h.1.2.1, h8.2]
    rw [if_pos (nI_le (by omega) (by omega)), hs]
    rw [show i = nC r by omega]
    rfl
  | succ n ih =>
    intro i s hi hs
    rw [sX1_stainIn_4]
    obtain ⟨c1, c2⟩ := wr_cr w (i := i) (by omega)
    simp only [sX1_stainIn_0, sX1_stainIn_1, sX1_stainIn_2, sX1_stainIn_3, sX1_stainIn_5, sX1_stainIn_6, sX1_stainIn_9, sX1_stainIn_12, sX1_stainIn_13, sX1_stainIn_14, sX1_stainIn_17, sX1_stainIn_18, sX1_stainIn_21, sX1_stainIn_22, sX1_stainIn_23, sX1_stainIn_24, sX1_stainIn_25, sX1_stainIn_26, sX1_stainIn_29, sX1_stainIn_32, sX1_stainIn_33, opK_some, guK_true, calK_some, rk_nil, rk_int, rk_ref, tl_some, tl_none, nb_int, nb_0, nb_1, nb_if, nb_if', hs_9 hb, hs_7 hb, hs_8 hb, ha_7 hb, ha_8 hb, h.1.2.1, h8.2]
    rw [if_neg (nI_ge (by omega) (by omega)), inb_nI (by omega) (by omega), guK_true, nI_clamp (by omega), h.2.2 i (by omega), c2, inb_nI c1 (by omega), guK_true, nI_clamp (by omega), show b + 7 = b + 1 + 6 from rfl, h.2.1 6 (by omega) _ c1, nI_1]
    exact ih (i + 1) _ (by omega) (by rw [hs]; rfl)
theorem C_stainIn {d b : Nat} {M : Mem} {r : Rw} (hb : isHen b) (h : HR M b r) (w : WR r) : call (d + 1) 36 [.ref b] M = some (some (.int (staR r)), M) := by
  rw [nX1_stainIn]
  simp only [sX1_stainIn_0, sX1_stainIn_1, sX1_stainIn_2, sX1_stainIn_3, sX1_stainIn_5, sX1_stainIn_6, sX1_stainIn_9, sX1_stainIn_12, sX1_stainIn_13, sX1_stainIn_14, sX1_stainIn_17, sX1_stainIn_18, sX1_stainIn_21, sX1_stainIn_22, sX1_stainIn_23, sX1_stainIn_24, sX1_stainIn_25, sX1_stainIn_26, sX1_stainIn_29, sX1_stainIn_32, sX1_stainIn_33, opK_some, guK_true, calK_some, rk_nil, rk_int, rk_ref, tl_some, tl_none, nb_int, nb_0, nb_1, nb_if, nb_if']
  rw [← nI_0]
  exact L_stainIn hb h w (nC r) 0 _ (by omega) rfl
/-- the bits of those that are -/
def bt (p : Nat → Prop) [DecidablePred p] : Nat → Int32
  | 0 => 0
  | n + 1 => if p n then bt p n ||| (1 <<< (nI n &&& 31)) else bt p n

