/-! another hunger: what stays the same -/
/-- the same but for the hunger, what was laid hollow and the EGGS themselves -/
def Eh (r r' : Rw) : Prop := ∀ j, j < 96 → j ≠ 2 → j ≠ 6 → r' j = r j
theorem Eh.x_nC {r r' : Rw} (e : Eh r r') : nC r' = nC r := by unfold nC; rw [e 4 (by omega) (by omega) (by omega)]
theorem Eh.x_cr {r r' : Rw} (e : Eh r r') {i : Nat} (hi : i < 8) : cr r' i = cr r i := by unfold cr; rw [e (88 + i) (by omega) (by omega) (by omega)]
theorem Eh.x_at {r r' : Rw} (e : Eh r r') {t f : Nat} (ht : t < 10) (hf : f < 7) : r' (at9 t f) = r (at9 t f) := by
  have h1 := at9_ge t f
  have h2 := at9_lt ht hf
  exact e _ (by omega) (by omega) (by omega)
theorem Eh.x_saR {r r' : Rw} (e : Eh r r') (w : WR r) (x : Int32) : saR r' x = saR r x := by
  have e4 := e 4 (by omega) (by omega) (by omega)
  unfold saR
  rw [e4]
  by_cases h : 0 ≤ x ∧ x < r 4
  · rw [if_pos h, if_pos h]
    obtain ⟨k, hk, ek⟩ := nI_of (x := x) (Int32.not_lt.mpr h.1)
    have c8 := wr_C w
    have hl : k < nC r := by
      have h2 := h.2
      rw [ek, c8.2] at h2
      exact (nI_ltI hk (by omega)).mp h2
    rw [ek, iN_nI hk, e.x_cr (by omega), e.x_at (wr_cr w hl).1 (by omega)]
  · rw [if_neg h, if_neg h]
theorem Eh.x_gN {r r' : Rw} (e : Eh r r') (w : WR r) : ∀ i, i ≤ nC r → Eh (gN r i) (gN r' i) := by
  intro i
  induction i with
  | zero => intro _; exact e
  | succ i ih =>
    intro hi j h1 h2 h3
    have c8 := wr_C w
    have hc := (wr_cr w (i := i) (by omega)).1
    have ei := ih (by omega)
    rw [gN_succ, gN_succ, e.x_cr (by omega), e.x_saR w, e.x_saR w, ei.x_at hc (by omega), ei.x_at hc (by omega)]
    by_cases a : j = at9 (cr r i) 6
    · rw [a, upd_at, upd_at]
    · rw [upd_ne a, upd_ne a]
      by_cases b : j = at9 (cr r i) 5
      · rw [b, upd_at, upd_at]
      · rw [upd_ne b, upd_ne b]
        exact ei j h1 h2 h3
theorem Eh.x_gR {r r' : Rw} (e : Eh r r') (w : WR r) : Eh (gR r) (gR r') := by
  have := e.x_gN w (nC r) (Nat.le_refl _)
  unfold gR
  rw [e.x_nC]
  exact this
theorem sm_cg {f g : Nat → Int32} : ∀ n, (∀ k, k < n → f k = g k) → sm f n = sm g n := by
  intro n
  induction n with
  | zero => intro _; rfl
  | succ n ih =>
    intro h
    show sm f n + f n = sm g n + g n
    rw [ih (fun k hk => h k (by omega)), h n (by omega)]
theorem sm_le' {f : Nat → Int32} {c : Nat} : ∀ n, (∀ k, k < n → ∃ j, j ≤ c ∧ f k = nI j) → ∃ j, j ≤ c * n ∧ sm f n = nI j := by
  intro n
  induction n with
  | zero => intro _; exact ⟨0, by omega, rfl⟩
  | succ n ih =>
    intro h
    obtain ⟨a, ha, ea⟩ := ih (fun k hk => h k (by omega))
    obtain ⟨b, hb, eb⟩ := h n (by omega)
    refine ⟨a + b, by rw [Nat.mul_succ]; omega, ?_⟩
    show sm f n + f n = _
    rw [ea, eb, nI_add]
theorem Eh.x_bulk {r r' : Rw} (e : Eh r r') (w : WR r) : bulkR r' = bulkR r := by
  have c8 := wr_C w
  unfold bulkR
  rw [e.x_nC]
  refine sm_cg _ (fun k hk => ?_)
  rw [e.x_cr (by omega), e.x_at (wr_cr w hk).1 (by omega)]
theorem bulk_gR {r : Rw} (w : WR r) : bulkR (gR r) = bulkR r := by
  have hc := wr_crs w (Nat.le_refl (nC r))
  have en : nC (gR r) = nC r := gN_nC hc
  unfold bulkR
  rw [en]
  refine sm_cg _ (fun k hk => ?_)
  show gN r (nC r) (at9 (cr (gN r (nC r)) k) 1) = _
  rw [gN_cr hc, gN_f hc (wr_cr w hk).1 (by omega)]
theorem bulk_le {r : Rw} (w : WR r) : ∃ j, j ≤ 72 ∧ bulkR r = nI j := by
  have c8 := wr_C w
  obtain ⟨j, h1, h2⟩ := sm_le' (f := fun i => r (at9 (cr r i) 1)) (c := 9) (nC r) (fun k hk => by
    have := (w.2.2.2 _ (wr_cr w hk).1).2.1
    exact ⟨_, this.1, this.2⟩)
  exact ⟨j, by omega, h2⟩
theorem Eh.x_ready {r r' : Rw} (e : Eh r r') (w : WR r) : readyG r' ↔ readyG r := by
  have c8 := wr_C w
  have e4 := e 4 (by omega) (by omega) (by omega)
  show (0 < r' 4 ∧ tkK (r' (at9 (cr r' 0) 0)) ≤ r' (at9 (cr r' 0) 5)) ↔ (0 < r 4 ∧ tkK (r (at9 (cr r 0) 0)) ≤ r (at9 (cr r 0) 5))
  rw [e4]
  by_cases h : 0 < r 4
  · have hc := (wr_cr w (i := 0) ((wr_pos w).mp h)).1
    rw [e.x_cr (by omega), e.x_at hc (by omega), e.x_at hc (by omega)]
  · exact ⟨fun z => absurd z.1 h, fun z => absurd z.1 h⟩
theorem Eh.x_lai {r r' : Rw} (e : Eh r r') (w : WR r) : laiG r' = laiG r := by
  unfold laiG
  by_cases h : readyG r
  · rw [if_pos h, if_pos ((e.x_ready w).mpr h), e 88 (by omega) (by omega) (by omega)]
  · rw [if_neg h, if_neg (fun z => h ((e.x_ready w).mp z))]
theorem Eh.x_leav {r r' : Rw} (e : Eh r r') (w : WR r) (hp : 0 < nC r) : Eh (leavR r 0 2) (leavR r' 0 2) := by
  intro j h1 h2 h3
  have c8 := wr_C w
  have hc := (wr_cr w (i := 0) hp).1
  unfold leavR
  rw [e.x_nC, e.x_cr (by omega)]
  by_cases a : j = 4
  · rw [if_pos a, if_pos a, e 4 (by omega) (by omega) (by omega)]
  · rw [if_neg a, if_neg a]
    by_cases b : 88 + 0 ≤ j ∧ j < 88 + (nC r - 1)
    · rw [if_pos b, if_pos b, e (j + 1) (by omega) (by omega) (by omega)]
    · rw [if_neg b, if_neg b]
      by_cases c : j = 88 + (nC r - 1)
      · rw [if_pos c, if_pos c]
      · rw [if_neg c, if_neg c]
        unfold becR
        by_cases x6 : j = at9 (cr r 0) 6
        · rw [x6, upd_at, upd_at]
        · rw [upd_ne x6, upd_ne x6]
          by_cases x5 : j = at9 (cr r 0) 5
          · rw [x5, upd_at, upd_at]
          · rw [upd_ne x5, upd_ne x5]
            by_cases x4 : j = at9 (cr r 0) 4
            · rw [x4, upd_at, upd_at]
            · rw [upd_ne x4, upd_ne x4]
              exact e j h1 h2 h3
theorem Eh.x_egg {g g' : Rw} {v x v' x' : Int32} (e : Eh g g') : Eh (eggR g v x) (eggR g' v' x') := by
  intro j h1 h2 h3
  by_cases a : j = 5
  · subst a
    have : ∀ (q : Rw) (y z : Int32), eggR q y z 5 = q 5 + 1 := by
      intro q y z
      unfold eggR
      rw [upd_ne (by omega), upd_at]
    rw [this, this, e 5 (by omega) (by omega) (by omega)]
  · rw [egg_keep (by omega), egg_keep (by omega)]
    exact e j h1 h2 h3
theorem Eh.x_day {r r' : Rw} (e : Eh r r') (w : WR r) : Eh (dayR r) (dayR r') := by
  intro j h1 h2 h3
  have wg : WR (gR r) := WR_gN w (nC r) (Nat.le_refl _)
  have eg := e.x_gR w
  unfold dayR
  by_cases a : j = 0
  · rw [a, upd_at, upd_at, e 0 (by omega) (by omega) (by omega)]
  · rw [upd_ne a, upd_ne a]
    unfold layR
    by_cases h : readyG (gR r)
    · rw [if_pos h, if_pos ((eg.x_ready wg).mpr h)]
      have hp : 0 < nC (eggR (gR r) (worG (gR r)) (hlwG (gR r))) := by
        have : nC (eggR (gR r) (worG (gR r)) (hlwG (gR r))) = nC (gR r) := by
          unfold nC
          rw [egg_keep (by omega)]
        rw [this]
        exact (wr_pos wg).mp h.1
      exact eg.x_egg.x_leav (WR_egg wg) hp j h1 h2 h3
    · rw [if_neg h, if_neg (fun z => h ((eg.x_ready wg).mp z))]
      exact eg j h1 h2 h3
theorem Eh.x_dN {r r' : Rw} (e : Eh r r') (w : WR r) : ∀ n, Eh (dN r n) (dN r' n) := by
  intro n
  induction n with
  | zero => exact e
  | succ n ih => exact ih.x_day (WR_dN w n)

