/-! what days and feeding leave of a row -/
theorem feed_at {r : Rw} {t u f : Nat} (hf : f < 7) (hu : u < 10) : feedR r t (at9 u f) = becR r t 1 (at9 u f) := by
  have := at9_lt hu hf
  have := at9_ge u f
  unfold feedR
  rw [upd_ne (by omega), upd_ne (by omega)]
theorem feed_lo {r : Rw} {t j : Nat} (ht : t < 10) (h : j < 18) (h4 : j ≠ 4) : feedR r t j = r j := by
  unfold feedR
  rw [upd_ne h4, upd_ne (by omega), bec_ne (by omega) ht]
theorem feed_hi {r : Rw} {t j : Nat} (ht : t < 10) (h8 : nC r < 8) (h : 96 ≤ j) : feedR r t j = r j := by
  unfold feedR
  rw [upd_ne (by omega), upd_ne (by omega), bec_ne (by omega) ht]
theorem feed_cr {r : Rw} {t i : Nat} (ht : t < 10) (h8 : nC r < 8) (hi : i ≤ nC r) : cr (feedR r t) i = if i = nC r then t else cr r i := by
  unfold cr feedR
  rw [upd_ne (by omega)]
  by_cases e : i = nC r
  · subst e
    rw [upd_at, if_pos rfl, iN_nI (by omega)]
  · rw [upd_ne (by omega), if_neg e, bec_ne (by omega) ht]
theorem KRo_feed {r : Rw} {t : Nat} (w : WR r) (k : KRo r) (ht : t < nT r) (h0 : r (at9 t 4) = 0) (h8 : r 4 < 8) : KRo (feedR r t) := by
  obtain ⟨k1, k2, k3, k4, k5⟩ := k
  have hn := (wr_lt8 w).mp h8
  have h9 := wr_T w
  have ht' : t < 10 := by omega
  have en := (WR_feed w ht' h8).2
  have eT : nT (feedR r t) = nT r := by unfold nT; rw [feed_lo ht' (by omega) (by omega)]
  have e4 : ∀ u, u < 10 → feedR r t (at9 u 4) = if u = t then 1 else r (at9 u 4) := by
    intro u hu
    rw [feed_at (by omega) hu, bec_at (by omega)]
    by_cases e : u = t
    · rw [if_pos e, if_pos e, if_pos rfl]
    · rw [if_neg e, if_neg e]
  refine ⟨fun u hu hh => ?_, fun i hi => ?_, fun u hu hh => ?_, fun i q hi hq => ?_, fun s hs => ?_⟩
  · rw [e4 u hu] at hh
    by_cases e : u = t
    · rw [if_pos e] at hh
      exact absurd rfl hh
    · rw [if_neg e] at hh
      rw [feed_at (by omega) hu, feed_at (by omega) hu, bec_at (by omega), bec_at (by omega), if_neg e, if_neg e]
      exact k1 u hu hh
  · rw [en] at hi
    rw [feed_cr ht' hn (by omega), eT]
    by_cases e : i = nC r
    · rw [if_pos e, e4 t ht', if_pos rfl]
      exact ⟨ht, rfl⟩
    · obtain ⟨a, b⟩ := k2 i (by omega)
      rw [if_neg e, e4 _ (by omega)]
      refine ⟨a, ?_⟩
      by_cases e2 : cr r i = t
      · rw [if_pos e2]
      · rw [if_neg e2]
        exact b
  · rw [e4 u hu] at hh
    by_cases e : u = t
    · exact ⟨nC r, by omega, by rw [feed_cr ht' hn (by omega), if_pos rfl, e]⟩
    · rw [if_neg e] at hh
      obtain ⟨i, a, b⟩ := k3 u hu hh
      exact ⟨i, by omega, by rw [feed_cr ht' hn (by omega), if_neg (by omega), b]⟩
  · rw [en] at hq
    rw [feed_cr ht' hn (by omega), feed_cr ht' hn (by omega), if_neg (by omega)]
    by_cases e : q = nC r
    · rw [if_pos e]
      intro z
      have := (k2 i (by omega)).2
      rw [z, h0] at this
      exact absurd this (by decide)
    · rw [if_neg e]
      exact k4 i q hi (by omega)
  · rw [feed_lo ht' (by omega) (by omega), eT]
    exact k5 s hs
theorem gN_out {r : Rw} {t f : Nat} (hf : f < 7) : ∀ i, (∀ k, k < i → cr r k ≠ t) → gN r i (at9 t f) = r (at9 t f) := by
  intro i
  induction i with
  | zero => intro _; rfl
  | succ i ih =>
    intro h
    have := h i (by omega)
    rw [gN_succ, upd_ne (fun z => this ((at9_inj hf (by omega) z).1).symm), upd_ne (fun z => this ((at9_inj hf (by omega) z).1).symm)]
    exact ih (fun k hk => h k (by omega))
theorem KRo_gN {r : Rw} (w : WR r) (k : KRo r) : KRo (gR r) := by
  obtain ⟨k1, k2, k3, k4, k5⟩ := k
  have hc := wr_crs w (Nat.le_refl (nC r))
  have en : nC (gR r) = nC r := gN_nC hc
  have ecr : ∀ i, cr (gR r) i = cr r i := fun i => gN_cr hc
  have eT : nT (gR r) = nT r := by unfold nT; exact congrArg iN (gN_lo hc (by omega))
  have e4 : ∀ u, u < 10 → gR r (at9 u 4) = r (at9 u 4) := fun u hu => gN_f hc hu (by omega)
  refine ⟨fun u hu hh => ?_, fun i hi => ?_, fun u hu hh => ?_, fun i q hi hq => ?_, fun s hs => ?_⟩
  · rw [e4 u hu] at hh
    have ho : ∀ i, i < nC r → cr r i ≠ u := fun i hi z => hh (by rw [← z]; exact (k2 i hi).2)
    have e5 : gR r (at9 u 5) = r (at9 u 5) := gN_out (by omega) (nC r) ho
    have e6 : gR r (at9 u 6) = r (at9 u 6) := gN_out (by omega) (nC r) ho
    rw [e5, e6]
    exact k1 u hu hh
  · rw [en] at hi
    rw [ecr, eT, e4 _ (hc i hi)]
    exact k2 i hi
  · rw [e4 u hu] at hh
    obtain ⟨i, a, b⟩ := k3 u hu hh
    exact ⟨i, by rw [en]; exact a, by rw [ecr]; exact b⟩
  · rw [en] at hq
    rw [ecr, ecr]
    exact k4 i q hi hq
  · have : gR r (8 + s) = r (8 + s) := gN_lo hc (by omega)
    rw [this, eT]
    exact k5 s hs
theorem leav_cr {r : Rw} {i k : Nat} {x : Int32} (h2 : k < nC r - 1) (hc : cr r i < 10) : cr (leavR r i x) k = if k < i then cr r k else cr r (k + 1) := by
  unfold cr
  by_cases h : k < i
  · rw [leav_dn h h2 hc, if_pos h]
  · rw [leav_up (by omega) h2, if_neg h]
theorem KRo_leav {r : Rw} {i : Nat} {x : Int32} (w : WR r) (k : KRo r) (hi : i < nC r) (hx : ¬ x = 1) : KRo (leavR r i x) := by
  obtain ⟨k1, k2, k3, k4, k5⟩ := k
  have hc := (wr_cr w hi).1
  obtain ⟨en, _⟩ := leav_nC (i := i) (x := x) w (by omega)
  have eT : nT (leavR r i x) = nT r := by unfold nT; rw [leav_lo (by omega) (by omega) hc]
  have dis : ∀ a b, a < nC r → b < nC r → a ≠ b → cr r a ≠ cr r b := by
    intro a b ha hb hab
    rcases Nat.lt_or_ge a b with q | q
    · exact k4 a b q hb
    · exact fun z => k4 b a (by omega) ha z.symm
  have e4 : ∀ u, u < 10 → leavR r i x (at9 u 4) = if u = cr r i then x else r (at9 u 4) := by
    intro u hu
    rw [leav_f hu (by omega), bec_at (by omega)]
    by_cases e : u = cr r i
    · rw [if_pos e, if_pos e, if_pos rfl]
    · rw [if_neg e, if_neg e]
  refine ⟨fun u hu hh => ?_, fun q hq => ?_, fun u hu hh => ?_, fun q p hqp hp => ?_, fun s hs => ?_⟩
  · rw [e4 u hu] at hh
    rw [leav_f hu (by omega), leav_f hu (by omega), bec_at (by omega), bec_at (by omega)]
    by_cases e : u = cr r i
    · rw [if_pos e, if_pos e]
      exact ⟨rfl, rfl⟩
    · rw [if_neg e] at hh
      rw [if_neg e, if_neg e]
      exact k1 u hu hh
  · rw [en] at hq
    rw [leav_cr hq hc, eT]
    by_cases e : q < i
    · rw [if_pos e]
      obtain ⟨a, b⟩ := k2 q (by omega)
      rw [e4 _ (wr_cr w (i := q) (by omega)).1, if_neg (dis q i (by omega) hi (by omega))]
      exact ⟨a, b⟩
    · rw [if_neg e]
      obtain ⟨a, b⟩ := k2 (q + 1) (by omega)
      rw [e4 _ (wr_cr w (i := q + 1) (by omega)).1, if_neg (dis (q + 1) i (by omega) hi (by omega))]
      exact ⟨a, b⟩
  · rw [e4 u hu] at hh
    by_cases e : u = cr r i
    · rw [if_pos e] at hh
      exact absurd hh hx
    · rw [if_neg e] at hh
      obtain ⟨q, a, b⟩ := k3 u hu hh
      have hqi : q ≠ i := fun z => e (by rw [← b, z])
      rcases Nat.lt_or_ge q i with z | z
      · exact ⟨q, by omega, by rw [leav_cr (by omega) hc, if_pos z, b]⟩
      · exact ⟨q - 1, by omega, by rw [leav_cr (by omega) hc, if_neg (by omega), show q - 1 + 1 = q by omega, b]⟩
  · rw [en] at hp
    rw [leav_cr (by omega) hc, leav_cr hp hc]
    by_cases e1 : q < i
    · rw [if_pos e1]
      by_cases e2 : p < i
      · rw [if_pos e2]
        exact k4 q p hqp (by omega)
      · rw [if_neg e2]
        exact k4 q (p + 1) (by omega) (by omega)
    · rw [if_neg e1, if_neg (by omega)]
      exact k4 (q + 1) (p + 1) (by omega) (by omega)
  · rw [leav_lo (by omega) (by omega) hc, eT]
    exact k5 s hs
theorem KRo_cong {r r' : Rw} (w : WR r) (k : KRo r) (e : ∀ j, (j = 3 ∨ j = 4 ∨ (8 ≤ j ∧ j < 96)) → r' j = r j) : KRo r' := by
  obtain ⟨k1, k2, k3, k4, k5⟩ := k
  have h8 := wr_C w
  have en : nC r' = nC r := by unfold nC; rw [e 4 (by omega)]
  have eT : nT r' = nT r := by unfold nT; rw [e 3 (by omega)]
  have ecr : ∀ i, i < 8 → cr r' i = cr r i := by intro i hi; unfold cr; rw [e _ (by omega)]
  have ea : ∀ t f, t < 10 → f < 7 → r' (at9 t f) = r (at9 t f) := fun t f ht hf => e _ (by have := at9_ge t f; have := at9_lt ht hf; omega)
  refine ⟨fun u hu hh => ?_, fun i hi => ?_, fun u hu hh => ?_, fun i q hi hq => ?_, fun s hs => ?_⟩
  · rw [ea u 4 hu (by omega)] at hh
    rw [ea u 5 hu (by omega), ea u 6 hu (by omega)]
    exact k1 u hu hh
  · rw [en] at hi
    rw [ecr i (by omega), eT, ea _ 4 (wr_cr w hi).1 (by omega)]
    exact k2 i hi
  · rw [ea u 4 hu (by omega)] at hh
    obtain ⟨i, a, b⟩ := k3 u hu hh
    exact ⟨i, by rw [en]; exact a, by rw [ecr i (by omega)]; exact b⟩
  · rw [en] at hq
    rw [ecr i (by omega), ecr q (by omega)]
    exact k4 i q hi hq
  · rw [e _ (by omega), eT]
    exact k5 s hs
theorem KRo_day {r : Rw} (w : WR r) (k : KRo r) : KRo (dayR r) := by
  have wg := WR_gN w (nC r) (Nat.le_refl _)
  have kg := KRo_gN w k
  have kl : KRo (layR (gR r)) := by
    unfold layR
    by_cases hr : readyG (gR r)
    · rw [if_pos hr]
      refine KRo_leav (WR_egg wg) (KRo_cong wg kg (fun j hj => egg_keep (by omega))) ?_ (by decide)
      have : nC (eggR (gR r) (worG (gR r)) (hlwG (gR r))) = nC (gR r) := by unfold nC; rw [egg_keep (by omega)]
      rw [this]
      exact (wr_pos wg).mp hr.1
    · rw [if_neg hr]
      exact kg
  exact KRo_cong (WR_lay wg) kl (fun j hj => by unfold dayR; rw [upd_ne (by omega)]; rfl)
theorem KRo_dN {r : Rw} (w : WR r) (k : KRo r) : ∀ n, KRo (dN r n) := by
  intro n
  induction n with
  | zero => exact k
  | succ n ih => exact KRo_day (WR_dN w n) ih
theorem KR_feed {r : Rw} {t : Nat} (w : WR r) (k : KR r) (ht : t < nT r) (h0 : r (at9 t 4) = 0) (h8 : r 4 < 8) : KR (feedR r t) := by
  have hT := wr_T w
  exact ⟨KRo_feed w k.1 ht h0 h8, by rw [feed_lo (by omega) (by omega) (by omega)]; exact k.2.1, by rw [feed_lo (by omega) (by omega) (by omega)]; exact k.2.2⟩
theorem KR_cong {r r' : Rw} (w : WR r) (k : KR r) (e : ∀ j, (j = 1 ∨ j = 2 ∨ j = 3 ∨ j = 4 ∨ (8 ≤ j ∧ j < 96)) → r' j = r j) : KR r' :=
  ⟨KRo_cong w k.1 (fun j hj => e j (by omega)), by rw [e 1 (by omega)]; exact k.2.1, by rw [e 2 (by omega)]; exact k.2.2⟩
theorem KR_day {r : Rw} (w : WR r) (k : KR r) : KR (dayR r) :=
  ⟨KRo_day w k.1, by rw [day_hi w (by omega)]; exact k.2.1, by rw [day_hi w (by omega)]; exact k.2.2⟩
theorem KR_dN {r : Rw} (w : WR r) (k : KR r) : ∀ n, KR (dN r n) := by
  intro n
  induction n with
  | zero => exact k
  | succ n ih => exact KR_day (WR_dN w n) ih

