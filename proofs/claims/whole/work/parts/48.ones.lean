/-! what an egg can be worth; one or two are fed -/
theorem mx0_le {a b : Nat} (ha : a < 2 ^ 30) (hb : b < 2 ^ 30) : ∃ j, j ≤ a ∧ mx0 (nI a - nI b) = nI j := by
  by_cases h : b ≤ a
  · rw [pk_sub h]
    unfold mx0
    by_cases z : (0 : Int32) < nI (a - b)
    · exact ⟨a - b, by omega, by rw [if_pos z]⟩
    · exact ⟨0, by omega, by rw [if_neg z]; rfl⟩
  · have hn := pk_sneg (a := a) (b := b) hb (by omega)
    refine ⟨0, by omega, ?_⟩
    unfold mx0
    rw [if_neg (fun z => absurd (Int32.lt_trans z hn) Int32.lt_irrefl)]
    rfl
theorem leK_le : ∀ k, k ≤ 6 → ∀ a b : Nat, a ≤ 99 → b ≤ 99 → ∃ j, j ≤ 104 ∧ leK (nI k) (nI a) (nI b) = nI j := by
  intro k hk a b ha hb
  have half : ∀ x : Nat, x ≤ 99 → nI x / 2 = nI (x / 2) := fun x hx => pk_div (d := 2) (by omega) (by omega) (by omega)
  rcases (show k = 0 ∨ k = 1 ∨ k = 2 ∨ k = 3 ∨ k = 4 ∨ k = 5 ∨ k = 6 by omega) with rfl | rfl | rfl | rfl | rfl | rfl | rfl
  · rw [leK_0]
    obtain ⟨j, h1, h2⟩ := mx0_le (a := a) (b := b) (by omega) (by omega)
    exact ⟨j, by omega, h2⟩
  · rw [leK_1, half a ha]
    exact ⟨a / 2, by omega, rfl⟩
  · rw [leK_2]
    obtain ⟨j, h1, h2⟩ := mx0_le (a := a) (b := b) (by omega) (by omega)
    exact ⟨j, by omega, h2⟩
  · rw [leK_3, half b hb]
    obtain ⟨j, h1, h2⟩ := mx0_le (a := a) (b := b / 2) (by omega) (by omega)
    exact ⟨j, by omega, h2⟩
  · rw [leK_4, half b hb]
    obtain ⟨j, h1, h2⟩ := mx0_le (a := a) (b := b / 2) (by omega) (by omega)
    refine ⟨j + 5, by omega, ?_⟩
    rw [h2]
    exact nI_add j 5
  · rw [leK_5, half a ha]
    exact ⟨a / 2, by omega, rfl⟩
  · rw [leK_6]
    by_cases z : nI b = 0
    · exact ⟨a, by omega, by rw [if_pos z]⟩
    · exact ⟨0, by omega, by rw [if_neg z]; rfl⟩
theorem wor_le {r : Rw} (w : WR r) : ∃ j, j ≤ 104 ∧ worD r = nI j := by
  have wg : WR (gR r) := WR_gN w (nC r) (Nat.le_refl _)
  unfold worD worG
  by_cases h : readyG (gR r)
  · rw [if_pos h]
    by_cases g : holG (gR r)
    · exact ⟨0, by omega, by rw [if_pos g]; rfl⟩
    · rw [if_neg g]
      have hc := (wr_cr wg (i := 0) ((wr_pos wg).mp h.1)).1
      obtain ⟨a0, _, a2, _, a6⟩ := wg.2.2.2 _ hc
      unfold lefG
      rw [a0.2, a2.2, a6.2]
      exact leK_le _ a0.1 _ _ a2.1 a6.1
  · exact ⟨0, by omega, by rw [if_neg h]; rfl⟩
theorem sm_le {f : Nat → Int32} {c : Nat} (h : ∀ k, ∃ j, j ≤ c ∧ f k = nI j) : ∀ n, ∃ j, j ≤ c * n ∧ sm f n = nI j := by
  intro n
  induction n with
  | zero => exact ⟨0, by omega, rfl⟩
  | succ n ih =>
    obtain ⟨a, ha, ea⟩ := ih
    obtain ⟨b, hb, eb⟩ := h n
    refine ⟨a + b, by rw [Nat.mul_succ]; omega, ?_⟩
    show sm f n + f n = _
    rw [ea, eb, nI_add]
theorem bS_le {r : Rw} {row : Nat → Nat} {size : Nat} (w : WR r) (hr : ∀ k, k < size → row k < 10) (n : Nat) : ∃ j, j ≤ 104 * n ∧ bS r row size n = nI j :=
  sm_le (fun k => wor_le (WR_fs (WR_bN w hr k) hr)) n
theorem sW_le {r : Rw} (w : WR r) (n : Nat) : ∃ j, j ≤ 104 * n ∧ sW r n = nI j :=
  sm_le (fun k => wor_le (WR_dN w k)) n
theorem Cs.hr {M M1 : Mem} {r : Rw} (c : Cs M M1) (h : HR M 10 r) : HR M1 10 r := HR_ou h (fun k h1 h2 => c.1 k (by omega))
theorem Cs.set {M : Mem} {b i : Nat} {v : Int32} (hb : b = 2 ∨ b = 3 ∨ b = 4) : Cs M (mset M b i v) := ⟨fun k hk => mset_ne (by omega), fun j _ => by rw [mset_ne (by omega)]⟩
/-- the reference: but for the meal -/
def Mb (M M' : Mem) : Prop := (∀ k, k ≠ 130 → k ≠ 135 → M' k = M k) ∧ ∀ j, j ≠ 5 → j ≠ 6 → j ≠ 7 → j ≠ 10 → M' 130 j = M 130 j
theorem Mb.rf {M : Mem} : Mb M M := ⟨fun _ _ _ => rfl, fun _ _ _ _ _ => rfl⟩
theorem Mb.tr {M M1 M2 : Mem} (h1 : Mb M M1) (h2 : Mb M1 M2) : Mb M M2 := ⟨fun k a b => (h2.1 k a b).trans (h1.1 k a b), fun j a b c e => (h2.2 j a b c e).trans (h1.2 j a b c e)⟩
theorem Mb.mo {M M1 : Mem} (h : Mo M M1) (e : M1 131 = M 131) : Mb M M1 := by
  refine ⟨fun k a b => ?_, fun j a b c e => h.2 j a b c⟩
  by_cases c : k = 131
  · subst c
    exact e
  · exact h.1 k a c
theorem Mb.ms {M M1 : Mem} (h : Mb M M1) : Ms M M1 := ⟨fun k hk => h.1 k (by omega) (by omega), h.2 3 (by omega) (by omega) (by omega) (by omega), h.2 17 (by omega) (by omega) (by omega) (by omega)⟩
theorem Mb.m10 {M : Mem} {v : Int32} : Mb M (mset M 130 10 v) := ⟨fun k a _ => mset_ne a, fun j _ _ _ e => by rw [mset_at, upd_ne e]⟩
theorem Mb.m135 {M : Mem} {i : Nat} {v : Int32} : Mb M (mset M 135 i v) := ⟨fun k _ b => mset_ne b, fun j _ _ _ _ => by rw [mset_ne (by omega)]⟩
abbrev r1 (t : Nat) : Nat → Nat := fun _ => t
abbrev r2 (i j : Nat) : Nat → Nat := fun k => if k = 0 then i else j
theorem C_m_one {d t n : Nat} {r a : Rw} {M : Mem} (w : WX r 9999) (e : M 131 = r) (ha : M 133 = cpR r a) (ht : t < 10) (hn : n ≤ 1000) : ∃ M', call (d + 7) 194 [.ref 130, .int (nI t), .int (-1), .int (nI n)] M = some (some (.int (bS r (r1 t) 1 n)), M') ∧ Mb M M' := by
  obtain ⟨M1, hM1⟩ : ∃ M1, M1 = mset M 130 10 1 := ⟨_, rfl⟩
  obtain ⟨M2, hM2⟩ : ∃ M2, M2 = mset M1 135 0 (nI t) := ⟨_, rfl⟩
  obtain ⟨M3, hM3⟩ : ∃ M3, M3 = mset M2 135 1 0 := ⟨_, rfl⟩
  have bb1 : Mb M M1 := by rw [hM1]; exact Mb.m10
  have bb2 : Mb M1 M2 := by rw [hM2]; exact Mb.m135
  have bb3 : Mb M2 M3 := by rw [hM3]; exact Mb.m135
  have b3 : Mb M M3 := (bb1.tr bb2).tr bb3
  have me : Me M3 (r1 t) 1 := by
    refine ⟨by omega, by rw [hM3, mset_ne (by omega), hM2, mset_ne (by omega), hM1, mset_at, upd_at]; rfl, fun k hk => ⟨ht, ?_⟩⟩
    obtain rfl : k = 0 := by omega
    rw [hM3, mset_at, upd_ne (by omega), hM2, mset_at, upd_at]
  obtain ⟨M4, c4, o4, e4⟩ := C_m_brings (d := d + 0) (n := n) w ((b3.1 131 (by omega) (by omega)).trans e) ((b3.1 133 (by omega) (by omega)).trans ha) me hn
  rw [show d + 0 + 6 = d + 6 from rfl] at c4
  rw [nX6_bringsOf]
  simp only [sX6_bringsOf_0, sX6_bringsOf_1, sX6_bringsOf_2, sX6_bringsOf_5, sX6_bringsOf_6, sX6_bringsOf_9, sX6_bringsOf_13, sX6_bringsOf_14, sX6_bringsOf_17, sX6_bringsOf_18, sX6_bringsOf_20, sX6_bringsOf_21, sX6_bringsOf_24, sX6_bringsOf_25, sX6_bringsOf_26, sX6_bringsOf_27, sX6_bringsOf_31, sX6_bringsOf_32, sX6_bringsOf_33, sX6_bringsOf_36, opK_some, guK_true, calK_some, rk_nil, rk_int, rk_ref, tl_some, tl_none, nb_int, nb_0, nb_1, nb_if, nb_if']
  rw [if_neg (show ¬ (0 : Int32) ≤ -1 by decide), sX6_bringsOf_10]
  simp only [sX6_bringsOf_0, sX6_bringsOf_1, sX6_bringsOf_2, sX6_bringsOf_5, sX6_bringsOf_6, sX6_bringsOf_9, sX6_bringsOf_13, sX6_bringsOf_14, sX6_bringsOf_17, sX6_bringsOf_18, sX6_bringsOf_20, sX6_bringsOf_21, sX6_bringsOf_24, sX6_bringsOf_25, sX6_bringsOf_26, sX6_bringsOf_27, sX6_bringsOf_31, sX6_bringsOf_32, sX6_bringsOf_33, sX6_bringsOf_36, opK_some, guK_true, calK_some, rk_nil, rk_int, rk_ref, tl_some, tl_none, nb_int, nb_0, nb_1, nb_if, nb_if', p130_10, o130_9, ← hM1]
  rw [sX6_bringsOf_19]
  simp only [sX6_bringsOf_0, sX6_bringsOf_1, sX6_bringsOf_2, sX6_bringsOf_5, sX6_bringsOf_6, sX6_bringsOf_9, sX6_bringsOf_13, sX6_bringsOf_14, sX6_bringsOf_17, sX6_bringsOf_18, sX6_bringsOf_20, sX6_bringsOf_21, sX6_bringsOf_24, sX6_bringsOf_25, sX6_bringsOf_26, sX6_bringsOf_27, sX6_bringsOf_31, sX6_bringsOf_32, sX6_bringsOf_33, sX6_bringsOf_36, opK_some, guK_true, calK_some, rk_nil, rk_int, rk_ref, tl_some, tl_none, nb_int, nb_0, nb_1, nb_if, nb_if', a135, b135, ib_0_10, tn_0, o130_9, ← hM2]
  rw [show (if (0 : Int32) < -1 then (-1 : Int32) else 0) = 0 from rfl, sX6_bringsOf_30]
  simp only [sX6_bringsOf_0, sX6_bringsOf_1, sX6_bringsOf_2, sX6_bringsOf_5, sX6_bringsOf_6, sX6_bringsOf_9, sX6_bringsOf_13, sX6_bringsOf_14, sX6_bringsOf_17, sX6_bringsOf_18, sX6_bringsOf_20, sX6_bringsOf_21, sX6_bringsOf_24, sX6_bringsOf_25, sX6_bringsOf_26, sX6_bringsOf_27, sX6_bringsOf_31, sX6_bringsOf_32, sX6_bringsOf_33, sX6_bringsOf_36, opK_some, guK_true, calK_some, rk_nil, rk_int, rk_ref, tl_some, tl_none, nb_int, nb_0, nb_1, nb_if, nb_if', a135, b135, ib_1_10, tn_1, q130, ← hM3, c4]
  exact ⟨M4, rfl, b3.tr (Mb.mo o4 (by rw [e4, b3.1 131 (by omega) (by omega), e]))⟩
theorem C_m_two {d i j n : Nat} {r a : Rw} {M : Mem} (w : WX r 9999) (e : M 131 = r) (ha : M 133 = cpR r a) (hi : i < 10) (hj : j < 10) (hn : n ≤ 1000) : ∃ M', call (d + 7) 194 [.ref 130, .int (nI i), .int (nI j), .int (nI n)] M = some (some (.int (bS r (r2 i j) 2 n)), M') ∧ Mb M M' := by
  obtain ⟨M1, hM1⟩ : ∃ M1, M1 = mset M 130 10 2 := ⟨_, rfl⟩
  obtain ⟨M2, hM2⟩ : ∃ M2, M2 = mset M1 135 0 (nI i) := ⟨_, rfl⟩
  obtain ⟨M3, hM3⟩ : ∃ M3, M3 = mset M2 135 1 (nI j) := ⟨_, rfl⟩
  have bb1 : Mb M M1 := by rw [hM1]; exact Mb.m10
  have bb2 : Mb M1 M2 := by rw [hM2]; exact Mb.m135
  have bb3 : Mb M2 M3 := by rw [hM3]; exact Mb.m135
  have b3 : Mb M M3 := (bb1.tr bb2).tr bb3
  have me : Me M3 (r2 i j) 2 := by
    refine ⟨by omega, by rw [hM3, mset_ne (by omega), hM2, mset_ne (by omega), hM1, mset_at, upd_at]; rfl, fun k hk => ?_⟩
    rcases (show k = 0 ∨ k = 1 by omega) with rfl | rfl
    · exact ⟨hi, by rw [hM3, mset_at, upd_ne (by omega), hM2, mset_at, upd_at]; rfl⟩
    · exact ⟨hj, by rw [hM3, mset_at, upd_at]; rfl⟩
  obtain ⟨M4, c4, o4, e4⟩ := C_m_brings (d := d + 0) (n := n) w ((b3.1 131 (by omega) (by omega)).trans e) ((b3.1 133 (by omega) (by omega)).trans ha) me hn
  rw [show d + 0 + 6 = d + 6 from rfl] at c4
  have hm : (if (0 : Int32) < nI j then nI j else 0) = nI j := by
    by_cases z : (0 : Int32) < nI j
    · rw [if_pos z]
    · have : j = 0 := by
        rcases Nat.eq_zero_or_pos j with x | x
        · exact x
        · exact absurd (nI_lt (a := 0) x (by omega)) z
      rw [if_neg z, this]
      rfl
  rw [nX6_bringsOf]
  simp only [sX6_bringsOf_0, sX6_bringsOf_1, sX6_bringsOf_2, sX6_bringsOf_5, sX6_bringsOf_6, sX6_bringsOf_9, sX6_bringsOf_13, sX6_bringsOf_14, sX6_bringsOf_17, sX6_bringsOf_18, sX6_bringsOf_20, sX6_bringsOf_21, sX6_bringsOf_24, sX6_bringsOf_25, sX6_bringsOf_26, sX6_bringsOf_27, sX6_bringsOf_31, sX6_bringsOf_32, sX6_bringsOf_33, sX6_bringsOf_36, opK_some, guK_true, calK_some, rk_nil, rk_int, rk_ref, tl_some, tl_none, nb_int, nb_0, nb_1, nb_if, nb_if']
  rw [if_pos (show (0 : Int32) ≤ nI j from nI_le (a := 0) (by omega) (by omega)), sX6_bringsOf_10]
  simp only [sX6_bringsOf_0, sX6_bringsOf_1, sX6_bringsOf_2, sX6_bringsOf_5, sX6_bringsOf_6, sX6_bringsOf_9, sX6_bringsOf_13, sX6_bringsOf_14, sX6_bringsOf_17, sX6_bringsOf_18, sX6_bringsOf_20, sX6_bringsOf_21, sX6_bringsOf_24, sX6_bringsOf_25, sX6_bringsOf_26, sX6_bringsOf_27, sX6_bringsOf_31, sX6_bringsOf_32, sX6_bringsOf_33, sX6_bringsOf_36, opK_some, guK_true, calK_some, rk_nil, rk_int, rk_ref, tl_some, tl_none, nb_int, nb_0, nb_1, nb_if, nb_if', p130_10, o130_9, ← hM1]
  rw [sX6_bringsOf_19]
  simp only [sX6_bringsOf_0, sX6_bringsOf_1, sX6_bringsOf_2, sX6_bringsOf_5, sX6_bringsOf_6, sX6_bringsOf_9, sX6_bringsOf_13, sX6_bringsOf_14, sX6_bringsOf_17, sX6_bringsOf_18, sX6_bringsOf_20, sX6_bringsOf_21, sX6_bringsOf_24, sX6_bringsOf_25, sX6_bringsOf_26, sX6_bringsOf_27, sX6_bringsOf_31, sX6_bringsOf_32, sX6_bringsOf_33, sX6_bringsOf_36, opK_some, guK_true, calK_some, rk_nil, rk_int, rk_ref, tl_some, tl_none, nb_int, nb_0, nb_1, nb_if, nb_if', a135, b135, ib_0_10, tn_0, o130_9, ← hM2]
  rw [hm, sX6_bringsOf_30]
  simp only [sX6_bringsOf_0, sX6_bringsOf_1, sX6_bringsOf_2, sX6_bringsOf_5, sX6_bringsOf_6, sX6_bringsOf_9, sX6_bringsOf_13, sX6_bringsOf_14, sX6_bringsOf_17, sX6_bringsOf_18, sX6_bringsOf_20, sX6_bringsOf_21, sX6_bringsOf_24, sX6_bringsOf_25, sX6_bringsOf_26, sX6_bringsOf_27, sX6_bringsOf_31, sX6_bringsOf_32, sX6_bringsOf_33, sX6_bringsOf_36, opK_some, guK_true, calK_some, rk_nil, rk_int, rk_ref, tl_some, tl_none, nb_int, nb_0, nb_1, nb_if, nb_if', a135, b135, ib_1_10, tn_1, q130, ← hM3, c4]
  exact ⟨M4, rfl, b3.tr (Mb.mo o4 (by rw [e4, b3.1 131 (by omega) (by omega), e]))⟩
theorem C_x_one {d t n : Nat} {M : Mem} {r : Rw} (h : HR M 10 r) (w : WR r) (ht : t < 10) (hn : n < 2 ^ 31) (e : M 2 0 = nI t) : ∃ M', call (d + 5) 46 [.ref 0, .int 1, .int (nI n)] M = some (some (.int (bS r (r1 t) 1 n)), M') ∧ Ou 30 M M' :=
  C_bring (d := d) (size := 1) h w ⟨by omega, fun k hk => ⟨ht, by
    obtain rfl : k = 0 := by omega
    exact e⟩⟩ hn
theorem C_x_two {d i j n : Nat} {M : Mem} {r : Rw} (h : HR M 10 r) (w : WR r) (hi : i < 10) (hj : j < 10) (hn : n < 2 ^ 31) (e0 : M 2 0 = nI i) (e1 : M 2 1 = nI j) : ∃ M', call (d + 5) 46 [.ref 0, .int 2, .int (nI n)] M = some (some (.int (bS r (r2 i j) 2 n)), M') ∧ Ou 30 M M' :=
  C_bring (d := d) (size := 2) h w ⟨by omega, fun k hk => by
    rcases (show k = 0 ∨ k = 1 by omega) with rfl | rfl
    · exact ⟨hi, e0⟩
    · exact ⟨hj, e1⟩⟩ hn
theorem C_x_none {d n : Nat} {M : Mem} {r : Rw} (h : HR M 10 r) (w : WR r) (hn : n < 2 ^ 31) : ∃ M', call (d + 5) 46 [.ref 0, .int 0, .int (nI n)] M = some (some (.int (bS r (r1 0) 0 n)), M') ∧ Ou 30 M M' :=
  C_bring (d := d) (size := 0) h w ⟨by omega, fun k hk => absurd hk (by omega)⟩ hn

