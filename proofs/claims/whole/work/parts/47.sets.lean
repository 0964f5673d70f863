/-! sets of things -/
theorem sh_l : ∀ n, n < 32 → ((nI n &&& 31).toBitVec.smod 32).toNat = n := by decide +kernel
theorem sh_u : ∀ n, n < 32 → (((nI n).toUInt32 &&& Int32.toUInt32 31).toBitVec % 32).toNat = n := by decide +kernel
theorem nI_bit (a i : Nat) : (nI a).toBitVec.getLsbD i = (decide (i < 32) && a.testBit i) := BitVec.getLsbD_ofNat 32 a i
theorem nI_or (a b : Nat) : nI a ||| nI b = nI (a ||| b) := by
  apply Int32.toBitVec_inj.1
  show BitVec.ofNat 32 a ||| BitVec.ofNat 32 b = BitVec.ofNat 32 (a ||| b)
  apply BitVec.eq_of_getLsbD_eq
  intro i hi
  simp [hi]
theorem one_shl {n : Nat} (h : n < 31) : (1 : Int32) <<< (nI n &&& 31) = nI (2 ^ n) := by
  have := pk_shlN (n := 1) (nI n &&& 31) n (sh_l n (by omega)) (by rw [Nat.one_mul]; exact Nat.pow_lt_pow_right (by omega) (by omega))
  rw [Nat.one_mul] at this
  exact this
theorem hb_v {s t : Nat} (hs : s < 2 ^ 31) (ht : t < 32) : (nI s >>> (nI t &&& 31)) &&& 1 = if s.testBit t then 1 else 0 := by
  rw [pk_shrN hs (nI t &&& 31) t (sh_l t ht), pk_andN (by have := Nat.div_le_self s (2 ^ t); omega) 1 (by decide), Nat.testBit_eq_decide_div_mod_eq]
  rcases Nat.mod_two_eq_zero_or_one (s / 2 ^ t) with e | e
  · rw [show s / 2 ^ t % 2 ^ 1 = 0 from e]
    rfl
  · rw [show s / 2 ^ t % 2 ^ 1 = 1 from e]
    rfl
/-- those of the first n for which it is so -/
def tS (p : Nat → Bool) : Nat → Nat
  | 0 => 0
  | n + 1 => if p n then tS p n + 2 ^ n else tS p n
theorem tS_lt (p : Nat → Bool) : ∀ n, tS p n < 2 ^ n := by
  intro n
  induction n with
  | zero => exact Nat.one_pos
  | succ n ih =>
    have e : 2 ^ (n + 1) = 2 ^ n + 2 ^ n := by rw [Nat.pow_succ]; omega
    show (if p n then tS p n + 2 ^ n else tS p n) < 2 ^ (n + 1)
    split <;> omega
theorem tS_bit (p : Nat → Bool) : ∀ n t, (tS p n).testBit t = (decide (t < n) && p t) := by
  intro n
  induction n with
  | zero =>
    intro t
    show Nat.testBit 0 t = _
    rw [Nat.zero_testBit]
    rfl
  | succ n ih =>
    intro t
    show (if p n then tS p n + 2 ^ n else tS p n).testBit t = _
    rcases Nat.lt_trichotomy t n with h | h | h
    · have ed : decide (t < n + 1) = true := decide_eq_true (by omega)
      have ed' : decide (t < n) = true := decide_eq_true h
      have e := ih t
      rw [ed'] at e
      rw [ed]
      split
      · rw [Nat.add_comm, Nat.testBit_two_pow_add_gt h, e]
      · exact e
    · subst h
      have ed : decide (t < t + 1) = true := decide_eq_true (by omega)
      have e := ih t
      rw [decide_eq_false (Nat.lt_irrefl t)] at e
      rw [ed]
      split
      · rename_i c
        rw [Nat.add_comm, Nat.testBit_two_pow_add_eq, e, c]
        rfl
      · rename_i c
        rw [e, Bool.eq_false_iff.mpr c]
        rfl
    · rw [decide_eq_false (show ¬ t < n + 1 by omega)]
      have b : (if p n then tS p n + 2 ^ n else tS p n) < 2 ^ t := by
        have h1 := tS_lt p (n + 1)
        have h2 : 2 ^ (n + 1) ≤ 2 ^ t := Nat.pow_le_pow_right (by omega) h
        exact Nat.lt_of_lt_of_le h1 h2
      rw [Nat.testBit_lt_two_pow b]
      rfl
theorem p2_le {n m : Nat} (h : n ≤ m) : 2 ^ n ≤ 2 ^ m := Nat.pow_le_pow_right (by omega) h
theorem p2_10 {n : Nat} (h : n ≤ 10) : 2 ^ n ≤ 1024 := p2_le (m := 10) h
theorem tS_or {p : Nat → Bool} {n : Nat} (h : n < 31) : nI (tS p n) ||| ((1 : Int32) <<< (nI n &&& 31)) = nI (tS p n + 2 ^ n) := by
  rw [one_shl h, nI_or]
  have := Nat.two_pow_add_eq_or_of_lt (tS_lt p n) 1
  rw [Nat.mul_one] at this
  rw [Nat.add_comm, this, Nat.or_comm]
theorem tS_1 {p : Nat → Bool} {n : Nat} (h : n < 31) : nI (tS p n) ||| (if p n then (1 : Int32) <<< (nI n &&& 31) else 0) = nI (tS p (n + 1)) := by
  show _ = nI (if p n then tS p n + 2 ^ n else tS p n)
  by_cases c : p n
  · rw [if_pos c, if_pos c, tS_or h]
  · rw [if_neg c, if_neg c, ← nI_0, nI_or, Nat.or_zero]
theorem mask_0 {s i n : Nat} (hs : s < 2 ^ n) (hn : n ≤ 10) : (nI s &&& (nI i ^^^ (-1)) = 0) ↔ ∀ t, t < n → s.testBit t = true → i.testBit t = true := by
  have m1 : ∀ t, t < 32 → (-1 : Int32).toBitVec.getLsbD t = true := by decide +kernel
  have z0 : ∀ t, (0 : Int32).toBitVec.getLsbD t = false := fun t => BitVec.getLsbD_zero
  constructor
  · intro h t ht hb
    have e := congrArg (fun x : Int32 => x.toBitVec.getLsbD t) h
    simp only [Int32.toBitVec_and, Int32.toBitVec_xor, BitVec.getLsbD_and, BitVec.getLsbD_xor, nI_bit, z0, m1 t (by omega), hb, decide_eq_true (show t < 32 by omega), Bool.true_and] at e
    cases c : i.testBit t with
    | true => rfl
    | false => rw [c] at e; exact absurd e (by decide)
  · intro h
    apply Int32.toBitVec_inj.1
    apply BitVec.eq_of_getLsbD_eq
    intro t ht
    simp only [Int32.toBitVec_and, Int32.toBitVec_xor, BitVec.getLsbD_and, BitVec.getLsbD_xor, nI_bit, z0, m1 t ht, decide_eq_true ht, Bool.true_and]
    by_cases hn' : t < n
    · cases c : s.testBit t with
      | true => rw [h t hn' c]; rfl
      | false => rfl
    · have : s < 2 ^ t := Nat.lt_of_lt_of_le hs (p2_le (by omega))
      rw [Nat.testBit_lt_two_pow this]
      rfl
abbrev setP (r : Rw) (x : Int32) : Prop := 0 ≤ x ∧ x ≤ nI (2 ^ nT r - 1)
theorem set_of {r : Rw} {x : Int32} (w : WR r) (h : setP r x) : ∃ s, s < 2 ^ nT r ∧ x = nI s := by
  have h10 := p2_10 (wr_T w).1
  have h0 : 0 < 2 ^ nT r := Nat.pow_pos (by omega)
  obtain ⟨s, h1, h2⟩ := nI_of2 (n := 2 ^ nT r - 1) (nI_toInt (by omega)) (Int32.not_lt.mpr h.1) h.2
  exact ⟨s, by omega, h2⟩
theorem set_is {r : Rw} {s : Nat} (w : WR r) (h : s < 2 ^ nT r) : setP r (nI s) := by
  have h10 := p2_10 (wr_T w).1
  exact ⟨nI_le (a := 0) (by omega) (by omega), nI_le (by omega) (by omega)⟩
theorem set_u {r : Rw} {x : Int32} (w : WR r) : ((x.toUInt32 >>> ((nI (nT r)).toUInt32 &&& Int32.toUInt32 31)).toInt32 = 0) ↔ setP r x := by
  have hT := (wr_T w).1
  have h10 := p2_10 hT
  have h0 : 0 < 2 ^ nT r := Nat.pow_pos (by omega)
  have e := pk_ushr x (nI (nT r)) (nT r) (sh_u _ (by omega))
  constructor
  · intro h
    rw [h] at e
    have e' : 0 = x.toBitVec.toNat / 2 ^ nT r := e
    have hl : x.toBitVec.toNat < 2 ^ nT r := by
      rcases Nat.div_eq_zero_iff.mp e'.symm with z | z
      · omega
      · exact z
    have ex : x = nI x.toBitVec.toNat := by
      apply Int32.toBitVec_inj.1
      show x.toBitVec = BitVec.ofNat 32 x.toBitVec.toNat
      simp
    rw [ex]
    exact set_is w hl
  · intro h
    obtain ⟨s, hs, rfl⟩ := set_of w h
    rw [pk_ushrN (by omega) _ _ (sh_u _ (by omega)), Nat.div_eq_of_lt hs]
    rfl
def outB (r : Rw) (s : Nat) : Bool := decide (∀ t, t < nT r → s.testBit t = true → r (at9 t 4) = 0)
abbrev outP (r : Rw) (s : Nat) : Prop := outB r s = true
theorem out_i {r : Rw} {s : Nat} : outP r s ↔ ∀ t, t < nT r → s.testBit t = true → r (at9 t 4) = 0 := decide_eq_true_iff
theorem C_x_isSet {d : Nat} {M : Mem} {r : Rw} {x : Int32} (h : HR M 10 r) (w : WR r) : call (d + 1) 43 [.ref 0, .int x] M = some (some (.int (if setP r x then 1 else 0)), M) := by
  have e0 : M 10 0 = nI (nT r) := h.1.1.trans (wr_T w).2
  rw [nX5_isSet]
  simp only [sX5_isSet_0, sX5_isSet_1, sX5_isSet_2, sX5_isSet_5, sX5_isSet_8, sX5_isSet_11, sX5_isSet_12, sX5_isSet_15, sX5_isSet_16, sX5_isSet_19, sX5_isSet_20, opK_some, guK_true, calK_some, rk_nil, rk_int, rk_ref, tl_some, tl_none, nb_int, nb_0, nb_1, nb_if, nb_if', o0_0, o100_0, hs_0 hen10, e0]
  by_cases c : setP r x
  · rw [if_pos c, if_pos ((set_u w).mpr c)]
  · rw [if_neg c, if_neg (fun z => c ((set_u w).mp z))]
theorem C_m_isSet {d : Nat} {M : Mem} {x : Int32} (w : WR (M 131)) : call (d + 2) 181 [.ref 130, .int x] M = some (some (.int (if setP (M 131) x then 1 else 0)), M) := by
  have e3 := wr_T w
  have h0 : 0 < 2 ^ nT (M 131) := Nat.pow_pos (by omega)
  have e : (1 : Int32) <<< (M 131 3 &&& 31) - 1 = nI (2 ^ nT (M 131) - 1) := by
    rw [e3.2, one_shl (by omega), pk_sub1 (by omega)]
  rw [nX6_isSet]
  simp only [sX6_isSet_0, sX6_isSet_1, sX6_isSet_2, sX6_isSet_3, sX6_isSet_4, sX6_isSet_7, sX6_isSet_8, sX6_isSet_9, sX6_isSet_10, sX6_isSet_11, sX6_isSet_12, sX6_isSet_15, opK_some, guK_true, calK_some, rk_nil, rk_int, rk_ref, tl_some, tl_none, nb_int, nb_0, nb_1, nb_if, nb_if', o130_0, a131, ib_3_132, tn_3, C_m_within, e]
theorem L_areOut {d s : Nat} {M : Mem} {r : Rw} (h : HR M 10 r) (w : WR r) (hs : s < 2 ^ nT r) : ∀ (n i : Nat), i + n = nT r → (∀ t, t < i → s.testBit t = true → r (at9 t 4) = 0) →
    lim (call (d + 1)) none 5 cX5_areOut (some .boolean) 2 [some (.ref 0), some (.int (nI s)), some (.int (nI i))] [] M = some (some (.int (if outP r s then 1 else 0)), M) := by
  have hT := wr_T w
  have h10 := p2_10 hT.1
  have e0 : M 10 0 = nI (nT r) := h.1.1.trans hT.2
  intro n
  induction n with
  | zero =>
    intro i hi ho
    rw [sX5_areOut_2]
    simp only [sX5_areOut_0, sX5_areOut_1, sX5_areOut_3, sX5_areOut_4, sX5_areOut_7, sX5_areOut_10, sX5_areOut_13, sX5_areOut_16, sX5_areOut_17, sX5_areOut_18, sX5_areOut_19, sX5_areOut_20, sX5_areOut_21, sX5_areOut_24, sX5_areOut_25, sX5_areOut_28, sX5_areOut_31, sX5_areOut_32, sX5_areOut_35, sX5_areOut_38, sX5_areOut_39, sX5_areOut_40, sX5_areOut_43, sX5_areOut_46, sX5_areOut_47, opK_some, guK_true, calK_some, rk_nil, rk_int, rk_ref, tl_some, tl_none, nb_int, nb_0, nb_1, nb_if, nb_if', o0_0, o100_0, hs_0 hen10, e0]
    rw [if_pos (show nI (nT r) ≤ nI i from nI_le (by omega) (by omega)), if_pos (show outP r s from out_i.mpr (fun t ht => ho t (by omega)))]
  | succ n ih =>
    intro i hi ho
    have i10 : i < 10 := by omega
    have c1 := C_isOut (d := d + 0) hen10 h i10
    rw [show d + 0 + 1 = d + 1 from rfl] at c1
    rw [sX5_areOut_2]
    simp only [sX5_areOut_0, sX5_areOut_1, sX5_areOut_3, sX5_areOut_4, sX5_areOut_7, sX5_areOut_10, sX5_areOut_13, sX5_areOut_16, sX5_areOut_17, sX5_areOut_18, sX5_areOut_19, sX5_areOut_20, sX5_areOut_21, sX5_areOut_24, sX5_areOut_25, sX5_areOut_28, sX5_areOut_31, sX5_areOut_32, sX5_areOut_35, sX5_areOut_38, sX5_areOut_39, sX5_areOut_40, sX5_areOut_43, sX5_areOut_46, sX5_areOut_47, opK_some, guK_true, calK_some, rk_nil, rk_int, rk_ref, tl_some, tl_none, nb_int, nb_0, nb_1, nb_if, nb_if', o0_0, o100_0, hs_0 hen10, hen_c hen10, e0, hb_v (show s < 2 ^ 31 by omega) (show i < 32 by omega), c1, nI_1]
    rw [if_neg (show ¬ nI (nT r) ≤ nI i from nI_ge (by omega) (by omega))]
    by_cases hb : s.testBit i = true
    · by_cases hz : r (at9 i 4) = 0
      · simp only [hb, hz, if_true, one_ne, if_false, ne_eq, not_false_eq_true]
        exact ih (i + 1) (by omega) (fun t ht hbt => by
          by_cases c : t = i
          · subst c
            exact hz
          · exact ho t (by omega) hbt)
      · have np : ¬ outP r s := fun z => hz (out_i.mp z i (by omega) hb)
        simp only [hb, hz, np, if_true, one_ne, zero_eq, if_false, ne_eq, not_true]
    · simp only [hb, if_false, zero_eq, if_true, Bool.false_eq_true]
      exact ih (i + 1) (by omega) (fun t ht hbt => by
        by_cases c : t = i
        · subst c
          exact absurd hbt hb
        · exact ho t (by omega) hbt)
theorem C_areOut {d s : Nat} {M : Mem} {r : Rw} (h : HR M 10 r) (w : WR r) (hs : s < 2 ^ nT r) : call (d + 2) 44 [.ref 0, .int (nI s)] M = some (some (.int (if outP r s then 1 else 0)), M) := by
  rw [nX5_areOut]
  simp only [sX5_areOut_0, sX5_areOut_1, sX5_areOut_3, sX5_areOut_4, sX5_areOut_7, sX5_areOut_10, sX5_areOut_13, sX5_areOut_16, sX5_areOut_17, sX5_areOut_18, sX5_areOut_19, sX5_areOut_20, sX5_areOut_21, sX5_areOut_24, sX5_areOut_25, sX5_areOut_28, sX5_areOut_31, sX5_areOut_32, sX5_areOut_35, sX5_areOut_38, sX5_areOut_39, sX5_areOut_40, sX5_areOut_43, sX5_areOut_46, sX5_areOut_47, opK_some, guK_true, calK_some, rk_nil, rk_int, rk_ref, tl_some, tl_none, nb_int, nb_0, nb_1, nb_if, nb_if']
  exact L_areOut h w hs (nT r) 0 (by omega) (fun t ht => absurd ht (by omega))
theorem L_thingsThat {d : Nat} {M : Mem} {x : Int32} (w : WR (M 131)) : ∀ (n i : Nat), i + n = nT (M 131) →
    lim (call (d + 3)) none 6 cX6_thingsThat (some .int) 4 [some (.ref 130), some (.int x), some (.int (nI (tS (fun t => decide (M 131 (at9 t 4) = x)) i))), some (.int (nI i))] [] M = some (some (.int (nI (tS (fun t => decide (M 131 (at9 t 4) = x)) (nT (M 131))))), M) := by
  have hT := wr_T w
  intro n
  induction n with
  | zero =>
    intro i hi
    obtain rfl : i = nT (M 131) := by omega
    rw [sX6_thingsThat_4]
    simp only [sX6_thingsThat_0, sX6_thingsThat_1, sX6_thingsThat_2, sX6_thingsThat_3, sX6_thingsThat_5, sX6_thingsThat_6, sX6_thingsThat_9, sX6_thingsThat_10, sX6_thingsThat_11, sX6_thingsThat_14, sX6_thingsThat_15, sX6_thingsThat_16, sX6_thingsThat_17, sX6_thingsThat_18, sX6_thingsThat_21, sX6_thingsThat_24, sX6_thingsThat_25, sX6_thingsThat_26, sX6_thingsThat_27, sX6_thingsThat_30, sX6_thingsThat_31, sX6_thingsThat_32, sX6_thingsThat_33, sX6_thingsThat_36, sX6_thingsThat_39, sX6_thingsThat_40, opK_some, guK_true, calK_some, rk_nil, rk_int, rk_ref, tl_some, tl_none, nb_int, nb_0, nb_1, nb_if, nb_if', o130_0, a131, ib_3_132, tn_3]
    rw [if_pos (show M 131 3 ≤ nI (nT (M 131)) by rw [← hT.2]; exact Int32.le_refl _)]
  | succ n ih =>
    intro i hi
    have c1 := C_m_isHow (d := d + 0) (M := M) (x := x) (show i < 10 by omega)
    rw [show d + 0 + 3 = d + 3 from rfl] at c1
    rw [sX6_thingsThat_4]
    simp only [sX6_thingsThat_0, sX6_thingsThat_1, sX6_thingsThat_2, sX6_thingsThat_3, sX6_thingsThat_5, sX6_thingsThat_6, sX6_thingsThat_9, sX6_thingsThat_10, sX6_thingsThat_11, sX6_thingsThat_14, sX6_thingsThat_15, sX6_thingsThat_16, sX6_thingsThat_17, sX6_thingsThat_18, sX6_thingsThat_21, sX6_thingsThat_24, sX6_thingsThat_25, sX6_thingsThat_26, sX6_thingsThat_27, sX6_thingsThat_30, sX6_thingsThat_31, sX6_thingsThat_32, sX6_thingsThat_33, sX6_thingsThat_36, sX6_thingsThat_39, sX6_thingsThat_40, opK_some, guK_true, calK_some, rk_nil, rk_int, rk_ref, tl_some, tl_none, nb_int, nb_0, nb_1, nb_if, nb_if', o130_0, a131, ib_3_132, tn_3, q130, c1, nI_1]
    rw [if_neg (show ¬ M 131 3 ≤ nI i by rw [hT.2]; exact nI_ge (by omega) (by omega))]
    have e := tS_1 (p := fun t => decide (M 131 (at9 t 4) = x)) (n := i) (by omega)
    by_cases c : M 131 (at9 i 4) = x
    · rw [if_pos (decide_eq_true c)] at e
      simp only [c, if_true, one_ne, if_false, e]
      exact ih (i + 1) (by omega)
    · rw [if_neg (fun z => c (of_decide_eq_true z))] at e
      simp only [c, if_false, zero_eq, if_true, e]
      exact ih (i + 1) (by omega)
abbrev hoS (r : Rw) (x : Int32) : Nat := tS (fun t => decide (r (at9 t 4) = x)) (nT r)
theorem C_m_thingsThat {d : Nat} {M : Mem} {x : Int32} (w : WR (M 131)) : call (d + 4) 183 [.ref 130, .int x] M = some (some (.int (nI (hoS (M 131) x))), M) := by
  rw [nX6_thingsThat]
  simp only [sX6_thingsThat_0, sX6_thingsThat_1, sX6_thingsThat_2, sX6_thingsThat_3, sX6_thingsThat_5, sX6_thingsThat_6, sX6_thingsThat_9, sX6_thingsThat_10, sX6_thingsThat_11, sX6_thingsThat_14, sX6_thingsThat_15, sX6_thingsThat_16, sX6_thingsThat_17, sX6_thingsThat_18, sX6_thingsThat_21, sX6_thingsThat_24, sX6_thingsThat_25, sX6_thingsThat_26, sX6_thingsThat_27, sX6_thingsThat_30, sX6_thingsThat_31, sX6_thingsThat_32, sX6_thingsThat_33, sX6_thingsThat_36, sX6_thingsThat_39, sX6_thingsThat_40, opK_some, guK_true, calK_some, rk_nil, rk_int, rk_ref, tl_some, tl_none, nb_int, nb_0, nb_1, nb_if, nb_if']
  exact L_thingsThat w (nT (M 131)) 0 (by omega)
theorem out_m {r : Rw} {s : Nat} (w : WR r) (hs : s < 2 ^ nT r) : (nI s &&& (nI (hoS r 0) ^^^ (-1)) = 0) ↔ outP r s := by
  rw [mask_0 hs (wr_T w).1, out_i]
  constructor
  · intro h t ht hb
    have := h t ht hb
    rw [tS_bit, decide_eq_true ht] at this
    exact of_decide_eq_true this
  · intro h t ht hb
    rw [tS_bit, decide_eq_true ht]
    exact decide_eq_true (h t ht hb)
theorem C_m_ref0 {d : Nat} {M : Mem} {x n : Int32} : call (d + 5) 182 [.ref 130, .int 0, .int x, .int n] M = some (some (.int (-1000001)), M) := by
  rw [nX6_refuses]
  simp only [sX6_refuses_0, sX6_refuses_1, sX6_refuses_4, sX6_refuses_5, sX6_refuses_6, sX6_refuses_8, sX6_refuses_11, sX6_refuses_14, sX6_refuses_16, sX6_refuses_17, sX6_refuses_18, sX6_refuses_19, sX6_refuses_20, sX6_refuses_23, sX6_refuses_24, sX6_refuses_25, sX6_refuses_26, sX6_refuses_29, sX6_refuses_30, sX6_refuses_31, sX6_refuses_34, sX6_refuses_37, sX6_refuses_39, sX6_refuses_42, sX6_refuses_43, opK_some, guK_true, calK_some, rk_nil, rk_int, rk_ref, tl_some, tl_none, nb_int, nb_0, nb_1, nb_if, nb_if', zero_eq, if_true]
theorem C_m_ref1 {d s : Nat} {M : Mem} {n : Int32} (w : WR (M 131)) (hs : s < 2 ^ nT (M 131)) : call (d + 5) 182 [.ref 130, .int 1, .int (nI s), .int n] M = some (some (.int (if ¬ (1 ≤ n ∧ n ≤ 60) then -1000001 else if ¬ outP (M 131) s ∨ 9999 < M 131 0 + n then -1000005 else 0)), M) := by
  rw [nX6_refuses]
  simp only [sX6_refuses_0, sX6_refuses_1, sX6_refuses_4, sX6_refuses_5, sX6_refuses_6, sX6_refuses_8, sX6_refuses_11, sX6_refuses_14, sX6_refuses_16, sX6_refuses_17, sX6_refuses_18, sX6_refuses_19, sX6_refuses_20, sX6_refuses_23, sX6_refuses_24, sX6_refuses_25, sX6_refuses_26, sX6_refuses_29, sX6_refuses_30, sX6_refuses_31, sX6_refuses_34, sX6_refuses_37, sX6_refuses_39, sX6_refuses_42, sX6_refuses_43, opK_some, guK_true, calK_some, rk_nil, rk_int, rk_ref, tl_some, tl_none, nb_int, nb_0, nb_1, nb_if, nb_if', q130, C_m_within, C_m_thingsThat w, C_m_isTooLate, one_ne, if_false]
  by_cases c : 1 ≤ n ∧ n ≤ 60
  · simp only [c, and_self, not_true, if_true, one_ne, if_false, ne_eq, not_false_eq_true]
    by_cases a : outP (M 131) s
    · rw [if_pos ((out_m w hs).mpr a)]
      by_cases l : 9999 < M 131 0 + n
      · simp only [a, l, if_true, one_ne, if_false, not_true, false_or]
      · simp only [a, l, zero_eq, if_true, if_false, not_true, false_or]
    · rw [if_neg (fun z => a ((out_m w hs).mp z))]
      simp only [a, not_false_eq_true, true_or, if_true]
  · simp only [c, not_false_eq_true, if_true, if_false, zero_eq, ne_eq, not_true]

