/-! some are taken out -/
/-- those of the first i in the crop that stay -/
def fc (r : Rw) (s : Nat) : Nat → List Nat
  | 0 => []
  | i + 1 => if s.testBit (cr r i) then fc r s i else fc r s i ++ [cr r i]
/-- those of m from i on that stay -/
def gs (r : Rw) (s : Nat) : Nat → Nat → List Nat
  | _, 0 => []
  | i, m + 1 => if s.testBit (cr r i) then gs r s (i + 1) m else cr r i :: gs r s (i + 1) m
theorem fc_len (r : Rw) (s : Nat) : ∀ i, (fc r s i).length ≤ i := by
  intro i
  induction i with
  | zero => exact Nat.le_refl _
  | succ i ih =>
    show (if s.testBit (cr r i) then fc r s i else fc r s i ++ [cr r i]).length ≤ i + 1
    split
    · omega
    · rw [List.length_append]
      show (fc r s i).length + 1 ≤ i + 1
      omega
theorem fc_gs (r : Rw) (s : Nat) : ∀ m i, fc r s i ++ gs r s i m = fc r s (i + m) := by
  intro m
  induction m with
  | zero => intro i; exact List.append_nil _
  | succ m ih =>
    intro i
    have e := ih (i + 1)
    rw [show i + (m + 1) = i + 1 + m by omega, ← e]
    show fc r s i ++ (if s.testBit (cr r i) then gs r s (i + 1) m else cr r i :: gs r s (i + 1) m) = (if s.testBit (cr r i) then fc r s i else fc r s i ++ [cr r i]) ++ gs r s (i + 1) m
    by_cases h : s.testBit (cr r i) = true
    · rw [if_pos h, if_pos h]
    · rw [if_neg h, if_neg h, List.append_assoc]
      rfl
/-- a cell of one that was put aside -/
def zq (r : Rw) (s : Nat) (I : Nat → Prop) (j : Nat) : Prop := ∃ k, I k ∧ s.testBit (cr r k) = true ∧ (j = at9 (cr r k) 4 ∨ j = at9 (cr r k) 5 ∨ j = at9 (cr r k) 6)
def Zr (r : Rw) (s : Nat) (I : Nat → Prop) (q : Rw) : Prop := ∀ j, 18 ≤ j → j < 88 → (zq r s I j → q j = 0) ∧ (¬ zq r s I j → q j = r j)
theorem Zr_yes {r q q' : Rw} {s i : Nat} {I I' : Nat → Prop} (z : Zr r s I q) (hb : s.testBit (cr r i) = true) (hI : ∀ k, I' k ↔ I k ∨ k = i) (e : ∀ j, 18 ≤ j → j < 88 → q' j = becR q (cr r i) 0 j) : Zr r s I' q' := by
  intro j h1 h2
  rw [e j h1 h2]
  by_cases c : j = at9 (cr r i) 4 ∨ j = at9 (cr r i) 5 ∨ j = at9 (cr r i) 6
  · have hz : becR q (cr r i) 0 j = 0 := by
      unfold becR
      by_cases a6 : j = at9 (cr r i) 6
      · rw [a6, upd_at]
      · rw [upd_ne a6]
        by_cases a5 : j = at9 (cr r i) 5
        · rw [a5, upd_at]
        · rw [upd_ne a5]
          rcases c with c | c | c
          · rw [c, upd_at]
          · exact absurd c a5
          · exact absurd c a6
    exact ⟨fun _ => hz, fun n => absurd ⟨i, (hI i).mpr (Or.inr rfl), hb, c⟩ n⟩
  · have hz : becR q (cr r i) 0 j = q j := by
      unfold becR
      rw [upd_ne (fun z => c (Or.inr (Or.inr z))), upd_ne (fun z => c (Or.inr (Or.inl z))), upd_ne (fun z => c (Or.inl z))]
    rw [hz]
    have hiff : zq r s I' j ↔ zq r s I j := by
      constructor
      · rintro ⟨k, hk, hkb, hkc⟩
        rcases (hI k).mp hk with h | h
        · exact ⟨k, h, hkb, hkc⟩
        · subst h
          exact absurd hkc c
      · rintro ⟨k, hk, hkb, hkc⟩
        exact ⟨k, (hI k).mpr (Or.inl hk), hkb, hkc⟩
    exact ⟨fun h => (z j h1 h2).1 (hiff.mp h), fun h => (z j h1 h2).2 (fun y => h (hiff.mpr y))⟩
theorem Zr_no {r q q' : Rw} {s i : Nat} {I I' : Nat → Prop} (z : Zr r s I q) (hb : ¬ s.testBit (cr r i) = true) (hI : ∀ k, I' k ↔ I k ∨ k = i) (e : ∀ j, 18 ≤ j → j < 88 → q' j = q j) : Zr r s I' q' := by
  intro j h1 h2
  rw [e j h1 h2]
  have hiff : zq r s I' j ↔ zq r s I j := by
    constructor
    · rintro ⟨k, hk, hkb, hkc⟩
      rcases (hI k).mp hk with h | h
      · exact ⟨k, h, hkb, hkc⟩
      · subst h
        exact absurd hkb hb
    · rintro ⟨k, hk, hkb, hkc⟩
      exact ⟨k, (hI k).mpr (Or.inl hk), hkb, hkc⟩
  exact ⟨fun h => (z j h1 h2).1 (hiff.mp h), fun h => (z j h1 h2).2 (fun y => h (hiff.mpr y))⟩
theorem Zr_eq {r q q' : Rw} {s : Nat} {I I' : Nat → Prop} (z : Zr r s I q) (z' : Zr r s I' q') (hI : ∀ k, I' k ↔ I k) : ∀ j, 18 ≤ j → j < 88 → q' j = q j := by
  intro j h1 h2
  have hiff : zq r s I' j ↔ zq r s I j := by
    constructor
    · rintro ⟨k, hk, hkb, hkc⟩
      exact ⟨k, (hI k).mp hk, hkb, hkc⟩
    · rintro ⟨k, hk, hkb, hkc⟩
      exact ⟨k, (hI k).mpr hk, hkb, hkc⟩
  rcases Classical.em (zq r s I j) with h | h
  · rw [(z j h1 h2).1 h, (z' j h1 h2).1 (hiff.mpr h)]
  · rw [(z j h1 h2).2 h, (z' j h1 h2).2 (fun y => h (hiff.mp y))]
/-- what a row is when those of the set are out -/
def TO (r : Rw) (s : Nat) (F : Rw) : Prop := (F 1 = r 1 ∧ F 2 = r 2 ∧ F 3 = r 3) ∧ F 4 = nI (fc r s (nC r)).length ∧ (∀ k, k < (fc r s (nC r)).length → F (88 + k) = nI (lrow (fc r s (nC r)) k)) ∧ Zr r s (fun k => k < nC r) F
theorem HR_crop {b k : Nat} {M : Mem} {q : Rw} {v : Int32} (h : HR M b q) : HR (mset M (b + 8) k v) b (upd q (88 + k) v) := by
  obtain ⟨⟨a0, a1, a2, a3⟩, a4, a5⟩ := h
  have en : nC (upd q (88 + k) v) = nC q := by unfold nC; rw [upd_ne (by omega)]
  refine ⟨⟨?_, ?_, ?_, ?_⟩, fun f hf t ht => ?_, fun i hi => ?_⟩
  · rw [mset_ne (by omega), upd_ne (by omega)]; exact a0
  · rw [mset_ne (by omega), upd_ne (by omega)]; exact a1
  · rw [mset_ne (by omega), upd_ne (by omega)]; exact a2
  · rw [mset_ne (by omega), upd_ne (by omega)]; exact a3
  · have := at9_lt (f := f) ht hf
    rw [mset_ne (by omega), upd_ne (by omega)]
    exact a4 f hf t ht
  · rw [en] at hi
    rw [mset_at]
    by_cases c : i = k
    · subst c
      rw [upd_at, upd_at]
    · rw [upd_ne c, upd_ne (by omega)]
      exact a5 i hi
theorem HR_less {b n : Nat} {M : Mem} {q : Rw} (h : HR M b q) (hn : n ≤ nC q) (h31 : n < 2 ^ 31) : HR (mset M b 9 (nI n)) b (upd q 4 (nI n)) := by
  obtain ⟨⟨a0, a1, a2, a3⟩, a4, a5⟩ := h
  have en : nC (upd q 4 (nI n)) = n := by unfold nC; rw [upd_at, iN_nI h31]
  refine ⟨⟨?_, ?_, ?_, ?_⟩, fun f hf t ht => ?_, fun i hi => ?_⟩
  · rw [mset_at, upd_ne (by omega), upd_ne (by omega)]; exact a0
  · rw [mset_at, upd_at, upd_at]
  · rw [mset_at, upd_ne (by omega), upd_ne (by omega)]; exact a2
  · rw [mset_at, upd_ne (by omega), upd_ne (by omega)]; exact a3
  · have := at9_ge t f
    rw [mset_ne (by omega), upd_ne (by omega)]
    exact a4 f hf t ht
  · rw [en] at hi
    rw [mset_ne (by omega), upd_ne (by omega)]
    exact a5 i (by omega)
theorem nC_u4 {q : Rw} {n : Nat} (h : n < 2 ^ 31) : nC (upd q 4 (nI n)) = n := by unfold nC; rw [upd_at, iN_nI h]
theorem L_takeOut {d b s : Nat} {M : Mem} {r F : Rw} (hb : isHen b) (w : WR r) (hs : s < 2 ^ 31) (to : TO r s F) : ∀ (m i : Nat) (M1 : Mem) (q : Rw) (v : Option Value), i + m = nC r → HR M1 b q → Ou b M M1 → (q 1 = r 1 ∧ q 2 = r 2 ∧ q 3 = r 3 ∧ q 4 = r 4) → (∀ k, i ≤ k → k < nC r → q (88 + k) = r (88 + k)) → (∀ k, k < (fc r s i).length → q (88 + k) = nI (lrow (fc r s i) k)) → Zr r s (fun k => k < i) q →
    ∃ M', lim (call (d + 1)) none 1 cX1_takeOut none 4 [some (.ref b), some (.int (nI s)), some (.int (nI (fc r s i).length)), some (.int (nI i)), v] [] M1 = some (none, M') ∧ HR M' b F ∧ Ou b M M' := by
  have c8 := wr_C w
  intro m
  induction m with
  | zero =>
    intro i M1 q v hi h o eq hup hlo z
    obtain rfl : i = nC r := by omega
    have fl := fc_len r s (nC r)
    have e9 : M1 b 9 = nI (nC r) := h.1.2.1.trans (eq.2.2.2.trans c8.2)
    have en : nC q = nC r := by unfold nC; rw [eq.2.2.2]
    rw [sX1_takeOut_4]
    simp only [sX1_takeOut_0, sX1_takeOut_1, sX1_takeOut_2, sX1_takeOut_3, sX1_takeOut_5, sX1_takeOut_6, sX1_takeOut_9, sX1_takeOut_12, sX1_takeOut_13, sX1_takeOut_16, sX1_takeOut_17, sX1_takeOut_18, sX1_takeOut_20, sX1_takeOut_21, sX1_takeOut_23, sX1_takeOut_24, sX1_takeOut_25, sX1_takeOut_26, sX1_takeOut_29, sX1_takeOut_30, sX1_takeOut_32, sX1_takeOut_33, sX1_takeOut_36, sX1_takeOut_39, sX1_takeOut_40, sX1_takeOut_43, sX1_takeOut_44, sX1_takeOut_46, sX1_takeOut_47, sX1_takeOut_50, sX1_takeOut_53, sX1_takeOut_56, sX1_takeOut_57, sX1_takeOut_58, sX1_takeOut_61, opK_some, guK_true, calK_some, rk_nil, rk_int, rk_ref, tl_some, tl_none, nb_int, nb_0, nb_1, nb_if, nb_if', hs_9 hb, hi_9 hb, e9]
    rw [if_pos (show nI (nC r) ≤ nI (nC r) from Int32.le_refl _)]
    refine ⟨_, rfl, ?_, o.tr Ou.set0⟩
    have h2 := HR_less (n := (fc r s (nC r)).length) h (by omega) (by omega)
    have eN : nC (upd q 4 (nI (fc r s (nC r)).length)) = (fc r s (nC r)).length := nC_u4 (by omega)
    refine HR_congr h2 (by rw [eN]; omega) (fun j hj => ?_)
    rw [eN] at hj
    obtain ⟨⟨f1, f2, f3⟩, f4, f5, f6⟩ := to
    by_cases c4 : j = 4
    · rw [c4, upd_at]
      exact f4
    · rw [upd_ne c4]
      rcases (show j = 1 ∨ j = 2 ∨ j = 3 ∨ (18 ≤ j ∧ j < 88) ∨ (88 ≤ j ∧ j < 88 + (fc r s (nC r)).length) by omega) with c | c | c | c | c
      · rw [c, f1, eq.1]
      · rw [c, f2, eq.2.1]
      · rw [c, f3, eq.2.2.1]
      · exact Zr_eq z f6 (fun _ => Iff.rfl) j c.1 c.2
      · have := f5 (j - 88) (by omega)
        have h3 := hlo (j - 88) (by omega)
        rw [show 88 + (j - 88) = j by omega] at this h3
        rw [this, h3]
  | succ m ih =>
    intro i M1 q v hi h o eq hup hlo z
    have fl := fc_len r s i
    have i8 : i < 8 := by omega
    have e9 : M1 b 9 = nI (nC r) := h.1.2.1.trans (eq.2.2.2.trans c8.2)
    have en : nC q = nC r := by unfold nC; rw [eq.2.2.2]
    obtain ⟨ht, et⟩ := wr_cr w (i := i) (by omega)
    have e8 : M1 (b + 8) i = nI (cr r i) := by rw [h.2.2 i (by omega), hup i (Nat.le_refl _) (by omega), et]
    have hI : ∀ k, k < i + 1 ↔ k < i ∨ k = i := fun k => by omega
    rw [sX1_takeOut_4]
    simp only [sX1_takeOut_0, sX1_takeOut_1, sX1_takeOut_2, sX1_takeOut_3, sX1_takeOut_5, sX1_takeOut_6, sX1_takeOut_9, sX1_takeOut_12, sX1_takeOut_13, sX1_takeOut_16, sX1_takeOut_17, sX1_takeOut_18, sX1_takeOut_20, sX1_takeOut_21, sX1_takeOut_23, sX1_takeOut_24, sX1_takeOut_25, sX1_takeOut_26, sX1_takeOut_29, sX1_takeOut_30, sX1_takeOut_32, sX1_takeOut_33, sX1_takeOut_36, sX1_takeOut_39, sX1_takeOut_40, sX1_takeOut_43, sX1_takeOut_44, sX1_takeOut_47, sX1_takeOut_50, sX1_takeOut_53, sX1_takeOut_56, sX1_takeOut_57, sX1_takeOut_58, sX1_takeOut_61, opK_some, guK_true, calK_some, rk_nil, rk_int, rk_ref, tl_some, tl_none, nb_int, nb_0, nb_1, nb_if, nb_if', hs_8 hb, hs_9 hb, ha_8 hb, e9, inb_nI i8 (by omega), nI_clamp (show i < 2 ^ 31 by omega), e8, hb_v hs (show cr r i < 32 by omega), nI_1]
    rw [if_neg (show ¬ nI (nC r) ≤ nI i from nI_ge (by omega) (by omega))]
    by_cases hbit : s.testBit (cr r i) = true
    · obtain ⟨M2, c2, h2, o2, _, _⟩ := C_putAside (d := d + 0) (x := 0) hb h ht
      rw [show d + 0 + 1 = d + 1 from rfl] at c2
      have ef : fc r s (i + 1) = fc r s i := if_pos hbit
      rw [if_pos hbit, if_neg (by decide)]
      simp only [sX1_takeOut_0, sX1_takeOut_1, sX1_takeOut_2, sX1_takeOut_3, sX1_takeOut_5, sX1_takeOut_6, sX1_takeOut_9, sX1_takeOut_12, sX1_takeOut_13, sX1_takeOut_16, sX1_takeOut_17, sX1_takeOut_18, sX1_takeOut_20, sX1_takeOut_21, sX1_takeOut_23, sX1_takeOut_24, sX1_takeOut_25, sX1_takeOut_26, sX1_takeOut_29, sX1_takeOut_30, sX1_takeOut_32, sX1_takeOut_33, sX1_takeOut_36, sX1_takeOut_39, sX1_takeOut_40, sX1_takeOut_43, sX1_takeOut_44, sX1_takeOut_47, sX1_takeOut_50, sX1_takeOut_53, sX1_takeOut_56, sX1_takeOut_57, sX1_takeOut_58, sX1_takeOut_61, opK_some, guK_true, calK_some, rk_nil, rk_int, rk_ref, tl_some, tl_none, nb_int, nb_0, nb_1, nb_if, nb_if', hen_c hb, c2, nI_1]
      have fin := ih (i + 1) M2 (becR q (cr r i) 0) (some (.int (nI (cr r i)))) (by omega) h2 (o.tr o2) ⟨by rw [bec_ne (by omega) ht]; exact eq.1, by rw [bec_ne (by omega) ht]; exact eq.2.1, by rw [bec_ne (by omega) ht]; exact eq.2.2.1, by rw [bec_ne (by omega) ht]; exact eq.2.2.2⟩
        (fun k h1 h2 => by rw [bec_ne (by omega) ht]; exact hup k (by omega) h2) (fun k hk => by rw [ef] at hk ⊢; rw [bec_ne (by omega) ht]; exact hlo k hk) (Zr_yes z hbit hI (fun j _ _ => rfl))
      rw [ef] at fin
      exact fin
    · have ef : fc r s (i + 1) = fc r s i ++ [cr r i] := if_neg hbit
      have el : (fc r s (i + 1)).length = (fc r s i).length + 1 := by rw [ef, List.length_append]; rfl
      rw [if_neg hbit, if_pos rfl, sX1_takeOut_46]
      simp only [sX1_takeOut_0, sX1_takeOut_1, sX1_takeOut_2, sX1_takeOut_3, sX1_takeOut_5, sX1_takeOut_6, sX1_takeOut_9, sX1_takeOut_12, sX1_takeOut_13, sX1_takeOut_16, sX1_takeOut_17, sX1_takeOut_18, sX1_takeOut_20, sX1_takeOut_21, sX1_takeOut_23, sX1_takeOut_24, sX1_takeOut_25, sX1_takeOut_26, sX1_takeOut_29, sX1_takeOut_30, sX1_takeOut_32, sX1_takeOut_33, sX1_takeOut_36, sX1_takeOut_39, sX1_takeOut_40, sX1_takeOut_43, sX1_takeOut_44, sX1_takeOut_47, sX1_takeOut_50, sX1_takeOut_53, sX1_takeOut_56, sX1_takeOut_57, sX1_takeOut_58, sX1_takeOut_61, opK_some, guK_true, calK_some, rk_nil, rk_int, rk_ref, tl_some, tl_none, nb_int, nb_0, nb_1, nb_if, nb_if', hn_8 hb, ha_8 hb, inb_nI (show (fc r s i).length < 8 by omega) (by omega), nI_clamp (show (fc r s i).length < 2 ^ 31 by omega), nI_1]
      have fin := ih (i + 1) _ (upd q (88 + (fc r s i).length) (nI (cr r i))) (some (.int (nI (cr r i)))) (by omega) (HR_crop (k := (fc r s i).length) (v := nI (cr r i)) h) (o.tr (Ou.set (j := 8) (by omega))) ⟨by rw [upd_ne (by omega)]; exact eq.1, by rw [upd_ne (by omega)]; exact eq.2.1, by rw [upd_ne (by omega)]; exact eq.2.2.1, by rw [upd_ne (by omega)]; exact eq.2.2.2⟩
        (fun k h1 h2 => by rw [upd_ne (by omega)]; exact hup k (by omega) h2) (fun k hk => by
          rw [el] at hk
          rw [ef, lrow_app]
          by_cases c : k = (fc r s i).length
          · rw [c, upd_at, if_neg (by omega), if_pos rfl]
          · rw [upd_ne (by omega), if_pos (by omega)]
            exact hlo k (by omega)) (Zr_no z hbit hI (fun j _ _ => upd_ne (by omega)))
      rw [el] at fin
      exact fin
theorem C_takeOut {d b s : Nat} {M : Mem} {r F : Rw} (hb : isHen b) (h : HR M b r) (w : WR r) (hs : s < 2 ^ 31) (to : TO r s F) : ∃ M', call (d + 2) 63 [.ref b, .int (nI s)] M = some (none, M') ∧ HR M' b F ∧ Ou b M M' := by
  rw [nX1_takeOut]
  simp only [sX1_takeOut_0, sX1_takeOut_1, sX1_takeOut_2, sX1_takeOut_3, sX1_takeOut_5, sX1_takeOut_6, sX1_takeOut_9, sX1_takeOut_12, sX1_takeOut_13, sX1_takeOut_16, sX1_takeOut_17, sX1_takeOut_18, sX1_takeOut_20, sX1_takeOut_21, sX1_takeOut_23, sX1_takeOut_24, sX1_takeOut_25, sX1_takeOut_26, sX1_takeOut_29, sX1_takeOut_30, sX1_takeOut_32, sX1_takeOut_33, sX1_takeOut_36, sX1_takeOut_39, sX1_takeOut_40, sX1_takeOut_43, sX1_takeOut_44, sX1_takeOut_46, sX1_takeOut_47, sX1_takeOut_50, sX1_takeOut_53, sX1_takeOut_56, sX1_takeOut_57, sX1_takeOut_58, sX1_takeOut_61, opK_some, guK_true, calK_some, rk_nil, rk_int, rk_ref, tl_some, tl_none, nb_int, nb_0, nb_1, nb_if, nb_if']
  refine L_takeOut hb w hs to (nC r) 0 M r none (by omega) h Ou.rf ⟨rfl, rfl, rfl, rfl⟩ (fun _ _ _ => rfl) (fun k hk => absurd hk (Nat.not_lt_zero k)) (fun j _ _ => ⟨fun hz => ?_, fun _ => rfl⟩)
  obtain ⟨k, hk, _⟩ := hz
  exact absurd hk (Nat.not_lt_zero k)

