/-! what holds of both between two calls -/
def KRo (r : Rw) : Prop := (∀ t, t < 10 → ¬ r (at9 t 4) = 1 → r (at9 t 5) = 0 ∧ r (at9 t 6) = 0) ∧ (∀ i, i < nC r → cr r i < nT r ∧ r (at9 (cr r i) 4) = 1) ∧ (∀ t, t < 10 → r (at9 t 4) = 1 → ∃ i, i < nC r ∧ cr r i = t) ∧ (∀ i k, i < k → k < nC r → cr r i ≠ cr r k) ∧ ∀ s, s < 10 → r (8 + s) = -1 ∨ ∃ k, k < nT r ∧ r (8 + s) = nI k
def KR (r : Rw) : Prop := KRo r ∧ 0 ≤ r 1 ∧ 0 ≤ r 2
def IR (r : Rw) : Prop := WX r 9999 ∧ KR r
def JA (M : Mem) : Prop := IR (M 131) ∧ FR M 100 (M 131)
def JK (M : Mem) : Prop := M 0 2 = M 130 3 ∧ (M 130 3 = 0 ∨ (M 130 3 = 1 ∧ IR (M 132) ∧ FR M 110 (M 132)))
def JF (M : Mem) : Prop := (∀ f, f < 7 → M 134 (f + 1) = M 1 f) ∧ M 134 0 = sm (fun f => M 1 f) 7
def JT (M : Mem) : Prop := M 7 1 = M 130 17 ∧ rg (M 130 17) 120 ∧ ∀ i, i < iN (M 130 17) → M 91 i = M 138 i ∧ rg (M 138 i) 255
def JS (M : Mem) : Prop := ∀ s, s < 4 → (M (120 + 2 * s) 0 = M 141 s ∧ M (120 + 2 * s) 1 = M 142 s) ∧ (M 141 s = 0 ∨ M 141 s = 8 ∨ M 141 s = 16 ∨ M 141 s = 32) ∧ rg (M 142 s) 40 ∧ (M 141 s = 0 → M 142 s = 0) ∧ ∀ i, i < 40 → M (121 + 2 * s) i = M 143 (40 * s + i)
def J (M : Mem) : Prop := JA M ∧ JK M ∧ JF M ∧ JT M ∧ JS M
theorem FR_ou {f : Nat} {M M' : Mem} {r : Rw} (hf : isFarm f) (h : FR M f r) (e : ∀ k, (f ≤ k + 90 ∧ k + 81 < f) ∨ (f ≤ k ∧ k < f + 5) → M' k = M k) : FR M' f r := by
  have hf' : f = 100 ∨ f = 110 := hf
  refine ⟨HR_ou h.1 (fun k k1 k2 => e k (by omega)), ?_, fun c hc i hi hn => ?_, fun s hs => ?_⟩
  · rw [e f (by omega)]
    exact h.2.1
  · rw [e _ (by omega)]
    exact h.2.2.1 c hc i hi hn
  · rw [e _ (by omega)]
    exact h.2.2.2 s hs
theorem JA_ou {M M' : Mem} (h : JA M) (e : ∀ k, (10 ≤ k ∧ k < 19) ∨ (100 ≤ k ∧ k < 105) ∨ k = 131 → M' k = M k) : JA M' := by
  have e1 := e 131 (by omega)
  refine ⟨by rw [e1]; exact h.1, ?_⟩
  rw [e1]
  exact FR_ou (Or.inl rfl) h.2 (fun k hk => e k (by omega))
theorem JK_ou {M M' : Mem} (h : JK M) (e0 : M' 0 2 = M 0 2) (e3 : M' 130 3 = M 130 3) (e : ∀ k, (20 ≤ k ∧ k < 29) ∨ (110 ≤ k ∧ k < 115) ∨ k = 132 → M' k = M k) : JK M' := by
  have e1 := e 132 (by omega)
  refine ⟨by rw [e0, e3]; exact h.1, ?_⟩
  rw [e3, e1]
  rcases h.2 with q | ⟨q1, q2, q3⟩
  · exact Or.inl q
  · exact Or.inr ⟨q1, q2, FR_ou (Or.inr rfl) q3 (fun k hk => e k (by omega))⟩
theorem JF_ou {M M' : Mem} (h : JF M) (e : ∀ k, k = 1 ∨ k = 134 → M' k = M k) : JF M' := by
  unfold JF
  rw [e 1 (by omega), e 134 (by omega)]
  exact h
theorem JT_ou {M M' : Mem} (h : JT M) (e7 : M' 7 1 = M 7 1) (e17 : M' 130 17 = M 130 17) (e : ∀ k, k = 91 ∨ k = 138 → M' k = M k) : JT M' := by
  unfold JT
  rw [e 91 (by omega), e 138 (by omega), e7, e17]
  exact h
theorem JS_ou {M M' : Mem} (h : JS M) (e : ∀ k, (120 ≤ k ∧ k < 128) ∨ (141 ≤ k ∧ k < 144) → M' k = M k) : JS M' := by
  intro s hs
  rw [e (120 + 2 * s) (by omega), e (121 + 2 * s) (by omega), e 141 (by omega), e 142 (by omega), e 143 (by omega)]
  exact h s hs
def Pc (M M' : Mem) : Prop := (∀ k, k < 130 → (k = 1 ∨ (10 ≤ k ∧ k < 29) ∨ k = 91 ∨ 100 ≤ k) → M' k = M k) ∧ M' 0 2 = M 0 2 ∧ M' 7 1 = M 7 1
def Pm (M M' : Mem) : Prop := (∀ k, k = 131 ∨ k = 132 ∨ k = 134 ∨ k = 138 ∨ (141 ≤ k ∧ k < 144) → M' k = M k) ∧ M' 130 3 = M 130 3 ∧ M' 130 17 = M 130 17
theorem J_same {M M' : Mem} (j : J M) (c : Pc M M') (m : Pm M M') : J M' := by
  refine ⟨JA_ou j.1 (fun k hk => ?_), JK_ou j.2.1 c.2.1 m.2.1 (fun k hk => ?_), JF_ou j.2.2.1 (fun k hk => ?_), JT_ou j.2.2.2.1 c.2.2 m.2.2 (fun k hk => ?_), JS_ou j.2.2.2.2 (fun k hk => ?_)⟩
  · by_cases h : k < 130
    · exact c.1 k h (by omega)
    · exact m.1 k (by omega)
  · by_cases h : k < 130
    · exact c.1 k h (by omega)
    · exact m.1 k (by omega)
  · by_cases h : k < 130
    · exact c.1 k h (by omega)
    · exact m.1 k (by omega)
  · by_cases h : k < 130
    · exact c.1 k h (by omega)
    · exact m.1 k (by omega)
  · by_cases h : k < 130
    · exact c.1 k h (by omega)
    · exact m.1 k (by omega)
/-- both answer the same -/
def Two (d1 i1 d2 i2 : Nat) (xs : List Value) (M : Mem) : Prop := ∃ M1 M2 a, call d1 i1 (.ref 0 :: xs) M = some (some (.int a), M1) ∧ call d2 i2 (.ref 130 :: xs) M1 = some (some (.int a), M2) ∧ J M2
def fX (M : Mem) (w : Nat) : Mem := mset M 1 w (M 1 w + 1)
def fM (M : Mem) (w : Nat) : Mem := mset (mset M 134 (w + 1) (M 134 (w + 1) + 1)) 134 0 (M 134 0 + 1)
theorem fX_k {M : Mem} {w k : Nat} (h : k ≠ 1) : fX M w k = M k := mset_ne h
theorem fM_k {M : Mem} {w k : Nat} (h : k ≠ 134) : fM M w k = M k := by
  unfold fM
  rw [mset_ne h, mset_ne h]
theorem sm_7 {f : Nat → Int32} : sm f 7 = f 0 + f 1 + f 2 + f 3 + f 4 + f 5 + f 6 := by
  show 0 + f 0 + f 1 + f 2 + f 3 + f 4 + f 5 + f 6 = _
  rw [Int32.zero_add]
theorem sm_up {f : Nat → Int32} {w : Nat} {x : Int32} : ∀ n, sm (upd f w (f w + x)) n = if w < n then sm f n + x else sm f n := by
  intro n
  induction n with
  | zero => rw [if_neg (by omega)]; rfl
  | succ n ih =>
    show sm (upd f w (f w + x)) n + upd f w (f w + x) n = _
    rw [ih]
    by_cases h : w = n
    · subst h
      rw [if_neg (by omega), upd_at, if_pos (by omega)]
      show sm f w + (f w + x) = sm f w + f w + x
      rw [Int32.add_assoc]
    · rw [upd_ne (fun z => h z.symm)]
      by_cases h2 : w < n
      · rw [if_pos h2, if_pos (by omega)]
        show sm f n + x + f n = sm f n + f n + x
        rw [Int32.add_assoc, Int32.add_comm x, ← Int32.add_assoc]
      · rw [if_neg h2, if_neg (by omega)]
        rfl
theorem J_fin {M : Mem} {w : Nat} (j : J M) (hw : w < 7) : J (fM (fX M w) w) := by
  have ek : ∀ k, k ≠ 1 → k ≠ 134 → fM (fX M w) w k = M k := fun k h1 h2 => by rw [fM_k h2, fX_k h1]
  refine ⟨JA_ou j.1 (fun k hk => ek k (by omega) (by omega)), JK_ou j.2.1 (by rw [ek 0 (by omega) (by omega)]) (by rw [ek 130 (by omega) (by omega)]) (fun k hk => ek k (by omega) (by omega)), ?_, JT_ou j.2.2.2.1 (by rw [ek 7 (by omega) (by omega)]) (by rw [ek 130 (by omega) (by omega)]) (fun k hk => ek k (by omega) (by omega)), JS_ou j.2.2.2.2 (fun k hk => ek k (by omega) (by omega))⟩
  obtain ⟨f1, f2⟩ := j.2.2.1
  have e134 : fX M w 134 = M 134 := fX_k (by omega)
  have e1 : fM (fX M w) w 1 = upd (M 1) w (M 1 w + 1) := by rw [fM_k (by omega)]; exact mset_at
  have e2 : fM (fX M w) w 134 = upd (upd (M 134) (w + 1) (M 134 (w + 1) + 1)) 0 (M 134 0 + 1) := by
    unfold fM
    rw [mset_at, mset_at, e134]
  refine ⟨fun f hf => ?_, ?_⟩
  · rw [e1, e2, upd_ne (by omega)]
    by_cases c : f = w
    · subst c
      rw [upd_at, upd_at, f1 f hf]
    · rw [upd_ne (by omega), upd_ne c, f1 f hf]
  · rw [e2, upd_at, e1, f2]
    have := sm_up (f := M 1) (w := w) (x := 1) 7
    rw [if_pos hw] at this
    exact this.symm
theorem C_xf0 {d : Nat} {M : Mem} : call (d + 1) 2 [.ref 0, .int 0] M = some (some (.int (-1000001)), fX M 0) := by
  rw [nX5_finding]
  simp only [sX5_finding_0, sX5_finding_1, sX5_finding_4, sX5_finding_5, sX5_finding_6, sX5_finding_7, sX5_finding_8, sX5_finding_9, sX5_finding_10, sX5_finding_13, sX5_finding_14, sX5_finding_15, opK_some, guK_true, calK_some, rk_nil, rk_int, rk_ref, tl_some, tl_none, nb_int, nb_0, nb_1, nb_if, nb_if', o0_5, a1, b1, ib_0_7, tn_0]
  rfl
theorem C_mf0 {d : Nat} {M : Mem} : call (d + 1) 137 [.ref 130, .int (-1000001)] M = some (some (.int (-1000001)), fM M 0) := by
  have e : ((-1000001 : Int32) - (-1000001) + 1) = 1 := by decide
  rw [nX6_finding]
  simp only [sX6_finding_0, sX6_finding_1, sX6_finding_4, sX6_finding_6, sX6_finding_7, sX6_finding_8, sX6_finding_9, sX6_finding_10, sX6_finding_11, sX6_finding_12, sX6_finding_13, sX6_finding_14, sX6_finding_15, sX6_finding_16, sX6_finding_19, sX6_finding_20, sX6_finding_21, sX6_finding_22, sX6_finding_23, sX6_finding_24, sX6_finding_25, sX6_finding_26, opK_some, guK_true, calK_some, rk_nil, rk_int, rk_ref, tl_some, tl_none, nb_int, nb_0, nb_1, nb_if, nb_if', o130_4, a134, b134, e, ib_1_8, tn_1, ib_0_8, tn_0]
  rw [mset_at, upd_ne (by omega)]
  rfl
theorem C_xf1 {d : Nat} {M : Mem} : call (d + 1) 2 [.ref 0, .int 1] M = some (some (.int (-1000002)), fX M 1) := by
  rw [nX5_finding]
  simp only [sX5_finding_0, sX5_finding_1, sX5_finding_4, sX5_finding_5, sX5_finding_6, sX5_finding_7, sX5_finding_8, sX5_finding_9, sX5_finding_10, sX5_finding_13, sX5_finding_14, sX5_finding_15, opK_some, guK_true, calK_some, rk_nil, rk_int, rk_ref, tl_some, tl_none, nb_int, nb_0, nb_1, nb_if, nb_if', o0_5, a1, b1, ib_1_7, tn_1]
  rfl
theorem C_mf1 {d : Nat} {M : Mem} : call (d + 1) 137 [.ref 130, .int (-1000002)] M = some (some (.int (-1000002)), fM M 1) := by
  have e : ((-1000001 : Int32) - (-1000002) + 1) = 2 := by decide
  rw [nX6_finding]
  simp only [sX6_finding_0, sX6_finding_1, sX6_finding_4, sX6_finding_6, sX6_finding_7, sX6_finding_8, sX6_finding_9, sX6_finding_10, sX6_finding_11, sX6_finding_12, sX6_finding_13, sX6_finding_14, sX6_finding_15, sX6_finding_16, sX6_finding_19, sX6_finding_20, sX6_finding_21, sX6_finding_22, sX6_finding_23, sX6_finding_24, sX6_finding_25, sX6_finding_26, opK_some, guK_true, calK_some, rk_nil, rk_int, rk_ref, tl_some, tl_none, nb_int, nb_0, nb_1, nb_if, nb_if', o130_4, a134, b134, e, ib_2_8, tn_2, ib_0_8, tn_0]
  rw [mset_at, upd_ne (by omega)]
  rfl
theorem C_xf2 {d : Nat} {M : Mem} : call (d + 1) 2 [.ref 0, .int 2] M = some (some (.int (-1000003)), fX M 2) := by
  rw [nX5_finding]
  simp only [sX5_finding_0, sX5_finding_1, sX5_finding_4, sX5_finding_5, sX5_finding_6, sX5_finding_7, sX5_finding_8, sX5_finding_9, sX5_finding_10, sX5_finding_13, sX5_finding_14, sX5_finding_15, opK_some, guK_true, calK_some, rk_nil, rk_int, rk_ref, tl_some, tl_none, nb_int, nb_0, nb_1, nb_if, nb_if', o0_5, a1, b1, ib_2_7, tn_2]
  rfl
theorem C_mf2 {d : Nat} {M : Mem} : call (d + 1) 137 [.ref 130, .int (-1000003)] M = some (some (.int (-1000003)), fM M 2) := by
  have e : ((-1000001 : Int32) - (-1000003) + 1) = 3 := by decide
  rw [nX6_finding]
  simp only [sX6_finding_0, sX6_finding_1, sX6_finding_4, sX6_finding_6, sX6_finding_7, sX6_finding_8, sX6_finding_9, sX6_finding_10, sX6_finding_11, sX6_finding_12, sX6_finding_13, sX6_finding_14, sX6_finding_15, sX6_finding_16, sX6_finding_19, sX6_finding_20, sX6_finding_21, sX6_finding_22, sX6_finding_23, sX6_finding_24, sX6_finding_25, sX6_finding_26, opK_some, guK_true, calK_some, rk_nil, rk_int, rk_ref, tl_some, tl_none, nb_int, nb_0, nb_1, nb_if, nb_if', o130_4, a134, b134, e, ib_3_8, tn_3, ib_0_8, tn_0]
  rw [mset_at, upd_ne (by omega)]
  rfl
theorem C_xf3 {d : Nat} {M : Mem} : call (d + 1) 2 [.ref 0, .int 3] M = some (some (.int (-1000004)), fX M 3) := by
  rw [nX5_finding]
  simp only [sX5_finding_0, sX5_finding_1, sX5_finding_4, sX5_finding_5, sX5_finding_6, sX5_finding_7, sX5_finding_8, sX5_finding_9, sX5_finding_10, sX5_finding_13, sX5_finding_14, sX5_finding_15, opK_some, guK_true, calK_some, rk_nil, rk_int, rk_ref, tl_some, tl_none, nb_int, nb_0, nb_1, nb_if, nb_if', o0_5, a1, b1, ib_3_7, tn_3]
  rfl
theorem C_mf3 {d : Nat} {M : Mem} : call (d + 1) 137 [.ref 130, .int (-1000004)] M = some (some (.int (-1000004)), fM M 3) := by
  have e : ((-1000001 : Int32) - (-1000004) + 1) = 4 := by decide
  rw [nX6_finding]
  simp only [sX6_finding_0, sX6_finding_1, sX6_finding_4, sX6_finding_6, sX6_finding_7, sX6_finding_8, sX6_finding_9, sX6_finding_10, sX6_finding_11, sX6_finding_12, sX6_finding_13, sX6_finding_14, sX6_finding_15, sX6_finding_16, sX6_finding_19, sX6_finding_20, sX6_finding_21, sX6_finding_22, sX6_finding_23, sX6_finding_24, sX6_finding_25, sX6_finding_26, opK_some, guK_true, calK_some, rk_nil, rk_int, rk_ref, tl_some, tl_none, nb_int, nb_0, nb_1, nb_if, nb_if', o130_4, a134, b134, e, ib_4_8, tn_4, ib_0_8, tn_0]
  rw [mset_at, upd_ne (by omega)]
  rfl
theorem C_xf4 {d : Nat} {M : Mem} : call (d + 1) 2 [.ref 0, .int 4] M = some (some (.int (-1000005)), fX M 4) := by
  rw [nX5_finding]
  simp only [sX5_finding_0, sX5_finding_1, sX5_finding_4, sX5_finding_5, sX5_finding_6, sX5_finding_7, sX5_finding_8, sX5_finding_9, sX5_finding_10, sX5_finding_13, sX5_finding_14, sX5_finding_15, opK_some, guK_true, calK_some, rk_nil, rk_int, rk_ref, tl_some, tl_none, nb_int, nb_0, nb_1, nb_if, nb_if', o0_5, a1, b1, ib_4_7, tn_4]
  rfl
theorem C_mf4 {d : Nat} {M : Mem} : call (d + 1) 137 [.ref 130, .int (-1000005)] M = some (some (.int (-1000005)), fM M 4) := by
  have e : ((-1000001 : Int32) - (-1000005) + 1) = 5 := by decide
  rw [nX6_finding]
  simp only [sX6_finding_0, sX6_finding_1, sX6_finding_4, sX6_finding_6, sX6_finding_7, sX6_finding_8, sX6_finding_9, sX6_finding_10, sX6_finding_11, sX6_finding_12, sX6_finding_13, sX6_finding_14, sX6_finding_15, sX6_finding_16, sX6_finding_19, sX6_finding_20, sX6_finding_21, sX6_finding_22, sX6_finding_23, sX6_finding_24, sX6_finding_25, sX6_finding_26, opK_some, guK_true, calK_some, rk_nil, rk_int, rk_ref, tl_some, tl_none, nb_int, nb_0, nb_1, nb_if, nb_if', o130_4, a134, b134, e, ib_5_8, tn_5, ib_0_8, tn_0]
  rw [mset_at, upd_ne (by omega)]
  rfl
theorem C_xf5 {d : Nat} {M : Mem} : call (d + 1) 2 [.ref 0, .int 5] M = some (some (.int (-1000006)), fX M 5) := by
  rw [nX5_finding]
  simp only [sX5_finding_0, sX5_finding_1, sX5_finding_4, sX5_finding_5, sX5_finding_6, sX5_finding_7, sX5_finding_8, sX5_finding_9, sX5_finding_10, sX5_finding_13, sX5_finding_14, sX5_finding_15, opK_some, guK_true, calK_some, rk_nil, rk_int, rk_ref, tl_some, tl_none, nb_int, nb_0, nb_1, nb_if, nb_if', o0_5, a1, b1, ib_5_7, tn_5]
  rfl
theorem C_mf5 {d : Nat} {M : Mem} : call (d + 1) 137 [.ref 130, .int (-1000006)] M = some (some (.int (-1000006)), fM M 5) := by
  have e : ((-1000001 : Int32) - (-1000006) + 1) = 6 := by decide
  rw [nX6_finding]
  simp only [sX6_finding_0, sX6_finding_1, sX6_finding_4, sX6_finding_6, sX6_finding_7, sX6_finding_8, sX6_finding_9, sX6_finding_10, sX6_finding_11, sX6_finding_12, sX6_finding_13, sX6_finding_14, sX6_finding_15, sX6_finding_16, sX6_finding_19, sX6_finding_20, sX6_finding_21, sX6_finding_22, sX6_finding_23, sX6_finding_24, sX6_finding_25, sX6_finding_26, opK_some, guK_true, calK_some, rk_nil, rk_int, rk_ref, tl_some, tl_none, nb_int, nb_0, nb_1, nb_if, nb_if', o130_4, a134, b134, e, ib_6_8, tn_6, ib_0_8, tn_0]
  rw [mset_at, upd_ne (by omega)]
  rfl
theorem C_xf6 {d : Nat} {M : Mem} : call (d + 1) 2 [.ref 0, .int 6] M = some (some (.int (-1000007)), fX M 6) := by
  rw [nX5_finding]
  simp only [sX5_finding_0, sX5_finding_1, sX5_finding_4, sX5_finding_5, sX5_finding_6, sX5_finding_7, sX5_finding_8, sX5_finding_9, sX5_finding_10, sX5_finding_13, sX5_finding_14, sX5_finding_15, opK_some, guK_true, calK_some, rk_nil, rk_int, rk_ref, tl_some, tl_none, nb_int, nb_0, nb_1, nb_if, nb_if', o0_5, a1, b1, ib_6_7, tn_6]
  rfl
theorem C_mf6 {d : Nat} {M : Mem} : call (d + 1) 137 [.ref 130, .int (-1000007)] M = some (some (.int (-1000007)), fM M 6) := by
  have e : ((-1000001 : Int32) - (-1000007) + 1) = 7 := by decide
  rw [nX6_finding]
  simp only [sX6_finding_0, sX6_finding_1, sX6_finding_4, sX6_finding_6, sX6_finding_7, sX6_finding_8, sX6_finding_9, sX6_finding_10, sX6_finding_11, sX6_finding_12, sX6_finding_13, sX6_finding_14, sX6_finding_15, sX6_finding_16, sX6_finding_19, sX6_finding_20, sX6_finding_21, sX6_finding_22, sX6_finding_23, sX6_finding_24, sX6_finding_25, sX6_finding_26, opK_some, guK_true, calK_some, rk_nil, rk_int, rk_ref, tl_some, tl_none, nb_int, nb_0, nb_1, nb_if, nb_if', o130_4, a134, b134, e, ib_7_8, tn_7, ib_0_8, tn_0]
  rw [mset_at, upd_ne (by omega)]
  rfl
