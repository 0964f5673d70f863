/-! the reference's tokens -/
theorem C_byteAt {d Z k : Nat} {M : Mem} (e17 : M 130 17 = nI Z) (hZ : Z ≤ 120) (hk : k ≤ 120) : call (d + 1) 222 [.ref 130, .int (nI k)] M = some (some (.int (if Z ≤ k then -1 else M 138 k)), M) := by
  rw [nX6_byteAt]
  simp only [sX6_byteAt_0, sX6_byteAt_1, sX6_byteAt_2, sX6_byteAt_5, sX6_byteAt_8, sX6_byteAt_9, sX6_byteAt_12, sX6_byteAt_13, sX6_byteAt_14, sX6_byteAt_17, sX6_byteAt_18, opK_some, guK_true, calK_some, rk_nil, rk_int, rk_ref, tl_some, tl_none, nb_int, nb_0, nb_1, nb_if, nb_if', o130_16, o130_17, a138, e17]
  by_cases c : Z ≤ k
  · rw [if_pos (nI_le c (by omega)), if_pos c]
  · rw [if_neg (nI_ge (by omega) (by omega)), if_neg c]
    simp only [inb_nI (show k < 120 by omega) (show 120 < 2 ^ 31 by omega), nI_clamp (show k < 2 ^ 31 by omega), guK_true]
/-- the reference's reading: but for where it stands -/
def Lr (M M' : Mem) : Prop := (∀ k, k ≠ 130 → M' k = M k) ∧ ∀ j, j ≠ 18 → j ≠ 19 → j ≠ 20 → j ≠ 21 → M' 130 j = M 130 j
theorem Lr.rf {M : Mem} : Lr M M := ⟨fun _ _ => rfl, fun _ _ _ _ _ => rfl⟩
theorem Lr.tr {M M1 M2 : Mem} (h1 : Lr M M1) (h2 : Lr M1 M2) : Lr M M2 := ⟨fun k a => (h2.1 k a).trans (h1.1 k a), fun j a b c e => (h2.2 j a b c e).trans (h1.2 j a b c e)⟩
theorem Lr.set {M : Mem} {i : Nat} {v : Int32} (hi : i = 18 ∨ i = 19 ∨ i = 20 ∨ i = 21) : Lr M (mset M 130 i v) := ⟨fun k a => mset_ne a, fun j a b c e => by rw [mset_at, upd_ne (by omega)]⟩
theorem L_nsp {d Z : Nat} {u : Option Value} (hZ : Z ≤ 120) : ∀ (m p : Nat) (M1 : Mem), p + m = Z → M1 130 17 = nI Z → M1 130 18 = nI p →
    ∃ M', lim (call (d + 1)) none 6 cX6_next_ none 8 [some (.ref 130), u] [] M1 = lim (call (d + 1)) none 6 cX6_next_ none 34 [some (.ref 130), u] [] M' ∧ Lr M1 M' ∧ M' 130 18 = nI (skF (M1 138) m p) := by
  intro m
  induction m with
  | zero =>
    intro p M1 hp e17 e18
    obtain rfl : p = Z := by omega
    have cb := C_byteAt (d := d) (k := p) e17 hZ hZ
    rw [sX6_next__8]
    simp only [sX6_next__0, sX6_next__1, sX6_next__2, sX6_next__5, sX6_next__9, sX6_next__10, sX6_next__13, sX6_next__16, sX6_next__18, sX6_next__21, sX6_next__22, sX6_next__22_i, sX6_next__23, sX6_next__26, sX6_next__27, sX6_next__28, sX6_next__31, sX6_next__35, sX6_next__36, sX6_next__39, sX6_next__42, sX6_next__43, sX6_next__44, sX6_next__45, sX6_next__48, sX6_next__51, sX6_next__52, sX6_next__53, sX6_next__56, sX6_next__57, sX6_next__60, sX6_next__61, sX6_next__62, sX6_next__65, sX6_next__68, sX6_next__69, sX6_next__71, sX6_next__73, sX6_next__76, sX6_next__79, sX6_next__80, sX6_next__81, sX6_next__85, sX6_next__86, sX6_next__89, sX6_next__92, sX6_next__94, sX6_next__96, sX6_next__99, sX6_next__102, sX6_next__103, sX6_next__103_i, sX6_next__104, sX6_next__107, sX6_next__108, sX6_next__109, sX6_next__112, sX6_next__115, sX6_next__116, sX6_next__118, sX6_next__120, sX6_next__123, sX6_next__126, sX6_next__127, sX6_next__128, sX6_next__132, sX6_next__133, sX6_next__136, sX6_next__139, sX6_next__141, sX6_next__143, sX6_next__146, sX6_next__149, sX6_next__150, sX6_next__153, sX6_next__155, sX6_next__156, sX6_next__159, sX6_next__160, sX6_next__161, sX6_next__162, sX6_next__165, sX6_next__168, sX6_next__169, sX6_next__171, sX6_next__172, sX6_next__175, sX6_next__178, sX6_next__179, sX6_next__179_i, sX6_next__180, sX6_next__183, sX6_next__184, sX6_next__185, sX6_next__188, sX6_next__191, sX6_next__192, sX6_next__193, sX6_next__196, sX6_next__197, sX6_next__197_i, sX6_next__198, sX6_next__201, sX6_next__202, sX6_next__203, opK_some, guK_true, calK_some, rk_nil, rk_int, rk_ref, tl_some, tl_none, nb_int, nb_0, nb_1, nb_if, nb_if', q130, o130_18, e18, cb]
    rw [if_pos (Nat.le_refl p), if_neg (by decide)]
    exact ⟨M1, rfl, Lr.rf, e18⟩
  | succ m ih =>
    intro p M1 hp e17 e18
    have cb := C_byteAt (d := d) (k := p) e17 hZ (by omega)
    rw [sX6_next__8]
    simp only [sX6_next__0, sX6_next__1, sX6_next__2, sX6_next__5, sX6_next__9, sX6_next__10, sX6_next__13, sX6_next__16, sX6_next__18, sX6_next__21, sX6_next__22, sX6_next__22_i, sX6_next__23, sX6_next__26, sX6_next__27, sX6_next__28, sX6_next__31, sX6_next__35, sX6_next__36, sX6_next__39, sX6_next__42, sX6_next__43, sX6_next__44, sX6_next__45, sX6_next__48, sX6_next__51, sX6_next__52, sX6_next__53, sX6_next__56, sX6_next__57, sX6_next__60, sX6_next__61, sX6_next__62, sX6_next__65, sX6_next__68, sX6_next__69, sX6_next__71, sX6_next__73, sX6_next__76, sX6_next__79, sX6_next__80, sX6_next__81, sX6_next__85, sX6_next__86, sX6_next__89, sX6_next__92, sX6_next__94, sX6_next__96, sX6_next__99, sX6_next__102, sX6_next__103, sX6_next__103_i, sX6_next__104, sX6_next__107, sX6_next__108, sX6_next__109, sX6_next__112, sX6_next__115, sX6_next__116, sX6_next__118, sX6_next__120, sX6_next__123, sX6_next__126, sX6_next__127, sX6_next__128, sX6_next__132, sX6_next__133, sX6_next__136, sX6_next__139, sX6_next__141, sX6_next__143, sX6_next__146, sX6_next__149, sX6_next__150, sX6_next__153, sX6_next__155, sX6_next__156, sX6_next__159, sX6_next__160, sX6_next__161, sX6_next__162, sX6_next__165, sX6_next__168, sX6_next__169, sX6_next__171, sX6_next__172, sX6_next__175, sX6_next__178, sX6_next__179, sX6_next__179_i, sX6_next__180, sX6_next__183, sX6_next__184, sX6_next__185, sX6_next__188, sX6_next__191, sX6_next__192, sX6_next__193, sX6_next__196, sX6_next__197, sX6_next__197_i, sX6_next__198, sX6_next__201, sX6_next__202, sX6_next__203, opK_some, guK_true, calK_some, rk_nil, rk_int, rk_ref, tl_some, tl_none, nb_int, nb_0, nb_1, nb_if, nb_if', q130, o130_18, p130_18, e18, cb, nI_1]
    rw [if_neg (show ¬ Z ≤ p by omega)]
    by_cases c : M1 138 p = 32
    · have ek : skF (M1 138) (m + 1) p = skF (M1 138) m (p + 1) := if_pos c
      rw [if_pos c, ek]
      obtain ⟨M2, c2, l2, g2⟩ := ih (p + 1) (mset M1 130 18 (nI (p + 1))) (by omega) (by rw [mset_at, upd_ne (by omega)]; exact e17) (by rw [mset_at, upd_at])
      rw [mset_ne (by omega)] at g2
      exact ⟨M2, c2, (Lr.set (Or.inl rfl)).tr l2, g2⟩
    · have ek : skF (M1 138) (m + 1) p = p := if_neg c
      rw [if_neg c, ek]
      exact ⟨M1, rfl, Lr.rf, e18⟩
theorem L_nlt {d Z : Nat} {u : Option Value} (hZ : Z ≤ 120) : ∀ (m e : Nat) (M1 : Mem), e + m = Z → M1 130 17 = nI Z → M1 130 19 = nI e →
    ∃ M', lim (call (d + 1)) none 6 cX6_next_ none 84 [some (.ref 130), u] [] M1 = some (none, M') ∧ (∀ k, k ≠ 130 → M' k = M1 k) ∧ (∀ j, j ≠ 19 → M' 130 j = M1 130 j) ∧ M' 130 19 = nI (rlF (M1 138) m e) := by
  have n1 : ¬ ((97 : Int32) ≤ -1 ∧ (-1 : Int32) ≤ 122) := by decide
  intro m
  induction m with
  | zero =>
    intro e M1 he e17 e19
    obtain rfl : e = Z := by omega
    have cb := C_byteAt (d := d) (k := e) e17 hZ hZ
    rw [sX6_next__84]
    simp only [sX6_next__0, sX6_next__1, sX6_next__2, sX6_next__5, sX6_next__9, sX6_next__10, sX6_next__13, sX6_next__16, sX6_next__18, sX6_next__21, sX6_next__22, sX6_next__22_i, sX6_next__23, sX6_next__26, sX6_next__27, sX6_next__28, sX6_next__31, sX6_next__35, sX6_next__36, sX6_next__39, sX6_next__42, sX6_next__43, sX6_next__44, sX6_next__45, sX6_next__48, sX6_next__51, sX6_next__52, sX6_next__53, sX6_next__56, sX6_next__57, sX6_next__60, sX6_next__61, sX6_next__62, sX6_next__65, sX6_next__68, sX6_next__69, sX6_next__71, sX6_next__73, sX6_next__76, sX6_next__79, sX6_next__80, sX6_next__81, sX6_next__85, sX6_next__86, sX6_next__89, sX6_next__92, sX6_next__94, sX6_next__96, sX6_next__99, sX6_next__102, sX6_next__103, sX6_next__103_i, sX6_next__104, sX6_next__107, sX6_next__108, sX6_next__109, sX6_next__112, sX6_next__115, sX6_next__116, sX6_next__118, sX6_next__120, sX6_next__123, sX6_next__126, sX6_next__127, sX6_next__128, sX6_next__132, sX6_next__133, sX6_next__136, sX6_next__139, sX6_next__141, sX6_next__143, sX6_next__146, sX6_next__149, sX6_next__150, sX6_next__153, sX6_next__155, sX6_next__156, sX6_next__159, sX6_next__160, sX6_next__161, sX6_next__162, sX6_next__165, sX6_next__168, sX6_next__169, sX6_next__171, sX6_next__172, sX6_next__175, sX6_next__178, sX6_next__179, sX6_next__179_i, sX6_next__180, sX6_next__183, sX6_next__184, sX6_next__185, sX6_next__188, sX6_next__191, sX6_next__192, sX6_next__193, sX6_next__196, sX6_next__197, sX6_next__197_i, sX6_next__198, sX6_next__201, sX6_next__202, sX6_next__203, opK_some, guK_true, calK_some, rk_nil, rk_int, rk_ref, tl_some, tl_none, nb_int, nb_0, nb_1, nb_if, nb_if', q130, o130_19, e19, cb, if_pos (Nat.le_refl e), C_m_within, n1, if_false, zero_eq, if_true]
    rw [sX6_next__206]
    exact ⟨M1, rfl, fun _ _ => rfl, fun _ _ => rfl, e19⟩
  | succ m ih =>
    intro e M1 he e17 e19
    have cb := C_byteAt (d := d) (k := e) e17 hZ (by omega)
    rw [sX6_next__84]
    simp only [sX6_next__0, sX6_next__1, sX6_next__2, sX6_next__5, sX6_next__9, sX6_next__10, sX6_next__13, sX6_next__16, sX6_next__18, sX6_next__21, sX6_next__22, sX6_next__22_i, sX6_next__23, sX6_next__26, sX6_next__27, sX6_next__28, sX6_next__31, sX6_next__35, sX6_next__36, sX6_next__39, sX6_next__42, sX6_next__43, sX6_next__44, sX6_next__45, sX6_next__48, sX6_next__51, sX6_next__52, sX6_next__53, sX6_next__56, sX6_next__57, sX6_next__60, sX6_next__61, sX6_next__62, sX6_next__65, sX6_next__68, sX6_next__69, sX6_next__71, sX6_next__73, sX6_next__76, sX6_next__79, sX6_next__80, sX6_next__81, sX6_next__85, sX6_next__86, sX6_next__89, sX6_next__92, sX6_next__94, sX6_next__96, sX6_next__99, sX6_next__102, sX6_next__103, sX6_next__103_i, sX6_next__104, sX6_next__107, sX6_next__108, sX6_next__109, sX6_next__112, sX6_next__115, sX6_next__116, sX6_next__118, sX6_next__120, sX6_next__123, sX6_next__126, sX6_next__127, sX6_next__128, sX6_next__132, sX6_next__133, sX6_next__136, sX6_next__139, sX6_next__141, sX6_next__143, sX6_next__146, sX6_next__149, sX6_next__150, sX6_next__153, sX6_next__155, sX6_next__156, sX6_next__159, sX6_next__160, sX6_next__161, sX6_next__162, sX6_next__165, sX6_next__168, sX6_next__169, sX6_next__171, sX6_next__172, sX6_next__175, sX6_next__178, sX6_next__179, sX6_next__179_i, sX6_next__180, sX6_next__183, sX6_next__184, sX6_next__185, sX6_next__188, sX6_next__191, sX6_next__192, sX6_next__193, sX6_next__196, sX6_next__197, sX6_next__197_i, sX6_next__198, sX6_next__201, sX6_next__202, sX6_next__203, opK_some, guK_true, calK_some, rk_nil, rk_int, rk_ref, tl_some, tl_none, nb_int, nb_0, nb_1, nb_if, nb_if', q130, o130_19, p130_19, e19, cb, if_neg (show ¬ Z ≤ e by omega), C_m_within, nI_1]
    by_cases c : isL (M1 138 e)
    · have ek : rlF (M1 138) (m + 1) e = rlF (M1 138) m (e + 1) := if_pos c
      rw [if_pos c, if_neg (by decide), ek]
      obtain ⟨M2, c2, l2, l3, g2⟩ := ih (e + 1) (mset M1 130 19 (nI (e + 1))) (by omega) (by rw [mset_at, upd_ne (by omega)]; exact e17) (by rw [mset_at, upd_at])
      rw [mset_ne (by omega)] at g2
      exact ⟨M2, c2, fun k hk => (l2 k hk).trans (mset_ne hk), fun j hj => by rw [l3 j hj, mset_at, upd_ne hj], g2⟩
    · have ek : rlF (M1 138) (m + 1) e = e := if_neg c
      rw [if_neg c, if_pos rfl, ek, sX6_next__206]
      exact ⟨M1, rfl, fun _ _ => rfl, fun _ _ => rfl, e19⟩
theorem L_ndg {d Z : Nat} {u : Option Value} (hZ : Z ≤ 120) : ∀ (m e : Nat) (v : Int32) (M1 : Mem), e + m = Z → M1 130 17 = nI Z → M1 130 19 = nI e → M1 130 21 = v →
    ∃ M', lim (call (d + 1)) none 6 cX6_next_ none 131 [some (.ref 130), u] [] M1 = some (none, M') ∧ (∀ k, k ≠ 130 → M' k = M1 k) ∧ (∀ j, j ≠ 19 → j ≠ 21 → M' 130 j = M1 130 j) ∧ M' 130 19 = nI (rdF (M1 138) m e) ∧ M' 130 21 = nuF (M1 138) (rdF (M1 138) m e - e) e v := by
  have n1 : ¬ ((48 : Int32) ≤ -1 ∧ (-1 : Int32) ≤ 57) := by decide
  intro m
  induction m with
  | zero =>
    intro e v M1 he e17 e19 e21
    obtain rfl : e = Z := by omega
    have cb := C_byteAt (d := d) (k := e) e17 hZ hZ
    rw [sX6_next__131]
    simp only [sX6_next__0, sX6_next__1, sX6_next__2, sX6_next__5, sX6_next__9, sX6_next__10, sX6_next__13, sX6_next__16, sX6_next__18, sX6_next__21, sX6_next__22, sX6_next__22_i, sX6_next__23, sX6_next__26, sX6_next__27, sX6_next__28, sX6_next__31, sX6_next__35, sX6_next__36, sX6_next__39, sX6_next__42, sX6_next__43, sX6_next__44, sX6_next__45, sX6_next__48, sX6_next__51, sX6_next__52, sX6_next__53, sX6_next__56, sX6_next__57, sX6_next__60, sX6_next__61, sX6_next__62, sX6_next__65, sX6_next__68, sX6_next__69, sX6_next__71, sX6_next__73, sX6_next__76, sX6_next__79, sX6_next__80, sX6_next__81, sX6_next__85, sX6_next__86, sX6_next__89, sX6_next__92, sX6_next__94, sX6_next__96, sX6_next__99, sX6_next__102, sX6_next__103, sX6_next__103_i, sX6_next__104, sX6_next__107, sX6_next__108, sX6_next__109, sX6_next__112, sX6_next__115, sX6_next__116, sX6_next__118, sX6_next__120, sX6_next__123, sX6_next__126, sX6_next__127, sX6_next__128, sX6_next__132, sX6_next__133, sX6_next__136, sX6_next__139, sX6_next__141, sX6_next__143, sX6_next__146, sX6_next__149, sX6_next__150, sX6_next__153, sX6_next__155, sX6_next__156, sX6_next__159, sX6_next__160, sX6_next__161, sX6_next__162, sX6_next__165, sX6_next__168, sX6_next__169, sX6_next__171, sX6_next__172, sX6_next__175, sX6_next__178, sX6_next__179, sX6_next__179_i, sX6_next__180, sX6_next__183, sX6_next__184, sX6_next__185, sX6_next__188, sX6_next__191, sX6_next__192, sX6_next__193, sX6_next__196, sX6_next__197, sX6_next__197_i, sX6_next__198, sX6_next__201, sX6_next__202, sX6_next__203, opK_some, guK_true, calK_some, rk_nil, rk_int, rk_ref, tl_some, tl_none, nb_int, nb_0, nb_1, nb_if, nb_if', q130, o130_19, e19, cb, if_pos (Nat.le_refl e), C_m_within, n1, if_false, zero_eq, if_true]
    rw [sX6_next__206]
    refine ⟨M1, rfl, fun _ _ => rfl, fun _ _ _ => rfl, e19, ?_⟩
    rw [show rdF (M1 138) 0 e - e = 0 by show e - e = 0; omega]
    exact e21
  | succ m ih =>
    intro e v M1 he e17 e19 e21
    have cb := C_byteAt (d := d) (k := e) e17 hZ (by omega)
    by_cases c : isD (M1 138 e)
    · have ek : rdF (M1 138) (m + 1) e = rdF (M1 138) m (e + 1) := if_pos c
      have gl := (rd_le (M1 138) m (e + 1)).1
      obtain ⟨M2, hM2⟩ : ∃ M2, M2 = mset M1 130 21 (nuS v (M1 138 e)) := ⟨_, rfl⟩
      have f17 : M2 130 17 = nI Z := by rw [hM2, mset_at, upd_ne (by omega)]; exact e17
      have f19 : M2 130 19 = nI e := by rw [hM2, mset_at, upd_ne (by omega)]; exact e19
      obtain ⟨M3, c3, l3, l4, g3, g4⟩ := ih (e + 1) (nuS v (M1 138 e)) (mset M2 130 19 (nI (e + 1))) (by omega) (by rw [mset_at, upd_ne (by omega)]; exact f17) (by rw [mset_at, upd_at]) (by rw [mset_at, upd_ne (by omega), hM2, mset_at, upd_at])
      have e138 : mset M2 130 19 (nI (e + 1)) 138 = M1 138 := by rw [mset_ne (by omega), hM2, mset_ne (by omega)]
      rw [e138] at g3 g4
      have emin : (if (10 : Int32) * v + M1 138 e - 48 < 1000 then (10 : Int32) * v + M1 138 e - 48 else 1000) = nuS v (M1 138 e) := by
        unfold nuS
        rw [Int32.mul_comm]
      rw [sX6_next__131]
      simp only [sX6_next__0, sX6_next__1, sX6_next__2, sX6_next__5, sX6_next__9, sX6_next__10, sX6_next__13, sX6_next__16, sX6_next__18, sX6_next__21, sX6_next__22, sX6_next__22_i, sX6_next__23, sX6_next__26, sX6_next__27, sX6_next__28, sX6_next__31, sX6_next__35, sX6_next__36, sX6_next__39, sX6_next__42, sX6_next__43, sX6_next__44, sX6_next__45, sX6_next__48, sX6_next__51, sX6_next__52, sX6_next__53, sX6_next__56, sX6_next__57, sX6_next__60, sX6_next__61, sX6_next__62, sX6_next__65, sX6_next__68, sX6_next__69, sX6_next__71, sX6_next__73, sX6_next__76, sX6_next__79, sX6_next__80, sX6_next__81, sX6_next__85, sX6_next__86, sX6_next__89, sX6_next__92, sX6_next__94, sX6_next__96, sX6_next__99, sX6_next__102, sX6_next__103, sX6_next__103_i, sX6_next__104, sX6_next__107, sX6_next__108, sX6_next__109, sX6_next__112, sX6_next__115, sX6_next__116, sX6_next__118, sX6_next__120, sX6_next__123, sX6_next__126, sX6_next__127, sX6_next__128, sX6_next__132, sX6_next__133, sX6_next__136, sX6_next__139, sX6_next__141, sX6_next__143, sX6_next__146, sX6_next__149, sX6_next__150, sX6_next__153, sX6_next__155, sX6_next__156, sX6_next__159, sX6_next__160, sX6_next__161, sX6_next__162, sX6_next__165, sX6_next__168, sX6_next__169, sX6_next__171, sX6_next__172, sX6_next__178, sX6_next__179, sX6_next__179_i, sX6_next__180, sX6_next__183, sX6_next__184, sX6_next__185, sX6_next__188, sX6_next__191, sX6_next__192, sX6_next__193, sX6_next__196, sX6_next__197, sX6_next__197_i, sX6_next__198, sX6_next__201, sX6_next__202, sX6_next__203, opK_some, guK_true, calK_some, rk_nil, rk_int, rk_ref, tl_some, tl_none, nb_int, nb_0, nb_1, nb_if, nb_if', q130, o130_19, o130_21, e19, e21, cb, if_neg (show ¬ Z ≤ e by omega), C_m_within]
      rw [if_pos c, if_neg (by decide), emin, sX6_next__175]
      simp only [sX6_next__0, sX6_next__1, sX6_next__2, sX6_next__5, sX6_next__9, sX6_next__10, sX6_next__13, sX6_next__16, sX6_next__18, sX6_next__21, sX6_next__22, sX6_next__22_i, sX6_next__23, sX6_next__26, sX6_next__27, sX6_next__28, sX6_next__31, sX6_next__35, sX6_next__36, sX6_next__39, sX6_next__42, sX6_next__43, sX6_next__44, sX6_next__45, sX6_next__48, sX6_next__51, sX6_next__52, sX6_next__53, sX6_next__56, sX6_next__57, sX6_next__60, sX6_next__61, sX6_next__62, sX6_next__65, sX6_next__68, sX6_next__69, sX6_next__71, sX6_next__73, sX6_next__76, sX6_next__79, sX6_next__80, sX6_next__81, sX6_next__85, sX6_next__86, sX6_next__89, sX6_next__92, sX6_next__94, sX6_next__96, sX6_next__99, sX6_next__102, sX6_next__103, sX6_next__103_i, sX6_next__104, sX6_next__107, sX6_next__108, sX6_next__109, sX6_next__112, sX6_next__115, sX6_next__116, sX6_next__118, sX6_next__120, sX6_next__123, sX6_next__126, sX6_next__127, sX6_next__128, sX6_next__132, sX6_next__133, sX6_next__136, sX6_next__139, sX6_next__141, sX6_next__143, sX6_next__146, sX6_next__149, sX6_next__150, sX6_next__153, sX6_next__155, sX6_next__156, sX6_next__159, sX6_next__160, sX6_next__161, sX6_next__162, sX6_next__165, sX6_next__168, sX6_next__169, sX6_next__171, sX6_next__172, sX6_next__178, sX6_next__179, sX6_next__179_i, sX6_next__180, sX6_next__183, sX6_next__184, sX6_next__185, sX6_next__188, sX6_next__191, sX6_next__192, sX6_next__193, sX6_next__196, sX6_next__197, sX6_next__197_i, sX6_next__198, sX6_next__201, sX6_next__202, sX6_next__203, opK_some, guK_true, calK_some, rk_nil, rk_int, rk_ref, tl_some, tl_none, nb_int, nb_0, nb_1, nb_if, nb_if', p130_21, o130_19, p130_19, ← hM2, f19, nI_1]
      refine ⟨M3, c3, fun k hk => by rw [l3 k hk, mset_ne hk, hM2, mset_ne hk], fun j a b => by rw [l4 j a b, mset_at, upd_ne a, hM2, mset_at, upd_ne b], by rw [ek]; exact g3, ?_⟩
      rw [ek, g4, show rdF (M1 138) m (e + 1) - e = rdF (M1 138) m (e + 1) - (e + 1) + 1 by omega]
      rfl
    · have ek : rdF (M1 138) (m + 1) e = e := if_neg c
      rw [sX6_next__131]
      simp only [sX6_next__0, sX6_next__1, sX6_next__2, sX6_next__5, sX6_next__9, sX6_next__10, sX6_next__13, sX6_next__16, sX6_next__18, sX6_next__21, sX6_next__22, sX6_next__22_i, sX6_next__23, sX6_next__26, sX6_next__27, sX6_next__28, sX6_next__31, sX6_next__35, sX6_next__36, sX6_next__39, sX6_next__42, sX6_next__43, sX6_next__44, sX6_next__45, sX6_next__48, sX6_next__51, sX6_next__52, sX6_next__53, sX6_next__56, sX6_next__57, sX6_next__60, sX6_next__61, sX6_next__62, sX6_next__65, sX6_next__68, sX6_next__69, sX6_next__71, sX6_next__73, sX6_next__76, sX6_next__79, sX6_next__80, sX6_next__81, sX6_next__85, sX6_next__86, sX6_next__89, sX6_next__92, sX6_next__94, sX6_next__96, sX6_next__99, sX6_next__102, sX6_next__103, sX6_next__103_i, sX6_next__104, sX6_next__107, sX6_next__108, sX6_next__109, sX6_next__112, sX6_next__115, sX6_next__116, sX6_next__118, sX6_next__120, sX6_next__123, sX6_next__126, sX6_next__127, sX6_next__128, sX6_next__132, sX6_next__133, sX6_next__136, sX6_next__139, sX6_next__141, sX6_next__143, sX6_next__146, sX6_next__149, sX6_next__150, sX6_next__153, sX6_next__155, sX6_next__156, sX6_next__159, sX6_next__160, sX6_next__161, sX6_next__162, sX6_next__165, sX6_next__168, sX6_next__169, sX6_next__171, sX6_next__172, sX6_next__175, sX6_next__178, sX6_next__179, sX6_next__179_i, sX6_next__180, sX6_next__183, sX6_next__184, sX6_next__185, sX6_next__188, sX6_next__191, sX6_next__192, sX6_next__193, sX6_next__196, sX6_next__197, sX6_next__197_i, sX6_next__198, sX6_next__201, sX6_next__202, sX6_next__203, opK_some, guK_true, calK_some, rk_nil, rk_int, rk_ref, tl_some, tl_none, nb_int, nb_0, nb_1, nb_if, nb_if', q130, o130_19, e19, cb, if_neg (show ¬ Z ≤ e by omega), C_m_within]
      rw [if_neg c, if_pos rfl, ek, sX6_next__206]
      refine ⟨M1, rfl, fun _ _ => rfl, fun _ _ _ => rfl, e19, ?_⟩
      rw [Nat.sub_self]
      exact e21
theorem C_next {d Z p : Nat} {M : Mem} (hZ : Z ≤ 120) (hp : p ≤ Z) (e17 : M 130 17 = nI Z) (e19 : M 130 19 = nI p) (hB : ∀ i, i < Z → rg (M 138 i) 255) :
    ∃ M', call (d + 2) 221 [.ref 130] M = some (none, M') ∧ Lr M M' ∧ M' 130 18 = nI (sk (M 138) Z p) ∧ M' 130 19 = nI (tE (M 138) Z (sk (M 138) Z p)) ∧ M' 130 20 = (if tQ (M 138) Z (sk (M 138) Z p) = 4 then 3 else tQ (M 138) Z (sk (M 138) Z p)) ∧ (tQ (M 138) Z (sk (M 138) Z p) = 2 → M' 130 21 = tV (M 138) Z (sk (M 138) Z p)) := by
  obtain ⟨q, hq⟩ : ∃ q, q = sk (M 138) Z p := ⟨_, rfl⟩
  have qZ : q ≤ Z := by rw [hq]; exact (sk_Z hp).2
  obtain ⟨M1, c1, l1, g1⟩ := L_nsp (d := d) (u := none) hZ (Z - p) p (mset M 130 18 (nI p)) (by omega) (by rw [mset_at, upd_ne (by omega)]; exact e17) (by rw [mset_at, upd_at])
  rw [mset_ne (by omega)] at g1
  have g1' : M1 130 18 = nI q := by rw [hq]; exact g1
  have l01 : Lr M M1 := (Lr.set (Or.inl rfl)).tr l1
  have f17 : M1 130 17 = nI Z := (l01.2 17 (by omega) (by omega) (by omega) (by omega)).trans e17
  have f138 : M1 138 = M 138 := l01.1 138 (by omega)
  have cb := C_byteAt (d := d) (k := q) f17 hZ (by omega)
  rw [f138] at cb
  obtain ⟨M2, hM2⟩ : ∃ M2, M2 = mset M1 130 19 (nI q) := ⟨_, rfl⟩
  obtain ⟨M3, hM3⟩ : ∃ M3, M3 = mset M2 130 21 0 := ⟨_, rfl⟩
  have l23 : Lr M1 M3 := by
    rw [hM3, hM2]
    exact (Lr.set (Or.inr (Or.inl rfl))).tr (Lr.set (Or.inr (Or.inr (Or.inr rfl))))
  have h18 : M3 130 18 = nI q := by rw [hM3, mset_at, upd_ne (by omega), hM2, mset_at, upd_ne (by omega)]; exact g1'
  have h19 : M3 130 19 = nI q := by rw [hM3, mset_at, upd_ne (by omega), hM2, mset_at, upd_at]
  have h21 : M3 130 21 = 0 := by rw [hM3, mset_at, upd_at]
  have h17 : M3 130 17 = nI Z := by rw [l23.2 17 (by omega) (by omega) (by omega) (by omega)]; exact f17
  have h138 : M3 138 = M 138 := by rw [l23.1 138 (by omega)]; exact f138
  rw [show d + 2 = d + 1 + 1 from rfl, nX6_next_, ← hq]
  simp only [sX6_next__0, sX6_next__1, sX6_next__2, sX6_next__5, sX6_next__9, sX6_next__10, sX6_next__13, sX6_next__16, sX6_next__18, sX6_next__21, sX6_next__22, sX6_next__22_i, sX6_next__23, sX6_next__26, sX6_next__27, sX6_next__28, sX6_next__31, sX6_next__35, sX6_next__36, sX6_next__39, sX6_next__42, sX6_next__43, sX6_next__44, sX6_next__45, sX6_next__48, sX6_next__51, sX6_next__52, sX6_next__53, sX6_next__56, sX6_next__57, sX6_next__60, sX6_next__61, sX6_next__62, sX6_next__65, sX6_next__68, sX6_next__69, sX6_next__71, sX6_next__73, sX6_next__76, sX6_next__79, sX6_next__80, sX6_next__81, sX6_next__85, sX6_next__86, sX6_next__89, sX6_next__92, sX6_next__94, sX6_next__96, sX6_next__99, sX6_next__102, sX6_next__103, sX6_next__103_i, sX6_next__104, sX6_next__107, sX6_next__108, sX6_next__109, sX6_next__112, sX6_next__115, sX6_next__116, sX6_next__118, sX6_next__120, sX6_next__123, sX6_next__126, sX6_next__127, sX6_next__128, sX6_next__132, sX6_next__133, sX6_next__136, sX6_next__139, sX6_next__141, sX6_next__143, sX6_next__146, sX6_next__149, sX6_next__150, sX6_next__153, sX6_next__155, sX6_next__156, sX6_next__159, sX6_next__160, sX6_next__161, sX6_next__162, sX6_next__165, sX6_next__168, sX6_next__169, sX6_next__171, sX6_next__172, sX6_next__175, sX6_next__178, sX6_next__179, sX6_next__179_i, sX6_next__180, sX6_next__183, sX6_next__184, sX6_next__185, sX6_next__188, sX6_next__191, sX6_next__192, sX6_next__193, sX6_next__196, sX6_next__197, sX6_next__197_i, sX6_next__198, sX6_next__201, sX6_next__202, sX6_next__203, opK_some, guK_true, calK_some, rk_nil, rk_int, rk_ref, tl_some, tl_none, nb_int, nb_0, nb_1, nb_if, nb_if', o130_19, p130_18, e19]
  rw [c1, sX6_next__34]
  simp only [sX6_next__0, sX6_next__1, sX6_next__2, sX6_next__5, sX6_next__9, sX6_next__10, sX6_next__13, sX6_next__16, sX6_next__18, sX6_next__21, sX6_next__22, sX6_next__22_i, sX6_next__23, sX6_next__26, sX6_next__27, sX6_next__28, sX6_next__31, sX6_next__35, sX6_next__36, sX6_next__39, sX6_next__42, sX6_next__43, sX6_next__44, sX6_next__45, sX6_next__51, sX6_next__52, sX6_next__53, sX6_next__56, sX6_next__57, sX6_next__60, sX6_next__61, sX6_next__62, sX6_next__65, sX6_next__68, sX6_next__69, sX6_next__71, sX6_next__73, sX6_next__76, sX6_next__79, sX6_next__80, sX6_next__81, sX6_next__85, sX6_next__86, sX6_next__89, sX6_next__92, sX6_next__94, sX6_next__96, sX6_next__99, sX6_next__102, sX6_next__103, sX6_next__103_i, sX6_next__104, sX6_next__107, sX6_next__108, sX6_next__109, sX6_next__112, sX6_next__115, sX6_next__116, sX6_next__118, sX6_next__120, sX6_next__123, sX6_next__126, sX6_next__127, sX6_next__128, sX6_next__132, sX6_next__133, sX6_next__136, sX6_next__139, sX6_next__141, sX6_next__143, sX6_next__146, sX6_next__149, sX6_next__150, sX6_next__153, sX6_next__155, sX6_next__156, sX6_next__159, sX6_next__160, sX6_next__161, sX6_next__162, sX6_next__165, sX6_next__168, sX6_next__169, sX6_next__171, sX6_next__172, sX6_next__175, sX6_next__178, sX6_next__179, sX6_next__179_i, sX6_next__180, sX6_next__183, sX6_next__184, sX6_next__185, sX6_next__188, sX6_next__191, sX6_next__192, sX6_next__193, sX6_next__196, sX6_next__197, sX6_next__197_i, sX6_next__198, sX6_next__201, sX6_next__202, sX6_next__203, opK_some, guK_true, calK_some, rk_nil, rk_int, rk_ref, tl_some, tl_none, nb_int, nb_0, nb_1, nb_if, nb_if', q130, o130_18, g1', cb]
  rw [sX6_next__48]
  simp only [sX6_next__0, sX6_next__1, sX6_next__2, sX6_next__5, sX6_next__9, sX6_next__10, sX6_next__13, sX6_next__16, sX6_next__18, sX6_next__21, sX6_next__22, sX6_next__22_i, sX6_next__23, sX6_next__26, sX6_next__27, sX6_next__28, sX6_next__31, sX6_next__35, sX6_next__36, sX6_next__39, sX6_next__42, sX6_next__43, sX6_next__44, sX6_next__45, sX6_next__51, sX6_next__52, sX6_next__53, sX6_next__56, sX6_next__57, sX6_next__60, sX6_next__61, sX6_next__62, sX6_next__65, sX6_next__68, sX6_next__69, sX6_next__71, sX6_next__73, sX6_next__76, sX6_next__79, sX6_next__80, sX6_next__81, sX6_next__85, sX6_next__86, sX6_next__89, sX6_next__92, sX6_next__94, sX6_next__96, sX6_next__99, sX6_next__102, sX6_next__103, sX6_next__103_i, sX6_next__104, sX6_next__107, sX6_next__108, sX6_next__109, sX6_next__112, sX6_next__115, sX6_next__116, sX6_next__118, sX6_next__120, sX6_next__123, sX6_next__126, sX6_next__127, sX6_next__128, sX6_next__132, sX6_next__133, sX6_next__136, sX6_next__139, sX6_next__141, sX6_next__143, sX6_next__146, sX6_next__149, sX6_next__150, sX6_next__153, sX6_next__155, sX6_next__156, sX6_next__159, sX6_next__160, sX6_next__161, sX6_next__162, sX6_next__165, sX6_next__168, sX6_next__169, sX6_next__171, sX6_next__172, sX6_next__175, sX6_next__178, sX6_next__179, sX6_next__179_i, sX6_next__180, sX6_next__183, sX6_next__184, sX6_next__185, sX6_next__188, sX6_next__191, sX6_next__192, sX6_next__193, sX6_next__196, sX6_next__197, sX6_next__197_i, sX6_next__198, sX6_next__201, sX6_next__202, sX6_next__203, opK_some, guK_true, calK_some, rk_nil, rk_int, rk_ref, tl_some, tl_none, nb_int, nb_0, nb_1, nb_if, nb_if', p130_19, p130_21, ← hM2, ← hM3]
  by_cases cZ : Z ≤ q
  · have eS : tQ (M 138) Z q = 0 := qS_0.mpr cZ
    have eE : tE (M 138) Z q = q := by
      unfold tE
      rw [if_pos cZ]
    have cb0 : ¬ (0 : Int32) ≤ -1 := by decide
    simp only [if_pos cZ, if_neg cb0]
    simp only [sX6_next__0, sX6_next__1, sX6_next__2, sX6_next__5, sX6_next__9, sX6_next__10, sX6_next__13, sX6_next__16, sX6_next__18, sX6_next__21, sX6_next__22, sX6_next__22_i, sX6_next__23, sX6_next__26, sX6_next__27, sX6_next__28, sX6_next__31, sX6_next__35, sX6_next__36, sX6_next__39, sX6_next__42, sX6_next__43, sX6_next__44, sX6_next__45, sX6_next__51, sX6_next__52, sX6_next__53, sX6_next__56, sX6_next__57, sX6_next__60, sX6_next__61, sX6_next__62, sX6_next__65, sX6_next__68, sX6_next__69, sX6_next__71, sX6_next__73, sX6_next__76, sX6_next__79, sX6_next__80, sX6_next__81, sX6_next__85, sX6_next__86, sX6_next__89, sX6_next__92, sX6_next__94, sX6_next__96, sX6_next__99, sX6_next__102, sX6_next__103, sX6_next__103_i, sX6_next__104, sX6_next__107, sX6_next__108, sX6_next__109, sX6_next__112, sX6_next__115, sX6_next__116, sX6_next__118, sX6_next__120, sX6_next__123, sX6_next__126, sX6_next__127, sX6_next__128, sX6_next__132, sX6_next__133, sX6_next__136, sX6_next__139, sX6_next__141, sX6_next__143, sX6_next__146, sX6_next__149, sX6_next__150, sX6_next__153, sX6_next__155, sX6_next__156, sX6_next__159, sX6_next__160, sX6_next__161, sX6_next__162, sX6_next__165, sX6_next__168, sX6_next__169, sX6_next__171, sX6_next__172, sX6_next__175, sX6_next__178, sX6_next__179, sX6_next__179_i, sX6_next__180, sX6_next__183, sX6_next__184, sX6_next__185, sX6_next__188, sX6_next__191, sX6_next__192, sX6_next__193, sX6_next__196, sX6_next__197, sX6_next__197_i, sX6_next__198, sX6_next__201, sX6_next__202, sX6_next__203, opK_some, guK_true, calK_some, rk_nil, rk_int, rk_ref, tl_some, tl_none, nb_int, nb_0, nb_1, nb_if, nb_if', p130_20]
    rw [sX6_next__206]
    refine ⟨_, rfl, (l01.tr l23).tr (Lr.set (Or.inr (Or.inr (Or.inl rfl)))), by rw [mset_at, upd_ne (by omega)]; exact h18, by rw [mset_at, upd_ne (by omega), eE]; exact h19, by rw [mset_at, upd_at, eS]; rfl, fun z => ?_⟩
    rw [eS] at z
    exact absurd z (by decide)
  · have hqZ : q < Z := by omega
    obtain ⟨b1, b2⟩ := hB q hqZ
    have cb0 : (0 : Int32) ≤ M 138 q := by rw [b2]; exact nI_le (a := 0) (by omega) (by omega)
    simp only [if_neg cZ, if_pos cb0]
    by_cases cL : isL (M 138 q)
    · have eS : tQ (M 138) Z q = 1 := by
        unfold tQ
        rw [if_neg cZ, if_pos cL]
      have eE : tE (M 138) Z q = rlF (M 138) (Z - q) q := by
        unfold tE
        rw [if_neg cZ, if_pos cL]
      obtain ⟨M4, hM4⟩ : ∃ M4, M4 = mset M3 130 20 1 := ⟨_, rfl⟩
      have l34 : Lr M3 M4 := by rw [hM4]; exact Lr.set (Or.inr (Or.inr (Or.inl rfl)))
      have i17 : M4 130 17 = nI Z := by rw [hM4, mset_at, upd_ne (by omega)]; exact h17
      have i19 : M4 130 19 = nI q := by rw [hM4, mset_at, upd_ne (by omega)]; exact h19
      have i138 : M4 138 = M 138 := by rw [hM4, mset_ne (by omega)]; exact h138
      obtain ⟨M5, c5, l5, l6, g5⟩ := L_nlt (d := d) (u := some (.int (M 138 q))) hZ (Z - q) q M4 (by omega) i17 i19
      rw [i138] at g5
      simp only [sX6_next__0, sX6_next__1, sX6_next__2, sX6_next__5, sX6_next__9, sX6_next__10, sX6_next__13, sX6_next__16, sX6_next__18, sX6_next__21, sX6_next__22, sX6_next__22_i, sX6_next__23, sX6_next__26, sX6_next__27, sX6_next__28, sX6_next__31, sX6_next__35, sX6_next__36, sX6_next__39, sX6_next__42, sX6_next__43, sX6_next__44, sX6_next__45, sX6_next__51, sX6_next__52, sX6_next__53, sX6_next__56, sX6_next__57, sX6_next__60, sX6_next__61, sX6_next__62, sX6_next__65, sX6_next__68, sX6_next__69, sX6_next__71, sX6_next__73, sX6_next__76, sX6_next__79, sX6_next__80, sX6_next__81, sX6_next__85, sX6_next__86, sX6_next__89, sX6_next__92, sX6_next__94, sX6_next__96, sX6_next__99, sX6_next__102, sX6_next__103, sX6_next__103_i, sX6_next__104, sX6_next__107, sX6_next__108, sX6_next__109, sX6_next__112, sX6_next__115, sX6_next__116, sX6_next__118, sX6_next__120, sX6_next__123, sX6_next__126, sX6_next__127, sX6_next__128, sX6_next__132, sX6_next__133, sX6_next__136, sX6_next__139, sX6_next__141, sX6_next__143, sX6_next__146, sX6_next__149, sX6_next__150, sX6_next__153, sX6_next__155, sX6_next__156, sX6_next__159, sX6_next__160, sX6_next__161, sX6_next__162, sX6_next__165, sX6_next__168, sX6_next__169, sX6_next__171, sX6_next__172, sX6_next__175, sX6_next__178, sX6_next__179, sX6_next__179_i, sX6_next__180, sX6_next__183, sX6_next__184, sX6_next__185, sX6_next__188, sX6_next__191, sX6_next__192, sX6_next__193, sX6_next__196, sX6_next__197, sX6_next__197_i, sX6_next__198, sX6_next__201, sX6_next__202, sX6_next__203, opK_some, guK_true, calK_some, rk_nil, rk_int, rk_ref, tl_some, tl_none, nb_int, nb_0, nb_1, nb_if, nb_if', C_m_within, if_pos cL, one_ne, if_false, p130_20, ← hM4]
      refine ⟨M5, c5, ((l01.tr l23).tr l34).tr ⟨l5, fun j a b c e => l6 j b⟩, by rw [l6 18 (by omega), hM4, mset_at, upd_ne (by omega)]; exact h18, by rw [g5, eE], by rw [l6 20 (by omega), hM4, mset_at, upd_at, eS]; rfl, fun z => ?_⟩
      rw [eS] at z
      exact absurd z (by decide)
    · by_cases cD : isD (M 138 q)
      · have eS : tQ (M 138) Z q = 2 := by
          unfold tQ
          rw [if_neg cZ, if_neg cL, if_pos cD]
        have eE : tE (M 138) Z q = rdF (M 138) (Z - q) q := by
          unfold tE
          rw [if_neg cZ, if_neg cL, if_pos cD]
        have eV : tV (M 138) Z q = nuF (M 138) (tE (M 138) Z q - q) q 0 := by
          unfold tV
          rw [if_neg cZ, if_neg cL, if_pos cD]
        obtain ⟨M4, hM4⟩ : ∃ M4, M4 = mset M3 130 20 2 := ⟨_, rfl⟩
        have l34 : Lr M3 M4 := by rw [hM4]; exact Lr.set (Or.inr (Or.inr (Or.inl rfl)))
        have i17 : M4 130 17 = nI Z := by rw [hM4, mset_at, upd_ne (by omega)]; exact h17
        have i19 : M4 130 19 = nI q := by rw [hM4, mset_at, upd_ne (by omega)]; exact h19
        have i21 : M4 130 21 = 0 := by rw [hM4, mset_at, upd_ne (by omega)]; exact h21
        have i138 : M4 138 = M 138 := by rw [hM4, mset_ne (by omega)]; exact h138
        obtain ⟨M5, c5, l5, l6, g5, g6⟩ := L_ndg (d := d) (u := some (.int (M 138 q))) hZ (Z - q) q 0 M4 (by omega) i17 i19 i21
        rw [i138] at g5 g6
        simp only [sX6_next__0, sX6_next__1, sX6_next__2, sX6_next__5, sX6_next__9, sX6_next__10, sX6_next__13, sX6_next__16, sX6_next__18, sX6_next__21, sX6_next__22, sX6_next__22_i, sX6_next__23, sX6_next__26, sX6_next__27, sX6_next__28, sX6_next__31, sX6_next__35, sX6_next__36, sX6_next__39, sX6_next__42, sX6_next__43, sX6_next__44, sX6_next__45, sX6_next__51, sX6_next__52, sX6_next__53, sX6_next__56, sX6_next__57, sX6_next__60, sX6_next__61, sX6_next__62, sX6_next__65, sX6_next__68, sX6_next__69, sX6_next__71, sX6_next__73, sX6_next__76, sX6_next__79, sX6_next__80, sX6_next__81, sX6_next__85, sX6_next__86, sX6_next__89, sX6_next__92, sX6_next__94, sX6_next__96, sX6_next__99, sX6_next__102, sX6_next__103, sX6_next__103_i, sX6_next__104, sX6_next__107, sX6_next__108, sX6_next__109, sX6_next__112, sX6_next__115, sX6_next__116, sX6_next__118, sX6_next__120, sX6_next__123, sX6_next__126, sX6_next__127, sX6_next__128, sX6_next__132, sX6_next__133, sX6_next__136, sX6_next__139, sX6_next__141, sX6_next__143, sX6_next__146, sX6_next__149, sX6_next__150, sX6_next__153, sX6_next__155, sX6_next__156, sX6_next__159, sX6_next__160, sX6_next__161, sX6_next__162, sX6_next__165, sX6_next__168, sX6_next__169, sX6_next__171, sX6_next__172, sX6_next__175, sX6_next__178, sX6_next__179, sX6_next__179_i, sX6_next__180, sX6_next__183, sX6_next__184, sX6_next__185, sX6_next__188, sX6_next__191, sX6_next__192, sX6_next__193, sX6_next__196, sX6_next__197, sX6_next__197_i, sX6_next__198, sX6_next__201, sX6_next__202, sX6_next__203, opK_some, guK_true, calK_some, rk_nil, rk_int, rk_ref, tl_some, tl_none, nb_int, nb_0, nb_1, nb_if, nb_if', C_m_within, if_neg cL, if_pos cD, one_ne, zero_eq, if_true, if_false, p130_20, ← hM4]
        exact ⟨M5, c5, ((l01.tr l23).tr l34).tr ⟨l5, fun j a b c e => l6 j b e⟩, by rw [l6 18 (by omega) (by omega), hM4, mset_at, upd_ne (by omega)]; exact h18, by rw [g5, eE], by rw [l6 20 (by omega) (by omega), hM4, mset_at, upd_at, eS]; rfl, fun _ => by rw [g6, eV, eE]⟩
      · have eE : tE (M 138) Z q = q + 1 := by
          unfold tE
          rw [if_neg cZ, if_neg cL, if_neg cD]
        have eS : (if tQ (M 138) Z q = 4 then (3 : Int32) else tQ (M 138) Z q) = 3 ∧ ¬ tQ (M 138) Z q = 2 := by
          have e : tQ (M 138) Z q = 3 ∨ tQ (M 138) Z q = 4 := by
            unfold tQ
            rw [if_neg cZ, if_neg cL, if_neg cD]
            split
            · exact Or.inl rfl
            · exact Or.inr rfl
          rcases e with e | e <;> rw [e] <;> decide
        obtain ⟨M4, hM4⟩ : ∃ M4, M4 = mset M3 130 20 3 := ⟨_, rfl⟩
        have l34 : Lr M3 M4 := by rw [hM4]; exact Lr.set (Or.inr (Or.inr (Or.inl rfl)))
        have i19 : M4 130 19 = nI q := by rw [hM4, mset_at, upd_ne (by omega)]; exact h19
        simp only [sX6_next__0, sX6_next__1, sX6_next__2, sX6_next__5, sX6_next__9, sX6_next__10, sX6_next__13, sX6_next__16, sX6_next__18, sX6_next__21, sX6_next__22, sX6_next__22_i, sX6_next__23, sX6_next__26, sX6_next__27, sX6_next__28, sX6_next__31, sX6_next__35, sX6_next__36, sX6_next__39, sX6_next__42, sX6_next__43, sX6_next__44, sX6_next__45, sX6_next__51, sX6_next__52, sX6_next__53, sX6_next__56, sX6_next__57, sX6_next__60, sX6_next__61, sX6_next__62, sX6_next__65, sX6_next__68, sX6_next__69, sX6_next__71, sX6_next__73, sX6_next__76, sX6_next__79, sX6_next__80, sX6_next__81, sX6_next__85, sX6_next__86, sX6_next__89, sX6_next__92, sX6_next__94, sX6_next__96, sX6_next__99, sX6_next__102, sX6_next__103, sX6_next__103_i, sX6_next__104, sX6_next__107, sX6_next__108, sX6_next__109, sX6_next__112, sX6_next__115, sX6_next__116, sX6_next__118, sX6_next__120, sX6_next__123, sX6_next__126, sX6_next__127, sX6_next__128, sX6_next__132, sX6_next__133, sX6_next__136, sX6_next__139, sX6_next__141, sX6_next__143, sX6_next__146, sX6_next__149, sX6_next__150, sX6_next__153, sX6_next__155, sX6_next__156, sX6_next__159, sX6_next__160, sX6_next__161, sX6_next__162, sX6_next__165, sX6_next__168, sX6_next__169, sX6_next__171, sX6_next__172, sX6_next__175, sX6_next__178, sX6_next__179, sX6_next__179_i, sX6_next__180, sX6_next__183, sX6_next__184, sX6_next__185, sX6_next__188, sX6_next__191, sX6_next__192, sX6_next__193, sX6_next__196, sX6_next__197, sX6_next__197_i, sX6_next__198, sX6_next__201, sX6_next__202, sX6_next__203, opK_some, guK_true, calK_some, rk_nil, rk_int, rk_ref, tl_some, tl_none, nb_int, nb_0, nb_1, nb_if, nb_if', C_m_within, if_neg cL, if_neg cD, zero_eq, if_true, p130_20, ← hM4, o130_19, p130_19, i19, nI_1]
        rw [sX6_next__206]
        refine ⟨_, rfl, ((l01.tr l23).tr l34).tr (Lr.set (Or.inr (Or.inl rfl))), by rw [mset_at, upd_ne (by omega), hM4, mset_at, upd_ne (by omega)]; exact h18, by rw [mset_at, upd_at, eE], by rw [mset_at, upd_ne (by omega), hM4, mset_at, upd_at, eS.1], fun z => absurd z eS.2⟩

