/-! the class's farm -/
def egR (r : Rw) (i c : Nat) : Int32 := r (96 + 3 * ((iN (r 5) - 1 - i) % 12) + c)
/-- the farm at f is the row's -/
def FR (M : Mem) (f : Nat) (r : Rw) : Prop := HR M (f - 90) r ∧ (M f 1 = r 0 ∧ M f 2 = r 7 ∧ M f 3 = r 5 ∧ M f 4 = r 6) ∧ (∀ c, c < 3 → ∀ i, i < 12 → i < iN (r 5) → M (f + 1 + c) i = egR r i c) ∧ ∀ s, s < 10 → M (f + 4) s = r (8 + s)
/-- nothing but the farm at f has changed -/
def Fo (f : Nat) (M M' : Mem) : Prop := ∀ k, (k + 90 < f ∨ f ≤ k + 81) → (k < f ∨ f + 5 ≤ k) → M' k = M k
theorem farm_hen {f : Nat} (hf : isFarm f) : isHen (f - 90) := by
  unfold isFarm at hf
  unfold isHen
  omega
theorem HR_ou {b : Nat} {M M' : Mem} {r : Rw} (h : HR M b r) (e : ∀ k, b ≤ k → k < b + 9 → M' k = M k) : HR M' b r := by
  refine ⟨?_, fun f hf t ht => ?_, fun i hi => ?_⟩
  · rw [e b (by omega) (by omega)]
    exact h.1
  · rw [e _ (by omega) (by omega)]
    exact h.2.1 f hf t ht
  · rw [e _ (by omega) (by omega)]
    exact h.2.2 i hi
theorem cp1 {x : Nat} (hx : arrN x = some 12) : cpy9 x x 0 1 11 = true := by
  unfold cpy9
  rw [hx]
  decide
def shE (a : Nat → Int32) (v : Int32) : Nat → Int32 := fun i => if i = 0 then v else a (i - 1)
theorem shE_cp {a : Nat → Int32} {v : Int32} {i : Nat} (hi : i < 12) : upd (va_cpy a a 0 1 11) 0 v i = shE a v i := by
  unfold upd shE
  by_cases h : i = 0
  · rw [if_pos h, if_pos h]
  · rw [if_neg h, if_neg h, pk_cpy_in (by omega) (by omega), show 0 + (i - 1) = i - 1 by omega]
set_option maxHeartbeats 800000 in
theorem C_keepEgg {d f : Nat} {M : Mem} (hf : isFarm f) : ∃ M', call (d + 1) 31 [.ref f] M = some (none, M') ∧ (M' f 1 = M f 1 ∧ M' f 2 = M f 2 ∧ M' f 3 = M f 3 + 1 ∧ M' f 4 = (if M (f - 90) 14 = 0 then M f 4 else M f 4 + 1)) ∧ (∀ i, i < 12 → M' (f + 1) i = shE (M (f + 1)) (M (f - 90) 12) i) ∧ (∀ i, i < 12 → M' (f + 2) i = shE (M (f + 2)) (M (f - 90) 13) i) ∧ (∀ i, i < 12 → M' (f + 3) i = shE (M (f + 3)) (M f 1) i) ∧ ∀ k, k ≠ f → k ≠ f + 1 → k ≠ f + 2 → k ≠ f + 3 → M' k = M k := by
  have hb := farm_hen hf
  have hf' : f = 100 ∨ f = 110 := hf
  obtain ⟨b, eb⟩ : ∃ b, b = f - 90 := ⟨_, rfl⟩
  rw [← eb] at hb ⊢
  rw [nX0_keepEgg]
  obtain ⟨M1, hM1⟩ : ∃ M1, M1 = mrow (mrow (mrow M (f + 1) (va_cpy (M (f + 1)) (M (f + 1)) 0 1 11)) (f + 2) (va_cpy (M (f + 2)) (M (f + 2)) 0 1 11)) (f + 3) (va_cpy (M (f + 3)) (M (f + 3)) 0 1 11) := ⟨_, rfl⟩
  have y2 : mrow M (f + 1) (va_cpy (M (f + 1)) (M (f + 1)) 0 1 11) (f + 2) = M (f + 2) := mrow_ne (by omega)
  have y3 : mrow (mrow M (f + 1) (va_cpy (M (f + 1)) (M (f + 1)) 0 1 11)) (f + 2) (va_cpy (M (f + 2)) (M (f + 2)) 0 1 11) (f + 3) = M (f + 3) := by rw [mrow_ne (by omega), mrow_ne (by omega)]
  simp only [sX0_keepEgg_0, sX0_keepEgg_1, sX0_keepEgg_4, sX0_keepEgg_5, sX0_keepEgg_6, sX0_keepEgg_9, sX0_keepEgg_10, sX0_keepEgg_12, sX0_keepEgg_15, sX0_keepEgg_16, sX0_keepEgg_19, sX0_keepEgg_20, sX0_keepEgg_21, sX0_keepEgg_24, sX0_keepEgg_25, sX0_keepEgg_27, sX0_keepEgg_30, sX0_keepEgg_31, sX0_keepEgg_34, sX0_keepEgg_35, sX0_keepEgg_36, sX0_keepEgg_39, sX0_keepEgg_40, sX0_keepEgg_42, sX0_keepEgg_46, sX0_keepEgg_49, sX0_keepEgg_50, sX0_keepEgg_51, sX0_keepEgg_54, sX0_keepEgg_57, sX0_keepEgg_58, sX0_keepEgg_59, sX0_keepEgg_62, sX0_keepEgg_63, sX0_keepEgg_64, sX0_keepEgg_67, sX0_keepEgg_70, sX0_keepEgg_71, sX0_keepEgg_72, sX0_keepEgg_75, sX0_keepEgg_76, sX0_keepEgg_77, sX0_keepEgg_80, sX0_keepEgg_81, sX0_keepEgg_82, sX0_keepEgg_82_i, sX0_keepEgg_83, sX0_keepEgg_86, sX0_keepEgg_87, sX0_keepEgg_88, sX0_keepEgg_91, sX0_keepEgg_92, sX0_keepEgg_95, sX0_keepEgg_98, sX0_keepEgg_101, sX0_keepEgg_102, sX0_keepEgg_102_i, sX0_keepEgg_103, sX0_keepEgg_106, sX0_keepEgg_107, sX0_keepEgg_108, sX0_keepEgg_111, opK_some, guK_true, calK_some, rk_nil, rk_int, rk_ref, tl_some, tl_none, nb_int, nb_0, nb_1, nb_if, nb_if', fs_0 hf, fs_5 hf, fs_6 hf, fs_7 hf, cp1 (fn_1 hf), cp1 (fn_2 hf), cp1 (fn_3 hf), ← eb, tn_0, tn_1, tn_11, y2, y3, ← hM1]
  have z1 : M1 (f + 1) = va_cpy (M (f + 1)) (M (f + 1)) 0 1 11 := by rw [hM1, mrow_ne (by omega), mrow_ne (by omega), mrow_at]
  have z2 : M1 (f + 2) = va_cpy (M (f + 2)) (M (f + 2)) 0 1 11 := by rw [hM1, mrow_ne (by omega), mrow_at]
  have z3 : M1 (f + 3) = va_cpy (M (f + 3)) (M (f + 3)) 0 1 11 := by rw [hM1, mrow_at]
  have zk : ∀ k, k ≠ f + 1 → k ≠ f + 2 → k ≠ f + 3 → M1 k = M k := by
    intro k h1 h2 h3
    rw [hM1, mrow_ne h3, mrow_ne h2, mrow_ne h1]
  have zb := zk b (by omega) (by omega) (by omega)
  have zf := zk f (by omega) (by omega) (by omega)
  obtain ⟨M2, hM2⟩ : ∃ M2, M2 = mset (mset (mset M1 (f + 1) 0 (M b 12)) (f + 2) 0 (M b 13)) (f + 3) 0 (M f 1) := ⟨_, rfl⟩
  have p1 : mset M1 (f + 1) 0 (M b 12) b = M b := by rw [mset_ne (by omega), zb]
  have p2 : mset (mset M1 (f + 1) 0 (M b 12)) (f + 2) 0 (M b 13) f = M f := by rw [mset_ne (by omega), mset_ne (by omega), zf]
  rw [sX0_keepEgg_45]
  simp only [sX0_keepEgg_0, sX0_keepEgg_1, sX0_keepEgg_4, sX0_keepEgg_5, sX0_keepEgg_6, sX0_keepEgg_9, sX0_keepEgg_10, sX0_keepEgg_12, sX0_keepEgg_15, sX0_keepEgg_16, sX0_keepEgg_19, sX0_keepEgg_20, sX0_keepEgg_21, sX0_keepEgg_24, sX0_keepEgg_25, sX0_keepEgg_27, sX0_keepEgg_30, sX0_keepEgg_31, sX0_keepEgg_34, sX0_keepEgg_35, sX0_keepEgg_36, sX0_keepEgg_39, sX0_keepEgg_40, sX0_keepEgg_42, sX0_keepEgg_46, sX0_keepEgg_49, sX0_keepEgg_50, sX0_keepEgg_51, sX0_keepEgg_54, sX0_keepEgg_57, sX0_keepEgg_58, sX0_keepEgg_59, sX0_keepEgg_62, sX0_keepEgg_63, sX0_keepEgg_64, sX0_keepEgg_67, sX0_keepEgg_70, sX0_keepEgg_71, sX0_keepEgg_72, sX0_keepEgg_75, sX0_keepEgg_76, sX0_keepEgg_77, sX0_keepEgg_80, sX0_keepEgg_82, sX0_keepEgg_82_i, sX0_keepEgg_83, sX0_keepEgg_86, sX0_keepEgg_87, sX0_keepEgg_88, sX0_keepEgg_91, sX0_keepEgg_92, sX0_keepEgg_95, sX0_keepEgg_98, sX0_keepEgg_101, sX0_keepEgg_102, sX0_keepEgg_102_i, sX0_keepEgg_103, sX0_keepEgg_106, sX0_keepEgg_107, sX0_keepEgg_108, sX0_keepEgg_111, opK_some, guK_true, calK_some, rk_nil, rk_int, rk_ref, tl_some, tl_none, nb_int, nb_0, nb_1, nb_if, nb_if', fs_0 hf, fs_5 hf, fs_6 hf, fs_7 hf, fn_1 hf, fn_2 hf, fn_3 hf, ← eb, hs_12 hb, hs_13 hb, fs_1 hf, ib_0_12, tn_0, zb, p1, p2, ← hM2]
  have q1 : M2 (f + 1) = upd (va_cpy (M (f + 1)) (M (f + 1)) 0 1 11) 0 (M b 12) := by rw [hM2, mset_ne (by omega), mset_ne (by omega), mset_at, z1]
  have q2 : M2 (f + 2) = upd (va_cpy (M (f + 2)) (M (f + 2)) 0 1 11) 0 (M b 13) := by rw [hM2, mset_ne (by omega), mset_at, mset_ne (by omega), z2]
  have q3 : M2 (f + 3) = upd (va_cpy (M (f + 3)) (M (f + 3)) 0 1 11) 0 (M f 1) := by rw [hM2, mset_at, mset_ne (by omega), mset_ne (by omega), z3]
  have qk : ∀ k, k ≠ f + 1 → k ≠ f + 2 → k ≠ f + 3 → M2 k = M k := by
    intro k h1 h2 h3
    rw [hM2, mset_ne h3, mset_ne h2, mset_ne h1]
    exact zk k h1 h2 h3
  have qf := qk f (by omega) (by omega) (by omega)
  have qb := qk b (by omega) (by omega) (by omega)
  have fb : mset M2 f 3 (M f 3 + 1) b = M b := by rw [mset_ne (by omega), qb]
  have f4 : mset M2 f 3 (M f 3 + 1) f 4 = M f 4 := by rw [mset_at, upd_ne (by omega), qf]
  rw [sX0_keepEgg_81]
  simp only [sX0_keepEgg_0, sX0_keepEgg_1, sX0_keepEgg_4, sX0_keepEgg_5, sX0_keepEgg_6, sX0_keepEgg_9, sX0_keepEgg_10, sX0_keepEgg_12, sX0_keepEgg_15, sX0_keepEgg_16, sX0_keepEgg_19, sX0_keepEgg_20, sX0_keepEgg_21, sX0_keepEgg_24, sX0_keepEgg_25, sX0_keepEgg_27, sX0_keepEgg_30, sX0_keepEgg_31, sX0_keepEgg_34, sX0_keepEgg_35, sX0_keepEgg_36, sX0_keepEgg_39, sX0_keepEgg_40, sX0_keepEgg_42, sX0_keepEgg_46, sX0_keepEgg_49, sX0_keepEgg_50, sX0_keepEgg_51, sX0_keepEgg_54, sX0_keepEgg_57, sX0_keepEgg_58, sX0_keepEgg_59, sX0_keepEgg_62, sX0_keepEgg_63, sX0_keepEgg_64, sX0_keepEgg_67, sX0_keepEgg_70, sX0_keepEgg_71, sX0_keepEgg_72, sX0_keepEgg_75, sX0_keepEgg_76, sX0_keepEgg_77, sX0_keepEgg_80, sX0_keepEgg_82, sX0_keepEgg_82_i, sX0_keepEgg_83, sX0_keepEgg_86, sX0_keepEgg_87, sX0_keepEgg_88, sX0_keepEgg_91, sX0_keepEgg_92, sX0_keepEgg_95, sX0_keepEgg_98, sX0_keepEgg_101, sX0_keepEgg_102, sX0_keepEgg_102_i, sX0_keepEgg_103, sX0_keepEgg_106, sX0_keepEgg_107, sX0_keepEgg_108, sX0_keepEgg_111, opK_some, guK_true, calK_some, rk_nil, rk_int, rk_ref, tl_some, tl_none, nb_int, nb_0, nb_1, nb_if, nb_if', fs_0 hf, fs_3 hf, fi_3 hf, fs_4 hf, fi_4 hf, ← eb, hs_14 hb, qf, fb, f4]
  have com : ∀ M3 : Mem, (M3 f 1 = M f 1 ∧ M3 f 2 = M f 2 ∧ M3 f 3 = M f 3 + 1 ∧ M3 f 4 = (if M b 14 = 0 then M f 4 else M f 4 + 1)) → (∀ k, k ≠ f → M3 k = M2 k) → (M3 f 1 = M f 1 ∧ M3 f 2 = M f 2 ∧ M3 f 3 = M f 3 + 1 ∧ M3 f 4 = (if M b 14 = 0 then M f 4 else M f 4 + 1)) ∧ (∀ i, i < 12 → M3 (f + 1) i = shE (M (f + 1)) (M b 12) i) ∧ (∀ i, i < 12 → M3 (f + 2) i = shE (M (f + 2)) (M b 13) i) ∧ (∀ i, i < 12 → M3 (f + 3) i = shE (M (f + 3)) (M f 1) i) ∧ ∀ k, k ≠ f → k ≠ f + 1 → k ≠ f + 2 → k ≠ f + 3 → M3 k = M k := by
    intro M3 h1 h2
    refine ⟨h1, fun i hi => ?_, fun i hi => ?_, fun i hi => ?_, fun k k0 k1 k2 k3 => ?_⟩
    · rw [h2 _ (by omega), q1]
      exact shE_cp hi
    · rw [h2 _ (by omega), q2]
      exact shE_cp hi
    · rw [h2 _ (by omega), q3]
      exact shE_cp hi
    · rw [h2 k k0]
      exact qk k k1 k2 k3
  by_cases h14 : M b 14 = 0
  · rw [if_pos h14]
    refine ⟨_, rfl, com _ ?_ (fun k hk => mset_ne hk)⟩
    rw [mset_at, upd_ne (by omega), upd_ne (by omega), upd_at, upd_ne (by omega), qf, if_pos h14]
    exact ⟨rfl, rfl, rfl, rfl⟩
  · rw [if_neg h14]
    refine ⟨_, rfl, com _ ?_ (fun k hk => by rw [mset_ne hk, mset_ne hk])⟩
    rw [mset_at, upd_ne (by omega), upd_ne (by omega), upd_ne (by omega), upd_at, mset_at, upd_ne (by omega), upd_ne (by omega), upd_at, qf, if_neg h14]
    exact ⟨rfl, rfl, rfl, rfl⟩

