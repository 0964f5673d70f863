/-! the class's farm: images, eggs, draws -/
set_option maxHeartbeats 800000 in
theorem C_farmBecome {d f s m : Nat} {M : Mem} {r : Rw} (hf : isFarm f) (hs : isFarm s) (hne : f ≠ s) (h : FR M s r) (w : WX r m) : ∃ M', call (d + 2) 127 [.ref f, .ref s] M = some (none, M') ∧ FR M' f r ∧ Fo f M M' := by
  have hb := farm_hen hf
  have hc := farm_hen hs
  have hf' : f = 100 ∨ f = 110 := hf
  have hs' : s = 100 ∨ s = 110 := hs
  obtain ⟨M1, c1, h1, o1⟩ := C_become (d := d + 0) hb hc (by rcases hf' with e | e <;> rcases hs' with e2 | e2 <;> subst e <;> subst e2 <;> omega) h.1 w.1
  rw [show d + 0 + 1 = d + 1 from rfl] at c1
  have ou : ∀ k, (k + 90 < f ∨ f ≤ k + 81) → M1 k = M k := fun k hk => o1 k (by rcases hf' with e | e <;> subst e <;> omega)
  have lo : ∀ k, 100 ≤ k → M1 k = M k := fun k hk => ou k (by omega)
  have far : f + 10 = s ∨ s + 10 = f := by omega
  have es : M1 s = M s := lo s (by omega)
  obtain ⟨M2, hM2⟩ : ∃ M2, M2 = mset (mset (mset (mset M1 f 1 (M s 1)) f 2 (M s 2)) f 3 (M s 3)) f 4 (M s 4) := ⟨_, rfl⟩
  have z1 : mset M1 f 1 (M s 1) s = M s := by rw [mset_ne (by omega), es]
  have z2 : mset (mset M1 f 1 (M s 1)) f 2 (M s 2) s = M s := by rw [mset_ne (by omega), z1]
  have z3 : mset (mset (mset M1 f 1 (M s 1)) f 2 (M s 2)) f 3 (M s 3) s = M s := by rw [mset_ne (by omega), z2]
  have k2 : ∀ k, 100 ≤ k → k ≠ f → M2 k = M k := by
    intro k hk hkf
    rw [hM2, mset_ne hkf, mset_ne hkf, mset_ne hkf, mset_ne hkf]
    exact lo k hk
  have kb : ∀ k, k < 100 → M2 k = M1 k := by
    intro k hk
    rw [hM2, mset_ne (by omega), mset_ne (by omega), mset_ne (by omega), mset_ne (by omega)]
  obtain ⟨g1, eg1⟩ : ∃ g, g = va_cpy (M (s + 1)) (M (f + 1)) 0 0 12 := ⟨_, rfl⟩
  obtain ⟨g2, eg2⟩ : ∃ g, g = va_cpy (M (s + 2)) (M (f + 2)) 0 0 12 := ⟨_, rfl⟩
  obtain ⟨g3, eg3⟩ : ∃ g, g = va_cpy (M (s + 3)) (M (f + 3)) 0 0 12 := ⟨_, rfl⟩
  obtain ⟨g4, eg4⟩ : ∃ g, g = va_cpy (M (s + 4)) (M (f + 4)) 0 0 10 := ⟨_, rfl⟩
  have a1 : M2 (s + 1) = M (s + 1) := k2 _ (by omega) (by omega)
  have a1' : M2 (f + 1) = M (f + 1) := k2 _ (by omega) (by omega)
  have a2 : mrow M2 (f + 1) g1 (s + 2) = M (s + 2) := by rw [mrow_ne (by omega)]; exact k2 _ (by omega) (by omega)
  have a2' : mrow M2 (f + 1) g1 (f + 2) = M (f + 2) := by rw [mrow_ne (by omega)]; exact k2 _ (by omega) (by omega)
  have a3 : mrow (mrow M2 (f + 1) g1) (f + 2) g2 (s + 3) = M (s + 3) := by rw [mrow_ne (by omega), mrow_ne (by omega)]; exact k2 _ (by omega) (by omega)
  have a3' : mrow (mrow M2 (f + 1) g1) (f + 2) g2 (f + 3) = M (f + 3) := by rw [mrow_ne (by omega), mrow_ne (by omega)]; exact k2 _ (by omega) (by omega)
  have a4 : mrow (mrow (mrow M2 (f + 1) g1) (f + 2) g2) (f + 3) g3 (s + 4) = M (s + 4) := by rw [mrow_ne (by omega), mrow_ne (by omega), mrow_ne (by omega)]; exact k2 _ (by omega) (by omega)
  have a4' : mrow (mrow (mrow M2 (f + 1) g1) (f + 2) g2) (f + 3) g3 (f + 4) = M (f + 4) := by rw [mrow_ne (by omega), mrow_ne (by omega), mrow_ne (by omega)]; exact k2 _ (by omega) (by omega)
  rw [nX0_become]
  simp only [sX0_become_0, sX0_become_1, sX0_become_4, sX0_become_5, sX0_become_8, sX0_become_11, sX0_become_12, sX0_become_13, sX0_become_16, sX0_become_19, sX0_become_20, sX0_become_21, sX0_become_24, sX0_become_27, sX0_become_28, sX0_become_29, sX0_become_32, sX0_become_35, sX0_become_36, sX0_become_37, sX0_become_40, sX0_become_44, sX0_become_47, sX0_become_48, sX0_become_49, sX0_become_52, sX0_become_53, sX0_become_55, sX0_become_58, sX0_become_59, sX0_become_62, sX0_become_63, sX0_become_64, sX0_become_67, sX0_become_68, sX0_become_70, sX0_become_73, sX0_become_74, sX0_become_77, sX0_become_78, sX0_become_79, sX0_become_82, sX0_become_83, sX0_become_85, sX0_become_88, sX0_become_89, sX0_become_92, sX0_become_93, sX0_become_94, sX0_become_97, sX0_become_98, sX0_become_100, sX0_become_103, opK_some, guK_true, calK_some, rk_nil, rk_int, rk_ref, tl_some, tl_none, nb_int, nb_0, nb_1, nb_if, nb_if', fs_0 hf, fs_1 hf, fs_2 hf, fs_3 hf, fs_4 hf, fs_0 hs, fs_1 hs, fs_2 hs, fs_3 hs, fs_4 hs, fi_1 hf, fi_2 hf, fi_3 hf, fi_4 hf, hen_c hb, hen_c hc, c1, es, z1, z2, z3, ← hM2]
  rw [sX0_become_43]
  simp only [sX0_become_0, sX0_become_1, sX0_become_4, sX0_become_5, sX0_become_8, sX0_become_11, sX0_become_12, sX0_become_13, sX0_become_16, sX0_become_19, sX0_become_20, sX0_become_21, sX0_become_24, sX0_become_27, sX0_become_28, sX0_become_29, sX0_become_32, sX0_become_35, sX0_become_36, sX0_become_37, sX0_become_40, sX0_become_44, sX0_become_47, sX0_become_48, sX0_become_49, sX0_become_52, sX0_become_53, sX0_become_55, sX0_become_58, sX0_become_59, sX0_become_62, sX0_become_63, sX0_become_64, sX0_become_67, sX0_become_68, sX0_become_70, sX0_become_73, sX0_become_74, sX0_become_77, sX0_become_78, sX0_become_79, sX0_become_82, sX0_become_83, sX0_become_85, sX0_become_88, sX0_become_89, sX0_become_92, sX0_become_93, sX0_become_94, sX0_become_97, sX0_become_98, sX0_become_100, sX0_become_103, opK_some, guK_true, calK_some, rk_nil, rk_int, rk_ref, tl_some, tl_none, nb_int, nb_0, nb_1, nb_if, nb_if', fs_5 hf, fs_6 hf, fs_7 hf, fs_8 hf, fs_5 hs, fs_6 hs, fs_7 hs, fs_8 hs, cp12 (fn_1 hs) (fn_1 hf), cp12 (fn_2 hs) (fn_2 hf), cp12 (fn_3 hs) (fn_3 hf), cp10 (fn_4 hs) (fn_4 hf), tn_0, tn_12, tn_10, a1, a1', ← eg1, a2, a2', ← eg2, a3, a3', ← eg3, a4, a4', ← eg4]
  refine ⟨_, rfl, ⟨?_, ?_, fun c hc3 i hi hn => ?_, fun i hi => ?_⟩, fun k q1 q2 => ?_⟩
  · refine HR_ou h1 (fun k e1 e2 => ?_)
    rw [mrow_ne (by omega), mrow_ne (by omega), mrow_ne (by omega), mrow_ne (by omega)]
    exact kb k (by omega)
  · rw [mrow_ne (by omega), mrow_ne (by omega), mrow_ne (by omega), mrow_ne (by omega), hM2, mset_at, upd_ne (by omega), upd_ne (by omega), upd_ne (by omega), upd_at, mset_at, upd_ne (by omega), upd_ne (by omega), upd_at, mset_at, upd_ne (by omega), upd_at, mset_at, upd_at]
    exact h.2.1
  · rw [← h.2.2.1 c hc3 i hi hn]
    rcases (show c = 0 ∨ c = 1 ∨ c = 2 by omega) with rfl | rfl | rfl
    · show mrow (mrow (mrow (mrow M2 (f + 1) g1) (f + 2) g2) (f + 3) g3) (f + 4) g4 (f + 1) i = M (s + 1) i
      rw [mrow_ne (by omega), mrow_ne (by omega), mrow_ne (by omega), mrow_at, eg1, pk_cpy_in (by omega) (by omega), show 0 + (i - 0) = i by omega]
    · show mrow (mrow (mrow (mrow M2 (f + 1) g1) (f + 2) g2) (f + 3) g3) (f + 4) g4 (f + 2) i = M (s + 2) i
      rw [mrow_ne (by omega), mrow_ne (by omega), mrow_at, eg2, pk_cpy_in (by omega) (by omega), show 0 + (i - 0) = i by omega]
    · show mrow (mrow (mrow (mrow M2 (f + 1) g1) (f + 2) g2) (f + 3) g3) (f + 4) g4 (f + 3) i = M (s + 3) i
      rw [mrow_ne (by omega), mrow_at, eg3, pk_cpy_in (by omega) (by omega), show 0 + (i - 0) = i by omega]
  · rw [← h.2.2.2 i hi, mrow_at, eg4, pk_cpy_in (by omega) (by omega), show 0 + (i - 0) = i by omega]
  · rw [mrow_ne (by omega), mrow_ne (by omega), mrow_ne (by omega), mrow_ne (by omega), hM2, mset_ne (by omega), mset_ne (by omega), mset_ne (by omega), mset_ne (by omega)]
    exact ou k q1
def mn12 (x : Int32) : Int32 := if x < 12 then x else 12
theorem mn12_nI {j : Nat} (h : j < 2 ^ 31) : mn12 (nI j) = nI (min j 12) := by
  unfold mn12
  by_cases c : j < 12
  · rw [if_pos (show nI j < 12 from nI_lt (b := 12) c (by omega)), Nat.min_eq_left (by omega)]
  · rw [if_neg (show ¬ nI j < 12 from nI_nlt (b := 12) (by omega) h), Nat.min_eq_right (by omega)]
    rfl
/-- what the latest egg of one is worth -/
def latR (r : Rw) (t : Int32) : Nat → Nat → Int32
  | _, 0 => -1
  | j, n + 1 => if egR r j 0 = t then egR r j 1 else latR r t (j + 1) n

