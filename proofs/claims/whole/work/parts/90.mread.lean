/-! the reference reads an item -/
def Ls (B : Nat → Int32) (Z i : Nat) (M : Mem) : Prop := M 130 17 = nI Z ∧ M 138 = B ∧ M 130 18 = nI (qB B Z i) ∧ M 130 19 = nI (ps B Z (i + 1)) ∧ M 130 20 = (if qS B Z i = 4 then 3 else qS B Z i) ∧ (qS B Z i = 2 → M 130 21 = qV B Z i)
def Ok (B : Nat → Int32) (Z i : Nat) (M : Mem) : Prop := Ls B Z i M ∧ M 130 22 = 0
def Wr (B : Nat → Int32) (Z j : Nat) (M : Mem) : Prop := M 130 22 = 1 ∧ M 130 18 = nI (qB B Z j)
def Lu (M M' : Mem) : Prop := (∀ k, k ≠ 130 → M' k = M k) ∧ ∀ j, j ≠ 18 → j ≠ 19 → j ≠ 20 → j ≠ 21 → j ≠ 22 → M' 130 j = M 130 j
theorem Lu.rf {M : Mem} : Lu M M := ⟨fun _ _ => rfl, fun _ _ _ _ _ _ => rfl⟩
theorem Lu.tr {M M1 M2 : Mem} (h1 : Lu M M1) (h2 : Lu M1 M2) : Lu M M2 := ⟨fun k a => (h2.1 k a).trans (h1.1 k a), fun j a b c e f => (h2.2 j a b c e f).trans (h1.2 j a b c e f)⟩
theorem Lu.lr {M M1 : Mem} (h : Lr M M1) : Lu M M1 := ⟨h.1, fun j a b c e _ => h.2 j a b c e⟩
theorem Lu.m22 {M : Mem} {v : Int32} : Lu M (mset M 130 22 v) := ⟨fun k a => mset_ne a, fun j _ _ _ _ f => by rw [mset_at, upd_ne f]⟩
theorem qS_t {B : Nat → Int32} {Z i : Nat} (h : qS B Z i = 1) : qB B Z i < Z ∧ isL (B (qB B Z i)) := by
  have h' : tQ B Z (qB B Z i) = 1 := h
  unfold tQ at h'
  by_cases c : Z ≤ qB B Z i
  · rw [if_pos c] at h'
    exact absurd h' (by decide)
  · rw [if_neg c] at h'
    by_cases cl : isL (B (qB B Z i))
    · exact ⟨by omega, cl⟩
    · rw [if_neg cl] at h'
      exfalso
      split at h'
      · exact absurd h' (by decide)
      · split at h'
        · exact absurd h' (by decide)
        · exact absurd h' (by decide)
theorem qV_iff {B : Nat → Int32} {Z i w : Nat} (h : qS B Z i = 1) (hw : w < 12) : qV B Z i = nI w ↔ wmB B w (qB B Z i) (ps B Z (i + 1)) = true := by
  obtain ⟨h1, h2⟩ := qS_t h
  have e : qV B Z i = wxF B (qB B Z i) (ps B Z (i + 1)) 12 0 := by
    show tV B Z (qB B Z i) = _
    unfold tV
    rw [if_neg (by omega), if_pos h2]
    rfl
  rw [e, wx_iff hw, wmB_i]
theorem L_m_isWord {d w b e Z : Nat} {M : Mem} (hw : w < 12) (he : e ≤ 120) (hbe : b ≤ e) (hl : wl w = e - b) (e18 : M 130 18 = nI b) : ∀ (m k : Nat), k + m = wl w → (∀ i, i < k → wc w i = M 138 (b + i)) →
    lim (call (d + 4)) none 6 cX6_isWord (some .boolean) 32 [some (.ref 130), some (.ref (160 + w)), some (.int 1), some (.int (nI k))] [] M = some (some (.int (if wmB (M 138) w b e = true then 1 else 0)), M) := by
  have l6 := wl_le w hw
  have cl := C_length (d := d + 2) (M := M) hw
  rw [show d + 2 + 2 = d + 4 from rfl] at cl
  intro m
  induction m with
  | zero =>
    intro k hk hp
    obtain rfl : k = wl w := by omega
    rw [sX6_isWord_32]
    simp only [sX6_isWord_0, sX6_isWord_1, sX6_isWord_4, sX6_isWord_5, sX6_isWord_8, sX6_isWord_9, sX6_isWord_12, sX6_isWord_13, sX6_isWord_16, sX6_isWord_17, sX6_isWord_18, sX6_isWord_21, sX6_isWord_24, sX6_isWord_25, sX6_isWord_28, sX6_isWord_29, sX6_isWord_30, sX6_isWord_31, sX6_isWord_33, sX6_isWord_34, sX6_isWord_37, sX6_isWord_40, sX6_isWord_41, sX6_isWord_44, sX6_isWord_45, sX6_isWord_48, sX6_isWord_49, sX6_isWord_52, sX6_isWord_53, sX6_isWord_54, sX6_isWord_55, sX6_isWord_56, sX6_isWord_57, sX6_isWord_60, sX6_isWord_63, sX6_isWord_64, sX6_isWord_67, sX6_isWord_68, sX6_isWord_69, sX6_isWord_72, sX6_isWord_75, sX6_isWord_76, opK_some, guK_true, calK_some, rk_nil, rk_int, rk_ref, tl_some, tl_none, nb_int, nb_0, nb_1, nb_if, nb_if', str_cl w hw, cl]
    rw [if_pos (show nI (wl w) ≤ nI (wl w) from Int32.le_refl _), if_pos (wmB_i.mpr ⟨hl, hp⟩)]
  | succ m ih =>
    intro k hk hp
    have cc := C_charAt (d := d) (M := M) hw (show k < wl w by omega)
    rw [sX6_isWord_32]
    simp only [sX6_isWord_0, sX6_isWord_1, sX6_isWord_4, sX6_isWord_5, sX6_isWord_8, sX6_isWord_9, sX6_isWord_12, sX6_isWord_13, sX6_isWord_16, sX6_isWord_17, sX6_isWord_18, sX6_isWord_21, sX6_isWord_24, sX6_isWord_25, sX6_isWord_28, sX6_isWord_29, sX6_isWord_30, sX6_isWord_31, sX6_isWord_33, sX6_isWord_34, sX6_isWord_37, sX6_isWord_40, sX6_isWord_41, sX6_isWord_44, sX6_isWord_45, sX6_isWord_48, sX6_isWord_49, sX6_isWord_52, sX6_isWord_53, sX6_isWord_54, sX6_isWord_55, sX6_isWord_56, sX6_isWord_57, sX6_isWord_60, sX6_isWord_63, sX6_isWord_64, sX6_isWord_67, sX6_isWord_68, sX6_isWord_69, sX6_isWord_72, sX6_isWord_75, sX6_isWord_76, opK_some, guK_true, calK_some, rk_nil, rk_int, rk_ref, tl_some, tl_none, nb_int, nb_0, nb_1, nb_if, nb_if', str_cl w hw, cl, cc, o130_16, o130_18, a138, e18, nI_add, inb_nI (show b + k < 120 by omega) (by omega), nI_clamp (show b + k < 2 ^ 31 by omega), nI_1, one_ne, if_false]
    rw [if_neg (show ¬ nI (wl w) ≤ nI k from nI_ge (by omega) (by omega))]
    by_cases c : M 138 (b + k) = wc w k
    · rw [if_pos c]
      refine ih (k + 1) (by omega) (fun i hi => ?_)
      by_cases z : i = k
      · rw [z]
        exact c.symm
      · exact hp i (by omega)
    · rw [if_neg c, if_neg (fun z => c ((wmB_i.mp z).2 k (by omega)).symm), sX6_isWord_32]
      simp only [sX6_isWord_0, sX6_isWord_1, sX6_isWord_4, sX6_isWord_5, sX6_isWord_8, sX6_isWord_9, sX6_isWord_12, sX6_isWord_13, sX6_isWord_16, sX6_isWord_17, sX6_isWord_18, sX6_isWord_21, sX6_isWord_24, sX6_isWord_25, sX6_isWord_28, sX6_isWord_29, sX6_isWord_30, sX6_isWord_31, sX6_isWord_33, sX6_isWord_34, sX6_isWord_37, sX6_isWord_40, sX6_isWord_41, sX6_isWord_44, sX6_isWord_45, sX6_isWord_48, sX6_isWord_49, sX6_isWord_52, sX6_isWord_53, sX6_isWord_54, sX6_isWord_55, sX6_isWord_56, sX6_isWord_57, sX6_isWord_60, sX6_isWord_63, sX6_isWord_64, sX6_isWord_67, sX6_isWord_68, sX6_isWord_69, sX6_isWord_72, sX6_isWord_75, sX6_isWord_76, opK_some, guK_true, calK_some, rk_nil, rk_int, rk_ref, tl_some, tl_none, nb_int, nb_0, nb_1, nb_if, nb_if', str_cl w hw, cl, zero_eq, if_true]
      rw [same_if]
theorem C_m_isWord {d w i Z : Nat} {B : Nat → Int32} {M : Mem} (hZ : Z ≤ 120) (hw : w < 12) (ls : Ls B Z i M) : call (d + 5) 225 [.ref 130, .ref (160 + w)] M = some (some (.int (if qS B Z i = 1 ∧ qV B Z i = nI w then 1 else 0)), M) := by
  obtain ⟨e17, e138, e18, e19, e20, e21⟩ := ls
  have l6 := wl_le w hw
  have cl := C_length (d := d + 2) (M := M) hw
  rw [show d + 2 + 2 = d + 4 from rfl] at cl
  have pZ := ps_Z B Z (i + 1)
  have sZ := sk_Z (B := B) (ps_Z B Z i)
  have no : lim (call (d + 4)) none 6 cX6_isWord (some .boolean) 32 [some (.ref 130), some (.ref (160 + w)), some (.int 0), some (.int 0)] [] M = some (some (.int 0), M) := by
    rw [sX6_isWord_32]
    simp only [sX6_isWord_0, sX6_isWord_1, sX6_isWord_4, sX6_isWord_5, sX6_isWord_8, sX6_isWord_9, sX6_isWord_12, sX6_isWord_13, sX6_isWord_16, sX6_isWord_17, sX6_isWord_18, sX6_isWord_21, sX6_isWord_24, sX6_isWord_25, sX6_isWord_28, sX6_isWord_29, sX6_isWord_30, sX6_isWord_31, sX6_isWord_33, sX6_isWord_34, sX6_isWord_37, sX6_isWord_40, sX6_isWord_41, sX6_isWord_44, sX6_isWord_45, sX6_isWord_48, sX6_isWord_49, sX6_isWord_52, sX6_isWord_53, sX6_isWord_54, sX6_isWord_55, sX6_isWord_56, sX6_isWord_57, sX6_isWord_60, sX6_isWord_63, sX6_isWord_64, sX6_isWord_67, sX6_isWord_68, sX6_isWord_69, sX6_isWord_72, sX6_isWord_75, sX6_isWord_76, opK_some, guK_true, calK_some, rk_nil, rk_int, rk_ref, tl_some, tl_none, nb_int, nb_0, nb_1, nb_if, nb_if', str_cl w hw, cl, zero_eq, if_true]
    rw [same_if]
  rw [show d + 5 = d + 4 + 1 from rfl, nX6_isWord]
  simp only [sX6_isWord_0, sX6_isWord_1, sX6_isWord_4, sX6_isWord_5, sX6_isWord_8, sX6_isWord_9, sX6_isWord_12, sX6_isWord_13, sX6_isWord_16, sX6_isWord_17, sX6_isWord_18, sX6_isWord_21, sX6_isWord_24, sX6_isWord_25, sX6_isWord_28, sX6_isWord_29, sX6_isWord_30, sX6_isWord_31, sX6_isWord_33, sX6_isWord_34, sX6_isWord_37, sX6_isWord_40, sX6_isWord_41, sX6_isWord_44, sX6_isWord_45, sX6_isWord_48, sX6_isWord_49, sX6_isWord_52, sX6_isWord_53, sX6_isWord_54, sX6_isWord_55, sX6_isWord_56, sX6_isWord_57, sX6_isWord_60, sX6_isWord_63, sX6_isWord_64, sX6_isWord_67, sX6_isWord_68, sX6_isWord_69, sX6_isWord_72, sX6_isWord_75, sX6_isWord_76, opK_some, guK_true, calK_some, rk_nil, rk_int, rk_ref, tl_some, tl_none, nb_int, nb_0, nb_1, nb_if, nb_if', o130_18, o130_19, o130_20, e18, e19, e20, str_cl w hw, cl]
  by_cases h1 : qS B Z i = 1
  · obtain ⟨g1, g2⟩ := qS_t h1
    have hbe : qB B Z i ≤ ps B Z (i + 1) := by
      have := (tE_Z (B := B) g1).1
      show qB B Z i ≤ tE B Z (qB B Z i)
      omega
    have e1 : (if qS B Z i = 4 then (3 : Int32) else qS B Z i) = 1 := by
      rw [if_neg (by rw [h1]; decide)]
      exact h1
    rw [if_pos e1, pk_sub hbe]
    by_cases c : wl w = ps B Z (i + 1) - qB B Z i
    · rw [if_pos (by rw [c])]
      have := L_m_isWord (d := d) (Z := Z) hw (show ps B Z (i + 1) ≤ 120 by omega) hbe c e18 (wl w) 0 (by omega) (fun i hi => absurd hi (Nat.not_lt_zero i))
      rw [nI_0, e138] at this
      rw [this]
      by_cases k : wmB B w (qB B Z i) (ps B Z (i + 1)) = true
      · rw [if_pos k, if_pos ⟨h1, (qV_iff h1 hw).mpr k⟩]
      · rw [if_neg k, if_neg (fun z => k ((qV_iff h1 hw).mp z.2))]
    · rw [if_neg (fun z => c (nI_inj (by omega) (by omega) z).symm), no, if_neg (fun z => c (wmB_i.mp ((qV_iff h1 hw).mp z.2)).1)]
  · have e1 : ¬ (if qS B Z i = 4 then (3 : Int32) else qS B Z i) = 1 := by
      split
      · decide
      · exact h1
    rw [if_neg e1, no, if_neg (fun z => h1 z.1)]
theorem C_must1 {d i Z : Nat} {B : Nat → Int32} {M : Mem} (hZ : Z ≤ 120) (hB : ∀ i, i < Z → rg (B i) 255) (ok : Ok B Z i M) : ∃ M', call (d + 3) 226 [.ref 130, .int 1] M = some (none, M') ∧ Ok B Z (i + 1) M' ∧ Lu M M' := by
  obtain ⟨⟨e17, e138, e18, e19, e20, e21⟩, e22⟩ := ok
  obtain ⟨M1, hM1⟩ : ∃ M1, M1 = mset M 130 22 0 := ⟨_, rfl⟩
  have f : ∀ j, j ≠ 22 → M1 130 j = M 130 j := fun j hj => by rw [hM1, mset_at, upd_ne hj]
  have f138 : M1 138 = B := by rw [hM1, mset_ne (by omega)]; exact e138
  obtain ⟨M2, c2, l2, g18, g19, g20, g21⟩ := C_next (d := d) (p := ps B Z (i + 1)) (M := M1) hZ (ps_Z B Z (i + 1)) (by rw [f 17 (by omega)]; exact e17) (by rw [f 19 (by omega)]; exact e19) (fun i hi => by rw [f138]; exact hB i hi)
  rw [f138] at g18 g19 g20 g21
  have f22 : M1 130 22 = 0 := by rw [hM1, mset_at, upd_at]
  rw [show d + 3 = d + 2 + 1 from rfl, nX6_must]
  simp only [sX6_must_0, sX6_must_1, sX6_must_2, sX6_must_5, sX6_must_8, sX6_must_9, sX6_must_12, sX6_must_13, sX6_must_16, sX6_must_20, sX6_must_21, sX6_must_24, sX6_must_27, sX6_must_28, sX6_must_31, opK_some, guK_true, calK_some, rk_nil, rk_int, rk_ref, tl_some, tl_none, nb_int, nb_0, nb_1, nb_if, nb_if', o130_22, e22, zero_eq, if_true, one_ne, if_false]
  rw [sX6_must_17]
  simp only [sX6_must_0, sX6_must_1, sX6_must_2, sX6_must_5, sX6_must_8, sX6_must_9, sX6_must_12, sX6_must_13, sX6_must_16, sX6_must_20, sX6_must_21, sX6_must_24, sX6_must_27, sX6_must_28, sX6_must_31, opK_some, guK_true, calK_some, rk_nil, rk_int, rk_ref, tl_some, tl_none, nb_int, nb_0, nb_1, nb_if, nb_if', p130_22, o130_22, q130, ← hM1, f22, zero_eq, if_true, c2]
  refine ⟨M2, rfl, ⟨⟨by rw [l2.2 17 (by omega) (by omega) (by omega) (by omega), f 17 (by omega)]; exact e17, by rw [l2.1 138 (by omega)]; exact f138, g18, g19, g20, g21⟩, by rw [l2.2 22 (by omega) (by omega) (by omega) (by omega)]; exact f22⟩, Lu.tr ?_ (Lu.lr l2)⟩
  rw [hM1]
  exact Lu.m22
theorem C_must0 {d j Z : Nat} {B : Nat → Int32} {M : Mem} {x : Int32} (h : (M 130 22 = 0 ∧ x = 0) ∨ M 130 22 = 1) (e18 : M 130 18 = nI (qB B Z j)) : ∃ M', call (d + 3) 226 [.ref 130, .int x] M = some (none, M') ∧ Wr B Z j M' ∧ Lu M M' := by
  obtain ⟨M1, hM1⟩ : ∃ M1, M1 = mset M 130 22 1 := ⟨_, rfl⟩
  have f22 : M1 130 22 = 1 := by rw [hM1, mset_at, upd_at]
  have l1 : Lu M M1 := by rw [hM1]; exact Lu.m22
  have f18 : M1 130 18 = nI (qB B Z j) := by rw [hM1, mset_at, upd_ne (by omega)]; exact e18
  have en : lim (call (d + 2)) none 6 cX6_must none 17 [some (.ref 130), some (.int x)] [.int 1, .ref 130] M = some (none, M1) := by
    rw [sX6_must_17]
    simp only [sX6_must_0, sX6_must_1, sX6_must_2, sX6_must_5, sX6_must_8, sX6_must_9, sX6_must_12, sX6_must_13, sX6_must_16, sX6_must_20, sX6_must_21, sX6_must_24, sX6_must_27, sX6_must_28, sX6_must_31, opK_some, guK_true, calK_some, rk_nil, rk_int, rk_ref, tl_some, tl_none, nb_int, nb_0, nb_1, nb_if, nb_if', p130_22, o130_22, ← hM1, f22, one_ne, if_false]
  rw [show d + 3 = d + 2 + 1 from rfl, nX6_must]
  rcases h with ⟨e22, rfl⟩ | e22
  · simp only [sX6_must_0, sX6_must_1, sX6_must_2, sX6_must_5, sX6_must_8, sX6_must_9, sX6_must_12, sX6_must_13, sX6_must_16, sX6_must_20, sX6_must_21, sX6_must_24, sX6_must_27, sX6_must_28, sX6_must_31, opK_some, guK_true, calK_some, rk_nil, rk_int, rk_ref, tl_some, tl_none, nb_int, nb_0, nb_1, nb_if, nb_if', o130_22, e22, zero_eq, if_true]
    exact ⟨M1, en, ⟨f22, f18⟩, l1⟩
  · simp only [sX6_must_0, sX6_must_1, sX6_must_2, sX6_must_5, sX6_must_8, sX6_must_9, sX6_must_12, sX6_must_13, sX6_must_16, sX6_must_20, sX6_must_21, sX6_must_24, sX6_must_27, sX6_must_28, sX6_must_31, opK_some, guK_true, calK_some, rk_nil, rk_int, rk_ref, tl_some, tl_none, nb_int, nb_0, nb_1, nb_if, nb_if', o130_22, e22, one_ne, if_false]
    exact ⟨M1, en, ⟨f22, f18⟩, l1⟩
theorem C_m_number {d i Z : Nat} {B : Nat → Int32} {M : Mem} {lo hi : Int32} (hZ : Z ≤ 120) (hB : ∀ i, i < Z → rg (B i) 255) (ok : Ok B Z i M) : (nuP (qS B Z) (qV B Z) lo hi i → ∃ M', call (d + 4) 228 [.ref 130, .int lo, .int hi] M = some (some (.int (qV B Z i)), M') ∧ Ok B Z (i + 1) M' ∧ Lu M M') ∧ (¬ nuP (qS B Z) (qV B Z) lo hi i → ∃ v M', call (d + 4) 228 [.ref 130, .int lo, .int hi] M = some (some (.int v), M') ∧ Wr B Z i M' ∧ Lu M M') := by
  have e20 := ok.1.2.2.2.2.1
  have e21 := ok.1.2.2.2.2.2
  have e18 := ok.1.2.2.1
  have cw : ∀ x, call (d + 3) 136 [.int x, .int lo, .int hi] M = some (some (.int (if lo ≤ x ∧ x ≤ hi then 1 else 0)), M) := fun x => C_m_within (d := d + 2)
  constructor
  · rintro ⟨h1, h2⟩
    obtain ⟨M1, c1, ok1, l1⟩ := C_must1 (d := d) hZ hB ok
    have e2 : (if qS B Z i = 4 then (3 : Int32) else qS B Z i) = 2 := by
      rw [if_neg (by rw [h1]; decide)]
      exact h1
    rw [show d + 4 = d + 3 + 1 from rfl, nX6_number]
    simp only [sX6_number_0, sX6_number_1, sX6_number_4, sX6_number_5, sX6_number_6, sX6_number_7, sX6_number_10, sX6_number_11, sX6_number_14, sX6_number_15, sX6_number_16, sX6_number_17, sX6_number_20, sX6_number_23, sX6_number_24, sX6_number_27, sX6_number_28, sX6_number_31, sX6_number_32, opK_some, guK_true, calK_some, rk_nil, rk_int, rk_ref, tl_some, tl_none, nb_int, nb_0, nb_1, nb_if, nb_if', q130, o130_20, o130_21, e20, e2, e21 h1, if_true, cw, h2, and_self, one_ne, if_false, c1]
    exact ⟨M1, rfl, ok1, l1⟩
  · intro hn
    obtain ⟨M1, c1, w1, l1⟩ := C_must0 (d := d) (x := 0) (Or.inl ⟨ok.2, rfl⟩) e18
    rw [show d + 4 = d + 3 + 1 from rfl, nX6_number]
    by_cases h1 : qS B Z i = 2
    · have e2 : (if qS B Z i = 4 then (3 : Int32) else qS B Z i) = 2 := by
        rw [if_neg (by rw [h1]; decide)]
        exact h1
      have h2 : ¬ (lo ≤ qV B Z i ∧ qV B Z i ≤ hi) := fun z => hn ⟨h1, z⟩
      simp only [sX6_number_0, sX6_number_1, sX6_number_4, sX6_number_5, sX6_number_6, sX6_number_7, sX6_number_10, sX6_number_11, sX6_number_14, sX6_number_15, sX6_number_16, sX6_number_17, sX6_number_20, sX6_number_23, sX6_number_24, sX6_number_27, sX6_number_28, sX6_number_31, sX6_number_32, opK_some, guK_true, calK_some, rk_nil, rk_int, rk_ref, tl_some, tl_none, nb_int, nb_0, nb_1, nb_if, nb_if', q130, o130_20, o130_21, e20, e2, e21 h1, if_true, cw, h2, zero_eq, if_false, c1]
      exact ⟨_, M1, rfl, w1, l1⟩
    · have e2 : ¬ (if qS B Z i = 4 then (3 : Int32) else qS B Z i) = 2 := by
        split
        · decide
        · exact h1
      simp only [sX6_number_0, sX6_number_1, sX6_number_4, sX6_number_5, sX6_number_6, sX6_number_7, sX6_number_10, sX6_number_11, sX6_number_14, sX6_number_15, sX6_number_16, sX6_number_17, sX6_number_20, sX6_number_23, sX6_number_24, sX6_number_27, sX6_number_28, sX6_number_31, sX6_number_32, opK_some, guK_true, calK_some, rk_nil, rk_int, rk_ref, tl_some, tl_none, nb_int, nb_0, nb_1, nb_if, nb_if', q130, o130_20, o130_21, e20, e2, if_false, c1]
      exact ⟨_, M1, rfl, w1, l1⟩
theorem C_w_number {d j Z : Nat} {B : Nat → Int32} {M : Mem} {lo hi : Int32} (w : Wr B Z j M) : ∃ v M', call (d + 4) 228 [.ref 130, .int lo, .int hi] M = some (some (.int v), M') ∧ Wr B Z j M' ∧ Lu M M' := by
  have cw : ∀ x, call (d + 3) 136 [.int x, .int lo, .int hi] M = some (some (.int (if lo ≤ x ∧ x ≤ hi then 1 else 0)), M) := fun x => C_m_within (d := d + 2)
  have cm : ∀ x, ∃ M', call (d + 3) 226 [.ref 130, .int x] M = some (none, M') ∧ Wr B Z j M' ∧ Lu M M' := fun x => C_must0 (d := d) (x := x) (Or.inr w.1) w.2
  rw [show d + 4 = d + 3 + 1 from rfl, nX6_number]
  obtain ⟨M0, c0, w0, l0⟩ := cm 0
  obtain ⟨M1, c1, w1, l1⟩ := cm 1
  by_cases h1 : M 130 20 = 2
  · by_cases h2 : lo ≤ M 130 21 ∧ M 130 21 ≤ hi
    · simp only [sX6_number_0, sX6_number_1, sX6_number_4, sX6_number_5, sX6_number_6, sX6_number_7, sX6_number_10, sX6_number_11, sX6_number_14, sX6_number_15, sX6_number_16, sX6_number_17, sX6_number_20, sX6_number_23, sX6_number_24, sX6_number_27, sX6_number_28, sX6_number_31, sX6_number_32, opK_some, guK_true, calK_some, rk_nil, rk_int, rk_ref, tl_some, tl_none, nb_int, nb_0, nb_1, nb_if, nb_if', q130, o130_20, o130_21, h1, if_true, cw, h2, and_self, one_ne, if_false, c1]
      exact ⟨_, M1, rfl, w1, l1⟩
    · simp only [sX6_number_0, sX6_number_1, sX6_number_4, sX6_number_5, sX6_number_6, sX6_number_7, sX6_number_10, sX6_number_11, sX6_number_14, sX6_number_15, sX6_number_16, sX6_number_17, sX6_number_20, sX6_number_23, sX6_number_24, sX6_number_27, sX6_number_28, sX6_number_31, sX6_number_32, opK_some, guK_true, calK_some, rk_nil, rk_int, rk_ref, tl_some, tl_none, nb_int, nb_0, nb_1, nb_if, nb_if', q130, o130_20, o130_21, h1, if_true, cw, h2, zero_eq, if_false, c0]
      exact ⟨_, M0, rfl, w0, l0⟩
  · simp only [sX6_number_0, sX6_number_1, sX6_number_4, sX6_number_5, sX6_number_6, sX6_number_7, sX6_number_10, sX6_number_11, sX6_number_14, sX6_number_15, sX6_number_16, sX6_number_17, sX6_number_20, sX6_number_23, sX6_number_24, sX6_number_27, sX6_number_28, sX6_number_31, sX6_number_32, opK_some, guK_true, calK_some, rk_nil, rk_int, rk_ref, tl_some, tl_none, nb_int, nb_0, nb_1, nb_if, nb_if', q130, o130_20, o130_21, h1, if_false, c0]
    exact ⟨_, M0, rfl, w0, l0⟩
theorem C_isNext {d i w Z : Nat} {B : Nat → Int32} {M : Mem} (hZ : Z ≤ 120) (hB : ∀ i, i < Z → rg (B i) 255) (hw : w < 12) (ok : Ok B Z i M) : ((qS B Z i = 1 ∧ qV B Z i = nI w) → ∃ M', call (d + 6) 227 [.ref 130, .ref (160 + w)] M = some (some (.int 1), M') ∧ Ok B Z (i + 1) M' ∧ Lu M M') ∧ (¬ (qS B Z i = 1 ∧ qV B Z i = nI w) → call (d + 6) 227 [.ref 130, .ref (160 + w)] M = some (some (.int 0), M)) := by
  have cw := C_m_isWord (d := d) hZ hw ok.1
  constructor
  · intro h
    obtain ⟨M1, c1, ok1, l1⟩ := C_must1 (d := d + 2) hZ hB ok
    rw [show d + 2 + 3 = d + 5 from rfl] at c1
    rw [if_pos h] at cw
    rw [show d + 6 = d + 5 + 1 from rfl, nX6_isNext]
    simp only [sX6_isNext_0, sX6_isNext_1, sX6_isNext_4, sX6_isNext_7, sX6_isNext_8, sX6_isNext_9, sX6_isNext_12, sX6_isNext_15, sX6_isNext_16, sX6_isNext_19, sX6_isNext_20, sX6_isNext_21, sX6_isNext_22, sX6_isNext_25, sX6_isNext_26, sX6_isNext_27, sX6_isNext_30, sX6_isNext_31, opK_some, guK_true, calK_some, rk_nil, rk_int, rk_ref, tl_some, tl_none, nb_int, nb_0, nb_1, nb_if, nb_if', q130, o130_22, ok.2, zero_eq, if_true, cw, one_ne, if_false, c1]
    exact ⟨M1, rfl, ok1, l1⟩
  · intro h
    rw [if_neg h] at cw
    rw [show d + 6 = d + 5 + 1 from rfl, nX6_isNext]
    simp only [sX6_isNext_0, sX6_isNext_1, sX6_isNext_4, sX6_isNext_7, sX6_isNext_8, sX6_isNext_9, sX6_isNext_12, sX6_isNext_15, sX6_isNext_16, sX6_isNext_19, sX6_isNext_20, sX6_isNext_21, sX6_isNext_22, sX6_isNext_25, sX6_isNext_26, sX6_isNext_27, sX6_isNext_30, sX6_isNext_31, opK_some, guK_true, calK_some, rk_nil, rk_int, rk_ref, tl_some, tl_none, nb_int, nb_0, nb_1, nb_if, nb_if', q130, o130_22, ok.2, zero_eq, if_true, cw]
theorem C_w_isNext {d j w Z : Nat} {B : Nat → Int32} {M : Mem} (hw : Wr B Z j M) : call (d + 6) 227 [.ref 130, .ref (160 + w)] M = some (some (.int 0), M) := by
  rw [show d + 6 = d + 5 + 1 from rfl, nX6_isNext]
  simp only [sX6_isNext_0, sX6_isNext_1, sX6_isNext_4, sX6_isNext_7, sX6_isNext_8, sX6_isNext_9, sX6_isNext_12, sX6_isNext_15, sX6_isNext_16, sX6_isNext_19, sX6_isNext_20, sX6_isNext_21, sX6_isNext_22, sX6_isNext_25, sX6_isNext_26, sX6_isNext_27, sX6_isNext_30, sX6_isNext_31, opK_some, guK_true, calK_some, rk_nil, rk_int, rk_ref, tl_some, tl_none, nb_int, nb_0, nb_1, nb_if, nb_if', q130, o130_22, hw.1, one_ne, if_false, zero_eq, if_true]
/-- one part: told, or as it is anyway -/
theorem C_part {d i w Z : Nat} {B : Nat → Int32} {M : Mem} {lo hi x : Int32} (hZ : Z ≤ 120) (hB : ∀ i, i < Z → rg (B i) 255) (hw : w < 12) (h : Ok B Z i M ∨ Wr B Z i M) : ∃ b M1, call (d + 6) 227 [.ref 130, .ref (160 + w)] M = some (some (.int b), M1) ∧ ((b = 0 ∧ M1 = M ∧ (Ok B Z i M → ptP (qS B Z) (qV B Z) (nI w) lo hi i x = (true, i, x))) ∨ (b = 1 ∧ ∃ v M2, call (d + 6) 228 [.ref 130, .int lo, .int hi] M1 = some (some (.int v), M2) ∧ Lu M M2 ∧ Ok B Z i M ∧ (((ptP (qS B Z) (qV B Z) (nI w) lo hi i x).1 = true ∧ Ok B Z (ptP (qS B Z) (qV B Z) (nI w) lo hi i x).2.1 M2 ∧ v = (ptP (qS B Z) (qV B Z) (nI w) lo hi i x).2.2) ∨ (¬ (ptP (qS B Z) (qV B Z) (nI w) lo hi i x).1 = true ∧ Wr B Z (ptP (qS B Z) (qV B Z) (nI w) lo hi i x).2.1 M2)))) := by
  rcases h with ok | wr
  · by_cases c : qS B Z i = 1 ∧ qV B Z i = nI w
    · obtain ⟨M1, c1, ok1, l1⟩ := (C_isNext (d := d) hZ hB hw ok).1 c
      refine ⟨1, M1, c1, Or.inr ⟨rfl, ?_⟩⟩
      by_cases n : nuP (qS B Z) (qV B Z) lo hi (i + 1)
      · obtain ⟨M2, c2, ok2, l2⟩ := (C_m_number (d := d + 2) (lo := lo) (hi := hi) hZ hB ok1).1 n
        have ep : ptP (qS B Z) (qV B Z) (nI w) lo hi i x = (true, i + 2, qV B Z (i + 1)) := by
          unfold ptP
          rw [if_pos c, if_pos n]
        rw [ep]
        exact ⟨_, M2, c2, l1.tr l2, ok, Or.inl ⟨rfl, ok2, rfl⟩⟩
      · obtain ⟨v, M2, c2, w2, l2⟩ := (C_m_number (d := d + 2) (lo := lo) (hi := hi) hZ hB ok1).2 n
        have ep : ptP (qS B Z) (qV B Z) (nI w) lo hi i x = (false, i + 1, x) := by
          unfold ptP
          rw [if_pos c, if_neg n]
        rw [ep]
        exact ⟨v, M2, c2, l1.tr l2, ok, Or.inr ⟨fun z => absurd (show false = true from z) (by decide), w2⟩⟩
    · refine ⟨0, M, (C_isNext (d := d) hZ hB hw ok).2 c, Or.inl ⟨rfl, rfl, fun _ => ?_⟩⟩
      unfold ptP
      rw [if_neg c]
  · refine ⟨0, M, C_w_isNext wr, Or.inl ⟨rfl, rfl, fun ok => ?_⟩⟩
    have := ok.2
    rw [wr.1] at this
    exact absurd this (by decide)

