/-! the reference reads an item: its word, what it keeps -/
theorem e_lenR {cal : Cal} {sc : Scr} {oc : Nat} {ret : Option FieldType} {pc h : Nat} {lv : Lv} {r : List Value} {M : Mem} {K : Nat → Lv → List Value → Mem → Option Rs} {l : List Nat} (h1 : arrV9 sc h M = none) (h2 : arrB h = none) (h3 : arrR h = some l) : cont K (stp cal sc oc ret .arraylength 1 pc lv (.ref h :: r) M) = K (pc + 1) lv (.int (Int32.ofNat l.length) :: r) M := by
  show cont K (match arrV9 sc h M with | some a => _ | none => _) = _
  rw [h1]
  show cont K (match arrB h with | some a => _ | none => _) = _
  rw [h2]
  show cont K (opK (arrR h) _) = _
  rw [h3]
  rfl
def kdF (S V : Int32) : Nat → Nat → Int32 → Int32
  | 0, _, f => f
  | m + 1, k, f => kdF S V m (k + 1) (if S = 1 ∧ V = nI k then nI k else f)
theorem kd_no {S V : Int32} (h : ¬ S = 1) : ∀ m k f, kdF S V m k f = f := by
  intro m
  induction m with
  | zero => intro k f; rfl
  | succ m ih =>
    intro k f
    show kdF S V m (k + 1) _ = f
    rw [ih, if_neg (fun z => h z.1)]
theorem kd_yes {S V : Int32} (h : S = 1) (hv : V = -1 ∨ ∃ k, k < 12 ∧ V = nI k) : kdF S V 7 0 (-1) = if 0 ≤ V ∧ V ≤ 6 then V else -1 := by
  subst h
  rcases hv with rfl | ⟨k, hk, rfl⟩
  · decide
  · rcases (show k = 0 ∨ k = 1 ∨ k = 2 ∨ k = 3 ∨ k = 4 ∨ k = 5 ∨ k = 6 ∨ k = 7 ∨ k = 8 ∨ k = 9 ∨ k = 10 ∨ k = 11 by omega) with rfl | rfl | rfl | rfl | rfl | rfl | rfl | rfl | rfl | rfl | rfl | rfl <;> decide
theorem kd_g : ∀ k, k < 7 → [160, 161, 162, 163, 164, 165, 166].getD k 0 = 160 + k := by decide
theorem L_kind {d i Z : Nat} {B : Nat → Int32} {M : Mem} (hZ : Z ≤ 120) (ls : Ls B Z i M) : ∀ (m k : Nat) (f : Int32), k + m = 7 →
    lim (call (d + 5)) none 6 cX6_kindTold (some .int) 4 [some (.ref 130), some (.int f), some (.int (nI k))] [] M = some (some (.int (kdF (qS B Z i) (qV B Z i) m k f)), M) := by
  have g9 : ∀ (st : List Value) (l : Lv), lim (call (d + 5)) none 6 cX6_kindTold (some .int) 9 l (.ref 139 :: st) M = lim (call (d + 5)) none 6 cX6_kindTold (some .int) 10 l (.int (nI 7) :: st) M := fun st l => (lim_step dX6_kindTold_9).trans (e_lenR rfl rfl r139)
  intro m
  induction m with
  | zero =>
    intro k f hk
    obtain rfl : k = 7 := by omega
    rw [sX6_kindTold_4]
    simp only [sX6_kindTold_0, sX6_kindTold_1, sX6_kindTold_2, sX6_kindTold_3, sX6_kindTold_5, sX6_kindTold_6, sX6_kindTold_10, sX6_kindTold_13, sX6_kindTold_14, sX6_kindTold_15, sX6_kindTold_18, sX6_kindTold_19, sX6_kindTold_20, sX6_kindTold_23, sX6_kindTold_26, sX6_kindTold_27, sX6_kindTold_30, sX6_kindTold_31, sX6_kindTold_32, sX6_kindTold_35, sX6_kindTold_38, sX6_kindTold_39, opK_some, guK_true, calK_some, rk_nil, rk_int, rk_ref, tl_some, tl_none, nb_int, nb_0, nb_1, nb_if, nb_if', o130_23, g9]
    rw [if_pos (Int32.le_refl _)]
    rfl
  | succ m ih =>
    intro k f hk
    have cw := C_m_isWord (d := d) (w := k) hZ (by omega) ls
    have e : kdF (qS B Z i) (qV B Z i) (m + 1) k f = kdF (qS B Z i) (qV B Z i) m (k + 1) (if qS B Z i = 1 ∧ qV B Z i = nI k then nI k else f) := rfl
    rw [e, ← ih (k + 1) _ (by omega), sX6_kindTold_4]
    simp only [sX6_kindTold_0, sX6_kindTold_1, sX6_kindTold_2, sX6_kindTold_3, sX6_kindTold_5, sX6_kindTold_6, sX6_kindTold_10, sX6_kindTold_13, sX6_kindTold_14, sX6_kindTold_15, sX6_kindTold_18, sX6_kindTold_19, sX6_kindTold_20, sX6_kindTold_23, sX6_kindTold_26, sX6_kindTold_27, sX6_kindTold_30, sX6_kindTold_31, sX6_kindTold_32, sX6_kindTold_35, sX6_kindTold_38, sX6_kindTold_39, opK_some, guK_true, calK_some, rk_nil, rk_int, rk_ref, tl_some, tl_none, nb_int, nb_0, nb_1, nb_if, nb_if', o130_23, r139, g9, nI_clamp (show k < 2 ^ 31 by omega), List.length_cons, List.length_nil, kd_g k (by omega), inb_nI (show k < 7 by omega) (show 7 < 2 ^ 31 by omega), q130, cw, nI_1]
    rw [if_neg (show ¬ nI 7 ≤ nI k from nI_ge (by omega) (by omega))]
    by_cases c : qS B Z i = 1 ∧ qV B Z i = nI k
    · rw [if_pos c, if_pos c, if_neg (by decide)]
    · rw [if_neg c, if_neg c, if_pos rfl]
theorem C_kindTold {d i Z : Nat} {B : Nat → Int32} {M : Mem} (hZ : Z ≤ 120) (ls : Ls B Z i M) : call (d + 6) 224 [.ref 130] M = some (some (.int (if qS B Z i = 1 ∧ 0 ≤ qV B Z i ∧ qV B Z i ≤ 6 then qV B Z i else -1)), M) := by
  have l := L_kind (d := d) hZ ls 7 0 (-1) (by omega)
  rw [nI_0] at l
  rw [show d + 6 = d + 5 + 1 from rfl, nX6_kindTold]
  simp only [sX6_kindTold_0, sX6_kindTold_1, sX6_kindTold_2, sX6_kindTold_3, sX6_kindTold_5, sX6_kindTold_6, sX6_kindTold_10, sX6_kindTold_13, sX6_kindTold_14, sX6_kindTold_15, sX6_kindTold_18, sX6_kindTold_19, sX6_kindTold_20, sX6_kindTold_23, sX6_kindTold_26, sX6_kindTold_27, sX6_kindTold_30, sX6_kindTold_31, sX6_kindTold_32, sX6_kindTold_35, sX6_kindTold_38, sX6_kindTold_39, opK_some, guK_true, calK_some, rk_nil, rk_int, rk_ref, tl_some, tl_none, nb_int, nb_0, nb_1, nb_if, nb_if', l]
  by_cases c : qS B Z i = 1
  · rw [kd_yes c (qV_w c)]
    simp only [c, true_and]
  · rw [kd_no c, if_neg (fun z => c z.1)]
theorem nI_4m {c : Nat} : (4 : Int32) * nI c = nI (4 * c) := (Int32.ofNat_mul ..).symm
/-- an item's effect -/
def efI (a b w o : Int32) (r : Rw) : Rw := if a = 10 then upd r 1 b else if a = 11 then upd r 2 b else comR r a b w o
def itF (I : Nat → Int32) : Nat → Rw → Rw
  | 0, r => r
  | c + 1, r => efI (I (4 * c)) (I (4 * c + 1)) (I (4 * c + 2)) (I (4 * c + 3)) (itF I c r)
theorem itF_cg {I I' : Nat → Int32} {r : Rw} : ∀ c, (∀ j, j < 4 * c → I' j = I j) → itF I' c r = itF I c r := by
  intro c
  induction c with
  | zero => intro _; rfl
  | succ c ih =>
    intro h
    show efI _ _ _ _ (itF I' c r) = efI _ _ _ _ (itF I c r)
    rw [ih (fun j hj => h j (by omega)), h (4 * c) (by omega), h (4 * c + 1) (by omega), h (4 * c + 2) (by omega), h (4 * c + 3) (by omega)]
def Lw (M M' : Mem) : Prop := (∀ k, k ≠ 130 → k ≠ 140 → M' k = M k) ∧ ∀ j, j ≠ 18 → j ≠ 19 → j ≠ 20 → j ≠ 21 → j ≠ 22 → j ≠ 25 → j ≠ 26 → M' 130 j = M 130 j
theorem Lw.rf {M : Mem} : Lw M M := ⟨fun _ _ _ => rfl, fun _ _ _ _ _ _ _ _ => rfl⟩
theorem Lw.tr {M M1 M2 : Mem} (h1 : Lw M M1) (h2 : Lw M1 M2) : Lw M M2 := ⟨fun k a b => (h2.1 k a b).trans (h1.1 k a b), fun j a b c e f g h => (h2.2 j a b c e f g h).trans (h1.2 j a b c e f g h)⟩
theorem Lw.lu {M M1 : Mem} (h : Lu M M1) : Lw M M1 := ⟨fun k a _ => h.1 k a, fun j a b c e f _ _ => h.2 j a b c e f⟩
theorem Lw.m26 {M : Mem} {v : Int32} : Lw M (mset M 130 26 v) := ⟨fun k a _ => mset_ne a, fun j _ _ _ _ _ _ f => by rw [mset_at, upd_ne f]⟩
theorem Ok_cg {B : Nat → Int32} {Z i : Nat} {M M1 : Mem} (h : Ok B Z i M) (e : M1 138 = M 138) (f : ∀ j, 17 ≤ j → j ≤ 22 → M1 130 j = M 130 j) : Ok B Z i M1 := by
  obtain ⟨⟨a1, a2, a3, a4, a5, a6⟩, a7⟩ := h
  exact ⟨⟨by rw [f 17 (by omega) (by omega)]; exact a1, e.trans a2, by rw [f 18 (by omega) (by omega)]; exact a3, by rw [f 19 (by omega) (by omega)]; exact a4, by rw [f 20 (by omega) (by omega)]; exact a5, fun z => by rw [f 21 (by omega) (by omega)]; exact a6 z⟩, by rw [f 22 (by omega) (by omega)]; exact a7⟩
theorem Wr_cg {B : Nat → Int32} {Z i : Nat} {M M1 : Mem} (h : Wr B Z i M) (f : ∀ j, 17 ≤ j → j ≤ 22 → M1 130 j = M 130 j) : Wr B Z i M1 := ⟨by rw [f 22 (by omega) (by omega)]; exact h.1, by rw [f 18 (by omega) (by omega)]; exact h.2⟩
theorem C_item {d c : Nat} {M : Mem} {a b x y : Int32} (hc : c < 120) (e25 : M 130 25 = nI c) : ∃ M', call (d + 1) 229 [.ref 130, .int a, .int b, .int x, .int y] M = some (none, M') ∧ Lw M M' ∧ (∀ j, 17 ≤ j → j ≤ 22 → M' 130 j = M 130 j) ∧ M' 130 25 = nI (c + 1) ∧ M' 130 26 = M 130 26 ∧ (∀ j, j < 4 * c → M' 140 j = M 140 j) ∧ M' 140 (4 * c) = a ∧ M' 140 (4 * c + 1) = b ∧ M' 140 (4 * c + 2) = x ∧ M' 140 (4 * c + 3) = y := by
  have ia : ∀ k, k < 4 → inb (nI (4 * c + k)) 480 = true := fun k hk => inb_nI (by omega) (by omega)
  have ca : ∀ k, k < 4 → (nI (4 * c + k)).toNatClampNeg = 4 * c + k := fun k hk => nI_clamp (by omega)
  have a0 := ia 0 (by omega)
  have c0 := ca 0 (by omega)
  rw [Nat.add_zero] at a0 c0
  obtain ⟨N, hN⟩ : ∃ N, N = mset (mset (mset (mset M 140 (4 * c) a) 140 (4 * c + 1) b) 140 (4 * c + 2) x) 140 (4 * c + 3) y := ⟨_, rfl⟩
  have fk : ∀ k, k ≠ 140 → N k = M k := fun k hk => by rw [hN, mset_ne hk, mset_ne hk, mset_ne hk, mset_ne hk]
  have n1 : nI (4 * c) + 1 = nI (4 * c + 1) := nI_add _ 1
  have n2 : nI (4 * c) + 2 = nI (4 * c + 2) := nI_add _ 2
  have n3 : nI (4 * c) + 3 = nI (4 * c + 3) := nI_add _ 3
  refine ⟨mset N 130 25 (nI (c + 1)), ?_, ⟨fun k h1 h2 => by rw [mset_ne h1, fk k h2], fun j _ _ _ _ _ h6 _ => by rw [mset_at, upd_ne h6, fk 130 (by omega)]⟩, fun j h1 h2 => by rw [mset_at, upd_ne (by omega), fk 130 (by omega)], by rw [mset_at, upd_at], by rw [mset_at, upd_ne (by omega), fk 130 (by omega)], fun j hj => ?_, ?_, ?_, ?_, ?_⟩
  · rw [nX6_item]
    simp only [sX6_item_0, sX6_item_1, sX6_item_2, sX6_item_5, sX6_item_6, sX6_item_8, sX6_item_9, sX6_item_12, sX6_item_14, sX6_item_15, sX6_item_16, sX6_item_17, sX6_item_20, sX6_item_22, sX6_item_23, sX6_item_24, sX6_item_26, sX6_item_27, sX6_item_30, sX6_item_32, sX6_item_33, sX6_item_34, sX6_item_35, sX6_item_36, sX6_item_37, sX6_item_40, sX6_item_42, sX6_item_43, sX6_item_44, sX6_item_46, sX6_item_47, sX6_item_48, sX6_item_48_i, sX6_item_49, sX6_item_52, sX6_item_53, sX6_item_54, sX6_item_57, opK_some, guK_true, calK_some, rk_nil, rk_int, rk_ref, tl_some, tl_none, nb_int, nb_0, nb_1, nb_if, nb_if', o130_24, o130_25, e25, nI_4m, b140, a0, c0]
    rw [sX6_item_25]
    simp only [sX6_item_0, sX6_item_1, sX6_item_2, sX6_item_5, sX6_item_6, sX6_item_8, sX6_item_9, sX6_item_12, sX6_item_14, sX6_item_15, sX6_item_16, sX6_item_17, sX6_item_20, sX6_item_22, sX6_item_23, sX6_item_24, sX6_item_26, sX6_item_27, sX6_item_30, sX6_item_32, sX6_item_33, sX6_item_34, sX6_item_36, sX6_item_37, sX6_item_40, sX6_item_42, sX6_item_43, sX6_item_44, sX6_item_46, sX6_item_47, sX6_item_48, sX6_item_48_i, sX6_item_49, sX6_item_52, sX6_item_53, sX6_item_54, sX6_item_57, opK_some, guK_true, calK_some, rk_nil, rk_int, rk_ref, tl_some, tl_none, nb_int, nb_0, nb_1, nb_if, nb_if', o130_24, b140, n1, n2, ia 1 (by omega), ca 1 (by omega)]
    rw [sX6_item_35]
    simp only [sX6_item_0, sX6_item_1, sX6_item_2, sX6_item_5, sX6_item_6, sX6_item_8, sX6_item_9, sX6_item_12, sX6_item_14, sX6_item_15, sX6_item_16, sX6_item_17, sX6_item_20, sX6_item_22, sX6_item_23, sX6_item_24, sX6_item_26, sX6_item_27, sX6_item_30, sX6_item_32, sX6_item_33, sX6_item_34, sX6_item_36, sX6_item_37, sX6_item_40, sX6_item_42, sX6_item_43, sX6_item_44, sX6_item_47, sX6_item_48, sX6_item_48_i, sX6_item_49, sX6_item_52, sX6_item_53, sX6_item_54, sX6_item_57, opK_some, guK_true, calK_some, rk_nil, rk_int, rk_ref, tl_some, tl_none, nb_int, nb_0, nb_1, nb_if, nb_if', o130_24, b140, n2, n3, ia 2 (by omega), ca 2 (by omega)]
    rw [sX6_item_46]
    simp only [sX6_item_0, sX6_item_1, sX6_item_2, sX6_item_5, sX6_item_6, sX6_item_8, sX6_item_9, sX6_item_12, sX6_item_14, sX6_item_15, sX6_item_16, sX6_item_17, sX6_item_20, sX6_item_22, sX6_item_23, sX6_item_24, sX6_item_26, sX6_item_27, sX6_item_30, sX6_item_32, sX6_item_33, sX6_item_34, sX6_item_36, sX6_item_37, sX6_item_40, sX6_item_42, sX6_item_43, sX6_item_44, sX6_item_47, sX6_item_48, sX6_item_48_i, sX6_item_49, sX6_item_52, sX6_item_53, sX6_item_54, sX6_item_57, opK_some, guK_true, calK_some, rk_nil, rk_int, rk_ref, tl_some, tl_none, nb_int, nb_0, nb_1, nb_if, nb_if', o130_25, p130_25, b140, n3, ia 3 (by omega), ca 3 (by omega), ← hN, fk 130 (by omega), e25, nI_1]
  · rw [mset_ne (by omega), hN, mset_at, mset_at, mset_at, mset_at, upd_ne (by omega), upd_ne (by omega), upd_ne (by omega), upd_ne (by omega)]
  · rw [mset_ne (by omega), hN, mset_at, mset_at, mset_at, mset_at, upd_ne (by omega), upd_ne (by omega), upd_ne (by omega), upd_at]
  · rw [mset_ne (by omega), hN, mset_at, mset_at, mset_at, mset_at, upd_ne (by omega), upd_ne (by omega), upd_at]
  · rw [mset_ne (by omega), hN, mset_at, mset_at, mset_at, mset_at, upd_ne (by omega), upd_at]
  · rw [mset_ne (by omega), hN, mset_at, upd_at]
