/-! two tapes that agree tell the same -/
theorem skF_cg {B C : Nat → Int32} {Z : Nat} (h : ∀ i, i < Z → B i = C i) : ∀ m i, i + m ≤ Z → skF B m i = skF C m i := by
  intro m
  induction m with
  | zero => intro i _; rfl
  | succ m ih =>
    intro i hi
    show (if B i = 32 then skF B m (i + 1) else i) = (if C i = 32 then skF C m (i + 1) else i)
    rw [h i (by omega), ih (i + 1) (by omega)]
theorem rlF_cg {B C : Nat → Int32} {Z : Nat} (h : ∀ i, i < Z → B i = C i) : ∀ m i, i + m ≤ Z → rlF B m i = rlF C m i := by
  intro m
  induction m with
  | zero => intro i _; rfl
  | succ m ih =>
    intro i hi
    show (if isL (B i) then rlF B m (i + 1) else i) = (if isL (C i) then rlF C m (i + 1) else i)
    rw [h i (by omega), ih (i + 1) (by omega)]
theorem rdF_cg {B C : Nat → Int32} {Z : Nat} (h : ∀ i, i < Z → B i = C i) : ∀ m i, i + m ≤ Z → rdF B m i = rdF C m i := by
  intro m
  induction m with
  | zero => intro i _; rfl
  | succ m ih =>
    intro i hi
    show (if isD (B i) then rdF B m (i + 1) else i) = (if isD (C i) then rdF C m (i + 1) else i)
    rw [h i (by omega), ih (i + 1) (by omega)]
theorem nuF_cg {B C : Nat → Int32} {Z : Nat} (h : ∀ i, i < Z → B i = C i) : ∀ m i v, i + m ≤ Z → nuF B m i v = nuF C m i v := by
  intro m
  induction m with
  | zero => intro i v _; rfl
  | succ m ih =>
    intro i v hi
    show nuF B m (i + 1) (nuS v (B i)) = nuF C m (i + 1) (nuS v (C i))
    rw [h i (by omega), ih (i + 1) _ (by omega)]
theorem wm_cg {B C : Nat → Int32} {Z w b e : Nat} (h : ∀ i, i < Z → B i = C i) (he : e ≤ Z) : wm B w b e → wm C w b e := by
  rintro ⟨h1, h2⟩
  exact ⟨h1, fun k hk => by rw [h2 k hk]; exact h (b + k) (by omega)⟩
theorem wxF_cg {B C : Nat → Int32} {Z b e : Nat} (h : ∀ i, i < Z → B i = C i) (he : e ≤ Z) : ∀ m w, wxF B b e m w = wxF C b e m w := by
  intro m
  induction m with
  | zero => intro w; rfl
  | succ m ih =>
    intro w
    show (if wmB B w b e = true then nI w else wxF B b e m (w + 1)) = (if wmB C w b e = true then nI w else wxF C b e m (w + 1))
    have e1 : wmB B w b e = wmB C w b e := Bool.eq_iff_iff.mpr ⟨fun z => wmB_i.mpr (wm_cg h he (wmB_i.mp z)), fun z => wmB_i.mpr (wm_cg (fun i hi => (h i hi).symm) he (wmB_i.mp z))⟩
    rw [e1, ih (w + 1)]
theorem sk_cg {B C : Nat → Int32} {Z i : Nat} (h : ∀ i, i < Z → B i = C i) (hi : i ≤ Z) : sk B Z i = sk C Z i := skF_cg h (Z - i) i (by omega)
theorem tE_cg {B C : Nat → Int32} {Z q : Nat} (h : ∀ i, i < Z → B i = C i) : tE B Z q = tE C Z q := by
  unfold tE
  by_cases c : Z ≤ q
  · rw [if_pos c, if_pos c]
  · rw [if_neg c, if_neg c, h q (by omega), rlF_cg h (Z - q) q (by omega), rdF_cg h (Z - q) q (by omega)]
theorem tQ_cg {B C : Nat → Int32} {Z q : Nat} (h : ∀ i, i < Z → B i = C i) : tQ B Z q = tQ C Z q := by
  unfold tQ
  by_cases c : Z ≤ q
  · rw [if_pos c, if_pos c]
  · rw [if_neg c, if_neg c, h q (by omega)]
theorem tV_cg {B C : Nat → Int32} {Z q : Nat} (h : ∀ i, i < Z → B i = C i) : tV B Z q = tV C Z q := by
  have eE := tE_cg (q := q) h
  unfold tV
  by_cases c : Z ≤ q
  · rw [if_pos c, if_pos c]
  · have hE := (tE_Z (B := C) (show q < Z by omega)).2
    rw [if_neg c, if_neg c, h q (by omega), eE, wxF_cg h hE 12 0, nuF_cg h (tE C Z q - q) q 0 (by omega)]
theorem ps_cg {B C : Nat → Int32} {Z : Nat} (h : ∀ i, i < Z → B i = C i) : ∀ i, ps B Z i = ps C Z i := by
  intro i
  induction i with
  | zero => rfl
  | succ i ih =>
    show tE B Z (sk B Z (ps B Z i)) = tE C Z (sk C Z (ps C Z i))
    rw [tE_cg h, ih, sk_cg h (ps_Z C Z i)]
theorem qB_cg {B C : Nat → Int32} {Z : Nat} (h : ∀ i, i < Z → B i = C i) : qB B Z = qB C Z := by
  funext i
  show sk B Z (ps B Z i) = sk C Z (ps C Z i)
  rw [ps_cg h, sk_cg h (ps_Z C Z i)]
theorem qS_cg {B C : Nat → Int32} {Z : Nat} (h : ∀ i, i < Z → B i = C i) : qS B Z = qS C Z := by
  funext i
  show tQ B Z (qB B Z i) = tQ C Z (qB C Z i)
  rw [qB_cg h, tQ_cg h]
theorem qV_cg {B C : Nat → Int32} {Z : Nat} (h : ∀ i, i < Z → B i = C i) : qV B Z = qV C Z := by
  funext i
  show tV B Z (qB B Z i) = tV C Z (qB C Z i)
  rw [qB_cg h, tV_cg h]
theorem txR_cg {B C : Nat → Int32} {Z : Nat} {r : Rw} (h : ∀ i, i < Z → B i = C i) : txR B Z r = txR C Z r := by
  show pxT (qS B Z) (qV B Z) (qB B Z) 121 0 r 1 = pxT (qS C Z) (qV C Z) (qB C Z) 121 0 r 1
  rw [qB_cg h, qS_cg h, qV_cg h]
/-- behind the END nothing but END -/
theorem qB_end {B : Nat → Int32} {Z n : Nat} (h : qB B Z n = Z) : ∀ k, qB B Z (n + k) = Z := by
  intro k
  induction k with
  | zero => exact h
  | succ k ih =>
    show sk B Z (tE B Z (qB B Z (n + k))) = Z
    rw [ih]
    have e : tE B Z Z = Z := by
      unfold tE
      rw [if_pos (Nat.le_refl Z)]
    rw [e, sk_e]
theorem qS_end {B : Nat → Int32} {Z n i : Nat} (h : qB B Z n = Z) (hi : n ≤ i) : qS B Z i = 0 := by
  have := qB_end h (i - n)
  rw [show n + (i - n) = i by omega] at this
  exact qS_0.mpr (Nat.le_of_eq this.symm)
theorem qS_or {B : Nat → Int32} {Z i : Nat} : qS B Z i = 0 ∨ qS B Z i = 1 ∨ qS B Z i = 2 ∨ (qS B Z i = 3 ∧ qB B Z i < Z ∧ B (qB B Z i) = 59) ∨ (qS B Z i = 4 ∧ qB B Z i < Z ∧ ¬ B (qB B Z i) = 59) := by
  have e : qS B Z i = tQ B Z (qB B Z i) := rfl
  rw [e]
  unfold tQ
  by_cases c : Z ≤ qB B Z i
  · rw [if_pos c]
    exact Or.inl rfl
  · rw [if_neg c]
    by_cases cl : isL (B (qB B Z i))
    · rw [if_pos cl]
      exact Or.inr (Or.inl rfl)
    · rw [if_neg cl]
      by_cases cd : isD (B (qB B Z i))
      · rw [if_pos cd]
        exact Or.inr (Or.inr (Or.inl rfl))
      · rw [if_neg cd]
        by_cases c9 : B (qB B Z i) = 59
        · rw [if_pos c9]
          exact Or.inr (Or.inr (Or.inr (Or.inl ⟨rfl, by omega, c9⟩)))
        · rw [if_neg c9]
          exact Or.inr (Or.inr (Or.inr (Or.inr ⟨rfl, by omega, c9⟩)))
/-- what the items do: farms' own cells stay -/
def okI (I : Nat → Int32) (c : Nat) (r : Rw) : Prop := ∀ k, k < c → IR (itF I k r) ∧ (I (4 * k) = 10 ∨ I (4 * k) = 11 ∨ itF I k r 3 < 10)
theorem okI_cg {I I' : Nat → Int32} {c : Nat} {r : Rw} (h : okI I c r) (e : ∀ j, j < 4 * c → I' j = I j) : okI I' c r := by
  intro k hk
  have ek : itF I' k r = itF I k r := itF_cg k (fun j hj => e j (by omega))
  rw [ek, e (4 * k) (by omega)]
  exact h k hk
theorem efI_er {a b x y : Int32} {r : Rw} (ir : IR r) (h : a = 10 ∨ a = 11 ∨ r 3 < 10) {j : Nat} (hj : j = 0 ∨ (5 ≤ j ∧ j < 18) ∨ (96 ≤ j ∧ j < 132)) : efI a b x y r j = r j := by
  unfold efI
  by_cases c : a = 10
  · rw [if_pos c, upd_ne (by omega)]
  · rw [if_neg c]
    by_cases c' : a = 11
    · rw [if_pos c', upd_ne (by omega)]
    · rw [if_neg c']
      have hr : r 3 < 10 := by
        rcases h with z | z | z
        · exact absurd z c
        · exact absurd z c'
        · exact z
      have t10 := (wr_lt10 ir.1.1).mp hr
      have lo : ∀ f, f < 7 → 18 ≤ at9 (nT r) f ∧ at9 (nT r) f < 88 := fun f hf => ⟨by unfold at9; omega, at9_lt t10 hf⟩
      have l0 := lo 0 (by omega)
      have l1 := lo 1 (by omega)
      have l2 := lo 2 (by omega)
      have l3 := lo 3 (by omega)
      have l4 := lo 4 (by omega)
      have l5 := lo 5 (by omega)
      have l6 := lo 6 (by omega)
      rw [com_j, if_neg (by omega), if_neg (by omega), if_neg (by omega), if_neg (by omega), if_neg (by omega), if_neg (by omega), if_neg (by omega), if_neg (by omega)]
theorem itF_er {I : Nat → Int32} {r : Rw} {j : Nat} (hj : j = 0 ∨ (5 ≤ j ∧ j < 18) ∨ (96 ≤ j ∧ j < 132)) : ∀ c, okI I c r → itF I c r j = r j := by
  intro c
  induction c with
  | zero => intro _; rfl
  | succ c ih =>
    intro h
    obtain ⟨h1, h2⟩ := h c (by omega)
    show efI _ _ _ _ (itF I c r) j = r j
    rw [efI_er h1 h2 hj, ih (fun k hk => h k (by omega))]
/-! the reference's items take effect -/
theorem sw_i10 {f : Nat → Option Rs} : jmpK 15 (Op.lookupswitch.offset [(10, 25), (11, 32)] 39 (10 : Int32).toInt) f = f 40 := rfl
theorem sw_i11 {f : Nat → Option Rs} : jmpK 15 (Op.lookupswitch.offset [(10, 25), (11, 32)] 39 (11 : Int32).toInt) f = f 47 := rfl
theorem sw_ix {f : Nat → Option Rs} {x : Int32} (h1 : ¬ x = 10) (h2 : ¬ x = 11) : jmpK 15 (Op.lookupswitch.offset [(10, 25), (11, 32)] 39 x.toInt) f = f 54 := by
  rw [Op.lookupswitch.offset_cons, if_neg (fun z => h1 (Int32.toInt_inj.mp (show x.toInt = (10 : Int32).toInt from z.symm))), Op.lookupswitch.offset_cons, if_neg (fun z => h2 (Int32.toInt_inj.mp (show x.toInt = (11 : Int32).toInt from z.symm))), Op.lookupswitch.offset_nil]
  rfl
theorem C_isSo {d k : Nat} {M : Mem} (hk : k < 120) (ir : IR (M 131)) (h : M 140 (4 * k) = 10 ∨ M 140 (4 * k) = 11 ∨ M 131 3 < 10) : ∃ v, call (d + 3) 230 [.ref 130, .int (nI (4 * k))] M = some (some (.int v), mrow M 131 (efI (M 140 (4 * k)) (M 140 (4 * k + 1)) (M 140 (4 * k + 2)) (M 140 (4 * k + 3)) (M 131))) ∧ ¬ v < 0 := by
  have ia : ∀ j, j < 4 → inb (nI (4 * k + j)) 480 = true := fun j hj => inb_nI (by omega) (by omega)
  have ca : ∀ j, j < 4 → (nI (4 * k + j)).toNatClampNeg = 4 * k + j := fun j hj => nI_clamp (by omega)
  have a0 := ia 0 (by omega)
  have c0 := ca 0 (by omega)
  rw [Nat.add_zero] at a0 c0
  have n1 : nI (4 * k) + 1 = nI (4 * k + 1) := nI_add _ 1
  have n2 : nI (4 * k) + 2 = nI (4 * k + 2) := nI_add _ 2
  have n3 : nI (4 * k) + 3 = nI (4 * k + 3) := nI_add _ 3
  rw [nX6_isSo]
  by_cases c : M 140 (4 * k) = 10
  · refine ⟨M 131 1, ?_, Int32.not_lt.mpr ir.2.2.1⟩
    have cb := C_m_become (d := d + 1) (M := M) (i := 1) (v := M 140 (4 * k + 1)) (by omega)
    rw [show d + 1 + 1 = d + 2 from rfl] at cb
    rw [show (nI 1 : Int32) = 1 from rfl] at cb
    have e : efI (M 140 (4 * k)) (M 140 (4 * k + 1)) (M 140 (4 * k + 2)) (M 140 (4 * k + 3)) (M 131) = upd (M 131) 1 (M 140 (4 * k + 1)) := if_pos c
    rw [e]
    simp only [sX6_isSo_0, sX6_isSo_1, sX6_isSo_4, sX6_isSo_5, sX6_isSo_6, sX6_isSo_7, sX6_isSo_8, sX6_isSo_9, sX6_isSo_10, sX6_isSo_13, sX6_isSo_14, sX6_isSo_40, sX6_isSo_41, sX6_isSo_42, sX6_isSo_43, sX6_isSo_46, sX6_isSo_47, sX6_isSo_48, sX6_isSo_49, sX6_isSo_50, sX6_isSo_53, sX6_isSo_54, sX6_isSo_55, sX6_isSo_56, sX6_isSo_59, sX6_isSo_60, sX6_isSo_61, sX6_isSo_62, sX6_isSo_63, sX6_isSo_66, sX6_isSo_67, sX6_isSo_68, sX6_isSo_69, sX6_isSo_70, sX6_isSo_71, sX6_isSo_74, sX6_isSo_75, sX6_isSo_76, sX6_isSo_77, sX6_isSo_78, sX6_isSo_81, opK_some, guK_true, calK_some, rk_nil, rk_int, rk_ref, tl_some, tl_none, nb_int, nb_0, nb_1, nb_if, nb_if', o130_24, a140, n1, n2, n3, a0, c0, ia 1 (by omega), ca 1 (by omega), ia 2 (by omega), ca 2 (by omega), ia 3 (by omega), ca 3 (by omega)]
    rw [c, sX6_isSo_15, sw_i10]
    simp only [sX6_isSo_0, sX6_isSo_1, sX6_isSo_4, sX6_isSo_5, sX6_isSo_6, sX6_isSo_7, sX6_isSo_8, sX6_isSo_9, sX6_isSo_10, sX6_isSo_13, sX6_isSo_14, sX6_isSo_40, sX6_isSo_41, sX6_isSo_42, sX6_isSo_43, sX6_isSo_46, sX6_isSo_47, sX6_isSo_48, sX6_isSo_49, sX6_isSo_50, sX6_isSo_53, sX6_isSo_54, sX6_isSo_55, sX6_isSo_56, sX6_isSo_59, sX6_isSo_60, sX6_isSo_61, sX6_isSo_62, sX6_isSo_63, sX6_isSo_66, sX6_isSo_67, sX6_isSo_68, sX6_isSo_69, sX6_isSo_70, sX6_isSo_71, sX6_isSo_74, sX6_isSo_75, sX6_isSo_76, sX6_isSo_77, sX6_isSo_78, sX6_isSo_81, opK_some, guK_true, calK_some, rk_nil, rk_int, rk_ref, tl_some, tl_none, nb_int, nb_0, nb_1, nb_if, nb_if', q130, cb]
  · by_cases c' : M 140 (4 * k) = 11
    · refine ⟨M 131 2, ?_, Int32.not_lt.mpr ir.2.2.2⟩
      have cb := C_m_become (d := d + 1) (M := M) (i := 2) (v := M 140 (4 * k + 1)) (by omega)
      rw [show d + 1 + 1 = d + 2 from rfl] at cb
      rw [show (nI 2 : Int32) = 2 from rfl] at cb
      have e : efI (M 140 (4 * k)) (M 140 (4 * k + 1)) (M 140 (4 * k + 2)) (M 140 (4 * k + 3)) (M 131) = upd (M 131) 2 (M 140 (4 * k + 1)) := (if_neg c).trans (if_pos c')
      rw [e]
      simp only [sX6_isSo_0, sX6_isSo_1, sX6_isSo_4, sX6_isSo_5, sX6_isSo_6, sX6_isSo_7, sX6_isSo_8, sX6_isSo_9, sX6_isSo_10, sX6_isSo_13, sX6_isSo_14, sX6_isSo_40, sX6_isSo_41, sX6_isSo_42, sX6_isSo_43, sX6_isSo_46, sX6_isSo_47, sX6_isSo_48, sX6_isSo_49, sX6_isSo_50, sX6_isSo_53, sX6_isSo_54, sX6_isSo_55, sX6_isSo_56, sX6_isSo_59, sX6_isSo_60, sX6_isSo_61, sX6_isSo_62, sX6_isSo_63, sX6_isSo_66, sX6_isSo_67, sX6_isSo_68, sX6_isSo_69, sX6_isSo_70, sX6_isSo_71, sX6_isSo_74, sX6_isSo_75, sX6_isSo_76, sX6_isSo_77, sX6_isSo_78, sX6_isSo_81, opK_some, guK_true, calK_some, rk_nil, rk_int, rk_ref, tl_some, tl_none, nb_int, nb_0, nb_1, nb_if, nb_if', o130_24, a140, n1, n2, n3, a0, c0, ia 1 (by omega), ca 1 (by omega), ia 2 (by omega), ca 2 (by omega), ia 3 (by omega), ca 3 (by omega)]
      rw [c', sX6_isSo_15, sw_i11]
      simp only [sX6_isSo_0, sX6_isSo_1, sX6_isSo_4, sX6_isSo_5, sX6_isSo_6, sX6_isSo_7, sX6_isSo_8, sX6_isSo_9, sX6_isSo_10, sX6_isSo_13, sX6_isSo_14, sX6_isSo_40, sX6_isSo_41, sX6_isSo_42, sX6_isSo_43, sX6_isSo_46, sX6_isSo_47, sX6_isSo_48, sX6_isSo_49, sX6_isSo_50, sX6_isSo_53, sX6_isSo_54, sX6_isSo_55, sX6_isSo_56, sX6_isSo_59, sX6_isSo_60, sX6_isSo_61, sX6_isSo_62, sX6_isSo_63, sX6_isSo_66, sX6_isSo_67, sX6_isSo_68, sX6_isSo_69, sX6_isSo_70, sX6_isSo_71, sX6_isSo_74, sX6_isSo_75, sX6_isSo_76, sX6_isSo_77, sX6_isSo_78, sX6_isSo_81, opK_some, guK_true, calK_some, rk_nil, rk_int, rk_ref, tl_some, tl_none, nb_int, nb_0, nb_1, nb_if, nb_if', q130, cb]
    · have hr : M 131 3 < 10 := by
        rcases h with z | z | z
        · exact absurd z c
        · exact absurd z c'
        · exact z
      have h3 := (wr_T ir.1.1).2
      refine ⟨M 131 3, ?_, by rw [h3]; exact nI_nlt (b := 0) (by omega) (by have := (wr_T ir.1.1).1; omega)⟩
      have cb := C_m_comes (d := d + 0) (M := M) (k := M 140 (4 * k)) (bk := M 140 (4 * k + 1)) (wo := M 140 (4 * k + 2)) (ow := M 140 (4 * k + 3)) ir.1.1 hr
      rw [show d + 0 + 2 = d + 2 from rfl] at cb
      have e : efI (M 140 (4 * k)) (M 140 (4 * k + 1)) (M 140 (4 * k + 2)) (M 140 (4 * k + 3)) (M 131) = comR (M 131) (M 140 (4 * k)) (M 140 (4 * k + 1)) (M 140 (4 * k + 2)) (M 140 (4 * k + 3)) := (if_neg c).trans (if_neg c')
      rw [e]
      simp only [sX6_isSo_0, sX6_isSo_1, sX6_isSo_4, sX6_isSo_5, sX6_isSo_6, sX6_isSo_7, sX6_isSo_8, sX6_isSo_9, sX6_isSo_10, sX6_isSo_13, sX6_isSo_14, sX6_isSo_40, sX6_isSo_41, sX6_isSo_42, sX6_isSo_43, sX6_isSo_46, sX6_isSo_47, sX6_isSo_48, sX6_isSo_49, sX6_isSo_50, sX6_isSo_53, sX6_isSo_54, sX6_isSo_55, sX6_isSo_56, sX6_isSo_59, sX6_isSo_60, sX6_isSo_61, sX6_isSo_62, sX6_isSo_63, sX6_isSo_66, sX6_isSo_67, sX6_isSo_68, sX6_isSo_69, sX6_isSo_70, sX6_isSo_71, sX6_isSo_74, sX6_isSo_75, sX6_isSo_76, sX6_isSo_77, sX6_isSo_78, sX6_isSo_81, opK_some, guK_true, calK_some, rk_nil, rk_int, rk_ref, tl_some, tl_none, nb_int, nb_0, nb_1, nb_if, nb_if', o130_24, a140, n1, n2, n3, a0, c0, ia 1 (by omega), ca 1 (by omega), ia 2 (by omega), ca 2 (by omega), ia 3 (by omega), ca 3 (by omega)]
      rw [sX6_isSo_15, sw_ix c c']
      simp only [sX6_isSo_0, sX6_isSo_1, sX6_isSo_4, sX6_isSo_5, sX6_isSo_6, sX6_isSo_7, sX6_isSo_8, sX6_isSo_9, sX6_isSo_10, sX6_isSo_13, sX6_isSo_14, sX6_isSo_40, sX6_isSo_41, sX6_isSo_42, sX6_isSo_43, sX6_isSo_46, sX6_isSo_47, sX6_isSo_48, sX6_isSo_49, sX6_isSo_50, sX6_isSo_53, sX6_isSo_54, sX6_isSo_55, sX6_isSo_56, sX6_isSo_59, sX6_isSo_60, sX6_isSo_61, sX6_isSo_62, sX6_isSo_63, sX6_isSo_66, sX6_isSo_67, sX6_isSo_68, sX6_isSo_69, sX6_isSo_70, sX6_isSo_71, sX6_isSo_74, sX6_isSo_75, sX6_isSo_76, sX6_isSo_77, sX6_isSo_78, sX6_isSo_81, opK_some, guK_true, calK_some, rk_nil, rk_int, rk_ref, tl_some, tl_none, nb_int, nb_0, nb_1, nb_if, nb_if', q130, o130_24, a140, n1, n2, n3, a0, c0, ia 2 (by omega), ca 2 (by omega), ia 3 (by omega), ca 3 (by omega), cb]
theorem L_cnt {d c : Nat} {M : Mem} {r : Rw} (hc : c < 120) (e25 : M 130 25 = nI c) (ok : okI (M 140) c r) : ∀ (m k : Nat), k + m = c →
    lim (call (d + 3)) none 6 cX6_text (some .int) 113 [some (.ref 130), some (.int (nI k)), some (.int (nI k))] [] (mrow M 131 (itF (M 140) k r)) = some (some (.int (nI c)), mrow M 131 (itF (M 140) c r)) := by
  intro m
  induction m with
  | zero =>
    intro k hk
    obtain rfl : k = c := by omega
    rw [sX6_text_113]
    simp only [sX6_text_0, sX6_text_1, sX6_text_2, sX6_text_5, sX6_text_6, sX6_text_7, sX6_text_10, sX6_text_11, sX6_text_12, sX6_text_15, sX6_text_16, sX6_text_17, sX6_text_20, sX6_text_21, sX6_text_22, sX6_text_25, sX6_text_26, sX6_text_29, sX6_text_30, sX6_text_33, sX6_text_34, sX6_text_37, sX6_text_40, sX6_text_41, sX6_text_44, sX6_text_45, sX6_text_48, sX6_text_49, sX6_text_52, sX6_text_53, sX6_text_56, sX6_text_57, sX6_text_59, sX6_text_62, sX6_text_63, sX6_text_64, sX6_text_67, sX6_text_68, sX6_text_71, sX6_text_74, sX6_text_75, sX6_text_76, sX6_text_79, sX6_text_82, sX6_text_83, sX6_text_86, sX6_text_87, sX6_text_90, sX6_text_91, sX6_text_92, sX6_text_95, sX6_text_96, sX6_text_99, sX6_text_102, sX6_text_103, sX6_text_104, sX6_text_107, sX6_text_108, sX6_text_109, sX6_text_110, sX6_text_111, sX6_text_112, sX6_text_114, sX6_text_115, sX6_text_118, sX6_text_121, sX6_text_122, sX6_text_123, sX6_text_124, sX6_text_125, sX6_text_126, sX6_text_129, sX6_text_132, sX6_text_133, sX6_text_136, sX6_text_137, sX6_text_138, sX6_text_139, sX6_text_142, sX6_text_145, sX6_text_146, opK_some, guK_true, calK_some, rk_nil, rk_int, rk_ref, tl_some, tl_none, nb_int, nb_0, nb_1, nb_if, nb_if', o130_25, mrow_ne (show 130 ≠ 131 by omega), e25]
    rw [if_pos (Int32.le_refl _)]
  | succ m ih =>
    intro k hk
    obtain ⟨o1, o2⟩ := ok k (by omega)
    obtain ⟨v, cs, hv⟩ := C_isSo (d := d) (k := k) (M := mrow M 131 (itF (M 140) k r)) (by omega) (by rw [mrow_at]; exact o1) (by rw [mrow_at, mrow_ne (show 140 ≠ 131 by omega)]; exact o2)
    rw [mrow_at, mrow_ne (show 140 ≠ 131 by omega), mrow_mrow] at cs
    have e : itF (M 140) (k + 1) r = efI (M 140 (4 * k)) (M 140 (4 * k + 1)) (M 140 (4 * k + 2)) (M 140 (4 * k + 3)) (itF (M 140) k r) := rfl
    rw [← e] at cs
    have hi := ih (k + 1) (by omega)
    have v0 : (0 : Int32) ≤ v := Int32.not_lt.mp hv
    rw [sX6_text_113]
    simp only [sX6_text_0, sX6_text_1, sX6_text_2, sX6_text_5, sX6_text_6, sX6_text_7, sX6_text_10, sX6_text_11, sX6_text_12, sX6_text_15, sX6_text_16, sX6_text_17, sX6_text_20, sX6_text_21, sX6_text_22, sX6_text_25, sX6_text_26, sX6_text_29, sX6_text_30, sX6_text_33, sX6_text_34, sX6_text_37, sX6_text_40, sX6_text_41, sX6_text_44, sX6_text_45, sX6_text_48, sX6_text_49, sX6_text_52, sX6_text_53, sX6_text_56, sX6_text_57, sX6_text_59, sX6_text_62, sX6_text_63, sX6_text_64, sX6_text_67, sX6_text_68, sX6_text_71, sX6_text_74, sX6_text_75, sX6_text_76, sX6_text_79, sX6_text_82, sX6_text_83, sX6_text_86, sX6_text_87, sX6_text_90, sX6_text_91, sX6_text_92, sX6_text_95, sX6_text_96, sX6_text_99, sX6_text_102, sX6_text_103, sX6_text_104, sX6_text_107, sX6_text_108, sX6_text_109, sX6_text_110, sX6_text_111, sX6_text_112, sX6_text_114, sX6_text_115, sX6_text_118, sX6_text_121, sX6_text_122, sX6_text_123, sX6_text_124, sX6_text_125, sX6_text_126, sX6_text_129, sX6_text_132, sX6_text_133, sX6_text_136, sX6_text_137, sX6_text_138, sX6_text_139, sX6_text_142, sX6_text_145, sX6_text_146, opK_some, guK_true, calK_some, rk_nil, rk_int, rk_ref, tl_some, tl_none, nb_int, nb_0, nb_1, nb_if, nb_if', q130, o130_25, mrow_ne (show 130 ≠ 131 by omega), e25, nI_4m, cs, nI_1, v0, if_true]
    rw [if_neg (show ¬ nI c ≤ nI k from nI_ge (by omega) (by omega))]
    exact hi
