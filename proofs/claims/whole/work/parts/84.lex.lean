/-! the text's tokens -/
abbrev isL (x : Int32) : Prop := 97 ≤ x ∧ x ≤ 122
abbrev isD (x : Int32) : Prop := 48 ≤ x ∧ x ≤ 57
/-- from here on to what isn't a space; to the end of letters; of digits -/
def skF (B : Nat → Int32) : Nat → Nat → Nat
  | 0, i => i
  | m + 1, i => if B i = 32 then skF B m (i + 1) else i
def rlF (B : Nat → Int32) : Nat → Nat → Nat
  | 0, i => i
  | m + 1, i => if isL (B i) then rlF B m (i + 1) else i
def rdF (B : Nat → Int32) : Nat → Nat → Nat
  | 0, i => i
  | m + 1, i => if isD (B i) then rdF B m (i + 1) else i
def nuS (v x : Int32) : Int32 := if v * 10 + x - 48 < 1000 then v * 10 + x - 48 else 1000
def nuF (B : Nat → Int32) : Nat → Nat → Int32 → Int32
  | 0, _, v => v
  | m + 1, i, v => nuF B m (i + 1) (nuS v (B i))
def wm (B : Nat → Int32) (w b e : Nat) : Prop := wl w = e - b ∧ ∀ k, k < wl w → wc w k = B (b + k)
def wmB (B : Nat → Int32) (w b e : Nat) : Bool := decide (wl w = e - b) && decide (∀ k, k < wl w → wc w k = B (b + k))
theorem wmB_i {B : Nat → Int32} {w b e : Nat} : wmB B w b e = true ↔ wm B w b e := by
  unfold wmB wm
  rw [Bool.and_eq_true, decide_eq_true_iff, decide_eq_true_iff]
def wxF (B : Nat → Int32) (b e : Nat) : Nat → Nat → Int32
  | 0, _ => -1
  | m + 1, w => if wmB B w b e = true then nI w else wxF B b e m (w + 1)
abbrev sk (B : Nat → Int32) (Z i : Nat) : Nat := skF B (Z - i) i
def tE (B : Nat → Int32) (Z q : Nat) : Nat := if Z ≤ q then q else if isL (B q) then rlF B (Z - q) q else if isD (B q) then rdF B (Z - q) q else q + 1
def tQ (B : Nat → Int32) (Z q : Nat) : Int32 := if Z ≤ q then 0 else if isL (B q) then 1 else if isD (B q) then 2 else if B q = 59 then 3 else 4
def tV (B : Nat → Int32) (Z q : Nat) : Int32 := if Z ≤ q then 0 else if isL (B q) then wxF B q (tE B Z q) 12 0 else if isD (B q) then nuF B (tE B Z q - q) q 0 else 0
def ps (B : Nat → Int32) (Z : Nat) : Nat → Nat
  | 0 => 0
  | i + 1 => tE B Z (sk B Z (ps B Z i))
theorem sk_le (B : Nat → Int32) : ∀ m i, i ≤ skF B m i ∧ skF B m i ≤ i + m := by
  intro m
  induction m with
  | zero => intro i; exact ⟨Nat.le_refl _, Nat.le_refl _⟩
  | succ m ih =>
    intro i
    show i ≤ (if B i = 32 then skF B m (i + 1) else i) ∧ (if B i = 32 then skF B m (i + 1) else i) ≤ i + (m + 1)
    have := ih (i + 1)
    split <;> omega
theorem sk_Z {B : Nat → Int32} {Z i : Nat} (h : i ≤ Z) : i ≤ sk B Z i ∧ sk B Z i ≤ Z := by
  have := sk_le B (Z - i) i
  show i ≤ skF B (Z - i) i ∧ skF B (Z - i) i ≤ Z
  omega
theorem sk_sp {B : Nat → Int32} {Z i : Nat} (h : i < Z) (hb : B i = 32) : sk B Z i = sk B Z (i + 1) := by
  show skF B (Z - i) i = skF B (Z - (i + 1)) (i + 1)
  rw [show Z - i = Z - (i + 1) + 1 by omega]
  exact if_pos hb
theorem sk_no {B : Nat → Int32} {Z i : Nat} (h : i < Z) (hb : ¬ B i = 32) : sk B Z i = i := by
  show skF B (Z - i) i = i
  rw [show Z - i = Z - (i + 1) + 1 by omega]
  exact if_neg hb
theorem sk_e {B : Nat → Int32} {Z : Nat} : sk B Z Z = Z := by
  show skF B (Z - Z) Z = Z
  rw [Nat.sub_self]
  rfl
theorem sk_at {B : Nat → Int32} {Z i : Nat} (h : sk B Z i < Z) : ¬ B (sk B Z i) = 32 := by
  have key : ∀ m i, skF B m i < i + m → ¬ B (skF B m i) = 32 := by
    intro m
    induction m with
    | zero => intro i hh; exact absurd hh (Nat.lt_irrefl i)
    | succ m ih =>
      intro i hh
      by_cases c : B i = 32
      · have e : skF B (m + 1) i = skF B m (i + 1) := if_pos c
        rw [e] at hh ⊢
        exact ih (i + 1) (by omega)
      · have e : skF B (m + 1) i = i := if_neg c
        rw [e]
        exact c
  rcases Nat.lt_or_ge i Z with c | c
  · exact key (Z - i) i (by
      have : sk B Z i = skF B (Z - i) i := rfl
      omega)
  · have e : sk B Z i = i := by
      show skF B (Z - i) i = i
      rw [show Z - i = 0 by omega]
      rfl
    omega
theorem rl_le (B : Nat → Int32) : ∀ m i, i ≤ rlF B m i ∧ rlF B m i ≤ i + m := by
  intro m
  induction m with
  | zero => intro i; exact ⟨Nat.le_refl _, Nat.le_refl _⟩
  | succ m ih =>
    intro i
    show i ≤ (if isL (B i) then rlF B m (i + 1) else i) ∧ (if isL (B i) then rlF B m (i + 1) else i) ≤ i + (m + 1)
    have := ih (i + 1)
    split <;> omega
theorem rd_le (B : Nat → Int32) : ∀ m i, i ≤ rdF B m i ∧ rdF B m i ≤ i + m := by
  intro m
  induction m with
  | zero => intro i; exact ⟨Nat.le_refl _, Nat.le_refl _⟩
  | succ m ih =>
    intro i
    show i ≤ (if isD (B i) then rdF B m (i + 1) else i) ∧ (if isD (B i) then rdF B m (i + 1) else i) ≤ i + (m + 1)
    have := ih (i + 1)
    split <;> omega
theorem rl_1 {B : Nat → Int32} {Z i : Nat} (h : i < Z) (hb : isL (B i)) : rlF B (Z - i) i = rlF B (Z - (i + 1)) (i + 1) := by
  rw [show Z - i = Z - (i + 1) + 1 by omega]
  exact if_pos hb
theorem rd_1 {B : Nat → Int32} {Z i : Nat} (h : i < Z) (hb : isD (B i)) : rdF B (Z - i) i = rdF B (Z - (i + 1)) (i + 1) := by
  rw [show Z - i = Z - (i + 1) + 1 by omega]
  exact if_pos hb
theorem tE_Z {B : Nat → Int32} {Z q : Nat} (h : q < Z) : q + 1 ≤ tE B Z q ∧ tE B Z q ≤ Z := by
  unfold tE
  rw [if_neg (by omega)]
  by_cases c : isL (B q)
  · rw [if_pos c, rl_1 h c]
    have := rl_le B (Z - (q + 1)) (q + 1)
    omega
  · rw [if_neg c]
    by_cases e : isD (B q)
    · rw [if_pos e, rd_1 h e]
      have := rd_le B (Z - (q + 1)) (q + 1)
      omega
    · rw [if_neg e]
      omega
theorem tE_Z' {B : Nat → Int32} {Z q : Nat} (h : q ≤ Z) : tE B Z q ≤ Z := by
  rcases Nat.lt_or_ge q Z with c | c
  · exact (tE_Z c).2
  · have : q = Z := by omega
    unfold tE
    rw [if_pos c]
    exact h
theorem ps_Z (B : Nat → Int32) (Z : Nat) : ∀ i, ps B Z i ≤ Z := by
  intro i
  induction i with
  | zero => exact Nat.zero_le _
  | succ i ih => exact tE_Z' (sk_Z ih).2
theorem ws_ne : ∀ w, w < 12 → ∀ v, v < 12 → w ≠ v → wl w ≠ wl v ∨ ∃ k, k < wl w ∧ wc w k ≠ wc v k := by decide +kernel
theorem wm_1 {B : Nat → Int32} {w v b e : Nat} (hw : w < 12) (hv : v < 12) (h1 : wm B w b e) (h2 : wm B v b e) : w = v := by
  by_cases c : w = v
  · exact c
  · exfalso
    rcases ws_ne w hw v hv c with h | ⟨k, hk, h⟩
    · exact h (h1.1.trans h2.1.symm)
    · refine h ((h1.2 k hk).trans (h2.2 k ?_).symm)
      rw [h2.1, ← h1.1]
      exact hk
theorem wx_i {B : Nat → Int32} {b e : Nat} : ∀ m w, w + m ≤ 12 → (wxF B b e m w = -1 ∧ ∀ v, w ≤ v → v < w + m → ¬ wm B v b e) ∨ ∃ v, w ≤ v ∧ v < w + m ∧ wxF B b e m w = nI v ∧ wm B v b e := by
  intro m
  induction m with
  | zero => intro w _; exact Or.inl ⟨rfl, fun v h1 h2 => by omega⟩
  | succ m ih =>
    intro w hw
    by_cases c : wmB B w b e = true
    · exact Or.inr ⟨w, Nat.le_refl _, by omega, if_pos c, wmB_i.mp c⟩
    · have ek : wxF B b e (m + 1) w = wxF B b e m (w + 1) := if_neg c
      rw [ek]
      rcases ih (w + 1) (by omega) with ⟨h1, h2⟩ | ⟨v, h1, h2, h3, h4⟩
      · refine Or.inl ⟨h1, fun v a b => ?_⟩
        by_cases d : v = w
        · rw [d]
          exact fun z => c (wmB_i.mpr z)
        · exact h2 v (by omega) (by omega)
      · exact Or.inr ⟨v, by omega, by omega, h3, h4⟩
/-- which word it is -/
theorem wx_iff {B : Nat → Int32} {b e w : Nat} (hw : w < 12) : wxF B b e 12 0 = nI w ↔ wm B w b e := by
  rcases wx_i (B := B) (b := b) (e := e) 12 0 (by omega) with ⟨h1, h2⟩ | ⟨v, h1, h2, h3, h4⟩
  · rw [h1]
    constructor
    · intro z
      exact absurd (show (0 : Int32) ≤ -1 by rw [z]; exact nI_le (a := 0) (by omega) (by omega)) (by decide)
    · intro z
      exact absurd z (h2 w (by omega) (by omega))
  · rw [h3]
    constructor
    · intro z
      have := nI_inj (i := v) (j := w) (by omega) (by omega) z
      rw [← this]
      exact h4
    · intro z
      rw [wm_1 hw (by omega) z h4]
theorem wx_or {B : Nat → Int32} {b e : Nat} : wxF B b e 12 0 = -1 ∨ ∃ w, w < 12 ∧ wxF B b e 12 0 = nI w := by
  rcases wx_i (B := B) (b := b) (e := e) 12 0 (by omega) with ⟨h1, h2⟩ | ⟨v, h1, h2, h3, h4⟩
  · exact Or.inl h1
  · exact Or.inr ⟨v, by omega, h3⟩
/-! the class's tokens -/
theorem C_isLetter {d : Nat} {M : Mem} {x : Int32} : call (d + 1) 93 [.int x] M = some (some (.int (if isL x then 1 else 0)), M) := by
  rw [nX4_isLetter]
  by_cases h1 : x < 97
  · rw [if_neg (fun z => absurd z.1 (Int32.not_le.mpr h1))]
    simp only [sX4_isLetter_0, sX4_isLetter_1, sX4_isLetter_3, sX4_isLetter_6, sX4_isLetter_7, sX4_isLetter_9, sX4_isLetter_12, sX4_isLetter_13, sX4_isLetter_16, sX4_isLetter_17, opK_some, guK_true, calK_some, rk_nil, rk_int, rk_ref, tl_some, tl_none, nb_int, nb_0, nb_1, nb_if, nb_if', h1, if_true]
  · by_cases h2 : 122 < x
    · rw [if_neg (fun z => absurd z.2 (Int32.not_le.mpr h2))]
      simp only [sX4_isLetter_0, sX4_isLetter_1, sX4_isLetter_3, sX4_isLetter_6, sX4_isLetter_7, sX4_isLetter_9, sX4_isLetter_12, sX4_isLetter_13, sX4_isLetter_16, sX4_isLetter_17, opK_some, guK_true, calK_some, rk_nil, rk_int, rk_ref, tl_some, tl_none, nb_int, nb_0, nb_1, nb_if, nb_if', h1, h2, if_true, if_false]
    · rw [if_pos ⟨Int32.not_lt.mp h1, Int32.not_lt.mp h2⟩]
      simp only [sX4_isLetter_0, sX4_isLetter_1, sX4_isLetter_3, sX4_isLetter_6, sX4_isLetter_7, sX4_isLetter_9, sX4_isLetter_12, sX4_isLetter_13, sX4_isLetter_16, sX4_isLetter_17, opK_some, guK_true, calK_some, rk_nil, rk_int, rk_ref, tl_some, tl_none, nb_int, nb_0, nb_1, nb_if, nb_if', h1, h2, if_false]
theorem C_isDigit {d : Nat} {M : Mem} {x : Int32} : call (d + 1) 105 [.int x] M = some (some (.int (if isD x then 1 else 0)), M) := by
  rw [nX4_isDigit]
  by_cases h1 : x < 48
  · rw [if_neg (fun z => absurd z.1 (Int32.not_le.mpr h1))]
    simp only [sX4_isDigit_0, sX4_isDigit_1, sX4_isDigit_3, sX4_isDigit_6, sX4_isDigit_7, sX4_isDigit_9, sX4_isDigit_12, sX4_isDigit_13, sX4_isDigit_16, sX4_isDigit_17, opK_some, guK_true, calK_some, rk_nil, rk_int, rk_ref, tl_some, tl_none, nb_int, nb_0, nb_1, nb_if, nb_if', h1, if_true]
  · by_cases h2 : 57 < x
    · rw [if_neg (fun z => absurd z.2 (Int32.not_le.mpr h2))]
      simp only [sX4_isDigit_0, sX4_isDigit_1, sX4_isDigit_3, sX4_isDigit_6, sX4_isDigit_7, sX4_isDigit_9, sX4_isDigit_12, sX4_isDigit_13, sX4_isDigit_16, sX4_isDigit_17, opK_some, guK_true, calK_some, rk_nil, rk_int, rk_ref, tl_some, tl_none, nb_int, nb_0, nb_1, nb_if, nb_if', h1, h2, if_true, if_false]
    · rw [if_pos ⟨Int32.not_lt.mp h1, Int32.not_lt.mp h2⟩]
      simp only [sX4_isDigit_0, sX4_isDigit_1, sX4_isDigit_3, sX4_isDigit_6, sX4_isDigit_7, sX4_isDigit_9, sX4_isDigit_12, sX4_isDigit_13, sX4_isDigit_16, sX4_isDigit_17, opK_some, guK_true, calK_some, rk_nil, rk_int, rk_ref, tl_some, tl_none, nb_int, nb_0, nb_1, nb_if, nb_if', h1, h2, if_false]
theorem L_number {d e b : Nat} {M : Mem} (he : e ≤ 120) : ∀ (m i : Nat) (v : Int32), i + m = e →
    lim (call (d + 0)) none 4 cX4_numberBetween (some .int) 5 [some (.ref 7), some (.int (nI b)), some (.int (nI e)), some (.int v), some (.int (nI i))] [] M = some (some (.int (nuF (M 91) m i v)), M) := by
  intro m
  induction m with
  | zero =>
    intro i v hi
    obtain rfl : i = e := by omega
    rw [sX4_numberBetween_5]
    simp only [sX4_numberBetween_0, sX4_numberBetween_1, sX4_numberBetween_2, sX4_numberBetween_3, sX4_numberBetween_7, sX4_numberBetween_8, sX4_numberBetween_11, sX4_numberBetween_14, sX4_numberBetween_15, sX4_numberBetween_17, sX4_numberBetween_18, sX4_numberBetween_19, sX4_numberBetween_22, sX4_numberBetween_24, sX4_numberBetween_25, sX4_numberBetween_26, sX4_numberBetween_28, sX4_numberBetween_29, sX4_numberBetween_32, sX4_numberBetween_33, sX4_numberBetween_36, sX4_numberBetween_39, sX4_numberBetween_40, opK_some, guK_true, calK_some, rk_nil, rk_int, rk_ref, tl_some, tl_none, nb_int, nb_0, nb_1, nb_if, nb_if']
    rw [if_pos (show nI i ≤ nI i from Int32.le_refl _)]
    rfl
  | succ m ih =>
    intro i v hi
    rw [sX4_numberBetween_5]
    simp only [sX4_numberBetween_0, sX4_numberBetween_1, sX4_numberBetween_2, sX4_numberBetween_3, sX4_numberBetween_7, sX4_numberBetween_8, sX4_numberBetween_11, sX4_numberBetween_14, sX4_numberBetween_15, sX4_numberBetween_17, sX4_numberBetween_18, sX4_numberBetween_19, sX4_numberBetween_22, sX4_numberBetween_24, sX4_numberBetween_25, sX4_numberBetween_26, sX4_numberBetween_28, sX4_numberBetween_29, sX4_numberBetween_32, sX4_numberBetween_33, sX4_numberBetween_36, sX4_numberBetween_39, sX4_numberBetween_40, opK_some, guK_true, calK_some, rk_nil, rk_int, rk_ref, tl_some, tl_none, nb_int, nb_0, nb_1, nb_if, nb_if', o7_0, a91, inb_nI (show i < 120 by omega) (by omega), nI_clamp (show i < 2 ^ 31 by omega), nI_1]
    rw [if_neg (show ¬ nI e ≤ nI i from nI_ge (by omega) (by omega))]
    exact ih (i + 1) _ (by omega)
theorem C_number {d e b : Nat} {M : Mem} (he : e ≤ 120) (hb : b ≤ e) : call (d + 1) 106 [.ref 7, .int (nI b), .int (nI e)] M = some (some (.int (nuF (M 91) (e - b) b 0)), M) := by
  rw [nX4_numberBetween]
  simp only [sX4_numberBetween_0, sX4_numberBetween_1, sX4_numberBetween_2, sX4_numberBetween_3, sX4_numberBetween_7, sX4_numberBetween_8, sX4_numberBetween_11, sX4_numberBetween_14, sX4_numberBetween_15, sX4_numberBetween_17, sX4_numberBetween_18, sX4_numberBetween_19, sX4_numberBetween_22, sX4_numberBetween_24, sX4_numberBetween_25, sX4_numberBetween_26, sX4_numberBetween_28, sX4_numberBetween_29, sX4_numberBetween_32, sX4_numberBetween_33, sX4_numberBetween_36, sX4_numberBetween_39, sX4_numberBetween_40, opK_some, guK_true, calK_some, rk_nil, rk_int, rk_ref, tl_some, tl_none, nb_int, nb_0, nb_1, nb_if, nb_if']
  exact L_number he (e - b) b 0 (by omega)
theorem L_isWord {d w b e : Nat} {M : Mem} (hw : w < 12) (he : e ≤ 120) (hbe : b ≤ e) (hl : wl w = e - b) : ∀ (m k : Nat), k + m = wl w → (∀ i, i < k → wc w i = M 91 (b + i)) →
    lim (call (d + 4)) none 4 cX4_isWord (some .boolean) 15 [some (.ref 7), some (.ref (160 + w)), some (.int (nI b)), some (.int (nI e)), some (.int (nI k))] [] M = some (some (.int (if wmB (M 91) w b e = true then 1 else 0)), M) := by
  have l6 := wl_le w hw
  have cl := C_length (d := d + 2) (M := M) hw
  rw [show d + 2 + 2 = d + 4 from rfl] at cl
  intro m
  induction m with
  | zero =>
    intro k hk hp
    obtain rfl : k = wl w := by omega
    rw [sX4_isWord_15]
    simp only [sX4_isWord_0, sX4_isWord_1, sX4_isWord_4, sX4_isWord_5, sX4_isWord_6, sX4_isWord_7, sX4_isWord_10, sX4_isWord_11, sX4_isWord_12, sX4_isWord_13, sX4_isWord_17, sX4_isWord_18, sX4_isWord_21, sX4_isWord_24, sX4_isWord_25, sX4_isWord_27, sX4_isWord_30, sX4_isWord_31, sX4_isWord_34, sX4_isWord_35, sX4_isWord_37, sX4_isWord_38, sX4_isWord_39, sX4_isWord_42, sX4_isWord_43, sX4_isWord_44, sX4_isWord_47, sX4_isWord_50, sX4_isWord_51, opK_some, guK_true, calK_some, rk_nil, rk_int, rk_ref, tl_some, tl_none, nb_int, nb_0, nb_1, nb_if, nb_if', str_cl w hw, cl]
    rw [if_pos (show nI (wl w) ≤ nI (wl w) from Int32.le_refl _), if_pos (wmB_i.mpr ⟨hl, hp⟩)]
  | succ m ih =>
    intro k hk hp
    have cc := C_charAt (d := d) (M := M) hw (show k < wl w by omega)
    rw [sX4_isWord_15]
    simp only [sX4_isWord_0, sX4_isWord_1, sX4_isWord_4, sX4_isWord_5, sX4_isWord_6, sX4_isWord_7, sX4_isWord_10, sX4_isWord_11, sX4_isWord_12, sX4_isWord_13, sX4_isWord_17, sX4_isWord_18, sX4_isWord_21, sX4_isWord_24, sX4_isWord_25, sX4_isWord_27, sX4_isWord_30, sX4_isWord_31, sX4_isWord_34, sX4_isWord_35, sX4_isWord_37, sX4_isWord_38, sX4_isWord_39, sX4_isWord_42, sX4_isWord_43, sX4_isWord_44, sX4_isWord_47, sX4_isWord_50, sX4_isWord_51, opK_some, guK_true, calK_some, rk_nil, rk_int, rk_ref, tl_some, tl_none, nb_int, nb_0, nb_1, nb_if, nb_if', str_cl w hw, cl, cc, o7_0, a91, nI_add, inb_nI (show b + k < 120 by omega) (by omega), nI_clamp (show b + k < 2 ^ 31 by omega), nI_1]
    rw [if_neg (show ¬ nI (wl w) ≤ nI k from nI_ge (by omega) (by omega))]
    by_cases c : wc w k = M 91 (b + k)
    · rw [if_pos c]
      refine ih (k + 1) (by omega) (fun i hi => ?_)
      by_cases z : i = k
      · rw [z]
        exact c
      · exact hp i (by omega)
    · rw [if_neg c, if_neg (fun z => c ((wmB_i.mp z).2 k (by omega)))]
theorem C_isWord {d w b e : Nat} {M : Mem} (hw : w < 12) (he : e ≤ 120) (hbe : b ≤ e) : call (d + 5) 96 [.ref 7, .ref (160 + w), .int (nI b), .int (nI e)] M = some (some (.int (if wmB (M 91) w b e = true then 1 else 0)), M) := by
  have l6 := wl_le w hw
  have cl := C_length (d := d + 2) (M := M) hw
  rw [show d + 2 + 2 = d + 4 from rfl] at cl
  rw [show d + 5 = d + 4 + 1 from rfl, nX4_isWord]
  simp only [sX4_isWord_0, sX4_isWord_1, sX4_isWord_4, sX4_isWord_5, sX4_isWord_6, sX4_isWord_7, sX4_isWord_10, sX4_isWord_11, sX4_isWord_12, sX4_isWord_13, sX4_isWord_17, sX4_isWord_18, sX4_isWord_21, sX4_isWord_24, sX4_isWord_25, sX4_isWord_27, sX4_isWord_30, sX4_isWord_31, sX4_isWord_34, sX4_isWord_35, sX4_isWord_37, sX4_isWord_38, sX4_isWord_39, sX4_isWord_42, sX4_isWord_43, sX4_isWord_44, sX4_isWord_47, sX4_isWord_50, sX4_isWord_51, opK_some, guK_true, calK_some, rk_nil, rk_int, rk_ref, tl_some, tl_none, nb_int, nb_0, nb_1, nb_if, nb_if', str_cl w hw, cl, pk_sub hbe]
  by_cases c : wl w = e - b
  · rw [if_pos (by rw [c])]
    exact L_isWord (d := d) hw he hbe c (wl w) 0 (by omega) (fun i hi => absurd hi (Nat.not_lt_zero i))
  · rw [if_neg (fun z => c (nI_inj (by omega) (by omega) z)), if_neg (fun z => c (wmB_i.mp z).1)]
theorem L_wordBetween {d b e : Nat} {M : Mem} (he : e ≤ 120) (hbe : b ≤ e) : ∀ (m w : Nat), w + m = 12 →
    lim (call (d + 5)) none 4 cX4_wordBetween (some .int) 2 [some (.ref 7), some (.int (nI b)), some (.int (nI e)), some (.int (nI w))] [] M = some (some (.int (wxF (M 91) b e m w)), M) := by
  intro m
  induction m with
  | zero =>
    intro w hw
    obtain rfl : w = 12 := by omega
    rw [sX4_wordBetween_2]
    simp only [sX4_wordBetween_0, sX4_wordBetween_1, sX4_wordBetween_3, sX4_wordBetween_5, sX4_wordBetween_8, sX4_wordBetween_9, sX4_wordBetween_10, sX4_wordBetween_13, sX4_wordBetween_14, sX4_wordBetween_15, sX4_wordBetween_18, sX4_wordBetween_21, sX4_wordBetween_22, sX4_wordBetween_23, sX4_wordBetween_26, sX4_wordBetween_29, sX4_wordBetween_30, opK_some, guK_true, calK_some, rk_nil, rk_int, rk_ref, tl_some, tl_none, nb_int, nb_0, nb_1, nb_if, nb_if']
    rw [if_pos (show (11 : Int32) < nI 12 by decide)]
    rfl
  | succ m ih =>
    intro w hw
    have c1 := C_wordOf (d := d + 4) (M := M) w (by omega)
    rw [show d + 4 + 1 = d + 5 from rfl] at c1
    have c2 := C_isWord (d := d) (M := M) (w := w) (by omega) he hbe
    rw [sX4_wordBetween_2]
    simp only [sX4_wordBetween_0, sX4_wordBetween_1, sX4_wordBetween_3, sX4_wordBetween_5, sX4_wordBetween_8, sX4_wordBetween_9, sX4_wordBetween_10, sX4_wordBetween_13, sX4_wordBetween_14, sX4_wordBetween_15, sX4_wordBetween_18, sX4_wordBetween_21, sX4_wordBetween_22, sX4_wordBetween_23, sX4_wordBetween_26, sX4_wordBetween_29, sX4_wordBetween_30, opK_some, guK_true, calK_some, rk_nil, rk_int, rk_ref, tl_some, tl_none, nb_int, nb_0, nb_1, nb_if, nb_if', q7, c1, c2, nI_1]
    rw [if_neg (show ¬ (11 : Int32) < nI w from nI_nlt (a := 11) (by omega) (by omega))]
    by_cases c : wmB (M 91) w b e = true
    · have ek : wxF (M 91) b e (m + 1) w = nI w := if_pos c
      rw [if_pos c, if_neg (by decide), ek]
    · have ek : wxF (M 91) b e (m + 1) w = wxF (M 91) b e m (w + 1) := if_neg c
      rw [if_neg c, if_pos rfl, ek]
      exact ih (w + 1) (by omega)
theorem C_wordBetween {d b e : Nat} {M : Mem} (he : e ≤ 120) (hbe : b ≤ e) : call (d + 6) 94 [.ref 7, .int (nI b), .int (nI e)] M = some (some (.int (wxF (M 91) b e 12 0)), M) := by
  rw [show d + 6 = d + 5 + 1 from rfl, nX4_wordBetween]
  simp only [sX4_wordBetween_0, sX4_wordBetween_1, sX4_wordBetween_3, sX4_wordBetween_5, sX4_wordBetween_8, sX4_wordBetween_9, sX4_wordBetween_10, sX4_wordBetween_13, sX4_wordBetween_14, sX4_wordBetween_15, sX4_wordBetween_18, sX4_wordBetween_21, sX4_wordBetween_22, sX4_wordBetween_23, sX4_wordBetween_26, sX4_wordBetween_29, sX4_wordBetween_30, opK_some, guK_true, calK_some, rk_nil, rk_int, rk_ref, tl_some, tl_none, nb_int, nb_0, nb_1, nb_if, nb_if']
  exact L_wordBetween he hbe 12 0 (by omega)

