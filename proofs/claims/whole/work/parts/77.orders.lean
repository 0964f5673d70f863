/-! orders: the row's next one -/
def iS (a : Nat → Nat) : Nat → Nat
  | 0 => 0
  | i + 1 => if a (i + 1) < a i then iS a i else i + 1
def jS (a : Nat → Nat) (x : Nat) : Nat → Nat
  | 0 => 0
  | j + 1 => if x < j + 1 ∧ a (j + 1) < a x then jS a x j else j + 1
def swF (a : Nat → Nat) (x y : Nat) : Nat → Nat := fun k => if k = y then a x else if k = x then a y else a k
def rvS : Nat → Nat → Nat → (Nat → Nat) → Nat → Nat
  | 0, _, _, a => a
  | f + 1, x, y, a => if x < y then rvS f (x + 1) (y - 1) (swF a x y) else a
def nxF (a : Nat → Nat) (size : Nat) : Nat → Nat := rvS size (iS a (size - 1)) (size - 1) (swF a (iS a (size - 1) - 1) (jS a (iS a (size - 1) - 1) (size - 1)))
theorem iS_le (a : Nat → Nat) : ∀ n, iS a n ≤ n := by
  intro n
  induction n with
  | zero => exact Nat.le_refl _
  | succ n ih =>
    show (if a (n + 1) < a n then iS a n else n + 1) ≤ n + 1
    split <;> omega
theorem jS_le (a : Nat → Nat) (x : Nat) : ∀ n, jS a x n ≤ n := by
  intro n
  induction n with
  | zero => exact Nat.le_refl _
  | succ n ih =>
    show (if x < n + 1 ∧ a (n + 1) < a x then jS a x n else n + 1) ≤ n + 1
    split <;> omega
/-- a row of the class: what lies in it, below size -/
def Rr (M : Mem) (a : Nat → Nat) (size : Nat) : Prop := ∀ k, k < size → a k < 10 ∧ M 2 k = nI (a k)
theorem C_swap {d x y size : Nat} {M : Mem} {a : Nat → Nat} (h : Rr M a size) (hs : size ≤ 10) (hx : x < size) (hy : y < size) : ∃ M', call (d + 1) 53 [.ref 0, .int (nI x), .int (nI y)] M = some (none, M') ∧ Rr M' (swF a x y) size ∧ ∀ k, k ≠ 2 → M' k = M k := by
  obtain ⟨M1, hM1⟩ : ∃ M1, M1 = mset M 2 x (nI (a y)) := ⟨_, rfl⟩
  obtain ⟨M2, hM2⟩ : ∃ M2, M2 = mset M1 2 y (nI (a x)) := ⟨_, rfl⟩
  rw [nX5_swapInRow]
  simp only [sX5_swapInRow_0, sX5_swapInRow_1, sX5_swapInRow_4, sX5_swapInRow_5, sX5_swapInRow_6, sX5_swapInRow_7, sX5_swapInRow_8, sX5_swapInRow_11, sX5_swapInRow_12, sX5_swapInRow_13, sX5_swapInRow_16, sX5_swapInRow_17, sX5_swapInRow_19, sX5_swapInRow_20, sX5_swapInRow_23, sX5_swapInRow_24, sX5_swapInRow_26, opK_some, guK_true, calK_some, rk_nil, rk_int, rk_ref, tl_some, tl_none, nb_int, nb_0, nb_1, nb_if, nb_if', o0_8, a2, inb_nI (show x < 10 by omega) (by omega), inb_nI (show y < 10 by omega) (by omega), nI_clamp (show x < 2 ^ 31 by omega), nI_clamp (show y < 2 ^ 31 by omega), (h x hx).2, (h y hy).2]
  rw [sX5_swapInRow_18]
  simp only [sX5_swapInRow_0, sX5_swapInRow_1, sX5_swapInRow_4, sX5_swapInRow_5, sX5_swapInRow_6, sX5_swapInRow_7, sX5_swapInRow_8, sX5_swapInRow_11, sX5_swapInRow_12, sX5_swapInRow_13, sX5_swapInRow_16, sX5_swapInRow_17, sX5_swapInRow_19, sX5_swapInRow_20, sX5_swapInRow_23, sX5_swapInRow_24, sX5_swapInRow_26, opK_some, guK_true, calK_some, rk_nil, rk_int, rk_ref, tl_some, tl_none, nb_int, nb_0, nb_1, nb_if, nb_if', o0_8, b2, inb_nI (show x < 10 by omega) (by omega), nI_clamp (show x < 2 ^ 31 by omega), ← hM1]
  rw [sX5_swapInRow_25]
  simp only [sX5_swapInRow_0, sX5_swapInRow_1, sX5_swapInRow_4, sX5_swapInRow_5, sX5_swapInRow_6, sX5_swapInRow_7, sX5_swapInRow_8, sX5_swapInRow_11, sX5_swapInRow_12, sX5_swapInRow_13, sX5_swapInRow_16, sX5_swapInRow_17, sX5_swapInRow_19, sX5_swapInRow_20, sX5_swapInRow_23, sX5_swapInRow_24, sX5_swapInRow_26, opK_some, guK_true, calK_some, rk_nil, rk_int, rk_ref, tl_some, tl_none, nb_int, nb_0, nb_1, nb_if, nb_if', b2, inb_nI (show y < 10 by omega) (by omega), nI_clamp (show y < 2 ^ 31 by omega), ← hM2]
  refine ⟨M2, rfl, fun k hk => ?_, fun k hk => by rw [hM2, mset_ne hk, hM1, mset_ne hk]⟩
  unfold swF
  rw [hM2, mset_at]
  by_cases c : k = y
  · rw [c, upd_at, if_pos rfl]
    exact ⟨(h x hx).1, rfl⟩
  · rw [upd_ne c, if_neg c, hM1, mset_at]
    by_cases e : k = x
    · rw [e, upd_at, if_pos rfl]
      exact ⟨(h y hy).1, rfl⟩
    · rw [upd_ne e, if_neg e]
      exact h k hk
theorem L_ti {d size : Nat} {M : Mem} {a : Nat → Nat} {u v w : Option Value} (h : Rr M a size) (hs : size ≤ 10) : ∀ (t : Nat), t + 1 ≤ size →
    lim (call (d + 1)) none 5 cX5_turnRow (some .boolean) 4 [some (.ref 0), some (.int (nI size)), some (.int (ixI t)), u, v, w] [] M = lim (call (d + 1)) none 5 cX5_turnRow (some .boolean) 31 [some (.ref 0), some (.int (nI size)), some (.int (ixI (iS a t))), u, v, w] [] M := by
  intro t
  induction t with
  | zero =>
    intro _
    rw [sX5_turnRow_4]
    simp only [sX5_turnRow_0, sX5_turnRow_1, sX5_turnRow_2, sX5_turnRow_3, sX5_turnRow_5, sX5_turnRow_8, sX5_turnRow_9, sX5_turnRow_12, sX5_turnRow_13, sX5_turnRow_14, sX5_turnRow_15, sX5_turnRow_18, sX5_turnRow_19, sX5_turnRow_20, sX5_turnRow_21, sX5_turnRow_22, sX5_turnRow_25, sX5_turnRow_28, sX5_turnRow_32, sX5_turnRow_35, sX5_turnRow_36, sX5_turnRow_37, sX5_turnRow_38, sX5_turnRow_39, sX5_turnRow_40, sX5_turnRow_42, sX5_turnRow_43, sX5_turnRow_46, sX5_turnRow_47, sX5_turnRow_50, sX5_turnRow_51, sX5_turnRow_52, sX5_turnRow_53, sX5_turnRow_56, sX5_turnRow_57, sX5_turnRow_58, sX5_turnRow_61, sX5_turnRow_64, sX5_turnRow_67, sX5_turnRow_68, sX5_turnRow_69, sX5_turnRow_70, sX5_turnRow_73, sX5_turnRow_74, sX5_turnRow_75, sX5_turnRow_76, sX5_turnRow_78, sX5_turnRow_79, sX5_turnRow_80, sX5_turnRow_81, sX5_turnRow_85, sX5_turnRow_87, sX5_turnRow_90, sX5_turnRow_91, sX5_turnRow_93, sX5_turnRow_95, sX5_turnRow_98, sX5_turnRow_101, sX5_turnRow_104, sX5_turnRow_107, sX5_turnRow_108, opK_some, guK_true, calK_some, rk_nil, rk_int, rk_ref, tl_some, tl_none, nb_int, nb_0, nb_1, nb_if, nb_if']
    rw [show ixI 0 = -1 from rfl, if_pos (by decide)]
    rfl
  | succ t ih =>
    intro ht
    have hn : ¬ nI t < 0 := nI_nlt (b := 0) (by omega) (by omega)
    obtain ⟨l1, e1⟩ := h t (by omega)
    obtain ⟨l2, e2⟩ := h (t + 1) (by omega)
    rw [sX5_turnRow_4]
    simp only [sX5_turnRow_0, sX5_turnRow_1, sX5_turnRow_2, sX5_turnRow_3, sX5_turnRow_5, sX5_turnRow_8, sX5_turnRow_9, sX5_turnRow_12, sX5_turnRow_13, sX5_turnRow_14, sX5_turnRow_15, sX5_turnRow_18, sX5_turnRow_19, sX5_turnRow_20, sX5_turnRow_21, sX5_turnRow_22, sX5_turnRow_25, sX5_turnRow_28, sX5_turnRow_32, sX5_turnRow_35, sX5_turnRow_36, sX5_turnRow_37, sX5_turnRow_38, sX5_turnRow_39, sX5_turnRow_40, sX5_turnRow_42, sX5_turnRow_43, sX5_turnRow_46, sX5_turnRow_47, sX5_turnRow_50, sX5_turnRow_51, sX5_turnRow_52, sX5_turnRow_53, sX5_turnRow_56, sX5_turnRow_57, sX5_turnRow_58, sX5_turnRow_61, sX5_turnRow_64, sX5_turnRow_67, sX5_turnRow_68, sX5_turnRow_69, sX5_turnRow_70, sX5_turnRow_73, sX5_turnRow_74, sX5_turnRow_75, sX5_turnRow_76, sX5_turnRow_78, sX5_turnRow_79, sX5_turnRow_80, sX5_turnRow_81, sX5_turnRow_85, sX5_turnRow_87, sX5_turnRow_90, sX5_turnRow_91, sX5_turnRow_93, sX5_turnRow_95, sX5_turnRow_98, sX5_turnRow_101, sX5_turnRow_104, sX5_turnRow_107, sX5_turnRow_108, opK_some, guK_true, calK_some, rk_nil, rk_int, rk_ref, tl_some, tl_none, nb_int, nb_0, nb_1, nb_if, nb_if', show ixI (t + 1) = nI t from rfl, hn, if_false, o0_8, a2, nI_1, inb_nI (show t < 10 by omega) (by omega), inb_nI (show t + 1 < 10 by omega) (by omega), nI_clamp (show t < 2 ^ 31 by omega), nI_clamp (show t + 1 < 2 ^ 31 by omega), e1, e2, ix_dn]
    by_cases c : a (t + 1) < a t
    · have ek : iS a (t + 1) = iS a t := if_pos c
      rw [if_neg (nI_ge c (by omega)), ek]
      exact ih (by omega)
    · have ek : iS a (t + 1) = t + 1 := if_neg c
      rw [if_pos (nI_le (by omega) (by omega)), ek]
      rfl
theorem L_tj {d size x : Nat} {M : Mem} {a : Nat → Nat} {v w : Option Value} (h : Rr M a size) (hs : size ≤ 10) (hx : x < size) : ∀ (j : Nat), j < size →
    lim (call (d + 1)) none 5 cX5_turnRow (some .boolean) 41 [some (.ref 0), some (.int (nI size)), some (.int (nI x)), some (.int (nI j)), v, w] [] M = lim (call (d + 1)) none 5 cX5_turnRow (some .boolean) 67 [some (.ref 0), some (.int (nI size)), some (.int (nI x)), some (.int (nI (jS a x j))), v, w] [] M := by
  intro j
  induction j with
  | zero =>
    intro _
    rw [sX5_turnRow_41]
    simp only [sX5_turnRow_0, sX5_turnRow_1, sX5_turnRow_2, sX5_turnRow_3, sX5_turnRow_5, sX5_turnRow_8, sX5_turnRow_9, sX5_turnRow_12, sX5_turnRow_13, sX5_turnRow_14, sX5_turnRow_15, sX5_turnRow_18, sX5_turnRow_19, sX5_turnRow_20, sX5_turnRow_21, sX5_turnRow_22, sX5_turnRow_25, sX5_turnRow_28, sX5_turnRow_32, sX5_turnRow_35, sX5_turnRow_36, sX5_turnRow_37, sX5_turnRow_38, sX5_turnRow_39, sX5_turnRow_40, sX5_turnRow_42, sX5_turnRow_43, sX5_turnRow_46, sX5_turnRow_47, sX5_turnRow_50, sX5_turnRow_51, sX5_turnRow_52, sX5_turnRow_53, sX5_turnRow_56, sX5_turnRow_57, sX5_turnRow_58, sX5_turnRow_61, sX5_turnRow_64, sX5_turnRow_68, sX5_turnRow_69, sX5_turnRow_70, sX5_turnRow_73, sX5_turnRow_74, sX5_turnRow_75, sX5_turnRow_76, sX5_turnRow_78, sX5_turnRow_79, sX5_turnRow_80, sX5_turnRow_81, sX5_turnRow_85, sX5_turnRow_87, sX5_turnRow_90, sX5_turnRow_91, sX5_turnRow_93, sX5_turnRow_95, sX5_turnRow_98, sX5_turnRow_101, sX5_turnRow_104, sX5_turnRow_107, sX5_turnRow_108, opK_some, guK_true, calK_some, rk_nil, rk_int, rk_ref, tl_some, tl_none, nb_int, nb_0, nb_1, nb_if, nb_if']
    rw [if_pos (show nI 0 ≤ nI x from nI_le (by omega) (by omega))]
    rfl
  | succ j ih =>
    intro hj
    obtain ⟨l1, e1⟩ := h (j + 1) hj
    obtain ⟨l2, e2⟩ := h x hx
    rw [sX5_turnRow_41]
    simp only [sX5_turnRow_0, sX5_turnRow_1, sX5_turnRow_2, sX5_turnRow_3, sX5_turnRow_5, sX5_turnRow_8, sX5_turnRow_9, sX5_turnRow_12, sX5_turnRow_13, sX5_turnRow_14, sX5_turnRow_15, sX5_turnRow_18, sX5_turnRow_19, sX5_turnRow_20, sX5_turnRow_21, sX5_turnRow_22, sX5_turnRow_25, sX5_turnRow_28, sX5_turnRow_32, sX5_turnRow_35, sX5_turnRow_36, sX5_turnRow_37, sX5_turnRow_38, sX5_turnRow_39, sX5_turnRow_40, sX5_turnRow_42, sX5_turnRow_43, sX5_turnRow_46, sX5_turnRow_47, sX5_turnRow_50, sX5_turnRow_51, sX5_turnRow_52, sX5_turnRow_53, sX5_turnRow_56, sX5_turnRow_57, sX5_turnRow_58, sX5_turnRow_61, sX5_turnRow_64, sX5_turnRow_68, sX5_turnRow_69, sX5_turnRow_70, sX5_turnRow_73, sX5_turnRow_74, sX5_turnRow_75, sX5_turnRow_76, sX5_turnRow_78, sX5_turnRow_79, sX5_turnRow_80, sX5_turnRow_81, sX5_turnRow_85, sX5_turnRow_87, sX5_turnRow_90, sX5_turnRow_91, sX5_turnRow_93, sX5_turnRow_95, sX5_turnRow_98, sX5_turnRow_101, sX5_turnRow_104, sX5_turnRow_107, sX5_turnRow_108, opK_some, guK_true, calK_some, rk_nil, rk_int, rk_ref, tl_some, tl_none, nb_int, nb_0, nb_1, nb_if, nb_if', o0_8, a2, inb_nI (show j + 1 < 10 by omega) (by omega), inb_nI (show x < 10 by omega) (by omega), nI_clamp (show j + 1 < 2 ^ 31 by omega), nI_clamp (show x < 2 ^ 31 by omega), e1, e2, pk_m1]
    by_cases c1 : x < j + 1
    · rw [if_neg (show ¬ nI (j + 1) ≤ nI x from nI_ge c1 (by omega))]
      by_cases c2 : a (j + 1) < a x
      · have ek : jS a x (j + 1) = jS a x j := if_pos ⟨c1, c2⟩
        rw [if_neg (nI_ge c2 (by omega)), ek]
        exact ih (by omega)
      · have ek : jS a x (j + 1) = j + 1 := if_neg (fun z => c2 z.2)
        rw [if_pos (nI_le (by omega) (by omega)), ek]
    · have ek : jS a x (j + 1) = j + 1 := if_neg (fun z => c1 z.1)
      rw [if_pos (show nI (j + 1) ≤ nI x from nI_le (by omega) (by omega)), ek]
theorem L_tr {d size : Nat} {M : Mem} {u v : Option Value} (hs : size ≤ 10) : ∀ (f x y : Nat) (a : Nat → Nat) (M1 : Mem), y < size → x ≤ 10 → y < x + f → Rr M1 a size → (∀ k, k ≠ 2 → M1 k = M k) →
    ∃ M', lim (call (d + 1)) none 5 cX5_turnRow (some .boolean) 83 [some (.ref 0), some (.int (nI size)), u, v, some (.int (nI x)), some (.int (nI y))] [] M1 = some (some (.int 1), M') ∧ Rr M' (rvS f x y a) size ∧ ∀ k, k ≠ 2 → M' k = M k := by
  intro f
  induction f with
  | zero =>
    intro x y a M1 hy hx hf h o
    rw [sX5_turnRow_83]
    simp only [sX5_turnRow_0, sX5_turnRow_1, sX5_turnRow_2, sX5_turnRow_3, sX5_turnRow_5, sX5_turnRow_8, sX5_turnRow_9, sX5_turnRow_12, sX5_turnRow_13, sX5_turnRow_14, sX5_turnRow_15, sX5_turnRow_18, sX5_turnRow_19, sX5_turnRow_20, sX5_turnRow_21, sX5_turnRow_22, sX5_turnRow_25, sX5_turnRow_28, sX5_turnRow_32, sX5_turnRow_35, sX5_turnRow_36, sX5_turnRow_37, sX5_turnRow_38, sX5_turnRow_39, sX5_turnRow_40, sX5_turnRow_42, sX5_turnRow_43, sX5_turnRow_46, sX5_turnRow_47, sX5_turnRow_50, sX5_turnRow_51, sX5_turnRow_52, sX5_turnRow_53, sX5_turnRow_56, sX5_turnRow_57, sX5_turnRow_58, sX5_turnRow_61, sX5_turnRow_64, sX5_turnRow_67, sX5_turnRow_68, sX5_turnRow_69, sX5_turnRow_70, sX5_turnRow_73, sX5_turnRow_74, sX5_turnRow_75, sX5_turnRow_76, sX5_turnRow_78, sX5_turnRow_79, sX5_turnRow_80, sX5_turnRow_81, sX5_turnRow_85, sX5_turnRow_87, sX5_turnRow_90, sX5_turnRow_91, sX5_turnRow_93, sX5_turnRow_95, sX5_turnRow_98, sX5_turnRow_101, sX5_turnRow_104, sX5_turnRow_107, sX5_turnRow_108, opK_some, guK_true, calK_some, rk_nil, rk_int, rk_ref, tl_some, tl_none, nb_int, nb_0, nb_1, nb_if, nb_if']
    rw [if_pos (show nI y ≤ nI x from nI_le (by omega) (by omega))]
    exact ⟨M1, rfl, h, o⟩
  | succ f ih =>
    intro x y a M1 hy hx hf h o
    rw [sX5_turnRow_83]
    by_cases c : x < y
    · obtain ⟨M2, c2, h2, o2⟩ := C_swap (d := d + 0) h hs (show x < size by omega) hy
      rw [show d + 0 + 1 = d + 1 from rfl] at c2
      obtain ⟨y', rfl⟩ : ∃ y', y = y' + 1 := ⟨y - 1, by omega⟩
      obtain ⟨M3, c3, h3, o3⟩ := ih (x + 1) y' (swF a x (y' + 1)) M2 (by omega) (by omega) (by omega) h2 (fun k hk => (o2 k hk).trans (o k hk))
      have ek : rvS (f + 1) x (y' + 1) a = rvS f (x + 1) y' (swF a x (y' + 1)) := if_pos c
      simp only [sX5_turnRow_0, sX5_turnRow_1, sX5_turnRow_2, sX5_turnRow_3, sX5_turnRow_5, sX5_turnRow_8, sX5_turnRow_9, sX5_turnRow_12, sX5_turnRow_13, sX5_turnRow_14, sX5_turnRow_15, sX5_turnRow_18, sX5_turnRow_19, sX5_turnRow_20, sX5_turnRow_21, sX5_turnRow_22, sX5_turnRow_25, sX5_turnRow_28, sX5_turnRow_32, sX5_turnRow_35, sX5_turnRow_36, sX5_turnRow_37, sX5_turnRow_38, sX5_turnRow_39, sX5_turnRow_40, sX5_turnRow_42, sX5_turnRow_43, sX5_turnRow_46, sX5_turnRow_47, sX5_turnRow_50, sX5_turnRow_51, sX5_turnRow_52, sX5_turnRow_53, sX5_turnRow_56, sX5_turnRow_57, sX5_turnRow_58, sX5_turnRow_61, sX5_turnRow_64, sX5_turnRow_67, sX5_turnRow_68, sX5_turnRow_69, sX5_turnRow_70, sX5_turnRow_73, sX5_turnRow_74, sX5_turnRow_75, sX5_turnRow_76, sX5_turnRow_78, sX5_turnRow_79, sX5_turnRow_80, sX5_turnRow_81, sX5_turnRow_85, sX5_turnRow_87, sX5_turnRow_90, sX5_turnRow_91, sX5_turnRow_93, sX5_turnRow_95, sX5_turnRow_98, sX5_turnRow_101, sX5_turnRow_104, sX5_turnRow_107, sX5_turnRow_108, opK_some, guK_true, calK_some, rk_nil, rk_int, rk_ref, tl_some, tl_none, nb_int, nb_0, nb_1, nb_if, nb_if', q0, c2, nI_1, pk_m1]
      rw [if_neg (show ¬ nI (y' + 1) ≤ nI x from nI_ge c (by omega)), ek]
      exact ⟨M3, c3, h3, o3⟩
    · have ek : rvS (f + 1) x y a = a := if_neg c
      simp only [sX5_turnRow_0, sX5_turnRow_1, sX5_turnRow_2, sX5_turnRow_3, sX5_turnRow_5, sX5_turnRow_8, sX5_turnRow_9, sX5_turnRow_12, sX5_turnRow_13, sX5_turnRow_14, sX5_turnRow_15, sX5_turnRow_18, sX5_turnRow_19, sX5_turnRow_20, sX5_turnRow_21, sX5_turnRow_22, sX5_turnRow_25, sX5_turnRow_28, sX5_turnRow_32, sX5_turnRow_35, sX5_turnRow_36, sX5_turnRow_37, sX5_turnRow_38, sX5_turnRow_39, sX5_turnRow_40, sX5_turnRow_42, sX5_turnRow_43, sX5_turnRow_46, sX5_turnRow_47, sX5_turnRow_50, sX5_turnRow_51, sX5_turnRow_52, sX5_turnRow_53, sX5_turnRow_56, sX5_turnRow_57, sX5_turnRow_58, sX5_turnRow_61, sX5_turnRow_64, sX5_turnRow_67, sX5_turnRow_68, sX5_turnRow_69, sX5_turnRow_70, sX5_turnRow_73, sX5_turnRow_74, sX5_turnRow_75, sX5_turnRow_76, sX5_turnRow_78, sX5_turnRow_79, sX5_turnRow_80, sX5_turnRow_81, sX5_turnRow_85, sX5_turnRow_87, sX5_turnRow_90, sX5_turnRow_91, sX5_turnRow_93, sX5_turnRow_95, sX5_turnRow_98, sX5_turnRow_101, sX5_turnRow_104, sX5_turnRow_107, sX5_turnRow_108, opK_some, guK_true, calK_some, rk_nil, rk_int, rk_ref, tl_some, tl_none, nb_int, nb_0, nb_1, nb_if, nb_if']
      rw [if_pos (show nI y ≤ nI x from nI_le (by omega) (by omega)), ek]
      exact ⟨M1, rfl, h, o⟩
theorem C_turnRow {d size : Nat} {M : Mem} {a : Nat → Nat} (h : Rr M a size) (hs : size ≤ 10) : (iS a (size - 1) = 0 → call (d + 2) 52 [.ref 0, .int (nI size)] M = some (some (.int 0), M)) ∧ (iS a (size - 1) ≠ 0 → ∃ M', call (d + 2) 52 [.ref 0, .int (nI size)] M = some (some (.int 1), M') ∧ Rr M' (nxF a size) size ∧ ∀ k, k ≠ 2 → M' k = M k) := by
  cases size with
  | zero =>
    refine ⟨fun _ => ?_, fun z => absurd rfl z⟩
    rw [nX5_turnRow]
    simp only [sX5_turnRow_0, sX5_turnRow_1, sX5_turnRow_2, sX5_turnRow_3, sX5_turnRow_5, sX5_turnRow_8, sX5_turnRow_9, sX5_turnRow_12, sX5_turnRow_13, sX5_turnRow_14, sX5_turnRow_15, sX5_turnRow_18, sX5_turnRow_19, sX5_turnRow_20, sX5_turnRow_21, sX5_turnRow_22, sX5_turnRow_25, sX5_turnRow_28, sX5_turnRow_32, sX5_turnRow_35, sX5_turnRow_36, sX5_turnRow_37, sX5_turnRow_38, sX5_turnRow_39, sX5_turnRow_40, sX5_turnRow_42, sX5_turnRow_43, sX5_turnRow_46, sX5_turnRow_47, sX5_turnRow_50, sX5_turnRow_51, sX5_turnRow_52, sX5_turnRow_53, sX5_turnRow_56, sX5_turnRow_57, sX5_turnRow_58, sX5_turnRow_61, sX5_turnRow_64, sX5_turnRow_67, sX5_turnRow_68, sX5_turnRow_69, sX5_turnRow_70, sX5_turnRow_73, sX5_turnRow_74, sX5_turnRow_75, sX5_turnRow_76, sX5_turnRow_78, sX5_turnRow_79, sX5_turnRow_80, sX5_turnRow_81, sX5_turnRow_85, sX5_turnRow_87, sX5_turnRow_90, sX5_turnRow_91, sX5_turnRow_93, sX5_turnRow_95, sX5_turnRow_98, sX5_turnRow_101, sX5_turnRow_104, sX5_turnRow_107, sX5_turnRow_108, opK_some, guK_true, calK_some, rk_nil, rk_int, rk_ref, tl_some, tl_none, nb_int, nb_0, nb_1, nb_if, nb_if']
    rw [sX5_turnRow_4]
    simp only [sX5_turnRow_0, sX5_turnRow_1, sX5_turnRow_2, sX5_turnRow_3, sX5_turnRow_5, sX5_turnRow_8, sX5_turnRow_9, sX5_turnRow_12, sX5_turnRow_13, sX5_turnRow_14, sX5_turnRow_15, sX5_turnRow_18, sX5_turnRow_19, sX5_turnRow_20, sX5_turnRow_21, sX5_turnRow_22, sX5_turnRow_25, sX5_turnRow_28, sX5_turnRow_32, sX5_turnRow_35, sX5_turnRow_36, sX5_turnRow_37, sX5_turnRow_38, sX5_turnRow_39, sX5_turnRow_40, sX5_turnRow_42, sX5_turnRow_43, sX5_turnRow_46, sX5_turnRow_47, sX5_turnRow_50, sX5_turnRow_51, sX5_turnRow_52, sX5_turnRow_53, sX5_turnRow_56, sX5_turnRow_57, sX5_turnRow_58, sX5_turnRow_61, sX5_turnRow_64, sX5_turnRow_67, sX5_turnRow_68, sX5_turnRow_69, sX5_turnRow_70, sX5_turnRow_73, sX5_turnRow_74, sX5_turnRow_75, sX5_turnRow_76, sX5_turnRow_78, sX5_turnRow_79, sX5_turnRow_80, sX5_turnRow_81, sX5_turnRow_85, sX5_turnRow_87, sX5_turnRow_90, sX5_turnRow_91, sX5_turnRow_93, sX5_turnRow_95, sX5_turnRow_98, sX5_turnRow_101, sX5_turnRow_104, sX5_turnRow_107, sX5_turnRow_108, opK_some, guK_true, calK_some, rk_nil, rk_int, rk_ref, tl_some, tl_none, nb_int, nb_0, nb_1, nb_if, nb_if']
    rw [if_pos (show nI 0 - 2 < 0 by decide), sX5_turnRow_31]
    simp only [sX5_turnRow_0, sX5_turnRow_1, sX5_turnRow_2, sX5_turnRow_3, sX5_turnRow_5, sX5_turnRow_8, sX5_turnRow_9, sX5_turnRow_12, sX5_turnRow_13, sX5_turnRow_14, sX5_turnRow_15, sX5_turnRow_18, sX5_turnRow_19, sX5_turnRow_20, sX5_turnRow_21, sX5_turnRow_22, sX5_turnRow_25, sX5_turnRow_28, sX5_turnRow_32, sX5_turnRow_35, sX5_turnRow_36, sX5_turnRow_37, sX5_turnRow_38, sX5_turnRow_39, sX5_turnRow_40, sX5_turnRow_42, sX5_turnRow_43, sX5_turnRow_46, sX5_turnRow_47, sX5_turnRow_50, sX5_turnRow_51, sX5_turnRow_52, sX5_turnRow_53, sX5_turnRow_56, sX5_turnRow_57, sX5_turnRow_58, sX5_turnRow_61, sX5_turnRow_64, sX5_turnRow_67, sX5_turnRow_68, sX5_turnRow_69, sX5_turnRow_70, sX5_turnRow_73, sX5_turnRow_74, sX5_turnRow_75, sX5_turnRow_76, sX5_turnRow_78, sX5_turnRow_79, sX5_turnRow_80, sX5_turnRow_81, sX5_turnRow_85, sX5_turnRow_87, sX5_turnRow_90, sX5_turnRow_91, sX5_turnRow_93, sX5_turnRow_95, sX5_turnRow_98, sX5_turnRow_101, sX5_turnRow_104, sX5_turnRow_107, sX5_turnRow_108, opK_some, guK_true, calK_some, rk_nil, rk_int, rk_ref, tl_some, tl_none, nb_int, nb_0, nb_1, nb_if, nb_if']
    rw [if_neg (show ¬ (0 : Int32) ≤ nI 0 - 2 by decide)]
  | succ z =>
    have e2 : nI (z + 1) - 2 = ixI z := by
      cases z with
      | zero => decide
      | succ z => exact pk_sub (b := 2) (by omega)
    have e1 : nI (z + 1) - 1 = nI z := pk_sub1 (by omega)
    have st : lim (call (d + 1)) none 5 cX5_turnRow (some .boolean) 0 [some (.ref 0), some (.int (nI (z + 1))), none, none, none, none] [] M = lim (call (d + 1)) none 5 cX5_turnRow (some .boolean) 31 [some (.ref 0), some (.int (nI (z + 1))), some (.int (ixI (iS a z))), none, none, none] [] M := by
      simp only [sX5_turnRow_0, sX5_turnRow_1, sX5_turnRow_2, sX5_turnRow_3, sX5_turnRow_5, sX5_turnRow_8, sX5_turnRow_9, sX5_turnRow_12, sX5_turnRow_13, sX5_turnRow_14, sX5_turnRow_15, sX5_turnRow_18, sX5_turnRow_19, sX5_turnRow_20, sX5_turnRow_21, sX5_turnRow_22, sX5_turnRow_25, sX5_turnRow_28, sX5_turnRow_32, sX5_turnRow_35, sX5_turnRow_36, sX5_turnRow_37, sX5_turnRow_38, sX5_turnRow_39, sX5_turnRow_40, sX5_turnRow_42, sX5_turnRow_43, sX5_turnRow_46, sX5_turnRow_47, sX5_turnRow_50, sX5_turnRow_51, sX5_turnRow_52, sX5_turnRow_53, sX5_turnRow_56, sX5_turnRow_57, sX5_turnRow_58, sX5_turnRow_61, sX5_turnRow_64, sX5_turnRow_67, sX5_turnRow_68, sX5_turnRow_69, sX5_turnRow_70, sX5_turnRow_73, sX5_turnRow_74, sX5_turnRow_75, sX5_turnRow_76, sX5_turnRow_78, sX5_turnRow_79, sX5_turnRow_80, sX5_turnRow_81, sX5_turnRow_85, sX5_turnRow_87, sX5_turnRow_90, sX5_turnRow_91, sX5_turnRow_93, sX5_turnRow_95, sX5_turnRow_98, sX5_turnRow_101, sX5_turnRow_104, sX5_turnRow_107, sX5_turnRow_108, opK_some, guK_true, calK_some, rk_nil, rk_int, rk_ref, tl_some, tl_none, nb_int, nb_0, nb_1, nb_if, nb_if', e2]
      exact L_ti h hs z (by omega)
    show (iS a z = 0 → _) ∧ (iS a z ≠ 0 → _)
    refine ⟨fun h0 => ?_, fun h0 => ?_⟩
    · rw [nX5_turnRow, st, h0, sX5_turnRow_31]
      simp only [sX5_turnRow_0, sX5_turnRow_1, sX5_turnRow_2, sX5_turnRow_3, sX5_turnRow_5, sX5_turnRow_8, sX5_turnRow_9, sX5_turnRow_12, sX5_turnRow_13, sX5_turnRow_14, sX5_turnRow_15, sX5_turnRow_18, sX5_turnRow_19, sX5_turnRow_20, sX5_turnRow_21, sX5_turnRow_22, sX5_turnRow_25, sX5_turnRow_28, sX5_turnRow_32, sX5_turnRow_35, sX5_turnRow_36, sX5_turnRow_37, sX5_turnRow_38, sX5_turnRow_39, sX5_turnRow_40, sX5_turnRow_42, sX5_turnRow_43, sX5_turnRow_46, sX5_turnRow_47, sX5_turnRow_50, sX5_turnRow_51, sX5_turnRow_52, sX5_turnRow_53, sX5_turnRow_56, sX5_turnRow_57, sX5_turnRow_58, sX5_turnRow_61, sX5_turnRow_64, sX5_turnRow_67, sX5_turnRow_68, sX5_turnRow_69, sX5_turnRow_70, sX5_turnRow_73, sX5_turnRow_74, sX5_turnRow_75, sX5_turnRow_76, sX5_turnRow_78, sX5_turnRow_79, sX5_turnRow_80, sX5_turnRow_81, sX5_turnRow_85, sX5_turnRow_87, sX5_turnRow_90, sX5_turnRow_91, sX5_turnRow_93, sX5_turnRow_95, sX5_turnRow_98, sX5_turnRow_101, sX5_turnRow_104, sX5_turnRow_107, sX5_turnRow_108, opK_some, guK_true, calK_some, rk_nil, rk_int, rk_ref, tl_some, tl_none, nb_int, nb_0, nb_1, nb_if, nb_if']
      rw [if_neg (show ¬ (0 : Int32) ≤ ixI 0 by decide)]
    · have hl := iS_le a z
      obtain ⟨x, hx⟩ : ∃ x, iS a z = x + 1 := ⟨iS a z - 1, by omega⟩
      have tj := L_tj (d := d) (v := none) (w := none) h hs (show x < z + 1 by omega) z (by omega)
      have jl := jS_le a x z
      obtain ⟨M2, c2, h2, o2⟩ := C_swap (d := d + 0) h hs (show x < z + 1 by omega) (show jS a x z < z + 1 by omega)
      rw [show d + 0 + 1 = d + 1 from rfl] at c2
      obtain ⟨M3, c3, h3, o3⟩ := L_tr (d := d) (M := M) (u := some (.int (nI x))) (v := some (.int (nI (jS a x z)))) hs (z + 1) (x + 1) z (swF a x (jS a x z)) M2 (by omega) (by omega) (by omega) h2 o2
      have enx : nxF a (z + 1) = rvS (z + 1) (x + 1) z (swF a x (jS a x z)) := by
        show rvS (z + 1) (iS a z) z (swF a (iS a z - 1) (jS a (iS a z - 1) z)) = _
        rw [hx]
        rfl
      rw [nX5_turnRow, st, hx, sX5_turnRow_31]
      simp only [sX5_turnRow_0, sX5_turnRow_1, sX5_turnRow_2, sX5_turnRow_3, sX5_turnRow_5, sX5_turnRow_8, sX5_turnRow_9, sX5_turnRow_12, sX5_turnRow_13, sX5_turnRow_14, sX5_turnRow_15, sX5_turnRow_18, sX5_turnRow_19, sX5_turnRow_20, sX5_turnRow_21, sX5_turnRow_22, sX5_turnRow_25, sX5_turnRow_28, sX5_turnRow_32, sX5_turnRow_35, sX5_turnRow_36, sX5_turnRow_37, sX5_turnRow_38, sX5_turnRow_39, sX5_turnRow_40, sX5_turnRow_42, sX5_turnRow_43, sX5_turnRow_46, sX5_turnRow_47, sX5_turnRow_50, sX5_turnRow_51, sX5_turnRow_52, sX5_turnRow_53, sX5_turnRow_56, sX5_turnRow_57, sX5_turnRow_58, sX5_turnRow_61, sX5_turnRow_64, sX5_turnRow_68, sX5_turnRow_69, sX5_turnRow_70, sX5_turnRow_73, sX5_turnRow_74, sX5_turnRow_75, sX5_turnRow_76, sX5_turnRow_78, sX5_turnRow_79, sX5_turnRow_80, sX5_turnRow_81, sX5_turnRow_85, sX5_turnRow_87, sX5_turnRow_90, sX5_turnRow_91, sX5_turnRow_93, sX5_turnRow_95, sX5_turnRow_98, sX5_turnRow_101, sX5_turnRow_104, sX5_turnRow_107, sX5_turnRow_108, opK_some, guK_true, calK_some, rk_nil, rk_int, rk_ref, tl_some, tl_none, nb_int, nb_0, nb_1, nb_if, nb_if', show ixI (x + 1) = nI x from rfl, e1]
      rw [if_pos (show (0 : Int32) ≤ nI x from nI_le (a := 0) (by omega) (by omega)), tj, sX5_turnRow_67]
      simp only [sX5_turnRow_0, sX5_turnRow_1, sX5_turnRow_2, sX5_turnRow_3, sX5_turnRow_5, sX5_turnRow_8, sX5_turnRow_9, sX5_turnRow_12, sX5_turnRow_13, sX5_turnRow_14, sX5_turnRow_15, sX5_turnRow_18, sX5_turnRow_19, sX5_turnRow_20, sX5_turnRow_21, sX5_turnRow_22, sX5_turnRow_25, sX5_turnRow_28, sX5_turnRow_32, sX5_turnRow_35, sX5_turnRow_36, sX5_turnRow_37, sX5_turnRow_38, sX5_turnRow_39, sX5_turnRow_40, sX5_turnRow_42, sX5_turnRow_43, sX5_turnRow_46, sX5_turnRow_47, sX5_turnRow_50, sX5_turnRow_51, sX5_turnRow_52, sX5_turnRow_53, sX5_turnRow_56, sX5_turnRow_57, sX5_turnRow_58, sX5_turnRow_61, sX5_turnRow_64, sX5_turnRow_68, sX5_turnRow_69, sX5_turnRow_70, sX5_turnRow_73, sX5_turnRow_74, sX5_turnRow_75, sX5_turnRow_76, sX5_turnRow_78, sX5_turnRow_79, sX5_turnRow_80, sX5_turnRow_81, sX5_turnRow_85, sX5_turnRow_87, sX5_turnRow_90, sX5_turnRow_91, sX5_turnRow_93, sX5_turnRow_95, sX5_turnRow_98, sX5_turnRow_101, sX5_turnRow_104, sX5_turnRow_107, sX5_turnRow_108, opK_some, guK_true, calK_some, rk_nil, rk_int, rk_ref, tl_some, tl_none, nb_int, nb_0, nb_1, nb_if, nb_if', q0, c2, nI_1, e1]
      exact ⟨M3, c3, by rw [enx]; exact h3, o3⟩

