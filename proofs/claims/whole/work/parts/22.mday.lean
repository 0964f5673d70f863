/-! the reference: a day -/
theorem L_m_bulkIn {d : Nat} {M : Mem} (w : WR (M 131)) : ∀ (n i : Nat) (s : Int32), i + n = nC (M 131) → s = sm (fun j => M 131 (at9 (cr (M 131) j) 1)) i →
    lim (call (d + 2)) none 6 cX6_bulkIn (some .int) 4 [some (.ref 130), some (.int s), some (.int (nI i))] [] M = some (some (.int (bulkR (M 131))), M) := by
  have h8 := wr_C w
  intro n
  induction n with
  | zero =>
    intro i s hi hs
    rw [sX6_bulkIn_4]
    simp only [sX6_bulkIn_0, sX6_bulkIn_1, sX6_bulkIn_2, sX6_bulkIn_3, sX6_bulkIn_5, sX6_bulkIn_6, sX6_bulkIn_9, sX6_bulkIn_10, sX6_bulkIn_11, sX6_bulkIn_14, sX6_bulkIn_15, sX6_bulkIn_16, sX6_bulkIn_17, sX6_bulkIn_20, sX6_bulkIn_22, sX6_bulkIn_23, sX6_bulkIn_24, sX6_bulkIn_25, sX6_bulkIn_26, sX6_bulkIn_29, sX6_bulkIn_30, sX6_bulkIn_31, sX6_bulkIn_34, sX6_bulkIn_37, sX6_bulkIn_38, opK_some, guK_true, calK_some, rk_nil, rk_int, rk_ref, tl_some, tl_none, nb_int, nb_0, nb_1, nb_if, nb_if', o130_0, a131, ib_4_132, tn_4, h8.2]
    rw [if_pos (nI_le (by omega) (by omega)), hs]
    rw [show i = nC (M 131) by omega]
    rfl
  | succ n ih =>
    intro i s hi hs
    obtain ⟨c1, c2⟩ := wr_cr w (i := i) (by omega)
    rw [sX6_bulkIn_4]
    simp only [sX6_bulkIn_0, sX6_bulkIn_1, sX6_bulkIn_2, sX6_bulkIn_3, sX6_bulkIn_5, sX6_bulkIn_6, sX6_bulkIn_9, sX6_bulkIn_10, sX6_bulkIn_11, sX6_bulkIn_14, sX6_bulkIn_15, sX6_bulkIn_16, sX6_bulkIn_17, sX6_bulkIn_20, sX6_bulkIn_22, sX6_bulkIn_23, sX6_bulkIn_24, sX6_bulkIn_25, sX6_bulkIn_26, sX6_bulkIn_29, sX6_bulkIn_30, sX6_bulkIn_31, sX6_bulkIn_34, sX6_bulkIn_37, sX6_bulkIn_38, opK_some, guK_true, calK_some, rk_nil, rk_int, rk_ref, tl_some, tl_none, nb_int, nb_0, nb_1, nb_if, nb_if', o130_0, a131, q130, ib_4_132, tn_4, h8.2, I88, inb_nI (show 88 + i < 132 by omega) (by omega), nI_clamp (show 88 + i < 2 ^ 31 by omega), c2, T1 c1, nI_1]
    rw [if_neg (nI_ge (by omega) (by omega))]
    exact ih (i + 1) _ (by omega) (by rw [hs]; rfl)
theorem C_m_bulkIn {d : Nat} {M : Mem} (w : WR (M 131)) : call (d + 3) 154 [.ref 130] M = some (some (.int (bulkR (M 131))), M) := by
  rw [nX6_bulkIn]
  simp only [sX6_bulkIn_0, sX6_bulkIn_1, sX6_bulkIn_2, sX6_bulkIn_3, sX6_bulkIn_5, sX6_bulkIn_6, sX6_bulkIn_9, sX6_bulkIn_10, sX6_bulkIn_11, sX6_bulkIn_14, sX6_bulkIn_15, sX6_bulkIn_16, sX6_bulkIn_17, sX6_bulkIn_20, sX6_bulkIn_22, sX6_bulkIn_23, sX6_bulkIn_24, sX6_bulkIn_25, sX6_bulkIn_26, sX6_bulkIn_29, sX6_bulkIn_30, sX6_bulkIn_31, sX6_bulkIn_34, sX6_bulkIn_37, sX6_bulkIn_38, opK_some, guK_true, calK_some, rk_nil, rk_int, rk_ref, tl_some, tl_none, nb_int, nb_0, nb_1, nb_if, nb_if']
  rw [← nI_0]
  exact L_m_bulkIn w (nC (M 131)) 0 _ (by omega) rfl
theorem C_m_hasRoom {d t : Nat} {M : Mem} (w : WR (M 131)) (ht : t < 10) : call (d + 4) 153 [.ref 130, .int (nI t)] M = some (some (.int (if roomR (M 131) t then 1 else 0)), M) := by
  rw [nX6_hasRoom]
  simp only [sX6_hasRoom_0, sX6_hasRoom_1, sX6_hasRoom_4, sX6_hasRoom_5, sX6_hasRoom_6, sX6_hasRoom_8, sX6_hasRoom_11, sX6_hasRoom_12, sX6_hasRoom_15, sX6_hasRoom_16, sX6_hasRoom_17, sX6_hasRoom_18, sX6_hasRoom_21, sX6_hasRoom_22, sX6_hasRoom_23, sX6_hasRoom_26, sX6_hasRoom_27, sX6_hasRoom_28, sX6_hasRoom_31, sX6_hasRoom_32, sX6_hasRoom_35, sX6_hasRoom_36, opK_some, guK_true, calK_some, rk_nil, rk_int, rk_ref, tl_some, tl_none, nb_int, nb_0, nb_1, nb_if, nb_if', o130_0, a131, q130, ib_4_132, tn_4, ib_1_132, tn_1, C_m_bulkIn w, T1 ht]
  unfold roomR
  by_cases h1 : 8 ≤ M 131 4
  · rw [if_pos h1, if_neg (fun z => Int32.not_lt.mpr h1 z.1)]
  · rw [if_neg h1]
    by_cases h2 : M 131 1 < bulkR (M 131) + M 131 (at9 t 1)
    · rw [if_pos h2, if_neg (fun z => Int32.not_lt.mpr z.2 h2)]
    · rw [if_neg h2, if_pos ⟨Int32.not_le.mp h1, Int32.not_lt.mp h2⟩]
theorem L_m_stainIn {d : Nat} {M : Mem} (w : WR (M 131)) : ∀ (n i : Nat) (s : Int32), i + n = nC (M 131) → s = sm (fun j => M 131 (at9 (cr (M 131) j) 6)) i →
    lim (call (d + 2)) none 6 cX6_stainIn (some .int) 4 [some (.ref 130), some (.int s), some (.int (nI i))] [] M = some (some (.int (staR (M 131))), M) := by
  have h8 := wr_C w
  intro n
  induction n with
  | zero =>
    intro i s hi hs
    rw [sX6_stainIn_4]
    simp only [sX6_stainIn_0, sX6_stainIn_1, sX6_stainIn_2, sX6_stainIn_3, sX6_stainIn_5, sX6_stainIn_6, sX6_stainIn_9, sX6_stainIn_10, sX6_stainIn_11, sX6_stainIn_14, sX6_stainIn_15, sX6_stainIn_16, sX6_stainIn_17, sX6_stainIn_20, sX6_stainIn_22, sX6_stainIn_23, sX6_stainIn_24, sX6_stainIn_25, sX6_stainIn_27, sX6_stainIn_30, sX6_stainIn_31, sX6_stainIn_32, sX6_stainIn_35, sX6_stainIn_38, sX6_stainIn_39, opK_some, guK_true, calK_some, rk_nil, rk_int, rk_ref, tl_some, tl_none, nb_int, nb_0, nb_1, nb_if, nb_if', o130_0, a131, ib_4_132, tn_4, h8.2]
    rw [if_pos (nI_le (by omega) (by omega)), hs]
    rw [show i = nC (M 131) by omega]
    rfl
  | succ n ih =>
    intro i s hi hs
    obtain ⟨c1, c2⟩ := wr_cr w (i := i) (by omega)
    rw [sX6_stainIn_4]
    simp only [sX6_stainIn_0, sX6_stainIn_1, sX6_stainIn_2, sX6_stainIn_3, sX6_stainIn_5, sX6_stainIn_6, sX6_stainIn_9, sX6_stainIn_10, sX6_stainIn_11, sX6_stainIn_14, sX6_stainIn_15, sX6_stainIn_16, sX6_stainIn_17, sX6_stainIn_20, sX6_stainIn_22, sX6_stainIn_23, sX6_stainIn_24, sX6_stainIn_25, sX6_stainIn_27, sX6_stainIn_30, sX6_stainIn_31, sX6_stainIn_32, sX6_stainIn_35, sX6_stainIn_38, sX6_stainIn_39, opK_some, guK_true, calK_some, rk_nil, rk_int, rk_ref, tl_some, tl_none, nb_int, nb_0, nb_1, nb_if, nb_if', o130_0, a131, q130, ib_4_132, tn_4, h8.2, I88, inb_nI (show 88 + i < 132 by omega) (by omega), nI_clamp (show 88 + i < 2 ^ 31 by omega), c2, T6 c1, nI_1]
    rw [if_neg (nI_ge (by omega) (by omega))]
    exact ih (i + 1) _ (by omega) (by rw [hs]; rfl)
theorem C_m_stainIn {d : Nat} {M : Mem} (w : WR (M 131)) : call (d + 3) 173 [.ref 130] M = some (some (.int (staR (M 131))), M) := by
  rw [nX6_stainIn]
  simp only [sX6_stainIn_0, sX6_stainIn_1, sX6_stainIn_2, sX6_stainIn_3, sX6_stainIn_5, sX6_stainIn_6, sX6_stainIn_9, sX6_stainIn_10, sX6_stainIn_11, sX6_stainIn_14, sX6_stainIn_15, sX6_stainIn_16, sX6_stainIn_17, sX6_stainIn_20, sX6_stainIn_22, sX6_stainIn_23, sX6_stainIn_24, sX6_stainIn_25, sX6_stainIn_27, sX6_stainIn_30, sX6_stainIn_31, sX6_stainIn_32, sX6_stainIn_35, sX6_stainIn_38, sX6_stainIn_39, opK_some, guK_true, calK_some, rk_nil, rk_int, rk_ref, tl_some, tl_none, nb_int, nb_0, nb_1, nb_if, nb_if']
  rw [← nI_0]
  exact L_m_stainIn w (nC (M 131)) 0 _ (by omega) rfl
/-- a part of the crop has come forward -/
def leaP (r : Rw) (i : Nat) (x : Int32) (k : Nat) : Rw := fun j => if j = 4 then r 4 - 1 else if 88 + i ≤ j ∧ j < 88 + k then r (j + 1) else becR r (cr r i) x j
theorem leaP_0 {r : Rw} {i : Nat} {x : Int32} : upd (becR r (cr r i) x) 4 (r 4 - 1) = leaP r i x i := by
  funext j
  unfold leaP upd
  by_cases h : j = 4
  · rw [if_pos h, if_pos h]
  · rw [if_neg h, if_neg h, if_neg (by omega)]
theorem leaP_1 {r : Rw} {i k : Nat} {x : Int32} (h : i ≤ k) (hc : cr r i < 10) : upd (leaP r i x k) (88 + k) (leaP r i x k (88 + k + 1)) = leaP r i x (k + 1) := by
  funext j
  have e : leaP r i x k (88 + k + 1) = r (88 + k + 1) := by
    unfold leaP
    rw [if_neg (by omega), if_neg (by omega), bec_ne (by omega) hc]
  rw [e]
  unfold upd leaP
  by_cases h1 : j = 88 + k
  · subst h1
    rw [if_pos rfl, if_neg (by omega), if_pos ⟨by omega, by omega⟩]
  · rw [if_neg h1]
    by_cases h4 : j = 4
    · rw [if_pos h4, if_pos h4]
    · rw [if_neg h4, if_neg h4]
      by_cases h2 : 88 + i ≤ j ∧ j < 88 + k
      · rw [if_pos h2, if_pos ⟨h2.1, by omega⟩]
      · rw [if_neg h2, if_neg (fun z => h2 ⟨z.1, by omega⟩)]
theorem leaP_2 {r : Rw} {i : Nat} {x : Int32} : upd (leaP r i x (nC r - 1)) (88 + (nC r - 1)) 0 = leavR r i x := by
  funext j
  unfold upd leaP leavR
  by_cases h1 : j = 88 + (nC r - 1)
  · subst h1
    rw [if_pos rfl, if_neg (by omega), if_neg (by omega), if_pos rfl]
  · rw [if_neg h1]
    by_cases h4 : j = 4
    · rw [if_pos h4, if_pos h4]
    · rw [if_neg h4, if_neg h4]
      by_cases h2 : 88 + i ≤ j ∧ j < 88 + (nC r - 1)
      · rw [if_pos h2, if_pos h2]
      · rw [if_neg h2, if_neg h2, if_neg h1]
theorem leaP_4 {r : Rw} {i k : Nat} {x : Int32} : leaP r i x k 4 = r 4 - 1 := by unfold leaP; rw [if_pos rfl]
theorem L_m_leaves {d i : Nat} {r : Rw} {x y z : Int32} (w : WR r) (hi : i < nC r) : ∀ (n k : Nat) (M1 : Mem), k + n = nC r - 1 → i ≤ k → M1 131 = leaP r i x k → 
    lim (call (d + 2)) none 6 cX6_leaves none 26 [some (.ref 130), some (.int y), some (.int z), some (.int (nI k))] [] M1 = some (none, mrow M1 131 (leavR r i x)) := by
  have h8 := wr_C w
  have e4 : r 4 - 1 = nI (nC r - 1) := by rw [h8.2]; exact pk_sub1 (by omega)
  have hc := (wr_cr w hi).1
  intro n
  induction n with
  | zero =>
    intro k M1 hk hik e
    have ek : k = nC r - 1 := by omega
    subst ek
    rw [sX6_leaves_26]
    simp only [sX6_leaves_0, sX6_leaves_1, sX6_leaves_2, sX6_leaves_5, sX6_leaves_7, sX6_leaves_8, sX6_leaves_9, sX6_leaves_10, sX6_leaves_11, sX6_leaves_14, sX6_leaves_15, sX6_leaves_18, sX6_leaves_19, sX6_leaves_20, sX6_leaves_21, sX6_leaves_22, sX6_leaves_23, sX6_leaves_24, sX6_leaves_25, sX6_leaves_27, sX6_leaves_28, sX6_leaves_31, sX6_leaves_32, sX6_leaves_33, sX6_leaves_36, sX6_leaves_37, sX6_leaves_40, sX6_leaves_42, sX6_leaves_43, sX6_leaves_44, sX6_leaves_45, sX6_leaves_48, sX6_leaves_50, sX6_leaves_51, sX6_leaves_52, sX6_leaves_53, sX6_leaves_54, sX6_leaves_55, sX6_leaves_56, sX6_leaves_59, sX6_leaves_62, sX6_leaves_63, sX6_leaves_66, sX6_leaves_68, sX6_leaves_69, sX6_leaves_72, sX6_leaves_73, sX6_leaves_74, sX6_leaves_75, sX6_leaves_76, sX6_leaves_77, opK_some, guK_true, calK_some, rk_nil, rk_int, rk_ref, tl_some, tl_none, nb_int, nb_0, nb_1, nb_if, nb_if', o130_0, a131, b131, ib_4_132, tn_4, e, leaP_4, e4, I88, inb_nI (show 88 + (nC r - 1) < 132 by omega) (by omega), nI_clamp (show 88 + (nC r - 1) < 2 ^ 31 by omega)]
    rw [if_pos (nI_le (by omega) (by omega)), mset_mrow, e, leaP_2]
  | succ n ih =>
    intro k M1 hk hik e
    rw [sX6_leaves_26]
    simp only [sX6_leaves_0, sX6_leaves_1, sX6_leaves_2, sX6_leaves_5, sX6_leaves_7, sX6_leaves_8, sX6_leaves_9, sX6_leaves_10, sX6_leaves_11, sX6_leaves_14, sX6_leaves_15, sX6_leaves_18, sX6_leaves_19, sX6_leaves_20, sX6_leaves_21, sX6_leaves_22, sX6_leaves_23, sX6_leaves_24, sX6_leaves_25, sX6_leaves_27, sX6_leaves_28, sX6_leaves_31, sX6_leaves_32, sX6_leaves_33, sX6_leaves_36, sX6_leaves_37, sX6_leaves_40, sX6_leaves_42, sX6_leaves_43, sX6_leaves_44, sX6_leaves_45, sX6_leaves_48, sX6_leaves_50, sX6_leaves_51, sX6_leaves_52, sX6_leaves_53, sX6_leaves_54, sX6_leaves_55, sX6_leaves_56, sX6_leaves_59, sX6_leaves_62, sX6_leaves_63, sX6_leaves_66, sX6_leaves_68, sX6_leaves_69, sX6_leaves_72, sX6_leaves_73, sX6_leaves_74, sX6_leaves_75, sX6_leaves_76, sX6_leaves_77, opK_some, guK_true, calK_some, rk_nil, rk_int, rk_ref, tl_some, tl_none, nb_int, nb_0, nb_1, nb_if, nb_if', o130_0, a131, b131, ib_4_132, tn_4, e, leaP_4, e4, I88, nI_1, inb_nI (show 88 + k < 132 by omega) (by omega), nI_clamp (show 88 + k < 2 ^ 31 by omega), inb_nI (show 88 + k + 1 < 132 by omega) (by omega), nI_clamp (show 88 + k + 1 < 2 ^ 31 by omega)]
    rw [if_neg (nI_ge (by omega) (by omega))]
    rw [ih (k + 1) _ (by omega) (by omega) (by rw [mset_at, e, leaP_1 hik hc]), mset_mrow, mrow_mrow]
theorem C_m_leaves {d i : Nat} {M : Mem} {x : Int32} (w : WR (M 131)) (hi : i < nC (M 131)) : call (d + 3) 168 [.ref 130, .int (nI i), .int x] M = some (none, mrow M 131 (leavR (M 131) i x)) := by
  have h8 := wr_C w
  obtain ⟨c1, c2⟩ := wr_cr w hi
  rw [nX6_leaves]
  simp only [sX6_leaves_0, sX6_leaves_1, sX6_leaves_2, sX6_leaves_5, sX6_leaves_7, sX6_leaves_8, sX6_leaves_9, sX6_leaves_10, sX6_leaves_11, sX6_leaves_15, sX6_leaves_18, sX6_leaves_19, sX6_leaves_20, sX6_leaves_21, sX6_leaves_22, sX6_leaves_23, sX6_leaves_24, sX6_leaves_25, sX6_leaves_27, sX6_leaves_28, sX6_leaves_31, sX6_leaves_32, sX6_leaves_33, sX6_leaves_36, sX6_leaves_37, sX6_leaves_40, sX6_leaves_42, sX6_leaves_43, sX6_leaves_44, sX6_leaves_45, sX6_leaves_48, sX6_leaves_50, sX6_leaves_51, sX6_leaves_52, sX6_leaves_53, sX6_leaves_54, sX6_leaves_55, sX6_leaves_56, sX6_leaves_59, sX6_leaves_62, sX6_leaves_63, sX6_leaves_66, sX6_leaves_68, sX6_leaves_69, sX6_leaves_72, sX6_leaves_73, sX6_leaves_74, sX6_leaves_75, sX6_leaves_76, sX6_leaves_77, opK_some, guK_true, calK_some, rk_nil, rk_int, rk_ref, tl_some, tl_none, nb_int, nb_0, nb_1, nb_if, nb_if', o130_0, a131, q130, I88, inb_nI (show 88 + i < 132 by omega) (by omega), nI_clamp (show 88 + i < 2 ^ 31 by omega), c2, C_m_becomesHow c1]
  rw [sX6_leaves_14]
  have e4b : becR (M 131) (cr (M 131) i) x 4 = M 131 4 := bec_ne (by omega) c1
  simp only [sX6_leaves_0, sX6_leaves_1, sX6_leaves_2, sX6_leaves_5, sX6_leaves_7, sX6_leaves_8, sX6_leaves_9, sX6_leaves_10, sX6_leaves_11, sX6_leaves_15, sX6_leaves_18, sX6_leaves_19, sX6_leaves_20, sX6_leaves_21, sX6_leaves_22, sX6_leaves_23, sX6_leaves_24, sX6_leaves_25, sX6_leaves_27, sX6_leaves_28, sX6_leaves_31, sX6_leaves_32, sX6_leaves_33, sX6_leaves_36, sX6_leaves_37, sX6_leaves_40, sX6_leaves_42, sX6_leaves_43, sX6_leaves_44, sX6_leaves_45, sX6_leaves_48, sX6_leaves_50, sX6_leaves_51, sX6_leaves_52, sX6_leaves_53, sX6_leaves_54, sX6_leaves_55, sX6_leaves_56, sX6_leaves_59, sX6_leaves_62, sX6_leaves_63, sX6_leaves_66, sX6_leaves_68, sX6_leaves_69, sX6_leaves_72, sX6_leaves_73, sX6_leaves_74, sX6_leaves_75, sX6_leaves_76, sX6_leaves_77, opK_some, guK_true, calK_some, rk_nil, rk_int, rk_ref, tl_some, tl_none, nb_int, nb_0, nb_1, nb_if, nb_if', o130_0, a131, b131, ib_4_132, tn_4, mrow_at, e4b]
  rw [L_m_leaves (r := M 131) (x := x) w hi (nC (M 131) - 1 - i) i (mset (mrow M 131 (becR (M 131) (cr (M 131) i) x)) 131 4 (M 131 4 - 1)) (by omega) (by omega) (by rw [mset_at, mrow_at, leaP_0]), mset_mrow, mrow_mrow, mrow_mrow (M := M)]
/-- the reference's row, and what a day leaves of it -/
def Mo (M M' : Mem) : Prop := (∀ k, k ≠ 130 → k ≠ 131 → M' k = M k) ∧ ∀ j, j ≠ 5 → j ≠ 6 → j ≠ 7 → M' 130 j = M 130 j
theorem Mo.rf {M : Mem} : Mo M M := ⟨fun _ _ _ => rfl, fun _ _ _ _ => rfl⟩
theorem Mo.tr {M M1 M2 : Mem} (h1 : Mo M M1) (h2 : Mo M1 M2) : Mo M M2 := ⟨fun k a b => (h2.1 k a b).trans (h1.1 k a b), fun j a b c => (h2.2 j a b c).trans (h1.2 j a b c)⟩
theorem Mo.row {M : Mem} {f : Nat → Int32} : Mo M (mrow M 131 f) := ⟨fun k _ b => mrow_ne b, fun j _ _ _ => by rw [mrow_ne (by omega)]⟩
theorem Mo.set {M : Mem} {i : Nat} {v : Int32} (h : i = 5 ∨ i = 6 ∨ i = 7) : Mo M (mset M 130 i v) := ⟨fun k a _ => mset_ne a, fun j a b c => by rw [mset_at, upd_ne (by omega)]⟩
theorem Mo.rset {M : Mem} {i : Nat} {v : Int32} : Mo M (mset M 131 i v) := ⟨fun k _ b => mset_ne b, fun j _ _ _ => by rw [mset_ne (by omega)]⟩
theorem I96 {e : Nat} (h : e < 2 ^ 31) : (96 : Int32) + 3 * (nI e - nI e / 12 * 12) = nI (96 + 3 * (e % 12)) := by
  show nI 96 + nI 3 * (nI e - nI e / nI 12 * nI 12) = _
  rw [pk_rem h (by omega) (by omega), pk_mul, nI_add]
theorem nI_2 {a : Nat} : nI a + 2 = nI (a + 2) := nI_add a 2
theorem L_lays {d e : Nat} {M : Mem} {v : Option Value} {x : Int32} (w : WR (M 131)) (hp : 0 < nC (M 131)) (he : M 131 5 = nI e) (h31 : e < 2 ^ 31) (hx : x = if holG (M 131) then 1 else 0) (h7 : M 130 7 = x) : ∃ M', lim (call (d + 3)) none 6 cX6_lays none 30 [some (.ref 130), some (.int (M 131 88)), v] [] M = some (none, M') ∧ Mo M M' ∧ M' 131 = leavR (eggR (M 131) (if holG (M 131) then 0 else lefG (M 131) (cr (M 131) 0)) x) 0 2 ∧ M' 130 5 = M 131 88 ∧ M' 130 6 = (if holG (M 131) then 0 else lefG (M 131) (cr (M 131) 0)) := by
  obtain ⟨c1, c2⟩ := wr_cr w (i := 0) hp
  have c2' : M 131 88 = nI (cr (M 131) 0) := c2
  obtain ⟨r, er⟩ : ∃ r, r = M 131 := ⟨_, rfl⟩
  obtain ⟨y, ey⟩ : ∃ y, y = (if holG (M 131) then 0 else lefG (M 131) (cr (M 131) 0)) := ⟨_, rfl⟩
  obtain ⟨M1, hM1⟩ : ∃ M1, M1 = mset M 130 5 (M 131 88) := ⟨_, rfl⟩
  have r1 : M1 131 = M 131 := by rw [hM1, mset_ne (by omega)]
  have w1 : WR (M1 131) := by rw [r1]; exact w
  have s7 : M1 130 7 = x := by rw [hM1, mset_at, upd_ne (by omega)]; exact h7
  rw [sX6_lays_30]
  simp only [sX6_lays_0, sX6_lays_1, sX6_lays_4, sX6_lays_6, sX6_lays_7, sX6_lays_8, sX6_lays_9, sX6_lays_10, sX6_lays_13, sX6_lays_14, sX6_lays_17, sX6_lays_18, sX6_lays_19, sX6_lays_22, sX6_lays_23, sX6_lays_26, sX6_lays_27, sX6_lays_31, sX6_lays_32, sX6_lays_36, sX6_lays_37, sX6_lays_40, sX6_lays_43, sX6_lays_44, sX6_lays_47, sX6_lays_48, sX6_lays_49, sX6_lays_52, sX6_lays_57, sX6_lays_58, sX6_lays_59, sX6_lays_62, sX6_lays_63, sX6_lays_64, sX6_lays_66, sX6_lays_67, sX6_lays_68, sX6_lays_69, sX6_lays_70, sX6_lays_71, sX6_lays_74, sX6_lays_75, sX6_lays_76, sX6_lays_78, sX6_lays_81, sX6_lays_82, sX6_lays_83, sX6_lays_84, sX6_lays_85, sX6_lays_88, sX6_lays_90, sX6_lays_93, sX6_lays_94, sX6_lays_95, sX6_lays_96, sX6_lays_97, sX6_lays_100, sX6_lays_101, sX6_lays_102, sX6_lays_104, sX6_lays_107, sX6_lays_108, sX6_lays_109, sX6_lays_110, sX6_lays_111, sX6_lays_112, sX6_lays_114, sX6_lays_117, sX6_lays_119, sX6_lays_120, sX6_lays_121, sX6_lays_122, sX6_lays_125, sX6_lays_128, sX6_lays_129, sX6_lays_132, sX6_lays_133, sX6_lays_134, sX6_lays_136, sX6_lays_137, sX6_lays_138, sX6_lays_141, opK_some, guK_true, calK_some, rk_nil, rk_int, rk_ref, tl_some, tl_none, nb_int, nb_0, nb_1, nb_if, nb_if', p130_5, ← hM1]
  have step : lim (call (d + 3)) none 6 cX6_lays none 35 [some (.ref 130), some (.int (M 131 88)), v] [] M1 = lim (call (d + 3)) none 6 cX6_lays none 55 [some (.ref 130), some (.int (M 131 88)), v] [] (mset M1 130 6 y) := by
    rw [sX6_lays_35]
    simp only [sX6_lays_0, sX6_lays_1, sX6_lays_4, sX6_lays_6, sX6_lays_7, sX6_lays_8, sX6_lays_9, sX6_lays_10, sX6_lays_13, sX6_lays_14, sX6_lays_17, sX6_lays_18, sX6_lays_19, sX6_lays_22, sX6_lays_23, sX6_lays_26, sX6_lays_27, sX6_lays_31, sX6_lays_32, sX6_lays_36, sX6_lays_37, sX6_lays_40, sX6_lays_43, sX6_lays_44, sX6_lays_47, sX6_lays_48, sX6_lays_49, sX6_lays_52, sX6_lays_57, sX6_lays_58, sX6_lays_59, sX6_lays_62, sX6_lays_63, sX6_lays_64, sX6_lays_66, sX6_lays_67, sX6_lays_68, sX6_lays_69, sX6_lays_70, sX6_lays_71, sX6_lays_74, sX6_lays_75, sX6_lays_76, sX6_lays_78, sX6_lays_81, sX6_lays_82, sX6_lays_83, sX6_lays_84, sX6_lays_85, sX6_lays_88, sX6_lays_90, sX6_lays_93, sX6_lays_94, sX6_lays_95, sX6_lays_96, sX6_lays_97, sX6_lays_100, sX6_lays_101, sX6_lays_102, sX6_lays_104, sX6_lays_107, sX6_lays_108, sX6_lays_109, sX6_lays_110, sX6_lays_111, sX6_lays_112, sX6_lays_114, sX6_lays_117, sX6_lays_119, sX6_lays_120, sX6_lays_121, sX6_lays_122, sX6_lays_125, sX6_lays_128, sX6_lays_129, sX6_lays_132, sX6_lays_133, sX6_lays_134, sX6_lays_136, sX6_lays_137, sX6_lays_138, sX6_lays_141, opK_some, guK_true, calK_some, rk_nil, rk_int, rk_ref, tl_some, tl_none, nb_int, nb_0, nb_1, nb_if, nb_if', o130_7, p130_6, q130, s7]
    by_cases hh : holG (M 131)
    · rw [hx, if_pos hh, if_neg (by decide), ey, if_pos hh]
    · rw [hx, if_neg hh, if_pos rfl, ey, if_neg hh, c2', C_m_left w1 c1, r1]
      simp only [sX6_lays_0, sX6_lays_1, sX6_lays_4, sX6_lays_6, sX6_lays_7, sX6_lays_8, sX6_lays_9, sX6_lays_10, sX6_lays_13, sX6_lays_14, sX6_lays_17, sX6_lays_18, sX6_lays_19, sX6_lays_22, sX6_lays_23, sX6_lays_26, sX6_lays_27, sX6_lays_31, sX6_lays_32, sX6_lays_36, sX6_lays_37, sX6_lays_40, sX6_lays_43, sX6_lays_44, sX6_lays_47, sX6_lays_48, sX6_lays_49, sX6_lays_52, sX6_lays_57, sX6_lays_58, sX6_lays_59, sX6_lays_62, sX6_lays_63, sX6_lays_64, sX6_lays_66, sX6_lays_67, sX6_lays_68, sX6_lays_69, sX6_lays_70, sX6_lays_71, sX6_lays_74, sX6_lays_75, sX6_lays_76, sX6_lays_78, sX6_lays_81, sX6_lays_82, sX6_lays_83, sX6_lays_84, sX6_lays_85, sX6_lays_88, sX6_lays_90, sX6_lays_93, sX6_lays_94, sX6_lays_95, sX6_lays_96, sX6_lays_97, sX6_lays_100, sX6_lays_101, sX6_lays_102, sX6_lays_104, sX6_lays_107, sX6_lays_108, sX6_lays_109, sX6_lays_110, sX6_lays_111, sX6_lays_112, sX6_lays_114, sX6_lays_117, sX6_lays_119, sX6_lays_120, sX6_lays_121, sX6_lays_122, sX6_lays_125, sX6_lays_128, sX6_lays_129, sX6_lays_132, sX6_lays_133, sX6_lays_134, sX6_lays_136, sX6_lays_137, sX6_lays_138, sX6_lays_141, opK_some, guK_true, calK_some, rk_nil, rk_int, rk_ref, tl_some, tl_none, nb_int, nb_0, nb_1, nb_if, nb_if', p130_6]
      rfl
  rw [step]
  obtain ⟨M2, hM2⟩ : ∃ M2, M2 = mset M1 130 6 y := ⟨_, rfl⟩
  rw [← hM2]
  have r2 : M2 131 = M 131 := by rw [hM2, mset_ne (by omega)]; exact r1
  have s7' : M2 130 7 = x := by rw [hM2, mset_at, upd_ne (by omega)]; exact s7
  have s6 : M2 130 6 = y := by rw [hM2, mset_at, upd_at]
  have s5 : M2 130 5 = M 131 88 := by rw [hM2, mset_at, upd_ne (by omega), hM1, mset_at, upd_at]
  have o2 : Mo M M2 := by rw [hM2, hM1]; exact (Mo.set (Or.inl rfl)).tr (Mo.set (Or.inr (Or.inl rfl)))
  have e2 : M2 131 5 = nI e := by rw [r2]; exact he
  obtain ⟨q, eq⟩ : ∃ q, q = e % 12 := ⟨_, rfl⟩
  have hq : q < 12 := by omega
  have eN : iN (M 131 5) % 12 = q := by rw [he, iN_nI h31, eq]
  rw [sX6_lays_55]
  simp only [sX6_lays_0, sX6_lays_1, sX6_lays_4, sX6_lays_6, sX6_lays_7, sX6_lays_8, sX6_lays_9, sX6_lays_10, sX6_lays_13, sX6_lays_14, sX6_lays_17, sX6_lays_18, sX6_lays_19, sX6_lays_22, sX6_lays_23, sX6_lays_26, sX6_lays_27, sX6_lays_31, sX6_lays_32, sX6_lays_36, sX6_lays_37, sX6_lays_40, sX6_lays_43, sX6_lays_44, sX6_lays_47, sX6_lays_48, sX6_lays_49, sX6_lays_52, sX6_lays_57, sX6_lays_58, sX6_lays_59, sX6_lays_62, sX6_lays_63, sX6_lays_64, sX6_lays_66, sX6_lays_67, sX6_lays_68, sX6_lays_69, sX6_lays_70, sX6_lays_71, sX6_lays_74, sX6_lays_75, sX6_lays_76, sX6_lays_78, sX6_lays_81, sX6_lays_82, sX6_lays_83, sX6_lays_84, sX6_lays_85, sX6_lays_88, sX6_lays_90, sX6_lays_93, sX6_lays_94, sX6_lays_95, sX6_lays_96, sX6_lays_97, sX6_lays_100, sX6_lays_101, sX6_lays_102, sX6_lays_104, sX6_lays_107, sX6_lays_108, sX6_lays_109, sX6_lays_110, sX6_lays_111, sX6_lays_112, sX6_lays_114, sX6_lays_117, sX6_lays_119, sX6_lays_120, sX6_lays_121, sX6_lays_122, sX6_lays_125, sX6_lays_128, sX6_lays_129, sX6_lays_132, sX6_lays_133, sX6_lays_134, sX6_lays_136, sX6_lays_137, sX6_lays_138, sX6_lays_141, opK_some, guK_true, calK_some, rk_nil, rk_int, rk_ref, tl_some, tl_none, nb_int, nb_0, nb_1, nb_if, nb_if', o130_0, a131, b131, ib_5_132, tn_5, e2, show decide (¬ ((12 : Int32) = 0)) = true from rfl, I96 h31, ← eq, inb_nI (show 96 + 3 * q < 132 by omega) (by omega), nI_clamp (show 96 + 3 * q < 2 ^ 31 by omega)]
  rw [sX6_lays_77]
  simp only [sX6_lays_0, sX6_lays_1, sX6_lays_4, sX6_lays_6, sX6_lays_7, sX6_lays_8, sX6_lays_9, sX6_lays_10, sX6_lays_13, sX6_lays_14, sX6_lays_17, sX6_lays_18, sX6_lays_19, sX6_lays_22, sX6_lays_23, sX6_lays_26, sX6_lays_27, sX6_lays_31, sX6_lays_32, sX6_lays_36, sX6_lays_37, sX6_lays_40, sX6_lays_43, sX6_lays_44, sX6_lays_47, sX6_lays_48, sX6_lays_49, sX6_lays_52, sX6_lays_57, sX6_lays_58, sX6_lays_59, sX6_lays_62, sX6_lays_63, sX6_lays_64, sX6_lays_66, sX6_lays_67, sX6_lays_68, sX6_lays_69, sX6_lays_70, sX6_lays_71, sX6_lays_74, sX6_lays_75, sX6_lays_76, sX6_lays_78, sX6_lays_81, sX6_lays_82, sX6_lays_83, sX6_lays_84, sX6_lays_85, sX6_lays_88, sX6_lays_90, sX6_lays_93, sX6_lays_94, sX6_lays_95, sX6_lays_96, sX6_lays_97, sX6_lays_100, sX6_lays_101, sX6_lays_102, sX6_lays_104, sX6_lays_107, sX6_lays_108, sX6_lays_109, sX6_lays_110, sX6_lays_111, sX6_lays_112, sX6_lays_114, sX6_lays_117, sX6_lays_119, sX6_lays_120, sX6_lays_121, sX6_lays_122, sX6_lays_125, sX6_lays_128, sX6_lays_129, sX6_lays_132, sX6_lays_133, sX6_lays_134, sX6_lays_136, sX6_lays_137, sX6_lays_138, sX6_lays_141, opK_some, guK_true, calK_some, rk_nil, rk_int, rk_ref, tl_some, tl_none, nb_int, nb_0, nb_1, nb_if, nb_if', o130_0, o130_6, a131, b131, nI_1, mset_ne (show 130 ≠ 131 by omega), s6, inb_nI (show 96 + 3 * q + 1 < 132 by omega) (by omega), nI_clamp (show 96 + 3 * q + 1 < 2 ^ 31 by omega)]
  rw [sX6_lays_89]
  simp only [sX6_lays_0, sX6_lays_1, sX6_lays_4, sX6_lays_6, sX6_lays_7, sX6_lays_8, sX6_lays_9, sX6_lays_10, sX6_lays_13, sX6_lays_14, sX6_lays_17, sX6_lays_18, sX6_lays_19, sX6_lays_22, sX6_lays_23, sX6_lays_26, sX6_lays_27, sX6_lays_31, sX6_lays_32, sX6_lays_36, sX6_lays_37, sX6_lays_40, sX6_lays_43, sX6_lays_44, sX6_lays_47, sX6_lays_48, sX6_lays_49, sX6_lays_52, sX6_lays_57, sX6_lays_58, sX6_lays_59, sX6_lays_62, sX6_lays_63, sX6_lays_64, sX6_lays_66, sX6_lays_67, sX6_lays_68, sX6_lays_69, sX6_lays_70, sX6_lays_71, sX6_lays_74, sX6_lays_75, sX6_lays_76, sX6_lays_78, sX6_lays_81, sX6_lays_82, sX6_lays_83, sX6_lays_84, sX6_lays_85, sX6_lays_88, sX6_lays_90, sX6_lays_93, sX6_lays_94, sX6_lays_95, sX6_lays_96, sX6_lays_97, sX6_lays_100, sX6_lays_101, sX6_lays_102, sX6_lays_104, sX6_lays_107, sX6_lays_108, sX6_lays_109, sX6_lays_110, sX6_lays_111, sX6_lays_112, sX6_lays_114, sX6_lays_117, sX6_lays_119, sX6_lays_120, sX6_lays_121, sX6_lays_122, sX6_lays_125, sX6_lays_128, sX6_lays_129, sX6_lays_132, sX6_lays_133, sX6_lays_134, sX6_lays_136, sX6_lays_137, sX6_lays_138, sX6_lays_141, opK_some, guK_true, calK_some, rk_nil, rk_int, rk_ref, tl_some, tl_none, nb_int, nb_0, nb_1, nb_if, nb_if', o130_0, o130_6, a131, b131, nI_2, ib_0_132, tn_0, inb_nI (show 96 + 3 * q + 2 < 132 by omega) (by omega), nI_clamp (show 96 + 3 * q + 2 < 2 ^ 31 by omega)]
  obtain ⟨M3, hM3⟩ : ∃ M3, M3 = mset (mset M2 131 (96 + 3 * q) (M 131 88)) 131 (96 + 3 * q + 1) y := ⟨_, rfl⟩
  rw [← hM3]
  have r3 : M3 131 = upd (upd (M 131) (96 + 3 * q) (M 131 88)) (96 + 3 * q + 1) y := by rw [hM3, mset_at, mset_at, r2]
  have t0 : M3 131 0 = M 131 0 := by rw [r3, upd_ne (by omega), upd_ne (by omega)]
  have t5 : M3 131 5 = M 131 5 := by rw [r3, upd_ne (by omega), upd_ne (by omega)]
  have t6 : M3 131 6 = M 131 6 := by rw [r3, upd_ne (by omega), upd_ne (by omega)]
  have o3 : Mo M M3 := by rw [hM3]; exact (o2.tr Mo.rset).tr Mo.rset
  have u5 : M3 130 5 = M 131 88 := by rw [hM3, mset_ne (by omega), mset_ne (by omega)]; exact s5
  have u6 : M3 130 6 = y := by rw [hM3, mset_ne (by omega), mset_ne (by omega)]; exact s6
  have u7 : M3 130 7 = x := by rw [hM3, mset_ne (by omega), mset_ne (by omega)]; exact s7'
  rw [t0]
  obtain ⟨M4, hM4⟩ : ∃ M4, M4 = mset M3 131 (96 + 3 * q + 2) (M 131 0) := ⟨_, rfl⟩
  rw [← hM4]
  have v5 : M4 131 5 = M 131 5 := by rw [hM4, mset_at, upd_ne (by omega)]; exact t5
  have v6 : M4 131 6 = M 131 6 := by rw [hM4, mset_at, upd_ne (by omega)]; exact t6
  rw [sX6_lays_103]
  simp only [sX6_lays_0, sX6_lays_1, sX6_lays_4, sX6_lays_6, sX6_lays_7, sX6_lays_8, sX6_lays_9, sX6_lays_10, sX6_lays_13, sX6_lays_14, sX6_lays_17, sX6_lays_18, sX6_lays_19, sX6_lays_22, sX6_lays_23, sX6_lays_26, sX6_lays_27, sX6_lays_31, sX6_lays_32, sX6_lays_36, sX6_lays_37, sX6_lays_40, sX6_lays_43, sX6_lays_44, sX6_lays_47, sX6_lays_48, sX6_lays_49, sX6_lays_52, sX6_lays_57, sX6_lays_58, sX6_lays_59, sX6_lays_62, sX6_lays_63, sX6_lays_64, sX6_lays_66, sX6_lays_67, sX6_lays_68, sX6_lays_69, sX6_lays_70, sX6_lays_71, sX6_lays_74, sX6_lays_75, sX6_lays_76, sX6_lays_78, sX6_lays_81, sX6_lays_82, sX6_lays_83, sX6_lays_84, sX6_lays_85, sX6_lays_88, sX6_lays_90, sX6_lays_93, sX6_lays_94, sX6_lays_95, sX6_lays_96, sX6_lays_97, sX6_lays_100, sX6_lays_101, sX6_lays_102, sX6_lays_104, sX6_lays_107, sX6_lays_108, sX6_lays_109, sX6_lays_110, sX6_lays_111, sX6_lays_112, sX6_lays_114, sX6_lays_117, sX6_lays_119, sX6_lays_120, sX6_lays_121, sX6_lays_122, sX6_lays_125, sX6_lays_128, sX6_lays_129, sX6_lays_132, sX6_lays_133, sX6_lays_134, sX6_lays_136, sX6_lays_137, sX6_lays_138, sX6_lays_141, opK_some, guK_true, calK_some, rk_nil, rk_int, rk_ref, tl_some, tl_none, nb_int, nb_0, nb_1, nb_if, nb_if', o130_0, a131, b131, ib_5_132, tn_5, v5]
  obtain ⟨M5, hM5⟩ : ∃ M5, M5 = mset M4 131 5 (M 131 5 + 1) := ⟨_, rfl⟩
  rw [← hM5]
  have x6 : M5 131 6 = M 131 6 := by rw [hM5, mset_at, upd_ne (by omega)]; exact v6
  have x7 : M5 130 7 = x := by rw [hM5, mset_ne (by omega), hM4, mset_ne (by omega)]; exact u7
  have step2 : lim (call (d + 3)) none 6 cX6_lays none 113 [some (.ref 130), some (.int (M 131 88)), some (.int (nI (96 + 3 * q)))] [] M5 = lim (call (d + 3)) none 6 cX6_lays none 135 [some (.ref 130), some (.int (M 131 88)), some (.int (nI (96 + 3 * q)))] [] (mset M5 131 6 (M 131 6 + x)) := by
    rw [sX6_lays_113]
    simp only [sX6_lays_0, sX6_lays_1, sX6_lays_4, sX6_lays_6, sX6_lays_7, sX6_lays_8, sX6_lays_9, sX6_lays_10, sX6_lays_13, sX6_lays_14, sX6_lays_17, sX6_lays_18, sX6_lays_19, sX6_lays_22, sX6_lays_23, sX6_lays_26, sX6_lays_27, sX6_lays_31, sX6_lays_32, sX6_lays_36, sX6_lays_37, sX6_lays_40, sX6_lays_43, sX6_lays_44, sX6_lays_47, sX6_lays_48, sX6_lays_49, sX6_lays_52, sX6_lays_57, sX6_lays_58, sX6_lays_59, sX6_lays_62, sX6_lays_63, sX6_lays_64, sX6_lays_66, sX6_lays_67, sX6_lays_68, sX6_lays_69, sX6_lays_70, sX6_lays_71, sX6_lays_74, sX6_lays_75, sX6_lays_76, sX6_lays_78, sX6_lays_81, sX6_lays_82, sX6_lays_83, sX6_lays_84, sX6_lays_85, sX6_lays_88, sX6_lays_90, sX6_lays_93, sX6_lays_94, sX6_lays_95, sX6_lays_96, sX6_lays_97, sX6_lays_100, sX6_lays_101, sX6_lays_102, sX6_lays_104, sX6_lays_107, sX6_lays_108, sX6_lays_109, sX6_lays_110, sX6_lays_111, sX6_lays_112, sX6_lays_114, sX6_lays_117, sX6_lays_119, sX6_lays_120, sX6_lays_121, sX6_lays_122, sX6_lays_125, sX6_lays_128, sX6_lays_129, sX6_lays_132, sX6_lays_133, sX6_lays_134, sX6_lays_136, sX6_lays_137, sX6_lays_138, sX6_lays_141, opK_some, guK_true, calK_some, rk_nil, rk_int, rk_ref, tl_some, tl_none, nb_int, nb_0, nb_1, nb_if, nb_if', o130_0, o130_7, a131, b131, ib_6_132, tn_6, x6, x7]
    by_cases hh : holG (M 131)
    · rw [hx, if_pos hh, if_neg (by decide)]
    · rw [hx, if_neg hh, if_pos rfl]
  rw [step2]
  obtain ⟨M6, hM6⟩ : ∃ M6, M6 = mset M5 131 6 (M 131 6 + x) := ⟨_, rfl⟩
  rw [← hM6]
  have r6 : M6 131 = eggR (M 131) y x := by
    rw [hM6, mset_at, hM5, mset_at, hM4, mset_at, r3]
    unfold eggR
    rw [eN]
  have o6 : Mo M M6 := by rw [hM6, hM5, hM4]; exact ((o3.tr Mo.rset).tr Mo.rset).tr Mo.rset
  have w6 : WR (M6 131) := by rw [r6]; exact WR_egg w
  have n6 : nC (M6 131) = nC (M 131) := by rw [r6]; unfold nC; rw [egg_keep (by omega)]
  have hl := C_m_leaves (d := d + 0) (i := 0) (x := 2) w6 (by rw [n6]; exact hp)
  rw [nI_0] at hl
  rw [show d + 0 + 3 = d + 3 from rfl] at hl
  rw [sX6_lays_135]
  simp only [sX6_lays_0, sX6_lays_1, sX6_lays_4, sX6_lays_6, sX6_lays_7, sX6_lays_8, sX6_lays_9, sX6_lays_10, sX6_lays_13, sX6_lays_14, sX6_lays_17, sX6_lays_18, sX6_lays_19, sX6_lays_22, sX6_lays_23, sX6_lays_26, sX6_lays_27, sX6_lays_31, sX6_lays_32, sX6_lays_36, sX6_lays_37, sX6_lays_40, sX6_lays_43, sX6_lays_44, sX6_lays_47, sX6_lays_48, sX6_lays_49, sX6_lays_52, sX6_lays_57, sX6_lays_58, sX6_lays_59, sX6_lays_62, sX6_lays_63, sX6_lays_64, sX6_lays_66, sX6_lays_67, sX6_lays_68, sX6_lays_69, sX6_lays_70, sX6_lays_71, sX6_lays_74, sX6_lays_75, sX6_lays_76, sX6_lays_78, sX6_lays_81, sX6_lays_82, sX6_lays_83, sX6_lays_84, sX6_lays_85, sX6_lays_88, sX6_lays_90, sX6_lays_93, sX6_lays_94, sX6_lays_95, sX6_lays_96, sX6_lays_97, sX6_lays_100, sX6_lays_101, sX6_lays_102, sX6_lays_104, sX6_lays_107, sX6_lays_108, sX6_lays_109, sX6_lays_110, sX6_lays_111, sX6_lays_112, sX6_lays_114, sX6_lays_117, sX6_lays_119, sX6_lays_120, sX6_lays_121, sX6_lays_122, sX6_lays_125, sX6_lays_128, sX6_lays_129, sX6_lays_132, sX6_lays_133, sX6_lays_134, sX6_lays_136, sX6_lays_137, sX6_lays_138, sX6_lays_141, opK_some, guK_true, calK_some, rk_nil, rk_int, rk_ref, tl_some, tl_none, nb_int, nb_0, nb_1, nb_if, nb_if', q130, hl]
  refine ⟨_, rfl, o6.tr Mo.row, by rw [mrow_at, r6, ey], ?_, ?_⟩
  · rw [mrow_ne (by omega), hM6, mset_ne (by omega), hM5, mset_ne (by omega), hM4, mset_ne (by omega)]
    exact u5
  · rw [mrow_ne (by omega), hM6, mset_ne (by omega), hM5, mset_ne (by omega), hM4, mset_ne (by omega), ← ey]
    exact u6

