/-! calls: kindFor -/
def oeR (q : Rw) (t : Nat) : Nat → Nat → Int32
  | _, 0 => 0
  | i, n + 1 => if laiD (dN q i) = nI t then worD (dN q i) else oeR q t (i + 1) n
theorem oe_le {q : Rw} {t : Nat} (w : WR q) : ∀ n i, ∃ j, j ≤ 104 ∧ oeR q t i n = nI j := by
  intro n
  induction n with
  | zero => intro i; exact ⟨0, by omega, rfl⟩
  | succ n ih =>
    intro i
    show ∃ j, j ≤ 104 ∧ (if laiD (dN q i) = nI t then worD (dN q i) else oeR q t (i + 1) n) = nI j
    split
    · exact wor_le (WR_dN w i)
    · exact ih (i + 1)
/-- the row with a thing of another kind, fed -/
def kiR (r : Rw) (t k : Nat) : Rw := feedR (upd r (at9 t 0) (nI k)) t
theorem WR_kind {r : Rw} {t k : Nat} (w : WR r) (hk : k ≤ 6) : WR (upd r (at9 t 0) (nI k)) := by
  refine ⟨by rw [upd_ne (by unfold at9; omega)]; exact w.1, by rw [upd_ne (by unfold at9; omega)]; exact w.2.1, fun i hi => ?_, fun u hu => ?_⟩
  · have e4 : nC (upd r (at9 t 0) (nI k)) = nC r := by unfold nC; rw [upd_ne (by unfold at9; omega)]
    rw [e4] at hi
    by_cases c : 88 + i = at9 t 0
    · rw [c, upd_at]
      exact rg_nI (by omega) (by omega)
    · rw [upd_ne c]
      exact w.2.2.1 i hi
  · obtain ⟨a0, a1, a2, a3, a6⟩ := w.2.2.2 u hu
    refine ⟨?_, ?_, ?_, ?_, ?_⟩
    · by_cases c : at9 u 0 = at9 t 0
      · rw [c, upd_at]
        exact rg_nI hk (by omega)
      · rw [upd_ne c]
        exact a0
    · rw [upd_ne (fun z => absurd (at9_inj (by omega) (by omega) z).2 (by omega))]; exact a1
    · rw [upd_ne (fun z => absurd (at9_inj (by omega) (by omega) z).2 (by omega))]; exact a2
    · rw [upd_ne (fun z => absurd (at9_inj (by omega) (by omega) z).2 (by omega))]; exact a3
    · rw [upd_ne (fun z => absurd (at9_inj (by omega) (by omega) z).2 (by omega))]; exact a6
theorem WX_kind {r : Rw} {t k m : Nat} (w : WX r m) (hk : k ≤ 6) : WX (upd r (at9 t 0) (nI k)) m :=
  ⟨WR_kind w.1 hk, by rw [upd_ne (by unfold at9; omega)]; exact w.2.1, by rw [upd_ne (by unfold at9; omega), upd_ne (by unfold at9; omega)]; exact w.2.2⟩
theorem ki_4 {r : Rw} {t k : Nat} : (upd r (at9 t 0) (nI k)) 4 = r 4 := upd_ne (by unfold at9; omega)
theorem WX_ki {r : Rw} {t k m : Nat} (w : WX r m) (hk : k ≤ 6) (ht : t < 10) (h8 : r 4 < 8) : WX (kiR r t k) m := WX_feed (WX_kind w hk) ht (by rw [ki_4]; exact h8)
theorem ki_hi {r : Rw} {t k j : Nat} (w : WR r) (ht : t < 10) (h8 : r 4 < 8) (hj : 132 ≤ j) : kiR r t k j = r j := by
  have n8 := (wr_lt8 w).mp h8
  have e4 : nC (upd r (at9 t 0) (nI k)) = nC r := by unfold nC; rw [ki_4]
  unfold kiR
  rw [feed_hi ht (by rw [e4]; exact n8) (by omega), upd_ne (by unfold at9; omega)]
theorem L_worthAs {d t k n : Nat} {M : Mem} {q : Rw} (w : WR q) (hn : n < 2 ^ 31) : ∀ (m i : Nat) (M1 : Mem), i + m = n → HR M1 30 (dN q i) → Ou 30 M M1 →
    ∃ M', lim (call (d + 3)) none 5 cX5_worthAs (some .int) 35 [some (.ref 0), some (.int (nI t)), some (.int (nI k)), some (.int (nI n)), some (.int (nI i))] [] M1 = some (some (.int (oeR q t i m)), M') ∧ Ou 30 M M' := by
  intro m
  induction m with
  | zero =>
    intro i M1 hi h o
    obtain rfl : i = n := by omega
    rw [sX5_worthAs_35]
    simp only [sX5_worthAs_0, sX5_worthAs_1, sX5_worthAs_4, sX5_worthAs_5, sX5_worthAs_8, sX5_worthAs_11, sX5_worthAs_14, sX5_worthAs_15, sX5_worthAs_18, sX5_worthAs_21, sX5_worthAs_22, sX5_worthAs_23, sX5_worthAs_24, sX5_worthAs_25, sX5_worthAs_28, sX5_worthAs_29, sX5_worthAs_32, sX5_worthAs_33, sX5_worthAs_37, sX5_worthAs_38, sX5_worthAs_41, sX5_worthAs_42, sX5_worthAs_45, sX5_worthAs_48, sX5_worthAs_49, sX5_worthAs_50, sX5_worthAs_53, sX5_worthAs_56, sX5_worthAs_57, sX5_worthAs_60, sX5_worthAs_61, sX5_worthAs_64, sX5_worthAs_67, sX5_worthAs_68, sX5_worthAs_71, sX5_worthAs_74, sX5_worthAs_75, opK_some, guK_true, calK_some, rk_nil, rk_int, rk_ref, tl_some, tl_none, nb_int, nb_0, nb_1, nb_if, nb_if']
    rw [if_pos (show nI i ≤ nI i from Int32.le_refl _)]
    exact ⟨M1, rfl, o⟩
  | succ m ih =>
    intro i M1 hi h o
    obtain ⟨M2, c2, h2, o2, a12, a13, _⟩ := C_passDay (d := d + 0) hen30 h (WR_dN w i)
    rw [show d + 0 + 3 = d + 3 from rfl] at c2
    rw [sX5_worthAs_35]
    simp only [sX5_worthAs_0, sX5_worthAs_1, sX5_worthAs_4, sX5_worthAs_5, sX5_worthAs_8, sX5_worthAs_11, sX5_worthAs_14, sX5_worthAs_15, sX5_worthAs_18, sX5_worthAs_21, sX5_worthAs_22, sX5_worthAs_23, sX5_worthAs_24, sX5_worthAs_25, sX5_worthAs_28, sX5_worthAs_29, sX5_worthAs_32, sX5_worthAs_33, sX5_worthAs_37, sX5_worthAs_38, sX5_worthAs_41, sX5_worthAs_42, sX5_worthAs_45, sX5_worthAs_48, sX5_worthAs_49, sX5_worthAs_50, sX5_worthAs_53, sX5_worthAs_56, sX5_worthAs_57, sX5_worthAs_60, sX5_worthAs_61, sX5_worthAs_64, sX5_worthAs_67, sX5_worthAs_68, sX5_worthAs_71, sX5_worthAs_74, sX5_worthAs_75, opK_some, guK_true, calK_some, rk_nil, rk_int, rk_ref, tl_some, tl_none, nb_int, nb_0, nb_1, nb_if, nb_if', o0_6, hen_c hen30, hs_12 hen30, hs_13 hen30, c2, a12, a13, nI_1]
    rw [if_neg (show ¬ nI n ≤ nI i from nI_ge (by omega) hn)]
    by_cases e : laiD (dN q i) = nI t
    · have ek : oeR q t i (m + 1) = worD (dN q i) := if_pos e
      rw [if_pos e, ek]
      exact ⟨M2, rfl, o.tr o2⟩
    · have ek : oeR q t i (m + 1) = oeR q t (i + 1) m := if_neg e
      rw [if_neg e, ek]
      exact ih (i + 1) M2 (by omega) h2 (o.tr o2)
theorem C_worthAs {d t k n : Nat} {M : Mem} {r : Rw} (h : HR M 10 r) (w : WR r) (ht : t < 10) (hk : k ≤ 6) (h8 : r 4 < 8) (hn : n < 2 ^ 31) : ∃ M', call (d + 4) 59 [.ref 0, .int (nI t), .int (nI k), .int (nI n)] M = some (some (.int (oeR (kiR r t k) t 0 n)), M') ∧ Ou 30 M M' := by
  obtain ⟨M1, c1, h1, o1⟩ := C_become (d := d + 2) hen30 hen10 (by omega) h w
  rw [show d + 2 + 1 = d + 3 from rfl] at c1
  obtain ⟨M2, hM2⟩ : ∃ M2, M2 = mset M1 31 t (nI k) := ⟨_, rfl⟩
  have h2 : HR M2 30 (upd r (at9 t 0) (nI k)) := by rw [hM2]; exact HR_cell (f := 0) h1 (by omega) ht
  have o2 : Ou 30 M1 M2 := by rw [hM2]; exact Ou.set (b := 30) (j := 1) (by omega)
  obtain ⟨M3, c3, h3, o3⟩ := C_swallow (d := d + 1) hen30 h2 (WR_kind w hk) ht (by rw [ki_4]; exact h8)
  rw [show d + 1 + 2 = d + 3 from rfl] at c3
  have wk : WR (kiR r t k) := (WR_feed (WR_kind w hk) ht (by rw [ki_4]; exact h8)).1
  obtain ⟨M4, c4, o4⟩ := L_worthAs (d := d) (t := t) (k := k) (n := n) wk hn n 0 M3 (by omega) h3 ((o1.tr o2).tr o3)
  rw [nX5_worthAs]
  simp only [sX5_worthAs_0, sX5_worthAs_1, sX5_worthAs_4, sX5_worthAs_5, sX5_worthAs_8, sX5_worthAs_11, sX5_worthAs_14, sX5_worthAs_15, sX5_worthAs_18, sX5_worthAs_21, sX5_worthAs_22, sX5_worthAs_24, sX5_worthAs_25, sX5_worthAs_28, sX5_worthAs_29, sX5_worthAs_32, sX5_worthAs_33, sX5_worthAs_37, sX5_worthAs_38, sX5_worthAs_41, sX5_worthAs_42, sX5_worthAs_45, sX5_worthAs_48, sX5_worthAs_49, sX5_worthAs_50, sX5_worthAs_53, sX5_worthAs_56, sX5_worthAs_57, sX5_worthAs_60, sX5_worthAs_61, sX5_worthAs_64, sX5_worthAs_67, sX5_worthAs_68, sX5_worthAs_71, sX5_worthAs_74, sX5_worthAs_75, opK_some, guK_true, calK_some, rk_nil, rk_int, rk_ref, tl_some, tl_none, nb_int, nb_0, nb_1, nb_if, nb_if', o0_0, o0_6, o100_0, hen_c hen30, hen_c hen10, hs_1 hen30, c1]
  rw [sX5_worthAs_23]
  simp only [sX5_worthAs_0, sX5_worthAs_1, sX5_worthAs_4, sX5_worthAs_5, sX5_worthAs_8, sX5_worthAs_11, sX5_worthAs_14, sX5_worthAs_15, sX5_worthAs_18, sX5_worthAs_21, sX5_worthAs_22, sX5_worthAs_24, sX5_worthAs_25, sX5_worthAs_28, sX5_worthAs_29, sX5_worthAs_32, sX5_worthAs_33, sX5_worthAs_37, sX5_worthAs_38, sX5_worthAs_41, sX5_worthAs_42, sX5_worthAs_45, sX5_worthAs_48, sX5_worthAs_49, sX5_worthAs_50, sX5_worthAs_53, sX5_worthAs_56, sX5_worthAs_57, sX5_worthAs_60, sX5_worthAs_61, sX5_worthAs_64, sX5_worthAs_67, sX5_worthAs_68, sX5_worthAs_71, sX5_worthAs_74, sX5_worthAs_75, opK_some, guK_true, calK_some, rk_nil, rk_int, rk_ref, tl_some, tl_none, nb_int, nb_0, nb_1, nb_if, nb_if', hn_1 hen30, ha_1 hen30, o0_6, hen_c hen30, inb_nI ht (by omega), nI_clamp (show t < 2 ^ 31 by omega), ← hM2, c3]
  exact ⟨M4, c4, o4⟩
def kfS (r : Rw) (t n : Nat) (z : Int32) : Nat → Int32 × Int32
  | 0 => (-1, z)
  | k + 1 => if (kfS r t n z k).1 < oeR (kiR r t k) t 0 n then (oeR (kiR r t k) t 0 n, nI k) else kfS r t n z k
theorem kf_z {r : Rw} {t n : Nat} {z z' : Int32} (w : WR (kiR r t 0)) : ∀ k, kfS r t n z (k + 1) = kfS r t n z' (k + 1) := by
  intro k
  induction k with
  | zero =>
    obtain ⟨j, hj, ej⟩ := oe_le (t := t) w n 0
    have hp : (-1 : Int32) < oeR (kiR r t 0) t 0 n := by
      rw [ej]
      exact Int32.lt_of_lt_of_le (by decide : (-1 : Int32) < 0) (nI_le (a := 0) (by omega) (by omega))
    have e : ∀ y, kfS r t n y (0 + 1) = (oeR (kiR r t 0) t 0 n, nI 0) := fun y => if_pos hp
    rw [e, e]
  | succ k ih =>
    show (if (kfS r t n z (k + 1)).1 < oeR (kiR r t (k + 1)) t 0 n then (oeR (kiR r t (k + 1)) t 0 n, nI (k + 1)) else kfS r t n z (k + 1)) = (if (kfS r t n z' (k + 1)).1 < oeR (kiR r t (k + 1)) t 0 n then (oeR (kiR r t (k + 1)) t 0 n, nI (k + 1)) else kfS r t n z' (k + 1))
    rw [ih]
theorem L_kindFor {d t n : Nat} {M : Mem} {r : Rw} (h : HR M 10 r) (w : WR r) (ht : t < 10) (h8 : r 4 < 8) (hn : n < 2 ^ 31) : ∀ (m k : Nat) (M1 : Mem) (v : Option Value), k + m = 7 → Cs M M1 →
    ∃ M', lim (call (d + 4)) none 5 cX5_kindFor (some .int) 77 [some (.ref 0), some (.int (nI t)), some (.int (nI n)), some (.int (kfS r t n 0 k).2), some (.int (kfS r t n 0 k).1), some (.int (nI k)), v] [] M1 = some (some (.int (kfS r t n 0 7).2), M') ∧ Cs M M' := by
  intro m
  induction m with
  | zero =>
    intro k M1 v hk c
    obtain rfl : k = 7 := by omega
    rw [sX5_kindFor_77]
    simp only [sX5_kindFor_0, sX5_kindFor_1, sX5_kindFor_2, sX5_kindFor_5, sX5_kindFor_8, sX5_kindFor_9, sX5_kindFor_12, sX5_kindFor_15, sX5_kindFor_16, sX5_kindFor_17, sX5_kindFor_20, sX5_kindFor_21, sX5_kindFor_22, sX5_kindFor_25, sX5_kindFor_28, sX5_kindFor_29, sX5_kindFor_32, sX5_kindFor_35, sX5_kindFor_36, sX5_kindFor_37, sX5_kindFor_40, sX5_kindFor_43, sX5_kindFor_44, sX5_kindFor_45, sX5_kindFor_48, sX5_kindFor_49, sX5_kindFor_50, sX5_kindFor_53, sX5_kindFor_56, sX5_kindFor_57, sX5_kindFor_60, sX5_kindFor_63, sX5_kindFor_64, sX5_kindFor_65, sX5_kindFor_68, sX5_kindFor_69, sX5_kindFor_70, sX5_kindFor_71, sX5_kindFor_72, sX5_kindFor_74, sX5_kindFor_75, sX5_kindFor_79, sX5_kindFor_81, sX5_kindFor_84, sX5_kindFor_85, sX5_kindFor_86, sX5_kindFor_88, sX5_kindFor_89, sX5_kindFor_92, sX5_kindFor_94, sX5_kindFor_96, sX5_kindFor_98, sX5_kindFor_101, sX5_kindFor_103, sX5_kindFor_105, sX5_kindFor_107, sX5_kindFor_108, sX5_kindFor_111, sX5_kindFor_114, sX5_kindFor_115, opK_some, guK_true, calK_some, rk_nil, rk_int, rk_ref, tl_some, tl_none, nb_int, nb_0, nb_1, nb_if, nb_if']
    rw [if_pos (show (6 : Int32) < nI 7 by decide)]
    exact ⟨M1, rfl, c⟩
  | succ m ih =>
    intro k M1 v hk c
    obtain ⟨M2, c2, o2⟩ := C_worthAs (d := d + 0) (k := k) (n := n) (c.hr h) w ht (by omega) h8 hn
    rw [show d + 0 + 4 = d + 4 from rfl] at c2
    have cs2 : Cs M M2 := c.tr (Cs.ou (by omega) (by omega) o2)
    have fin := ih (k + 1) M2 (some (.int (oeR (kiR r t k) t 0 n))) (by omega) cs2
    rw [sX5_kindFor_77]
    simp only [sX5_kindFor_0, sX5_kindFor_1, sX5_kindFor_2, sX5_kindFor_5, sX5_kindFor_8, sX5_kindFor_9, sX5_kindFor_12, sX5_kindFor_15, sX5_kindFor_16, sX5_kindFor_17, sX5_kindFor_20, sX5_kindFor_21, sX5_kindFor_22, sX5_kindFor_25, sX5_kindFor_28, sX5_kindFor_29, sX5_kindFor_32, sX5_kindFor_35, sX5_kindFor_36, sX5_kindFor_37, sX5_kindFor_40, sX5_kindFor_43, sX5_kindFor_44, sX5_kindFor_45, sX5_kindFor_48, sX5_kindFor_49, sX5_kindFor_50, sX5_kindFor_53, sX5_kindFor_56, sX5_kindFor_57, sX5_kindFor_60, sX5_kindFor_63, sX5_kindFor_64, sX5_kindFor_65, sX5_kindFor_68, sX5_kindFor_69, sX5_kindFor_70, sX5_kindFor_71, sX5_kindFor_72, sX5_kindFor_74, sX5_kindFor_75, sX5_kindFor_79, sX5_kindFor_81, sX5_kindFor_84, sX5_kindFor_85, sX5_kindFor_86, sX5_kindFor_88, sX5_kindFor_89, sX5_kindFor_92, sX5_kindFor_94, sX5_kindFor_96, sX5_kindFor_98, sX5_kindFor_101, sX5_kindFor_103, sX5_kindFor_105, sX5_kindFor_107, sX5_kindFor_108, sX5_kindFor_111, sX5_kindFor_114, sX5_kindFor_115, opK_some, guK_true, calK_some, rk_nil, rk_int, rk_ref, tl_some, tl_none, nb_int, nb_0, nb_1, nb_if, nb_if', q0, c2, nI_1]
    rw [if_neg (show ¬ (6 : Int32) < nI k from nI_nlt (a := 6) (by omega) (by omega))]
    by_cases hl : (kfS r t n 0 k).1 < oeR (kiR r t k) t 0 n
    · have ek : kfS r t n 0 (k + 1) = (oeR (kiR r t k) t 0 n, nI k) := if_pos hl
      rw [ek] at fin
      rw [if_neg (Int32.not_le.mpr hl)]
      exact fin
    · have ek : kfS r t n 0 (k + 1) = kfS r t n 0 k := if_neg hl
      rw [ek] at fin
      rw [if_pos (Int32.not_lt.mp hl)]
      exact fin
theorem L_ownEgg {d t n : Nat} {r q a : Rw} {M : Mem} (w : WX q 9999) (hq : ∀ k, 132 ≤ k → q k = r k) (ha : M 133 = cpR r a) (hn : n ≤ 1000) : ∀ (m i : Nat) (M1 : Mem) (v : Option Value), i + m = n → M1 131 = dN q i → Mo M M1 →
    ∃ M', lim (call (d + 5)) none 6 cX6_ownEgg (some .int) 8 [some (.ref 130), some (.int (nI t)), some (.int (nI n)), some (.int 0), some (.int 0), some (.int (nI i)), v] [] M1 = some (some (.int (oeR q t i m)), M') ∧ Mo M M' ∧ M' 131 = r := by
  have out_ : ∀ (i : Nat) (M2 : Mem) (x y z : Int32) (v : Option Value), M2 131 = dN q i → Mo M M2 → ∃ M', lim (call (d + 5)) none 6 cX6_ownEgg (some .int) 58 [some (.ref 130), some (.int (nI t)), some (.int (nI n)), some (.int x), some (.int y), some (.int z), v] [] M2 = some (some (.int x), M') ∧ Mo M M' ∧ M' 131 = r := by
    intro i M2 x y z v e1 o
    have hp := C_back (d := d + 4) (M := M2)
    rw [show d + 4 + 1 = d + 5 from rfl] at hp
    rw [(o.1 133 (by omega) (by omega)).trans ha, e1, cp_back (fun k hk => (dN_hi w.1 (by omega) i).trans (hq k hk))] at hp
    rw [sX6_ownEgg_58]
    simp only [sX6_ownEgg_0, sX6_ownEgg_1, sX6_ownEgg_2, sX6_ownEgg_3, sX6_ownEgg_5, sX6_ownEgg_6, sX6_ownEgg_10, sX6_ownEgg_11, sX6_ownEgg_14, sX6_ownEgg_16, sX6_ownEgg_19, sX6_ownEgg_20, sX6_ownEgg_23, sX6_ownEgg_25, sX6_ownEgg_26, sX6_ownEgg_29, sX6_ownEgg_30, sX6_ownEgg_33, sX6_ownEgg_34, sX6_ownEgg_37, sX6_ownEgg_38, sX6_ownEgg_40, sX6_ownEgg_42, sX6_ownEgg_45, sX6_ownEgg_47, sX6_ownEgg_50, sX6_ownEgg_51, sX6_ownEgg_52, sX6_ownEgg_55, sX6_ownEgg_59, sX6_ownEgg_62, sX6_ownEgg_63, sX6_ownEgg_66, sX6_ownEgg_69, sX6_ownEgg_70, opK_some, guK_true, calK_some, rk_nil, rk_int, rk_ref, tl_some, tl_none, nb_int, nb_0, nb_1, nb_if, nb_if', o130_0, o130_2, hp]
    exact ⟨_, rfl, o.tr Mo.row, mrow_at⟩
  intro m
  induction m with
  | zero =>
    intro i M1 v hi e1 o
    obtain rfl : i = n := by omega
    rw [sX6_ownEgg_8]
    simp only [sX6_ownEgg_0, sX6_ownEgg_1, sX6_ownEgg_2, sX6_ownEgg_3, sX6_ownEgg_5, sX6_ownEgg_6, sX6_ownEgg_10, sX6_ownEgg_11, sX6_ownEgg_14, sX6_ownEgg_16, sX6_ownEgg_19, sX6_ownEgg_20, sX6_ownEgg_23, sX6_ownEgg_25, sX6_ownEgg_26, sX6_ownEgg_29, sX6_ownEgg_30, sX6_ownEgg_33, sX6_ownEgg_34, sX6_ownEgg_37, sX6_ownEgg_38, sX6_ownEgg_40, sX6_ownEgg_42, sX6_ownEgg_45, sX6_ownEgg_47, sX6_ownEgg_50, sX6_ownEgg_51, sX6_ownEgg_52, sX6_ownEgg_55, sX6_ownEgg_59, sX6_ownEgg_62, sX6_ownEgg_63, sX6_ownEgg_66, sX6_ownEgg_69, sX6_ownEgg_70, opK_some, guK_true, calK_some, rk_nil, rk_int, rk_ref, tl_some, tl_none, nb_int, nb_0, nb_1, nb_if, nb_if']
    rw [if_pos (show nI i ≤ nI i from Int32.le_refl _)]
    exact out_ i M1 _ _ _ v e1 o
  | succ m ih =>
    intro i M1 v hi e1 o
    obtain ⟨M2, c2, o2, r2, f5, f6⟩ := m_step (d := d + 0) w (by omega) e1
    rw [show d + 0 + 5 = d + 5 from rfl] at c2
    have om := o.tr o2
    rw [sX6_ownEgg_8]
    simp only [sX6_ownEgg_0, sX6_ownEgg_1, sX6_ownEgg_2, sX6_ownEgg_3, sX6_ownEgg_5, sX6_ownEgg_6, sX6_ownEgg_10, sX6_ownEgg_11, sX6_ownEgg_14, sX6_ownEgg_16, sX6_ownEgg_19, sX6_ownEgg_20, sX6_ownEgg_23, sX6_ownEgg_25, sX6_ownEgg_26, sX6_ownEgg_29, sX6_ownEgg_30, sX6_ownEgg_33, sX6_ownEgg_34, sX6_ownEgg_37, sX6_ownEgg_38, sX6_ownEgg_40, sX6_ownEgg_42, sX6_ownEgg_45, sX6_ownEgg_47, sX6_ownEgg_50, sX6_ownEgg_51, sX6_ownEgg_52, sX6_ownEgg_55, sX6_ownEgg_59, sX6_ownEgg_62, sX6_ownEgg_63, sX6_ownEgg_66, sX6_ownEgg_69, sX6_ownEgg_70, opK_some, guK_true, calK_some, rk_nil, rk_int, rk_ref, tl_some, tl_none, nb_int, nb_0, nb_1, nb_if, nb_if', q130, o130_5, c2, f5, zero_eq, if_true, nI_1]
    rw [if_neg (show ¬ nI n ≤ nI i from nI_ge (by omega) (by omega))]
    by_cases e : laiD (dN q i) = nI t
    · have ek : oeR q t i (m + 1) = worD (dN q i) := if_pos e
      have fin := out_ (i + 1) M2 (worD (dN q i)) 1 (nI (i + 1)) (some (.int (worD (dN q i)))) r2 om
      rw [if_pos e, ek]
      simp only [sX6_ownEgg_0, sX6_ownEgg_1, sX6_ownEgg_2, sX6_ownEgg_3, sX6_ownEgg_5, sX6_ownEgg_6, sX6_ownEgg_10, sX6_ownEgg_11, sX6_ownEgg_14, sX6_ownEgg_16, sX6_ownEgg_19, sX6_ownEgg_20, sX6_ownEgg_23, sX6_ownEgg_25, sX6_ownEgg_26, sX6_ownEgg_29, sX6_ownEgg_30, sX6_ownEgg_33, sX6_ownEgg_34, sX6_ownEgg_37, sX6_ownEgg_38, sX6_ownEgg_40, sX6_ownEgg_42, sX6_ownEgg_45, sX6_ownEgg_47, sX6_ownEgg_50, sX6_ownEgg_51, sX6_ownEgg_52, sX6_ownEgg_55, sX6_ownEgg_59, sX6_ownEgg_62, sX6_ownEgg_63, sX6_ownEgg_66, sX6_ownEgg_69, sX6_ownEgg_70, opK_some, guK_true, calK_some, rk_nil, rk_int, rk_ref, tl_some, tl_none, nb_int, nb_0, nb_1, nb_if, nb_if', one_ne, if_false, nI_1]
      rw [sX6_ownEgg_8]
      simp only [sX6_ownEgg_0, sX6_ownEgg_1, sX6_ownEgg_2, sX6_ownEgg_3, sX6_ownEgg_5, sX6_ownEgg_6, sX6_ownEgg_10, sX6_ownEgg_11, sX6_ownEgg_14, sX6_ownEgg_16, sX6_ownEgg_19, sX6_ownEgg_20, sX6_ownEgg_23, sX6_ownEgg_25, sX6_ownEgg_26, sX6_ownEgg_29, sX6_ownEgg_30, sX6_ownEgg_33, sX6_ownEgg_34, sX6_ownEgg_37, sX6_ownEgg_38, sX6_ownEgg_40, sX6_ownEgg_42, sX6_ownEgg_45, sX6_ownEgg_47, sX6_ownEgg_50, sX6_ownEgg_51, sX6_ownEgg_52, sX6_ownEgg_55, sX6_ownEgg_59, sX6_ownEgg_62, sX6_ownEgg_63, sX6_ownEgg_66, sX6_ownEgg_69, sX6_ownEgg_70, opK_some, guK_true, calK_some, rk_nil, rk_int, rk_ref, tl_some, tl_none, nb_int, nb_0, nb_1, nb_if, nb_if', one_ne, if_false]
      rw [same_if]
      exact fin
    · have ek : oeR q t i (m + 1) = oeR q t (i + 1) m := if_neg e
      have fin := ih (i + 1) M2 (some (.int (worD (dN q i)))) (by omega) r2 om
      rw [if_neg e, ek]
      exact fin
theorem L_m_kindFor {d t n : Nat} {r a : Rw} {M : Mem} (w : WX r 9999) (e : M 131 = r) (ha : M 133 = cpR r a) (ht : t < 10) (h8 : r 4 < 8) (hn : n ≤ 1000) : ∀ (m k : Nat) (M1 : Mem) (u v : Option Value), k + m = 7 → Mo M M1 → M1 131 = r →
    ∃ M', lim (call (d + 6)) none 6 cX6_kindFor (some .int) 83 [some (.ref 130), some (.int (nI t)), some (.int (nI n)), some (.int (kfS r t n (-1) k).2), some (.int (kfS r t n (-1) k).1), some (.int (nI k)), u, v] [] M1 = some (some (.int (kfS r t n (-1) 7).2), M') ∧ Mo M M' ∧ M' 131 = r := by
  intro m
  induction m with
  | zero =>
    intro k M1 u v hk o e1
    obtain rfl : k = 7 := by omega
    rw [sX6_kindFor_83]
    simp only [sX6_kindFor_0, sX6_kindFor_1, sX6_kindFor_2, sX6_kindFor_5, sX6_kindFor_8, sX6_kindFor_9, sX6_kindFor_10, sX6_kindFor_12, sX6_kindFor_15, sX6_kindFor_18, sX6_kindFor_19, sX6_kindFor_21, sX6_kindFor_24, sX6_kindFor_25, sX6_kindFor_26, sX6_kindFor_27, sX6_kindFor_28, sX6_kindFor_31, sX6_kindFor_34, sX6_kindFor_35, sX6_kindFor_36, sX6_kindFor_39, sX6_kindFor_42, sX6_kindFor_43, sX6_kindFor_45, sX6_kindFor_48, sX6_kindFor_49, sX6_kindFor_50, sX6_kindFor_51, sX6_kindFor_54, sX6_kindFor_57, sX6_kindFor_58, sX6_kindFor_60, sX6_kindFor_63, sX6_kindFor_64, sX6_kindFor_65, sX6_kindFor_68, sX6_kindFor_69, sX6_kindFor_72, sX6_kindFor_75, sX6_kindFor_76, sX6_kindFor_77, sX6_kindFor_78, sX6_kindFor_80, sX6_kindFor_81, sX6_kindFor_85, sX6_kindFor_87, sX6_kindFor_90, sX6_kindFor_91, sX6_kindFor_94, sX6_kindFor_95, sX6_kindFor_96, sX6_kindFor_99, sX6_kindFor_101, sX6_kindFor_102, sX6_kindFor_103, sX6_kindFor_104, sX6_kindFor_107, sX6_kindFor_109, sX6_kindFor_110, sX6_kindFor_111, sX6_kindFor_112, sX6_kindFor_115, sX6_kindFor_117, sX6_kindFor_119, sX6_kindFor_122, sX6_kindFor_124, sX6_kindFor_126, sX6_kindFor_129, sX6_kindFor_131, sX6_kindFor_134, sX6_kindFor_135, sX6_kindFor_136, sX6_kindFor_138, sX6_kindFor_140, sX6_kindFor_143, sX6_kindFor_145, sX6_kindFor_148, sX6_kindFor_151, sX6_kindFor_152, opK_some, guK_true, calK_some, rk_nil, rk_int, rk_ref, tl_some, tl_none, nb_int, nb_0, nb_1, nb_if, nb_if']
    rw [if_pos (show (6 : Int32) < nI 7 by decide)]
    exact ⟨M1, rfl, o, e1⟩
  | succ m ih =>
    intro k M1 u v hk o e1
    have k6 : k ≤ 6 := by omega
    obtain ⟨M2, hM2⟩ : ∃ M2, M2 = mset M1 131 (at9 t 0) (nI k) := ⟨_, rfl⟩
    have r2 : M2 131 = upd r (at9 t 0) (nI k) := by rw [hM2, mset_at, e1]
    have o2 : Mo M1 M2 := by rw [hM2]; exact Mo.rset
    have e4 : M2 131 4 = r 4 := by rw [r2, ki_4]
    have c3 := C_m_feeds (d := d + 3) (M := M2) (t := t) (by rw [r2]; exact WR_kind w.1 k6) ht (by rw [e4]; exact h8)
    rw [show d + 3 + 3 = d + 6 from rfl] at c3
    rw [e4, r2] at c3
    obtain ⟨M3, hM3⟩ : ∃ M3, M3 = mrow M2 131 (feedR (upd r (at9 t 0) (nI k)) t) := ⟨_, rfl⟩
    rw [← hM3] at c3
    have r3 : M3 131 = kiR r t k := by rw [hM3, mrow_at]; rfl
    have o3 : Mo M2 M3 := by rw [hM3]; exact Mo.row
    have o13 : Mo M M3 := (o.tr o2).tr o3
    obtain ⟨M4, c4, o4, r4⟩ := L_ownEgg (d := d + 0) (t := t) (n := n) (M := M3) (r := r) (WX_ki w k6 ht h8) (fun j hj => ki_hi w.1 ht h8 hj) ((o13.1 133 (by omega) (by omega)).trans ha) hn n 0 M3 none (by omega) r3 Mo.rf
    have c4' : call (d + 6) 197 [.ref 130, .int (nI t), .int (nI n)] M3 = some (some (.int (oeR (kiR r t k) t 0 n)), M4) := by
      rw [show d + 6 = d + 0 + 6 from rfl, nX6_ownEgg]
      simp only [sX6_ownEgg_0, sX6_ownEgg_1, sX6_ownEgg_2, sX6_ownEgg_3, sX6_ownEgg_5, sX6_ownEgg_6, sX6_ownEgg_10, sX6_ownEgg_11, sX6_ownEgg_14, sX6_ownEgg_16, sX6_ownEgg_19, sX6_ownEgg_20, sX6_ownEgg_23, sX6_ownEgg_25, sX6_ownEgg_26, sX6_ownEgg_29, sX6_ownEgg_30, sX6_ownEgg_33, sX6_ownEgg_34, sX6_ownEgg_37, sX6_ownEgg_38, sX6_ownEgg_40, sX6_ownEgg_42, sX6_ownEgg_45, sX6_ownEgg_47, sX6_ownEgg_50, sX6_ownEgg_51, sX6_ownEgg_52, sX6_ownEgg_55, sX6_ownEgg_59, sX6_ownEgg_62, sX6_ownEgg_63, sX6_ownEgg_66, sX6_ownEgg_69, sX6_ownEgg_70, opK_some, guK_true, calK_some, rk_nil, rk_int, rk_ref, tl_some, tl_none, nb_int, nb_0, nb_1, nb_if, nb_if']
      exact c4
    have fin := ih (k + 1) M4 (some (.int (r 4 + 1))) (some (.int (oeR (kiR r t k) t 0 n))) (by omega) (o13.tr o4) r4
    have h18 := at9_lt (f := 0) ht (by omega)
    have in_ : ¬ r 4 + 1 ≤ 0 := by
      have c8 := wr_C w.1
      rw [c8.2, nI_1]
      exact nI_nle (by omega) (by omega)
    rw [sX6_kindFor_83]
    simp only [sX6_kindFor_0, sX6_kindFor_1, sX6_kindFor_2, sX6_kindFor_5, sX6_kindFor_8, sX6_kindFor_9, sX6_kindFor_10, sX6_kindFor_12, sX6_kindFor_15, sX6_kindFor_18, sX6_kindFor_19, sX6_kindFor_21, sX6_kindFor_24, sX6_kindFor_25, sX6_kindFor_26, sX6_kindFor_27, sX6_kindFor_28, sX6_kindFor_31, sX6_kindFor_34, sX6_kindFor_35, sX6_kindFor_36, sX6_kindFor_39, sX6_kindFor_42, sX6_kindFor_43, sX6_kindFor_45, sX6_kindFor_48, sX6_kindFor_49, sX6_kindFor_50, sX6_kindFor_51, sX6_kindFor_54, sX6_kindFor_57, sX6_kindFor_58, sX6_kindFor_60, sX6_kindFor_63, sX6_kindFor_64, sX6_kindFor_65, sX6_kindFor_68, sX6_kindFor_69, sX6_kindFor_72, sX6_kindFor_75, sX6_kindFor_76, sX6_kindFor_77, sX6_kindFor_78, sX6_kindFor_80, sX6_kindFor_81, sX6_kindFor_85, sX6_kindFor_87, sX6_kindFor_90, sX6_kindFor_91, sX6_kindFor_94, sX6_kindFor_95, sX6_kindFor_96, sX6_kindFor_99, sX6_kindFor_102, sX6_kindFor_103, sX6_kindFor_104, sX6_kindFor_107, sX6_kindFor_109, sX6_kindFor_110, sX6_kindFor_111, sX6_kindFor_112, sX6_kindFor_115, sX6_kindFor_117, sX6_kindFor_119, sX6_kindFor_122, sX6_kindFor_124, sX6_kindFor_126, sX6_kindFor_129, sX6_kindFor_131, sX6_kindFor_134, sX6_kindFor_135, sX6_kindFor_136, sX6_kindFor_138, sX6_kindFor_140, sX6_kindFor_143, sX6_kindFor_145, sX6_kindFor_148, sX6_kindFor_151, sX6_kindFor_152, opK_some, guK_true, calK_some, rk_nil, rk_int, rk_ref, tl_some, tl_none, nb_int, nb_0, nb_1, nb_if, nb_if', o130_0, C_m_at, A9_0]
    rw [if_neg (show ¬ (6 : Int32) < nI k from nI_nlt (a := 6) (by omega) (by omega)), sX6_kindFor_101]
    simp only [sX6_kindFor_0, sX6_kindFor_1, sX6_kindFor_2, sX6_kindFor_5, sX6_kindFor_8, sX6_kindFor_9, sX6_kindFor_10, sX6_kindFor_12, sX6_kindFor_15, sX6_kindFor_18, sX6_kindFor_19, sX6_kindFor_21, sX6_kindFor_24, sX6_kindFor_25, sX6_kindFor_26, sX6_kindFor_27, sX6_kindFor_28, sX6_kindFor_31, sX6_kindFor_34, sX6_kindFor_35, sX6_kindFor_36, sX6_kindFor_39, sX6_kindFor_42, sX6_kindFor_43, sX6_kindFor_45, sX6_kindFor_48, sX6_kindFor_49, sX6_kindFor_50, sX6_kindFor_51, sX6_kindFor_54, sX6_kindFor_57, sX6_kindFor_58, sX6_kindFor_60, sX6_kindFor_63, sX6_kindFor_64, sX6_kindFor_65, sX6_kindFor_68, sX6_kindFor_69, sX6_kindFor_72, sX6_kindFor_75, sX6_kindFor_76, sX6_kindFor_77, sX6_kindFor_78, sX6_kindFor_80, sX6_kindFor_81, sX6_kindFor_85, sX6_kindFor_87, sX6_kindFor_90, sX6_kindFor_91, sX6_kindFor_94, sX6_kindFor_95, sX6_kindFor_96, sX6_kindFor_99, sX6_kindFor_102, sX6_kindFor_103, sX6_kindFor_104, sX6_kindFor_107, sX6_kindFor_109, sX6_kindFor_110, sX6_kindFor_111, sX6_kindFor_112, sX6_kindFor_115, sX6_kindFor_117, sX6_kindFor_119, sX6_kindFor_122, sX6_kindFor_124, sX6_kindFor_126, sX6_kindFor_129, sX6_kindFor_131, sX6_kindFor_134, sX6_kindFor_135, sX6_kindFor_136, sX6_kindFor_138, sX6_kindFor_140, sX6_kindFor_143, sX6_kindFor_145, sX6_kindFor_148, sX6_kindFor_151, sX6_kindFor_152, opK_some, guK_true, calK_some, rk_nil, rk_int, rk_ref, tl_some, tl_none, nb_int, nb_0, nb_1, nb_if, nb_if', a131, b131, q130, inb_nI (show at9 t 0 < 132 by omega) (by omega), nI_clamp (show at9 t 0 < 2 ^ 31 by omega), ← hM2, c3, c4', in_, if_false, nI_1]
    by_cases hl : (kfS r t n (-1) k).1 < oeR (kiR r t k) t 0 n
    · have ek : kfS r t n (-1) (k + 1) = (oeR (kiR r t k) t 0 n, nI k) := if_pos hl
      rw [ek] at fin
      rw [if_neg (Int32.not_le.mpr hl), if_pos hl]
      exact fin
    · have ek : kfS r t n (-1) (k + 1) = kfS r t n (-1) k := if_neg hl
      rw [ek] at fin
      rw [if_pos (Int32.not_lt.mp hl), if_neg hl]
      exact fin
theorem X_kindFor {d : Nat} {M : Mem} {x y : Int32} (j : J M) : Two (d + 5) 58 (d + 7) 196 [.int x, .int y] M := by
  have w := j_wr j
  have h := j_hr j
  have ed : M 100 1 = M 131 0 := j.1.2.2.1.1
  have e0 : M 10 0 = M 131 3 := h.1.1
  by_cases hg : (0 ≤ x ∧ x ≤ M 131 3 - 1) ∧ 1 ≤ y ∧ y ≤ 60
  · obtain ⟨hT, hy⟩ := hg
    obtain ⟨t, _, ht, rfl⟩ := thing_of w hT
    have co := C_isOut (d := d + 3) hen10 h ht
    rw [show d + 3 + 1 = d + 4 from rfl] at co
    by_cases hb : ¬ M 131 (at9 t 4) = 0 ∨ 9999 < M 131 0 + y
    · refine ⟨fX M 4, fM (fX M 4) 4, -1000005, ?_, ?_, J_fin j (by omega)⟩
      · rw [nX5_kindFor]
        by_cases h0 : M 131 (at9 t 4) = 0
        · have hl : 9999 < M 131 0 + y := hb.resolve_left (fun z => z h0)
          simp only [sX5_kindFor_0, sX5_kindFor_1, sX5_kindFor_2, sX5_kindFor_5, sX5_kindFor_8, sX5_kindFor_9, sX5_kindFor_12, sX5_kindFor_15, sX5_kindFor_16, sX5_kindFor_17, sX5_kindFor_20, sX5_kindFor_21, sX5_kindFor_22, sX5_kindFor_25, sX5_kindFor_28, sX5_kindFor_29, sX5_kindFor_32, sX5_kindFor_35, sX5_kindFor_36, sX5_kindFor_37, sX5_kindFor_40, sX5_kindFor_43, sX5_kindFor_44, sX5_kindFor_45, sX5_kindFor_48, sX5_kindFor_49, sX5_kindFor_50, sX5_kindFor_53, sX5_kindFor_56, sX5_kindFor_57, sX5_kindFor_60, sX5_kindFor_63, sX5_kindFor_64, sX5_kindFor_65, sX5_kindFor_68, sX5_kindFor_69, sX5_kindFor_70, sX5_kindFor_71, sX5_kindFor_72, sX5_kindFor_74, sX5_kindFor_75, sX5_kindFor_79, sX5_kindFor_81, sX5_kindFor_84, sX5_kindFor_85, sX5_kindFor_86, sX5_kindFor_88, sX5_kindFor_89, sX5_kindFor_92, sX5_kindFor_94, sX5_kindFor_96, sX5_kindFor_98, sX5_kindFor_101, sX5_kindFor_103, sX5_kindFor_105, sX5_kindFor_107, sX5_kindFor_108, sX5_kindFor_111, sX5_kindFor_114, sX5_kindFor_115, opK_some, guK_true, calK_some, rk_nil, rk_int, rk_ref, tl_some, tl_none, nb_int, nb_0, nb_1, nb_if, nb_if', q0, o0_0, o100_0, hen_c hen10, C_x_isThing, C_x_isDays, C_x_isTooLate, co, e0, ed, hT, hy, h0, hl, and_self, if_true, one_ne, if_false, C_xf4]
        · simp only [sX5_kindFor_0, sX5_kindFor_1, sX5_kindFor_2, sX5_kindFor_5, sX5_kindFor_8, sX5_kindFor_9, sX5_kindFor_12, sX5_kindFor_15, sX5_kindFor_16, sX5_kindFor_17, sX5_kindFor_20, sX5_kindFor_21, sX5_kindFor_22, sX5_kindFor_25, sX5_kindFor_28, sX5_kindFor_29, sX5_kindFor_32, sX5_kindFor_35, sX5_kindFor_36, sX5_kindFor_37, sX5_kindFor_40, sX5_kindFor_43, sX5_kindFor_44, sX5_kindFor_45, sX5_kindFor_48, sX5_kindFor_49, sX5_kindFor_50, sX5_kindFor_53, sX5_kindFor_56, sX5_kindFor_57, sX5_kindFor_60, sX5_kindFor_63, sX5_kindFor_64, sX5_kindFor_65, sX5_kindFor_68, sX5_kindFor_69, sX5_kindFor_70, sX5_kindFor_71, sX5_kindFor_72, sX5_kindFor_74, sX5_kindFor_75, sX5_kindFor_79, sX5_kindFor_81, sX5_kindFor_84, sX5_kindFor_85, sX5_kindFor_86, sX5_kindFor_88, sX5_kindFor_89, sX5_kindFor_92, sX5_kindFor_94, sX5_kindFor_96, sX5_kindFor_98, sX5_kindFor_101, sX5_kindFor_103, sX5_kindFor_105, sX5_kindFor_107, sX5_kindFor_108, sX5_kindFor_111, sX5_kindFor_114, sX5_kindFor_115, opK_some, guK_true, calK_some, rk_nil, rk_int, rk_ref, tl_some, tl_none, nb_int, nb_0, nb_1, nb_if, nb_if', q0, o0_0, o100_0, hen_c hen10, C_x_isThing, C_x_isDays, C_x_isTooLate, co, e0, ed, hT, hy, h0, and_self, if_true, one_ne, zero_eq, if_false, C_xf4]
      · rw [nX6_kindFor]
        by_cases h0 : M 131 (at9 t 4) = 0
        · have hl : 9999 < M 131 0 + y := hb.resolve_left (fun z => z h0)
          simp only [sX6_kindFor_0, sX6_kindFor_1, sX6_kindFor_2, sX6_kindFor_5, sX6_kindFor_8, sX6_kindFor_9, sX6_kindFor_10, sX6_kindFor_12, sX6_kindFor_15, sX6_kindFor_18, sX6_kindFor_19, sX6_kindFor_21, sX6_kindFor_24, sX6_kindFor_25, sX6_kindFor_26, sX6_kindFor_27, sX6_kindFor_28, sX6_kindFor_31, sX6_kindFor_34, sX6_kindFor_35, sX6_kindFor_36, sX6_kindFor_39, sX6_kindFor_42, sX6_kindFor_43, sX6_kindFor_45, sX6_kindFor_48, sX6_kindFor_49, sX6_kindFor_50, sX6_kindFor_51, sX6_kindFor_54, sX6_kindFor_57, sX6_kindFor_58, sX6_kindFor_60, sX6_kindFor_63, sX6_kindFor_64, sX6_kindFor_65, sX6_kindFor_68, sX6_kindFor_69, sX6_kindFor_72, sX6_kindFor_75, sX6_kindFor_76, sX6_kindFor_77, sX6_kindFor_78, sX6_kindFor_80, sX6_kindFor_81, sX6_kindFor_85, sX6_kindFor_87, sX6_kindFor_90, sX6_kindFor_91, sX6_kindFor_94, sX6_kindFor_95, sX6_kindFor_96, sX6_kindFor_99, sX6_kindFor_101, sX6_kindFor_102, sX6_kindFor_103, sX6_kindFor_104, sX6_kindFor_107, sX6_kindFor_109, sX6_kindFor_110, sX6_kindFor_111, sX6_kindFor_112, sX6_kindFor_115, sX6_kindFor_117, sX6_kindFor_119, sX6_kindFor_122, sX6_kindFor_124, sX6_kindFor_126, sX6_kindFor_129, sX6_kindFor_131, sX6_kindFor_134, sX6_kindFor_135, sX6_kindFor_136, sX6_kindFor_138, sX6_kindFor_140, sX6_kindFor_143, sX6_kindFor_145, sX6_kindFor_148, sX6_kindFor_151, sX6_kindFor_152, opK_some, guK_true, calK_some, rk_nil, rk_int, rk_ref, tl_some, tl_none, nb_int, nb_0, nb_1, nb_if, nb_if', q130, C_m_isThing, C_m_within, C_m_isHow ht, C_m_isTooLate, fX_131, hT, hy, h0, hl, and_self, if_true, one_ne, if_false, C_mf4]
        · simp only [sX6_kindFor_0, sX6_kindFor_1, sX6_kindFor_2, sX6_kindFor_5, sX6_kindFor_8, sX6_kindFor_9, sX6_kindFor_10, sX6_kindFor_12, sX6_kindFor_15, sX6_kindFor_18, sX6_kindFor_19, sX6_kindFor_21, sX6_kindFor_24, sX6_kindFor_25, sX6_kindFor_26, sX6_kindFor_27, sX6_kindFor_28, sX6_kindFor_31, sX6_kindFor_34, sX6_kindFor_35, sX6_kindFor_36, sX6_kindFor_39, sX6_kindFor_42, sX6_kindFor_43, sX6_kindFor_45, sX6_kindFor_48, sX6_kindFor_49, sX6_kindFor_50, sX6_kindFor_51, sX6_kindFor_54, sX6_kindFor_57, sX6_kindFor_58, sX6_kindFor_60, sX6_kindFor_63, sX6_kindFor_64, sX6_kindFor_65, sX6_kindFor_68, sX6_kindFor_69, sX6_kindFor_72, sX6_kindFor_75, sX6_kindFor_76, sX6_kindFor_77, sX6_kindFor_78, sX6_kindFor_80, sX6_kindFor_81, sX6_kindFor_85, sX6_kindFor_87, sX6_kindFor_90, sX6_kindFor_91, sX6_kindFor_94, sX6_kindFor_95, sX6_kindFor_96, sX6_kindFor_99, sX6_kindFor_101, sX6_kindFor_102, sX6_kindFor_103, sX6_kindFor_104, sX6_kindFor_107, sX6_kindFor_109, sX6_kindFor_110, sX6_kindFor_111, sX6_kindFor_112, sX6_kindFor_115, sX6_kindFor_117, sX6_kindFor_119, sX6_kindFor_122, sX6_kindFor_124, sX6_kindFor_126, sX6_kindFor_129, sX6_kindFor_131, sX6_kindFor_134, sX6_kindFor_135, sX6_kindFor_136, sX6_kindFor_138, sX6_kindFor_140, sX6_kindFor_143, sX6_kindFor_145, sX6_kindFor_148, sX6_kindFor_151, sX6_kindFor_152, opK_some, guK_true, calK_some, rk_nil, rk_int, rk_ref, tl_some, tl_none, nb_int, nb_0, nb_1, nb_if, nb_if', q130, C_m_isThing, C_m_within, C_m_isHow ht, C_m_isTooLate, fX_131, hT, hy, h0, and_self, if_true, one_ne, zero_eq, if_false, C_mf4]
    · have h0 : M 131 (at9 t 4) = 0 := Decidable.byContradiction (fun z => hb (Or.inl z))
      have hl : ¬ 9999 < M 131 0 + y := fun z => hb (Or.inr z)
      have cr_ := C_hasRoom (d := d + 2) hen10 h w ht
      rw [show d + 2 + 2 = d + 4 from rfl] at cr_
      have cm_ : ∀ M2 : Mem, M2 131 = M 131 → call (d + 6) 153 [.ref 130, .int (nI t)] M2 = some (some (.int (if roomR (M 131) t then 1 else 0)), M2) := by
        intro M2 e
        have := C_m_hasRoom (d := d + 2) (M := M2) (by rw [e]; exact w) ht
        rw [show d + 2 + 4 = d + 6 from rfl] at this
        rw [e] at this
        exact this
      by_cases hr : roomR (M 131) t
      · obtain ⟨n, n1, n60, rfl⟩ := days_of hy
        obtain ⟨M2, c2, cs2⟩ := L_kindFor (d := d) (n := n) h w ht hr.1 (by omega) 7 0 M none (by omega) Cs.rf
        have e2 := cs2.e
        have hc := C_aside (d := d + 5) (M := M2)
        rw [show d + 5 + 1 = d + 6 from rfl] at hc
        obtain ⟨M3, hM3⟩ : ∃ M3, M3 = mrow M2 133 (cpR (M2 131) (M2 133)) := ⟨_, rfl⟩
        rw [← hM3] at hc
        have ms3 : Ms M2 M3 := by rw [hM3]; exact Ms.as
        have r3 : M3 131 = M 131 := (ms3.1 131 (by omega)).trans e2
        have a3 : M3 133 = cpR (M 131) (M2 133) := by rw [hM3, mrow_at, e2]
        obtain ⟨M4, c4, o4, r4⟩ := L_m_kindFor (d := d) (n := n) (M := M3) j.1.1.1 r3 a3 ht hr.1 (by omega) 7 0 M3 none none (by omega) Mo.rf r3
        have ez : kfS (M 131) t n (-1) 7 = kfS (M 131) t n 0 7 := kf_z (WX_ki (k := 0) j.1.1.1 (by omega) ht hr.1).1 6
        rw [ez] at c4
        refine ⟨M2, M4, (kfS (M 131) t n 0 7).2, ?_, ?_, Ms.j (cs2.j j) (ms3.tr (o4.ms (by rw [r4, r3])))⟩
        · rw [nX5_kindFor]
          simp only [sX5_kindFor_0, sX5_kindFor_1, sX5_kindFor_2, sX5_kindFor_5, sX5_kindFor_8, sX5_kindFor_9, sX5_kindFor_12, sX5_kindFor_15, sX5_kindFor_16, sX5_kindFor_17, sX5_kindFor_20, sX5_kindFor_21, sX5_kindFor_22, sX5_kindFor_25, sX5_kindFor_28, sX5_kindFor_29, sX5_kindFor_32, sX5_kindFor_35, sX5_kindFor_36, sX5_kindFor_37, sX5_kindFor_40, sX5_kindFor_43, sX5_kindFor_44, sX5_kindFor_45, sX5_kindFor_48, sX5_kindFor_49, sX5_kindFor_50, sX5_kindFor_53, sX5_kindFor_56, sX5_kindFor_57, sX5_kindFor_60, sX5_kindFor_63, sX5_kindFor_64, sX5_kindFor_65, sX5_kindFor_68, sX5_kindFor_69, sX5_kindFor_70, sX5_kindFor_71, sX5_kindFor_72, sX5_kindFor_74, sX5_kindFor_75, sX5_kindFor_79, sX5_kindFor_81, sX5_kindFor_84, sX5_kindFor_85, sX5_kindFor_86, sX5_kindFor_88, sX5_kindFor_89, sX5_kindFor_92, sX5_kindFor_94, sX5_kindFor_96, sX5_kindFor_98, sX5_kindFor_101, sX5_kindFor_103, sX5_kindFor_105, sX5_kindFor_107, sX5_kindFor_108, sX5_kindFor_111, sX5_kindFor_114, sX5_kindFor_115, opK_some, guK_true, calK_some, rk_nil, rk_int, rk_ref, tl_some, tl_none, nb_int, nb_0, nb_1, nb_if, nb_if', q0, o0_0, o100_0, hen_c hen10, C_x_isThing, C_x_isDays, C_x_isTooLate, co, cr_, if_pos hr, e0, ed, hT, hy, h0, hl, and_self, if_true, one_ne, zero_eq, if_false]
          exact c2
        · rw [nX6_kindFor]
          simp only [sX6_kindFor_0, sX6_kindFor_1, sX6_kindFor_2, sX6_kindFor_5, sX6_kindFor_8, sX6_kindFor_9, sX6_kindFor_10, sX6_kindFor_12, sX6_kindFor_15, sX6_kindFor_18, sX6_kindFor_19, sX6_kindFor_21, sX6_kindFor_24, sX6_kindFor_25, sX6_kindFor_26, sX6_kindFor_27, sX6_kindFor_28, sX6_kindFor_31, sX6_kindFor_34, sX6_kindFor_35, sX6_kindFor_36, sX6_kindFor_39, sX6_kindFor_42, sX6_kindFor_43, sX6_kindFor_45, sX6_kindFor_48, sX6_kindFor_49, sX6_kindFor_50, sX6_kindFor_51, sX6_kindFor_54, sX6_kindFor_57, sX6_kindFor_58, sX6_kindFor_60, sX6_kindFor_63, sX6_kindFor_64, sX6_kindFor_65, sX6_kindFor_68, sX6_kindFor_69, sX6_kindFor_72, sX6_kindFor_75, sX6_kindFor_76, sX6_kindFor_77, sX6_kindFor_78, sX6_kindFor_80, sX6_kindFor_81, sX6_kindFor_85, sX6_kindFor_87, sX6_kindFor_90, sX6_kindFor_91, sX6_kindFor_94, sX6_kindFor_95, sX6_kindFor_96, sX6_kindFor_99, sX6_kindFor_101, sX6_kindFor_102, sX6_kindFor_103, sX6_kindFor_104, sX6_kindFor_107, sX6_kindFor_109, sX6_kindFor_110, sX6_kindFor_111, sX6_kindFor_112, sX6_kindFor_115, sX6_kindFor_117, sX6_kindFor_119, sX6_kindFor_122, sX6_kindFor_124, sX6_kindFor_126, sX6_kindFor_129, sX6_kindFor_131, sX6_kindFor_134, sX6_kindFor_135, sX6_kindFor_136, sX6_kindFor_138, sX6_kindFor_140, sX6_kindFor_143, sX6_kindFor_145, sX6_kindFor_148, sX6_kindFor_151, sX6_kindFor_152, opK_some, guK_true, calK_some, rk_nil, rk_int, rk_ref, tl_some, tl_none, nb_int, nb_0, nb_1, nb_if, nb_if', q130, o130_0, o130_2, C_m_isThing, C_m_within, C_m_isHow ht, C_m_isTooLate, e2, cm_ M2 e2, if_pos hr, hT, hy, h0, hl, and_self, if_true, one_ne, zero_eq, if_false, hc]
          exact c4
      · refine ⟨fX M 1, fM (fX M 1) 1, -1000002, ?_, ?_, J_fin j (by omega)⟩
        · rw [nX5_kindFor]
          simp only [sX5_kindFor_0, sX5_kindFor_1, sX5_kindFor_2, sX5_kindFor_5, sX5_kindFor_8, sX5_kindFor_9, sX5_kindFor_12, sX5_kindFor_15, sX5_kindFor_16, sX5_kindFor_17, sX5_kindFor_20, sX5_kindFor_21, sX5_kindFor_22, sX5_kindFor_25, sX5_kindFor_28, sX5_kindFor_29, sX5_kindFor_32, sX5_kindFor_35, sX5_kindFor_36, sX5_kindFor_37, sX5_kindFor_40, sX5_kindFor_43, sX5_kindFor_44, sX5_kindFor_45, sX5_kindFor_48, sX5_kindFor_49, sX5_kindFor_50, sX5_kindFor_53, sX5_kindFor_56, sX5_kindFor_57, sX5_kindFor_60, sX5_kindFor_63, sX5_kindFor_64, sX5_kindFor_65, sX5_kindFor_68, sX5_kindFor_69, sX5_kindFor_70, sX5_kindFor_71, sX5_kindFor_72, sX5_kindFor_74, sX5_kindFor_75, sX5_kindFor_79, sX5_kindFor_81, sX5_kindFor_84, sX5_kindFor_85, sX5_kindFor_86, sX5_kindFor_88, sX5_kindFor_89, sX5_kindFor_92, sX5_kindFor_94, sX5_kindFor_96, sX5_kindFor_98, sX5_kindFor_101, sX5_kindFor_103, sX5_kindFor_105, sX5_kindFor_107, sX5_kindFor_108, sX5_kindFor_111, sX5_kindFor_114, sX5_kindFor_115, opK_some, guK_true, calK_some, rk_nil, rk_int, rk_ref, tl_some, tl_none, nb_int, nb_0, nb_1, nb_if, nb_if', q0, o0_0, o100_0, hen_c hen10, C_x_isThing, C_x_isDays, C_x_isTooLate, co, cr_, if_neg hr, e0, ed, hT, hy, h0, hl, and_self, if_true, one_ne, zero_eq, if_false, C_xf1]
        · rw [nX6_kindFor]
          simp only [sX6_kindFor_0, sX6_kindFor_1, sX6_kindFor_2, sX6_kindFor_5, sX6_kindFor_8, sX6_kindFor_9, sX6_kindFor_10, sX6_kindFor_12, sX6_kindFor_15, sX6_kindFor_18, sX6_kindFor_19, sX6_kindFor_21, sX6_kindFor_24, sX6_kindFor_25, sX6_kindFor_26, sX6_kindFor_27, sX6_kindFor_28, sX6_kindFor_31, sX6_kindFor_34, sX6_kindFor_35, sX6_kindFor_36, sX6_kindFor_39, sX6_kindFor_42, sX6_kindFor_43, sX6_kindFor_45, sX6_kindFor_48, sX6_kindFor_49, sX6_kindFor_50, sX6_kindFor_51, sX6_kindFor_54, sX6_kindFor_57, sX6_kindFor_58, sX6_kindFor_60, sX6_kindFor_63, sX6_kindFor_64, sX6_kindFor_65, sX6_kindFor_68, sX6_kindFor_69, sX6_kindFor_72, sX6_kindFor_75, sX6_kindFor_76, sX6_kindFor_77, sX6_kindFor_78, sX6_kindFor_80, sX6_kindFor_81, sX6_kindFor_85, sX6_kindFor_87, sX6_kindFor_90, sX6_kindFor_91, sX6_kindFor_94, sX6_kindFor_95, sX6_kindFor_96, sX6_kindFor_99, sX6_kindFor_101, sX6_kindFor_102, sX6_kindFor_103, sX6_kindFor_104, sX6_kindFor_107, sX6_kindFor_109, sX6_kindFor_110, sX6_kindFor_111, sX6_kindFor_112, sX6_kindFor_115, sX6_kindFor_117, sX6_kindFor_119, sX6_kindFor_122, sX6_kindFor_124, sX6_kindFor_126, sX6_kindFor_129, sX6_kindFor_131, sX6_kindFor_134, sX6_kindFor_135, sX6_kindFor_136, sX6_kindFor_138, sX6_kindFor_140, sX6_kindFor_143, sX6_kindFor_145, sX6_kindFor_148, sX6_kindFor_151, sX6_kindFor_152, opK_some, guK_true, calK_some, rk_nil, rk_int, rk_ref, tl_some, tl_none, nb_int, nb_0, nb_1, nb_if, nb_if', q130, C_m_isThing, C_m_within, C_m_isHow ht, C_m_isTooLate, fX_131, cm_ (fX M 1) fX_131, if_neg hr, hT, hy, h0, hl, and_self, if_true, one_ne, zero_eq, if_false, C_mf1]
  · refine ⟨fX M 0, fM (fX M 0) 0, -1000001, ?_, ?_, J_fin j (by omega)⟩
    · rw [nX5_kindFor]
      by_cases hT : 0 ≤ x ∧ x ≤ M 131 3 - 1
      · have hy : ¬ (1 ≤ y ∧ y ≤ 60) := fun z => hg ⟨hT, z⟩
        simp only [sX5_kindFor_0, sX5_kindFor_1, sX5_kindFor_2, sX5_kindFor_5, sX5_kindFor_8, sX5_kindFor_9, sX5_kindFor_12, sX5_kindFor_15, sX5_kindFor_16, sX5_kindFor_17, sX5_kindFor_20, sX5_kindFor_21, sX5_kindFor_22, sX5_kindFor_25, sX5_kindFor_28, sX5_kindFor_29, sX5_kindFor_32, sX5_kindFor_35, sX5_kindFor_36, sX5_kindFor_37, sX5_kindFor_40, sX5_kindFor_43, sX5_kindFor_44, sX5_kindFor_45, sX5_kindFor_48, sX5_kindFor_49, sX5_kindFor_50, sX5_kindFor_53, sX5_kindFor_56, sX5_kindFor_57, sX5_kindFor_60, sX5_kindFor_63, sX5_kindFor_64, sX5_kindFor_65, sX5_kindFor_68, sX5_kindFor_69, sX5_kindFor_70, sX5_kindFor_71, sX5_kindFor_72, sX5_kindFor_74, sX5_kindFor_75, sX5_kindFor_79, sX5_kindFor_81, sX5_kindFor_84, sX5_kindFor_85, sX5_kindFor_86, sX5_kindFor_88, sX5_kindFor_89, sX5_kindFor_92, sX5_kindFor_94, sX5_kindFor_96, sX5_kindFor_98, sX5_kindFor_101, sX5_kindFor_103, sX5_kindFor_105, sX5_kindFor_107, sX5_kindFor_108, sX5_kindFor_111, sX5_kindFor_114, sX5_kindFor_115, opK_some, guK_true, calK_some, rk_nil, rk_int, rk_ref, tl_some, tl_none, nb_int, nb_0, nb_1, nb_if, nb_if', q0, C_x_isThing, C_x_isDays, e0, hT, hy, and_self, if_true, one_ne, zero_eq, if_false, C_xf0]
      · simp only [sX5_kindFor_0, sX5_kindFor_1, sX5_kindFor_2, sX5_kindFor_5, sX5_kindFor_8, sX5_kindFor_9, sX5_kindFor_12, sX5_kindFor_15, sX5_kindFor_16, sX5_kindFor_17, sX5_kindFor_20, sX5_kindFor_21, sX5_kindFor_22, sX5_kindFor_25, sX5_kindFor_28, sX5_kindFor_29, sX5_kindFor_32, sX5_kindFor_35, sX5_kindFor_36, sX5_kindFor_37, sX5_kindFor_40, sX5_kindFor_43, sX5_kindFor_44, sX5_kindFor_45, sX5_kindFor_48, sX5_kindFor_49, sX5_kindFor_50, sX5_kindFor_53, sX5_kindFor_56, sX5_kindFor_57, sX5_kindFor_60, sX5_kindFor_63, sX5_kindFor_64, sX5_kindFor_65, sX5_kindFor_68, sX5_kindFor_69, sX5_kindFor_70, sX5_kindFor_71, sX5_kindFor_72, sX5_kindFor_74, sX5_kindFor_75, sX5_kindFor_79, sX5_kindFor_81, sX5_kindFor_84, sX5_kindFor_85, sX5_kindFor_86, sX5_kindFor_88, sX5_kindFor_89, sX5_kindFor_92, sX5_kindFor_94, sX5_kindFor_96, sX5_kindFor_98, sX5_kindFor_101, sX5_kindFor_103, sX5_kindFor_105, sX5_kindFor_107, sX5_kindFor_108, sX5_kindFor_111, sX5_kindFor_114, sX5_kindFor_115, opK_some, guK_true, calK_some, rk_nil, rk_int, rk_ref, tl_some, tl_none, nb_int, nb_0, nb_1, nb_if, nb_if', q0, C_x_isThing, e0, hT, if_true, zero_eq, if_false, C_xf0]
    · rw [nX6_kindFor]
      by_cases hT : 0 ≤ x ∧ x ≤ M 131 3 - 1
      · have hy : ¬ (1 ≤ y ∧ y ≤ 60) := fun z => hg ⟨hT, z⟩
        simp only [sX6_kindFor_0, sX6_kindFor_1, sX6_kindFor_2, sX6_kindFor_5, sX6_kindFor_8, sX6_kindFor_9, sX6_kindFor_10, sX6_kindFor_12, sX6_kindFor_15, sX6_kindFor_18, sX6_kindFor_19, sX6_kindFor_21, sX6_kindFor_24, sX6_kindFor_25, sX6_kindFor_26, sX6_kindFor_27, sX6_kindFor_28, sX6_kindFor_31, sX6_kindFor_34, sX6_kindFor_35, sX6_kindFor_36, sX6_kindFor_39, sX6_kindFor_42, sX6_kindFor_43, sX6_kindFor_45, sX6_kindFor_48, sX6_kindFor_49, sX6_kindFor_50, sX6_kindFor_51, sX6_kindFor_54, sX6_kindFor_57, sX6_kindFor_58, sX6_kindFor_60, sX6_kindFor_63, sX6_kindFor_64, sX6_kindFor_65, sX6_kindFor_68, sX6_kindFor_69, sX6_kindFor_72, sX6_kindFor_75, sX6_kindFor_76, sX6_kindFor_77, sX6_kindFor_78, sX6_kindFor_80, sX6_kindFor_81, sX6_kindFor_85, sX6_kindFor_87, sX6_kindFor_90, sX6_kindFor_91, sX6_kindFor_94, sX6_kindFor_95, sX6_kindFor_96, sX6_kindFor_99, sX6_kindFor_101, sX6_kindFor_102, sX6_kindFor_103, sX6_kindFor_104, sX6_kindFor_107, sX6_kindFor_109, sX6_kindFor_110, sX6_kindFor_111, sX6_kindFor_112, sX6_kindFor_115, sX6_kindFor_117, sX6_kindFor_119, sX6_kindFor_122, sX6_kindFor_124, sX6_kindFor_126, sX6_kindFor_129, sX6_kindFor_131, sX6_kindFor_134, sX6_kindFor_135, sX6_kindFor_136, sX6_kindFor_138, sX6_kindFor_140, sX6_kindFor_143, sX6_kindFor_145, sX6_kindFor_148, sX6_kindFor_151, sX6_kindFor_152, opK_some, guK_true, calK_some, rk_nil, rk_int, rk_ref, tl_some, tl_none, nb_int, nb_0, nb_1, nb_if, nb_if', q130, C_m_isThing, C_m_within, fX_131, hT, hy, and_self, if_true, one_ne, zero_eq, if_false, C_mf0]
      · simp only [sX6_kindFor_0, sX6_kindFor_1, sX6_kindFor_2, sX6_kindFor_5, sX6_kindFor_8, sX6_kindFor_9, sX6_kindFor_10, sX6_kindFor_12, sX6_kindFor_15, sX6_kindFor_18, sX6_kindFor_19, sX6_kindFor_21, sX6_kindFor_24, sX6_kindFor_25, sX6_kindFor_26, sX6_kindFor_27, sX6_kindFor_28, sX6_kindFor_31, sX6_kindFor_34, sX6_kindFor_35, sX6_kindFor_36, sX6_kindFor_39, sX6_kindFor_42, sX6_kindFor_43, sX6_kindFor_45, sX6_kindFor_48, sX6_kindFor_49, sX6_kindFor_50, sX6_kindFor_51, sX6_kindFor_54, sX6_kindFor_57, sX6_kindFor_58, sX6_kindFor_60, sX6_kindFor_63, sX6_kindFor_64, sX6_kindFor_65, sX6_kindFor_68, sX6_kindFor_69, sX6_kindFor_72, sX6_kindFor_75, sX6_kindFor_76, sX6_kindFor_77, sX6_kindFor_78, sX6_kindFor_80, sX6_kindFor_81, sX6_kindFor_85, sX6_kindFor_87, sX6_kindFor_90, sX6_kindFor_91, sX6_kindFor_94, sX6_kindFor_95, sX6_kindFor_96, sX6_kindFor_99, sX6_kindFor_101, sX6_kindFor_102, sX6_kindFor_103, sX6_kindFor_104, sX6_kindFor_107, sX6_kindFor_109, sX6_kindFor_110, sX6_kindFor_111, sX6_kindFor_112, sX6_kindFor_115, sX6_kindFor_117, sX6_kindFor_119, sX6_kindFor_122, sX6_kindFor_124, sX6_kindFor_126, sX6_kindFor_129, sX6_kindFor_131, sX6_kindFor_134, sX6_kindFor_135, sX6_kindFor_136, sX6_kindFor_138, sX6_kindFor_140, sX6_kindFor_143, sX6_kindFor_145, sX6_kindFor_148, sX6_kindFor_151, sX6_kindFor_152, opK_some, guK_true, calK_some, rk_nil, rk_int, rk_ref, tl_some, tl_none, nb_int, nb_0, nb_1, nb_if, nb_if', q130, C_m_isThing, fX_131, hT, if_true, zero_eq, if_false, C_mf0]

