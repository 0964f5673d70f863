/-! orders: how many there are in a set; the class's best one -/
abbrev uS (x k : Int32) : Int32 := (x.toUInt32 >>> (k.toUInt32 &&& Int32.toUInt32 31)).toInt32
def bc1 (x : Int32) : Int32 := x - (uS x 1 &&& 1431655765)
def bc2 (x : Int32) : Int32 := (x &&& 858993459) + (uS x 2 &&& 858993459)
def bc3 (x : Int32) : Int32 := (x + uS x 4) &&& 252645135
def bc4 (x : Int32) : Int32 := x + uS x 8
def bc5 (x : Int32) : Int32 := x + uS x 16
def bcI (x : Int32) : Int32 := bc5 (bc4 (bc3 (bc2 (bc1 x)))) &&& 63
theorem C_bitCount {d : Nat} {M : Mem} {x : Int32} : call (d + 1) 50 [.int x] M = some (some (.int (bcI x)), M) := by
  rw [nJ6_bitCount_0f7a4]
  simp only [sJ6_bitCount_0f7a4_0, sJ6_bitCount_0f7a4_1, sJ6_bitCount_0f7a4_2, sJ6_bitCount_0f7a4_3, sJ6_bitCount_0f7a4_4, sJ6_bitCount_0f7a4_7, sJ6_bitCount_0f7a4_8, sJ6_bitCount_0f7a4_9, sJ6_bitCount_0f7a4_10, sJ6_bitCount_0f7a4_11, sJ6_bitCount_0f7a4_14, sJ6_bitCount_0f7a4_15, sJ6_bitCount_0f7a4_16, sJ6_bitCount_0f7a4_17, sJ6_bitCount_0f7a4_18, sJ6_bitCount_0f7a4_21, sJ6_bitCount_0f7a4_22, sJ6_bitCount_0f7a4_23, sJ6_bitCount_0f7a4_24, sJ6_bitCount_0f7a4_25, sJ6_bitCount_0f7a4_26, sJ6_bitCount_0f7a4_27, sJ6_bitCount_0f7a4_28, sJ6_bitCount_0f7a4_29, sJ6_bitCount_0f7a4_32, sJ6_bitCount_0f7a4_33, sJ6_bitCount_0f7a4_34, sJ6_bitCount_0f7a4_35, sJ6_bitCount_0f7a4_36, sJ6_bitCount_0f7a4_38, sJ6_bitCount_0f7a4_39, sJ6_bitCount_0f7a4_40, sJ6_bitCount_0f7a4_41, sJ6_bitCount_0f7a4_42, sJ6_bitCount_0f7a4_43, sJ6_bitCount_0f7a4_45, sJ6_bitCount_0f7a4_46, sJ6_bitCount_0f7a4_47, sJ6_bitCount_0f7a4_48, sJ6_bitCount_0f7a4_49, sJ6_bitCount_0f7a4_51, sJ6_bitCount_0f7a4_52, opK_some, guK_true, calK_some, rk_nil, rk_int, rk_ref, tl_some, tl_none, nb_int, nb_0, nb_1, nb_if, nb_if']
  rfl
theorem bc_ok : ∀ s, s < 1024 → bcI (nI s) = nI (fl s 10).length := by decide +kernel
theorem kern_ok : ∀ s, s < 1024 → s ≠ 0 → s &&& (s - 1) < s ∧ (fl (s &&& (s - 1)) 10).length + 1 = (fl s 10).length := by decide +kernel
theorem fl_le10 (s : Nat) : (fl s 10).length ≤ 10 := fl_len s 10
theorem nI_and (a b : Nat) : nI a &&& nI b = nI (a &&& b) := by
  apply Int32.toBitVec_inj.1
  show BitVec.ofNat 32 a &&& BitVec.ofNat 32 b = BitVec.ofNat 32 (a &&& b)
  apply BitVec.eq_of_getLsbD_eq
  intro i hi
  simp [hi]
theorem L_bits {d : Nat} {M : Mem} {x : Int32} : ∀ (f s c : Nat), s ≤ f → s < 1024 →
    lim (call (d + 0)) none 6 cX6_bits (some .int) 4 [some (.int x), some (.int (nI c)), some (.int (nI s))] [] M = some (some (.int (nI (c + (fl s 10).length))), M) := by
  intro f
  induction f with
  | zero =>
    intro s c hf hs
    obtain rfl : s = 0 := by omega
    rw [sX6_bits_4]
    simp only [sX6_bits_0, sX6_bits_1, sX6_bits_2, sX6_bits_3, sX6_bits_5, sX6_bits_8, sX6_bits_11, sX6_bits_12, sX6_bits_13, sX6_bits_14, sX6_bits_15, sX6_bits_16, sX6_bits_17, sX6_bits_20, sX6_bits_21, opK_some, guK_true, calK_some, rk_nil, rk_int, rk_ref, tl_some, tl_none, nb_int, nb_0, nb_1, nb_if, nb_if']
    rw [if_pos (show nI 0 = 0 from rfl)]
    rfl
  | succ f ih =>
    intro s c hf hs
    by_cases h0 : s = 0
    · subst h0
      rw [sX6_bits_4]
      simp only [sX6_bits_0, sX6_bits_1, sX6_bits_2, sX6_bits_3, sX6_bits_5, sX6_bits_8, sX6_bits_11, sX6_bits_12, sX6_bits_13, sX6_bits_14, sX6_bits_15, sX6_bits_16, sX6_bits_17, sX6_bits_20, sX6_bits_21, opK_some, guK_true, calK_some, rk_nil, rk_int, rk_ref, tl_some, tl_none, nb_int, nb_0, nb_1, nb_if, nb_if']
      rw [if_pos (show nI 0 = 0 from rfl)]
      rfl
    · obtain ⟨k1, k2⟩ := kern_ok s hs h0
      rw [sX6_bits_4]
      simp only [sX6_bits_0, sX6_bits_1, sX6_bits_2, sX6_bits_3, sX6_bits_5, sX6_bits_8, sX6_bits_11, sX6_bits_12, sX6_bits_13, sX6_bits_14, sX6_bits_15, sX6_bits_16, sX6_bits_17, sX6_bits_20, sX6_bits_21, opK_some, guK_true, calK_some, rk_nil, rk_int, rk_ref, tl_some, tl_none, nb_int, nb_0, nb_1, nb_if, nb_if', pk_sub1 (show 1 ≤ s by omega), nI_and, nI_1]
      rw [if_neg (show ¬ nI s = 0 from fun z => h0 (nI_inj (i := s) (j := 0) (by omega) (by omega) z)), ih (s &&& (s - 1)) (c + 1) (by omega) (by omega), ← k2, show c + 1 + (fl (s &&& (s - 1)) 10).length = c + ((fl (s &&& (s - 1)) 10).length + 1) by omega]
theorem C_bits {d s : Nat} {M : Mem} (hs : s < 1024) : call (d + 1) 189 [.int (nI s)] M = some (some (.int (nI (fl s 10).length)), M) := by
  have := L_bits (d := d) (M := M) (x := nI s) s s 0 (Nat.le_refl _) hs
  rw [Nat.zero_add] at this
  rw [nX6_bits]
  simp only [sX6_bits_0, sX6_bits_1, sX6_bits_2, sX6_bits_3, sX6_bits_5, sX6_bits_8, sX6_bits_11, sX6_bits_12, sX6_bits_13, sX6_bits_14, sX6_bits_15, sX6_bits_16, sX6_bits_17, sX6_bits_20, sX6_bits_21, opK_some, guK_true, calK_some, rk_nil, rk_int, rk_ref, tl_some, tl_none, nb_int, nb_0, nb_1, nb_if, nb_if']
  exact this
theorem lrow_map {p : List Nat} {e : Nat → Nat} {k : Nat} (h : k < p.length) : lrow (p.map e) k = e (lrow p k) := by
  show (p.map e).getD k 0 = e (p.getD k 0)
  rw [List.getD_eq_getElem?_getD, List.getD_eq_getElem?_getD, List.getElem?_map, List.getElem?_eq_getElem h]
  rfl
theorem lrow_nx {p : List Nat} {size k : Nat} (h : k < size) : lrow (nxL p size) k = nxF (lrow p) size k := by
  show ((List.range size).map (nxF (lrow p) size)).getD k 0 = _
  rw [List.getD_eq_getElem?_getD, List.getElem?_map, List.getElem?_range h]
  rfl
theorem cpy_5 {n : Nat} (h : n ≤ 5) : cpy9 2 3 0 0 (nI n) = true := by
  rcases (show n = 0 ∨ n = 1 ∨ n = 2 ∨ n = 3 ∨ n = 4 ∨ n = 5 by omega) with rfl | rfl | rfl | rfl | rfl | rfl <;> rfl
/-- what is known of the best one: -1 if there is none yet -/
def Bs (M : Mem) (h : Nat) (b : Int32 × List Nat) (size : Nat) : Prop := b.1 = -1 ∨ ∀ k, k < size → M h k = nI (lrow b.2 k)
theorem L_best {d n size : Nat} {M : Mem} {r : Rw} {e : Nat → Nat} {y : Int32} (he : ∀ x y, e x < e y ↔ x < y) (h : HR M 10 r) (w : WR r) (hs : size ≤ 5) (hn : n < 2 ^ 31) : ∀ (ps : List (List Nat)) (p : List Nat) (b : Int32 × List Nat) (a : Nat → Nat) (M1 : Mem) (c : Nat) (u : Option Value), chk size (p :: ps) = true → c + (p :: ps).length ≤ 120 → p.length = size → (∀ k, k < size → a k = e (lrow p k)) → Rr M1 a size → Bs M1 3 b size → Cs M M1 →
    ∃ M', lim (call (d + 5)) none 5 cX5_findBestRow (some .int) 19 [some (.ref 0), some (.int y), some (.int (nI n)), some (.int (nI size)), some (.int b.1), some (.int 1), some (.int (nI c)), u] [] M1 = some (some (.int (obF (fun ys => bS r (lrow ys) size n) ((p :: ps).map (fun l => l.map e)) b).1), M') ∧ Cs M M' ∧ Bs M' 3 (obF (fun ys => bS r (lrow ys) size n) ((p :: ps).map (fun l => l.map e)) b) size := by
  intro ps
  induction ps with
  | nil =>
    intro p b a M1 c u hc h120 hp ha hr hb cs
    have h120' : c + 1 ≤ 120 := h120
    obtain ⟨M2, c2, o2⟩ := C_bring (d := d + 0) (size := size) (row := a) (n := n) (cs.hr h) w ⟨by omega, hr⟩ hn
    rw [show d + 0 + 5 = d + 5 from rfl] at c2
    have ev : bS r a size n = bS r (lrow (p.map e)) size n := bS_cg (fun k hk => by rw [lrow_map (by omega), ha k hk])
    rw [ev] at c2
    have i0 : iS a (size - 1) = 0 := by
      have hc' : iS (lrow p) (size - 1) = 0 := eq_of_beq hc
      rcases Nat.eq_zero_or_pos size with z | z
      · subst z
        rfl
      · rw [iS_e he ha (size - 1) (by omega)]
        exact hc'
    have r2 : Rr M2 a size := fun k hk => by rw [o2 2 (by omega)]; exact hr k hk
    have cs2 : Cs M M2 := cs.tr (Cs.ou (by omega) (by omega) o2)
    have tail : ∀ (M3 : Mem) (x : Int32), Rr M3 a size → lim (call (d + 5)) none 5 cX5_findBestRow (some .int) 64 [some (.ref 0), some (.int y), some (.int (nI n)), some (.int (nI size)), some (.int x), some (.int 1), some (.int (nI c)), some (.int (bS r (lrow (p.map e)) size n))] [] M3 = some (some (.int x), M3) := by
      intro M3 x r3
      have ct := (C_turnRow (d := d + 3) r3 (by omega)).1 i0
      rw [show d + 3 + 2 = d + 5 from rfl] at ct
      rw [sX5_findBestRow_64]
      simp only [sX5_findBestRow_0, sX5_findBestRow_1, sX5_findBestRow_2, sX5_findBestRow_5, sX5_findBestRow_6, sX5_findBestRow_9, sX5_findBestRow_10, sX5_findBestRow_11, sX5_findBestRow_13, sX5_findBestRow_14, sX5_findBestRow_16, sX5_findBestRow_17, sX5_findBestRow_21, sX5_findBestRow_24, sX5_findBestRow_26, sX5_findBestRow_28, sX5_findBestRow_31, sX5_findBestRow_32, sX5_findBestRow_33, sX5_findBestRow_34, sX5_findBestRow_37, sX5_findBestRow_39, sX5_findBestRow_41, sX5_findBestRow_43, sX5_findBestRow_46, sX5_findBestRow_48, sX5_findBestRow_50, sX5_findBestRow_51, sX5_findBestRow_54, sX5_findBestRow_55, sX5_findBestRow_56, sX5_findBestRow_59, sX5_findBestRow_60, sX5_findBestRow_61, sX5_findBestRow_65, sX5_findBestRow_66, sX5_findBestRow_69, sX5_findBestRow_71, sX5_findBestRow_74, sX5_findBestRow_77, sX5_findBestRow_79, opK_some, guK_true, calK_some, rk_nil, rk_int, rk_ref, tl_some, tl_none, nb_int, nb_0, nb_1, nb_if, nb_if', q0, ct]
      rw [sX5_findBestRow_19]
      simp only [sX5_findBestRow_0, sX5_findBestRow_1, sX5_findBestRow_2, sX5_findBestRow_5, sX5_findBestRow_6, sX5_findBestRow_9, sX5_findBestRow_10, sX5_findBestRow_11, sX5_findBestRow_13, sX5_findBestRow_14, sX5_findBestRow_16, sX5_findBestRow_17, sX5_findBestRow_21, sX5_findBestRow_24, sX5_findBestRow_26, sX5_findBestRow_28, sX5_findBestRow_31, sX5_findBestRow_32, sX5_findBestRow_33, sX5_findBestRow_34, sX5_findBestRow_37, sX5_findBestRow_39, sX5_findBestRow_41, sX5_findBestRow_43, sX5_findBestRow_46, sX5_findBestRow_48, sX5_findBestRow_50, sX5_findBestRow_51, sX5_findBestRow_54, sX5_findBestRow_55, sX5_findBestRow_56, sX5_findBestRow_59, sX5_findBestRow_60, sX5_findBestRow_61, sX5_findBestRow_65, sX5_findBestRow_66, sX5_findBestRow_69, sX5_findBestRow_71, sX5_findBestRow_74, sX5_findBestRow_77, sX5_findBestRow_79, opK_some, guK_true, calK_some, rk_nil, rk_int, rk_ref, tl_some, tl_none, nb_int, nb_0, nb_1, nb_if, nb_if', zero_eq, if_true]
    rw [sX5_findBestRow_19]
    simp only [sX5_findBestRow_0, sX5_findBestRow_1, sX5_findBestRow_2, sX5_findBestRow_5, sX5_findBestRow_6, sX5_findBestRow_9, sX5_findBestRow_10, sX5_findBestRow_11, sX5_findBestRow_13, sX5_findBestRow_14, sX5_findBestRow_16, sX5_findBestRow_17, sX5_findBestRow_21, sX5_findBestRow_24, sX5_findBestRow_26, sX5_findBestRow_28, sX5_findBestRow_31, sX5_findBestRow_32, sX5_findBestRow_33, sX5_findBestRow_34, sX5_findBestRow_37, sX5_findBestRow_39, sX5_findBestRow_41, sX5_findBestRow_43, sX5_findBestRow_46, sX5_findBestRow_48, sX5_findBestRow_50, sX5_findBestRow_51, sX5_findBestRow_54, sX5_findBestRow_55, sX5_findBestRow_56, sX5_findBestRow_59, sX5_findBestRow_60, sX5_findBestRow_65, sX5_findBestRow_66, sX5_findBestRow_69, sX5_findBestRow_71, sX5_findBestRow_74, sX5_findBestRow_77, sX5_findBestRow_79, opK_some, guK_true, calK_some, rk_nil, rk_int, rk_ref, tl_some, tl_none, nb_int, nb_0, nb_1, nb_if, nb_if', q0, c2, one_ne, if_false, o0_8, o0_9]
    rw [if_neg (show ¬ (120 : Int32) ≤ nI c from nI_ge (b := 120) (by omega) (by omega))]
    show ∃ M', _ = some (some (Value.int (if b.1 < bS r (lrow (p.map e)) size n then (bS r (lrow (p.map e)) size n, p.map e) else b).1), M') ∧ Cs M M' ∧ Bs M' 3 (if b.1 < bS r (lrow (p.map e)) size n then (bS r (lrow (p.map e)) size n, p.map e) else b) size
    by_cases hl : b.1 < bS r (lrow (p.map e)) size n
    · rw [if_neg (Int32.not_le.mpr hl), if_pos hl, sX5_findBestRow_61]
      simp only [sX5_findBestRow_0, sX5_findBestRow_1, sX5_findBestRow_2, sX5_findBestRow_5, sX5_findBestRow_6, sX5_findBestRow_9, sX5_findBestRow_10, sX5_findBestRow_11, sX5_findBestRow_13, sX5_findBestRow_14, sX5_findBestRow_16, sX5_findBestRow_17, sX5_findBestRow_21, sX5_findBestRow_24, sX5_findBestRow_26, sX5_findBestRow_28, sX5_findBestRow_31, sX5_findBestRow_32, sX5_findBestRow_33, sX5_findBestRow_34, sX5_findBestRow_37, sX5_findBestRow_39, sX5_findBestRow_41, sX5_findBestRow_43, sX5_findBestRow_46, sX5_findBestRow_48, sX5_findBestRow_50, sX5_findBestRow_51, sX5_findBestRow_54, sX5_findBestRow_55, sX5_findBestRow_56, sX5_findBestRow_59, sX5_findBestRow_60, sX5_findBestRow_65, sX5_findBestRow_66, sX5_findBestRow_69, sX5_findBestRow_71, sX5_findBestRow_74, sX5_findBestRow_77, sX5_findBestRow_79, opK_some, guK_true, calK_some, rk_nil, rk_int, rk_ref, tl_some, tl_none, nb_int, nb_0, nb_1, nb_if, nb_if', cpy_5 hs, nI_clamp (show size < 2 ^ 31 by omega), tn_0]
      obtain ⟨M3, hM3⟩ : ∃ M3, M3 = mrow M2 3 (va_cpy (M2 2) (M2 3) 0 0 size) := ⟨_, rfl⟩
      have r3 : Rr M3 a size := fun k hk => by rw [hM3, mrow_ne (by omega)]; exact r2 k hk
      rw [← hM3, tail M3 _ r3]
      refine ⟨M3, rfl, cs2.tr ?_, Or.inr (fun k hk => ?_)⟩
      · rw [hM3]
        exact ⟨fun k hk => mrow_ne (by omega), fun j _ => by rw [mrow_ne (by omega)]⟩
      · rw [hM3, mrow_at, pk_cpy_in (by omega) (by omega), show 0 + (k - 0) = k by omega, (r2 k hk).2, lrow_map (by omega), ha k hk]
    · rw [if_pos (Int32.not_lt.mp hl), if_neg hl, tail M2 _ r2]
      refine ⟨M2, rfl, cs2, ?_⟩
      rcases hb with z | z
      · exact Or.inl z
      · exact Or.inr (fun k hk => by rw [o2 3 (by omega)]; exact z k hk)
  | cons q rest ih =>
    intro p b a M1 c u hc h120 hp ha hr hb cs
    have hc' : ((iS (lrow p) (size - 1) != 0) && (nxL p size == q) && chk size (q :: rest)) = true := hc
    rw [Bool.and_eq_true, Bool.and_eq_true] at hc'
    obtain ⟨⟨g1, g2⟩, g3⟩ := hc'
    have g1' : iS (lrow p) (size - 1) ≠ 0 := bne_iff_ne.mp g1
    have g2' : nxL p size = q := eq_of_beq g2
    have h120' : c + (rest.length + 1 + 1) ≤ 120 := h120
    have size1 : 0 < size := by
      rcases Nat.eq_zero_or_pos size with z | z
      · subst z
        exact absurd rfl g1'
      · exact z
    obtain ⟨M2, c2, o2⟩ := C_bring (d := d + 0) (size := size) (row := a) (n := n) (cs.hr h) w ⟨by omega, hr⟩ hn
    rw [show d + 0 + 5 = d + 5 from rfl] at c2
    have ev : bS r a size n = bS r (lrow (p.map e)) size n := bS_cg (fun k hk => by rw [lrow_map (by omega), ha k hk])
    rw [ev] at c2
    have i0 : iS a (size - 1) ≠ 0 := by
      rw [iS_e he ha (size - 1) (by omega)]
      exact g1'
    have r2 : Rr M2 a size := fun k hk => by rw [o2 2 (by omega)]; exact hr k hk
    have cs2 : Cs M M2 := cs.tr (Cs.ou (by omega) (by omega) o2)
    have hq : q.length = size := by rw [← g2', List.length_map, List.length_range]
    have hqa : ∀ k, k < size → nxF a size k = e (lrow q k) := fun k hk => by
      rw [nx_e he ha i0 k hk, ← g2', lrow_nx hk]
    have tail : ∀ (M3 : Mem) (b' : Int32 × List Nat), Rr M3 a size → Cs M M3 → Bs M3 3 b' size → ∃ M', lim (call (d + 5)) none 5 cX5_findBestRow (some .int) 64 [some (.ref 0), some (.int y), some (.int (nI n)), some (.int (nI size)), some (.int b'.1), some (.int 1), some (.int (nI c)), some (.int (bS r (lrow (p.map e)) size n))] [] M3 = some (some (.int (obF (fun ys => bS r (lrow ys) size n) ((q :: rest).map (fun l => l.map e)) b').1), M') ∧ Cs M M' ∧ Bs M' 3 (obF (fun ys => bS r (lrow ys) size n) ((q :: rest).map (fun l => l.map e)) b') size := by
      intro M3 b' r3 cs3 hb3
      obtain ⟨M4, ct, r4, o4⟩ := (C_turnRow (d := d + 3) r3 (by omega)).2 i0
      rw [show d + 3 + 2 = d + 5 from rfl] at ct
      have cs4 : Cs M3 M4 := ⟨fun k hk => o4 k (by omega), fun j _ => by rw [o4 0 (by omega)]⟩
      have hb4 : Bs M4 3 b' size := by
        rcases hb3 with z | z
        · exact Or.inl z
        · exact Or.inr (fun k hk => by rw [o4 3 (by omega)]; exact z k hk)
      rw [sX5_findBestRow_64]
      simp only [sX5_findBestRow_0, sX5_findBestRow_1, sX5_findBestRow_2, sX5_findBestRow_5, sX5_findBestRow_6, sX5_findBestRow_9, sX5_findBestRow_10, sX5_findBestRow_11, sX5_findBestRow_13, sX5_findBestRow_14, sX5_findBestRow_16, sX5_findBestRow_17, sX5_findBestRow_21, sX5_findBestRow_24, sX5_findBestRow_26, sX5_findBestRow_28, sX5_findBestRow_31, sX5_findBestRow_32, sX5_findBestRow_33, sX5_findBestRow_34, sX5_findBestRow_37, sX5_findBestRow_39, sX5_findBestRow_41, sX5_findBestRow_43, sX5_findBestRow_46, sX5_findBestRow_48, sX5_findBestRow_50, sX5_findBestRow_51, sX5_findBestRow_54, sX5_findBestRow_55, sX5_findBestRow_56, sX5_findBestRow_59, sX5_findBestRow_60, sX5_findBestRow_61, sX5_findBestRow_65, sX5_findBestRow_66, sX5_findBestRow_69, sX5_findBestRow_71, sX5_findBestRow_74, sX5_findBestRow_77, sX5_findBestRow_79, opK_some, guK_true, calK_some, rk_nil, rk_int, rk_ref, tl_some, tl_none, nb_int, nb_0, nb_1, nb_if, nb_if', q0, ct, nI_1]
      exact ih q b' (nxF a size) M4 (c + 1) _ g3 (by show c + 1 + (rest.length + 1) ≤ 120; omega) hq hqa r4 hb4 (cs3.tr cs4)
    rw [sX5_findBestRow_19]
    simp only [sX5_findBestRow_0, sX5_findBestRow_1, sX5_findBestRow_2, sX5_findBestRow_5, sX5_findBestRow_6, sX5_findBestRow_9, sX5_findBestRow_10, sX5_findBestRow_11, sX5_findBestRow_13, sX5_findBestRow_14, sX5_findBestRow_16, sX5_findBestRow_17, sX5_findBestRow_21, sX5_findBestRow_24, sX5_findBestRow_26, sX5_findBestRow_28, sX5_findBestRow_31, sX5_findBestRow_32, sX5_findBestRow_33, sX5_findBestRow_34, sX5_findBestRow_37, sX5_findBestRow_39, sX5_findBestRow_41, sX5_findBestRow_43, sX5_findBestRow_46, sX5_findBestRow_48, sX5_findBestRow_50, sX5_findBestRow_51, sX5_findBestRow_54, sX5_findBestRow_55, sX5_findBestRow_56, sX5_findBestRow_59, sX5_findBestRow_60, sX5_findBestRow_65, sX5_findBestRow_66, sX5_findBestRow_69, sX5_findBestRow_71, sX5_findBestRow_74, sX5_findBestRow_77, sX5_findBestRow_79, opK_some, guK_true, calK_some, rk_nil, rk_int, rk_ref, tl_some, tl_none, nb_int, nb_0, nb_1, nb_if, nb_if', q0, c2, one_ne, if_false, o0_8, o0_9]
    rw [if_neg (show ¬ (120 : Int32) ≤ nI c from nI_ge (b := 120) (by omega) (by omega))]
    show ∃ M', _ = some (some (Value.int (obF (fun ys => bS r (lrow ys) size n) ((q :: rest).map (fun l => l.map e)) (if b.1 < bS r (lrow (p.map e)) size n then (bS r (lrow (p.map e)) size n, p.map e) else b)).1), M') ∧ Cs M M' ∧ Bs M' 3 (obF (fun ys => bS r (lrow ys) size n) ((q :: rest).map (fun l => l.map e)) (if b.1 < bS r (lrow (p.map e)) size n then (bS r (lrow (p.map e)) size n, p.map e) else b)) size
    by_cases hl : b.1 < bS r (lrow (p.map e)) size n
    · rw [if_neg (Int32.not_le.mpr hl), if_pos hl, sX5_findBestRow_61]
      simp only [sX5_findBestRow_0, sX5_findBestRow_1, sX5_findBestRow_2, sX5_findBestRow_5, sX5_findBestRow_6, sX5_findBestRow_9, sX5_findBestRow_10, sX5_findBestRow_11, sX5_findBestRow_13, sX5_findBestRow_14, sX5_findBestRow_16, sX5_findBestRow_17, sX5_findBestRow_21, sX5_findBestRow_24, sX5_findBestRow_26, sX5_findBestRow_28, sX5_findBestRow_31, sX5_findBestRow_32, sX5_findBestRow_33, sX5_findBestRow_34, sX5_findBestRow_37, sX5_findBestRow_39, sX5_findBestRow_41, sX5_findBestRow_43, sX5_findBestRow_46, sX5_findBestRow_48, sX5_findBestRow_50, sX5_findBestRow_51, sX5_findBestRow_54, sX5_findBestRow_55, sX5_findBestRow_56, sX5_findBestRow_59, sX5_findBestRow_60, sX5_findBestRow_65, sX5_findBestRow_66, sX5_findBestRow_69, sX5_findBestRow_71, sX5_findBestRow_74, sX5_findBestRow_77, sX5_findBestRow_79, opK_some, guK_true, calK_some, rk_nil, rk_int, rk_ref, tl_some, tl_none, nb_int, nb_0, nb_1, nb_if, nb_if', cpy_5 hs, nI_clamp (show size < 2 ^ 31 by omega), tn_0]
      obtain ⟨M3, hM3⟩ : ∃ M3, M3 = mrow M2 3 (va_cpy (M2 2) (M2 3) 0 0 size) := ⟨_, rfl⟩
      have r3 : Rr M3 a size := fun k hk => by rw [hM3, mrow_ne (by omega)]; exact r2 k hk
      have cs3 : Cs M2 M3 := by
        rw [hM3]
        exact ⟨fun k hk => mrow_ne (by omega), fun j _ => by rw [mrow_ne (by omega)]⟩
      rw [← hM3]
      refine tail M3 (bS r (lrow (p.map e)) size n, p.map e) r3 (cs2.tr cs3) (Or.inr (fun k hk => ?_))
      rw [hM3, mrow_at, pk_cpy_in (by omega) (by omega), show 0 + (k - 0) = k by omega, (r2 k hk).2, lrow_map (by omega), ha k hk]
    · rw [if_pos (Int32.not_lt.mp hl), if_neg hl]
      refine tail M2 b r2 cs2 ?_
      rcases hb with z | z
      · exact Or.inl z
      · exact Or.inr (fun k hk => by rw [o2 3 (by omega)]; exact z k hk)
/-- the best order of a set, and what it brings -/
abbrev beS (r : Rw) (s n : Nat) : Int32 × List Nat := obF (fun ys => bS r (lrow ys) (fl s 10).length n) (pmF (fl s 10).length (fl s 10)) (-1, [])
theorem C_findBestRow {d s n : Nat} {M : Mem} {r : Rw} (h : HR M 10 r) (w : WR r) (hs : s < 2 ^ nT r) (h5 : (fl s 10).length ≤ 5) (hn : n < 2 ^ 31) : ∃ M', call (d + 6) 51 [.ref 0, .int (nI s), .int (nI n)] M = some (some (.int (beS r s n).1), M') ∧ Cs M M' ∧ Bs M' 3 (beS r s n) (fl s 10).length := by
  have hT := wr_T w
  have e10 := fl_10 hs hT.1
  obtain ⟨M1, c1, cs1, ro⟩ := C_fillRow (d := d + 4) h w hs
  rw [show d + 4 + 1 = d + 5 from rfl] at c1
  rw [← e10] at c1 ro
  obtain ⟨size, hz⟩ : ∃ size, size = (fl s 10).length := ⟨_, rfl⟩
  have hev : (List.range size).map (evF (fl s 10)) = fl s 10 := by rw [hz]; exact ev_list _
  have hhd := pm_hd size (by omega)
  have hlen := pm_len size (by omega)
  have hck := chk_ok size (by omega)
  have hpm : pmF size (fl s 10) = (pmF size (List.range size)).map (fun l => l.map (evF (fl s 10))) := by
    conv => lhs; rw [← hev]
    exact pm_map (ev_inj (by omega)) size _
  cases hp : pmF size (List.range size) with
  | nil =>
    rw [hp] at hhd
    cases hhd
  | cons p ps =>
    rw [hp] at hhd hlen hck hpm
    have ep : p = List.range size := Option.some.inj hhd
    have hpl : p.length = size := by rw [ep, List.length_range]
    have hlr : ∀ k, k < size → lrow p k = k := by
      intro k hk
      rw [ep]
      show (List.range size).getD k 0 = k
      rw [List.getD_eq_getElem?_getD, List.getElem?_range hk]
      rfl
    rw [← hz] at c1 ro h5
    obtain ⟨M2, c2, cs2, b2⟩ := L_best (d := d) (n := n) (y := nI s) (M := M1) (ev_mono (s := s) (n := 10) (by omega)) (cs1.hr h) w h5 hn ps p (-1, []) (lrow (fl s 10)) M1 0 none hck (by omega) hpl (fun k hk => by
      rw [hlr k hk]
      unfold evF
      rw [if_pos (by omega)]) ro.2 (Or.inl rfl) Cs.rf
    have emin : (if (5 : Int32) < nI size then (5 : Int32) else nI size) = nI size := if_neg (nI_nlt (a := 5) h5 (by omega))
    have eb : beS r s n = obF (fun ys => bS r (lrow ys) size n) ((p :: ps).map (fun l => l.map (evF (fl s 10)))) (-1, []) := by
      rw [← hpm, hz]
    rw [nX5_findBestRow]
    simp only [sX5_findBestRow_0, sX5_findBestRow_1, sX5_findBestRow_2, sX5_findBestRow_5, sX5_findBestRow_6, sX5_findBestRow_9, sX5_findBestRow_10, sX5_findBestRow_11, sX5_findBestRow_13, sX5_findBestRow_14, sX5_findBestRow_16, sX5_findBestRow_17, sX5_findBestRow_21, sX5_findBestRow_24, sX5_findBestRow_26, sX5_findBestRow_28, sX5_findBestRow_31, sX5_findBestRow_32, sX5_findBestRow_33, sX5_findBestRow_34, sX5_findBestRow_37, sX5_findBestRow_39, sX5_findBestRow_41, sX5_findBestRow_43, sX5_findBestRow_46, sX5_findBestRow_48, sX5_findBestRow_50, sX5_findBestRow_51, sX5_findBestRow_54, sX5_findBestRow_55, sX5_findBestRow_56, sX5_findBestRow_59, sX5_findBestRow_60, sX5_findBestRow_61, sX5_findBestRow_64, sX5_findBestRow_65, sX5_findBestRow_66, sX5_findBestRow_69, sX5_findBestRow_71, sX5_findBestRow_74, sX5_findBestRow_77, sX5_findBestRow_79, opK_some, guK_true, calK_some, rk_nil, rk_int, rk_ref, tl_some, tl_none, nb_int, nb_0, nb_1, nb_if, nb_if', q0, c1, emin]
    rw [eb, ← hz]
    exact ⟨M2, c2, cs1.tr cs2, b2⟩

