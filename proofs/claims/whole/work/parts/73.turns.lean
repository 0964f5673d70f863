/-! feeding by turns: the class -/
abbrev leadR (q : Rw) : Int32 := if 0 ≤ laiD q ∧ dayR q (at9 (iN (laiD q)) 3) = 1 then - worD q else worD q
def ldS (r : Rw) (n : Nat) : Int32 := sm (fun k => leadR (dN r k)) n
abbrev mayT (q : Rw) (l t : Nat) : Prop := q (at9 t 3) = nI (l % 2) ∧ q (at9 t 4) = 0 ∧ roomR q t
abbrev betT (l : Nat) (s b : Int32) : Prop := if l % 2 = 0 then b < s else s < b
theorem bet_0 {l : Nat} {s b : Int32} (h : l % 2 = 0) : betT l s b ↔ b < s := by unfold betT; rw [if_pos h]
theorem bet_1 {l : Nat} {s b : Int32} (h : ¬ l % 2 = 0) : betT l s b ↔ s < b := by unfold betT; rw [if_neg h]
def tuL (f : Rw → Int32) (l : Nat) (q : Rw) : Nat → Int32 × Int32
  | 0 => (leadR q + f (dayR q), -1)
  | t + 1 => if mayT q l t ∧ betT l (leadR (feedR q t) + f (dayR (feedR q t))) (tuL f l q t).1 then (leadR (feedR q t) + f (dayR (feedR q t)), nI t) else tuL f l q t
def tuV (N : Nat) : Nat → Nat → Rw → Int32 × Int32
  | 0, _, q => (ldS q N, -2)
  | m + 1, l, q => tuL (fun x => (tuV N m (l + 1) x).1) l q (nT q)
theorem ld_0 {r : Rw} {i : Nat} (w : WR r) (h0 : nC (dN r i) = 0) : ∀ m, ldS r (i + m) = ldS r i ∧ nC (dN r (i + m)) = 0 := by
  intro m
  induction m with
  | zero => exact ⟨rfl, h0⟩
  | succ m ih =>
    obtain ⟨d1, d2, d3⟩ := day_0 (WR_dN w (i + m)) ih.2
    constructor
    · show ldS r (i + m) + leadR (dN r (i + m)) = _
      have e : leadR (dN r (i + m)) = 0 := by
        show (if _ then _ else _) = _
        rw [if_neg (fun z => absurd z.1 (by rw [d3]; decide)), d2]
      rw [e, Int32.add_zero, ih.1]
    · show nC (dayR (dN r (i + m))) = 0
      rw [d1, nC_0]
      exact ih.2
theorem C_lead {d b : Nat} {M : Mem} {q : Rw} (hb : isHen b) (w : WR q) (h : HR M b (dayR q)) (a12 : M b 12 = laiD q) (a13 : M b 13 = worD q) : call (d + 2) 69 [.ref b] M = some (some (.int (leadR q)), M) := by
  have := C_laidLead (d := d) hb h (by rw [a12]; exact lai_or w)
  rw [a12, a13] at this
  exact this
theorem L_restOf {d b n : Nat} {M : Mem} {r : Rw} (hb : isHen b) (w : WR r) (hn : n < 2 ^ 31) : ∀ (m i : Nat) (M1 : Mem), i + m = n → HR M1 b (dN r i) → Ou b M M1 →
    ∃ M', lim (call (d + 3)) none 5 cX5_restOf (some .int) 4 [some (.ref b), some (.int (nI n)), some (.int (ldS r i)), some (.int (nI i))] [] M1 = some (some (.int (ldS r n)), M') ∧ Ou b M M' := by
  intro m
  induction m with
  | zero =>
    intro i M1 hi h o
    obtain rfl : i = n := by omega
    rw [sX5_restOf_4]
    simp only [sX5_restOf_0, sX5_restOf_1, sX5_restOf_2, sX5_restOf_3, sX5_restOf_5, sX5_restOf_6, sX5_restOf_9, sX5_restOf_10, sX5_restOf_13, sX5_restOf_16, sX5_restOf_17, sX5_restOf_20, sX5_restOf_21, sX5_restOf_22, sX5_restOf_23, sX5_restOf_26, sX5_restOf_27, sX5_restOf_28, sX5_restOf_31, sX5_restOf_34, sX5_restOf_35, opK_some, guK_true, calK_some, rk_nil, rk_int, rk_ref, tl_some, tl_none, nb_int, nb_0, nb_1, nb_if, nb_if']
    rw [if_pos (show nI i ≤ nI i from Int32.le_refl _)]
    exact ⟨M1, rfl, o⟩
  | succ m ih =>
    intro i M1 hi h o
    have wi := WR_dN w i
    have e9 : M1 b 9 = dN r i 4 := h.1.2.1
    obtain ⟨M2, c2, h2, o2, a12, a13, _⟩ := C_passDay (d := d + 0) hb h wi
    rw [show d + 0 + 3 = d + 3 from rfl] at c2
    have c3 := C_lead (d := d + 1) hb wi h2 a12 a13
    rw [show d + 1 + 2 = d + 3 from rfl] at c3
    rw [sX5_restOf_4]
    simp only [sX5_restOf_0, sX5_restOf_1, sX5_restOf_2, sX5_restOf_3, sX5_restOf_5, sX5_restOf_6, sX5_restOf_9, sX5_restOf_10, sX5_restOf_13, sX5_restOf_16, sX5_restOf_17, sX5_restOf_20, sX5_restOf_21, sX5_restOf_22, sX5_restOf_23, sX5_restOf_26, sX5_restOf_27, sX5_restOf_28, sX5_restOf_31, sX5_restOf_34, sX5_restOf_35, opK_some, guK_true, calK_some, rk_nil, rk_int, rk_ref, tl_some, tl_none, nb_int, nb_0, nb_1, nb_if, nb_if', hs_9 hb, hen_c hb, e9, c2, c3, nI_1]
    rw [if_neg (show ¬ nI n ≤ nI i from nI_ge (by omega) hn)]
    by_cases hz : nC (dN r i) = 0
    · rw [if_pos (Int32.not_lt.mp (fun z => absurd ((wr_pos wi).mp z) (by omega)))]
      have := (ld_0 w hz (m + 1)).1
      rw [hi] at this
      rw [this]
      exact ⟨M1, rfl, o⟩
    · rw [if_neg (Int32.not_le.mpr ((wr_pos wi).mpr (by omega)))]
      exact ih (i + 1) M2 (by omega) h2 (o.tr o2)
theorem C_restOf {d b n : Nat} {M : Mem} {r : Rw} (hb : isHen b) (h : HR M b r) (w : WR r) (hn : n < 2 ^ 31) : ∃ M', call (d + 4) 68 [.ref b, .int (nI n)] M = some (some (.int (ldS r n)), M') ∧ Ou b M M' := by
  rw [nX5_restOf]
  simp only [sX5_restOf_0, sX5_restOf_1, sX5_restOf_2, sX5_restOf_3, sX5_restOf_5, sX5_restOf_6, sX5_restOf_9, sX5_restOf_10, sX5_restOf_13, sX5_restOf_16, sX5_restOf_17, sX5_restOf_20, sX5_restOf_21, sX5_restOf_22, sX5_restOf_23, sX5_restOf_26, sX5_restOf_27, sX5_restOf_28, sX5_restOf_31, sX5_restOf_34, sX5_restOf_35, opK_some, guK_true, calK_some, rk_nil, rk_int, rk_ref, tl_some, tl_none, nb_int, nb_0, nb_1, nb_if, nb_if']
  exact L_restOf hb w hn n 0 M (by omega) h Ou.rf
theorem la_h {l : Nat} (h : l ≤ 4) : isHen (40 + 10 * l) := by
  unfold isHen
  omega
theorem la_i {l : Nat} (h : l ≤ 4) : inb (nI l) ([40, 50, 60, 70, 80] : List Nat).length = true := inb_nI (show l < 5 by omega) (by decide)
theorem la_g {l : Nat} (h : l ≤ 4) : ([40, 50, 60, 70, 80] : List Nat).getD (nI l).toNatClampNeg 0 = 40 + 10 * l := by
  rw [nI_clamp (by omega)]
  rcases (show l = 0 ∨ l = 1 ∨ l = 2 ∨ l = 3 ∨ l = 4 by omega) with rfl | rfl | rfl | rfl | rfl <;> rfl
theorem nI_par {l : Nat} (h : l < 2 ^ 31) : nI l &&& 1 = nI (l % 2) := pk_andN (by omega) 1 (by decide)
/-- a play from a level on touches the hens behind it, and from the first one on the first move -/
def Pl (b : Nat) (M M' : Mem) : Prop := (∀ j, j ≠ 0 → (j < b ∨ 89 ≤ j) → M' j = M j) ∧ ∀ j, j ≠ 11 → M' 0 j = M 0 j
theorem Pl.rf {b : Nat} {M : Mem} : Pl b M M := ⟨fun _ _ _ => rfl, fun _ _ => rfl⟩
theorem Pl.tr {b : Nat} {M M1 M2 : Mem} (h1 : Pl b M M1) (h2 : Pl b M1 M2) : Pl b M M2 := ⟨fun j a c => (h2.1 j a c).trans (h1.1 j a c), fun j a => (h2.2 j a).trans (h1.2 j a)⟩
theorem Pl.up {b c : Nat} {M M1 : Mem} (h : Pl c M M1) (hb : b ≤ c) : Pl b M M1 := ⟨fun j a e => h.1 j a (by omega), h.2⟩
theorem Pl.ou {b c : Nat} {M M1 : Mem} (h : Ou c M M1) (hb : b ≤ c) (hb' : 1 ≤ b) (hc : c ≤ 80) : Pl b M M1 := ⟨fun j a e => h j (by omega), fun j _ => by rw [h 0 (by omega)]⟩
theorem Pl.cs {b : Nat} {M M1 : Mem} (h : Pl b M M1) (hb : 30 ≤ b) : Cs M M1 := ⟨fun k hk => h.1 k hk.1 (by omega), h.2⟩
theorem C_play {N k : Nat} (hN : N + k < 2 ^ 30) (hk : k ≤ 4) : ∀ (m l : Nat) (q : Rw) (M : Mem) (E : Nat), l + m = k → 2 * m ≤ E → HR M (40 + 10 * l) q → WR q →
    ∃ M', call (E + 6) 67 [.ref 0, .int (nI l), .int (nI k), .int (nI (N + k))] M = some (some (.int (tuV N m l q).1), M') ∧ Pl (40 + 10 * l + if m = 0 then 0 else 10) M M' ∧ (l = 0 → m ≠ 0 → M' 0 11 = (tuV N m l q).2) := by
  intro m
  induction m with
  | zero =>
    intro l q M E hl hE h w
    obtain rfl : l = k := by omega
    obtain ⟨M1, c1, o1⟩ := C_restOf (d := E + 1) (n := N) (la_h hk) h w (by omega)
    rw [show E + 1 + 4 = E + 5 from rfl] at c1
    have e : nI (N + l) - nI l = nI N := by rw [pk_sub (by omega), Nat.add_sub_cancel]
    rw [show E + 6 = E + 5 + 1 from rfl, nX5_play]
    simp only [sX5_play_0, sX5_play_1, sX5_play_4, sX5_play_5, sX5_play_6, sX5_play_8, sX5_play_9, sX5_play_10, sX5_play_13, sX5_play_14, sX5_play_15, sX5_play_18, sX5_play_20, sX5_play_21, sX5_play_22, sX5_play_23, sX5_play_26, sX5_play_27, sX5_play_28, sX5_play_29, sX5_play_30, sX5_play_32, sX5_play_33, sX5_play_34, sX5_play_35, sX5_play_36, sX5_play_37, sX5_play_40, sX5_play_42, sX5_play_43, sX5_play_45, sX5_play_46, sX5_play_50, sX5_play_52, sX5_play_55, sX5_play_58, sX5_play_60, sX5_play_63, sX5_play_65, sX5_play_66, sX5_play_68, sX5_play_71, sX5_play_73, sX5_play_75, sX5_play_78, sX5_play_81, sX5_play_83, sX5_play_85, sX5_play_88, sX5_play_91, sX5_play_92, sX5_play_93, sX5_play_95, sX5_play_96, sX5_play_97, sX5_play_100, sX5_play_102, sX5_play_104, sX5_play_107, sX5_play_109, sX5_play_111, sX5_play_114, sX5_play_117, sX5_play_119, sX5_play_121, sX5_play_124, sX5_play_126, sX5_play_128, sX5_play_130, sX5_play_132, sX5_play_135, sX5_play_138, sX5_play_139, sX5_play_142, sX5_play_143, sX5_play_145, sX5_play_148, sX5_play_150, opK_some, guK_true, calK_some, rk_nil, rk_int, rk_ref, tl_some, tl_none, nb_int, nb_0, nb_1, nb_if, nb_if', o0_7, r6, la_i hk, la_g hk, hen_c (la_h hk), e, c1]
    rw [if_pos (show nI l ≤ nI l from Int32.le_refl _)]
    refine ⟨M1, rfl, ?_, fun _ z => absurd rfl z⟩
    rw [if_pos True.intro]
    exact Pl.ou o1 (by omega) (by omega) (by omega)
  | succ m ih =>
    intro l q M E hl hE h w
    have l4 : l ≤ 4 := by omega
    have l3 : l ≤ 3 := by omega
    have hb := la_h l4
    have hb1 := la_h (l := l + 1) (by omega)
    have hT := wr_T w
    obtain ⟨E', rfl⟩ : ∃ E', E = E' + 2 := ⟨E - 2, by omega⟩
    -- one move
    have mv : ∀ (M1 : Mem) (tv : Int32) (q' : Rw), Pl (50 + 10 * l) M M1 → WR q' → ((tv = -1 ∧ q' = q) ∨ ∃ t, t < 10 ∧ q 4 < 8 ∧ tv = nI t ∧ q' = feedR q t) → ∃ M2, call (E' + 7) 71 [.ref 0, .int (nI l), .int tv, .int (nI k), .int (nI (N + k))] M1 = some (some (.int (leadR q' + (tuV N m (l + 1) (dayR q')).1)), M2) ∧ Pl (50 + 10 * l) M M2 := by
      intro M1 tv q' p1 wq' hq'
      have h1 : HR M1 (40 + 10 * l) q := HR_ou h (fun j a b => p1.1 j (by omega) (by omega))
      obtain ⟨M2, c2, h2, o2⟩ := C_become (d := E' + 5) (b := 40 + 10 * (l + 1)) (s := 40 + 10 * l) hb1 hb (by omega) h1 w
      rw [show E' + 5 + 1 = E' + 6 from rfl] at c2
      have o2' : Ou (50 + 10 * l) M1 M2 := by rw [show 50 + 10 * l = 40 + 10 * (l + 1) by omega]; exact o2
      have fin : ∀ (M3 : Mem), HR M3 (40 + 10 * (l + 1)) q' → Pl (50 + 10 * l) M M3 → ∃ M4, lim (call (E' + 6)) none 5 cX5_move (some .int) 31 [some (.ref 0), some (.int (nI l)), some (.int tv), some (.int (nI k)), some (.int (nI (N + k))), some (.ref (40 + 10 * (l + 1))), none] [] M3 = some (some (.int (leadR q' + (tuV N m (l + 1) (dayR q')).1)), M4) ∧ Pl (50 + 10 * l) M M4 := by
        intro M3 h3 p3
        obtain ⟨M4, c4, h4, o4, a12, a13, _⟩ := C_passDay (d := E' + 3) hb1 h3 wq'
        rw [show E' + 3 + 3 = E' + 6 from rfl] at c4
        have c5 := C_lead (d := E' + 4) hb1 wq' h4 a12 a13
        rw [show E' + 4 + 2 = E' + 6 from rfl] at c5
        obtain ⟨M6, c6, p6, _⟩ := ih (l + 1) (dayR q') M4 E' (by omega) (by omega) h4 (WR_day wq')
        have p4 : Pl (50 + 10 * l) M3 M4 := Pl.ou o4 (by omega) (by omega) (by omega)
        have p6' : Pl (50 + 10 * l) M4 M6 := p6.up (by split <;> omega)
        rw [sX5_move_31]
        simp only [sX5_move_0, sX5_move_1, sX5_move_4, sX5_move_5, sX5_move_6, sX5_move_7, sX5_move_8, sX5_move_10, sX5_move_12, sX5_move_13, sX5_move_16, sX5_move_17, sX5_move_18, sX5_move_21, sX5_move_22, sX5_move_25, sX5_move_27, sX5_move_28, sX5_move_33, sX5_move_36, sX5_move_37, sX5_move_39, sX5_move_42, sX5_move_44, sX5_move_46, sX5_move_47, sX5_move_48, sX5_move_49, sX5_move_50, sX5_move_51, sX5_move_53, sX5_move_56, sX5_move_57, opK_some, guK_true, calK_some, rk_nil, rk_int, rk_ref, tl_some, tl_none, nb_int, nb_0, nb_1, nb_if, nb_if', q0, hen_c hb1, c4, c5, nI_1, c6]
        exact ⟨M6, rfl, (p3.tr p4).tr p6'⟩
      rw [show E' + 7 = E' + 6 + 1 from rfl, nX5_move]
      simp only [sX5_move_0, sX5_move_1, sX5_move_4, sX5_move_5, sX5_move_6, sX5_move_7, sX5_move_8, sX5_move_10, sX5_move_12, sX5_move_13, sX5_move_16, sX5_move_17, sX5_move_18, sX5_move_21, sX5_move_22, sX5_move_25, sX5_move_27, sX5_move_28, sX5_move_33, sX5_move_36, sX5_move_37, sX5_move_39, sX5_move_42, sX5_move_44, sX5_move_46, sX5_move_47, sX5_move_48, sX5_move_49, sX5_move_50, sX5_move_51, sX5_move_53, sX5_move_56, sX5_move_57, opK_some, guK_true, calK_some, rk_nil, rk_int, rk_ref, tl_some, tl_none, nb_int, nb_0, nb_1, nb_if, nb_if', o0_7, r6, nI_1, la_i (show l + 1 ≤ 4 by omega), la_g (show l + 1 ≤ 4 by omega), la_i l4, la_g l4, hen_c hb, hen_c hb1, c2]
      rcases hq' with ⟨rfl, rfl⟩ | ⟨t, ht, h8, rfl, rfl⟩
      · rw [if_pos (show (-1 : Int32) < 0 by decide)]
        exact fin M2 h2 (p1.tr (Pl.ou o2' (by omega) (by omega) (by omega)))
      · obtain ⟨M3, c3, h3, o3⟩ := C_swallow (d := E' + 4) hb1 h2 w ht h8
        rw [show E' + 4 + 2 = E' + 6 from rfl] at c3
        rw [if_neg (show ¬ nI t < 0 from nI_nlt (b := 0) (by omega) (by omega))]
        simp only [sX5_move_0, sX5_move_1, sX5_move_4, sX5_move_5, sX5_move_6, sX5_move_7, sX5_move_8, sX5_move_10, sX5_move_12, sX5_move_13, sX5_move_16, sX5_move_17, sX5_move_18, sX5_move_21, sX5_move_22, sX5_move_25, sX5_move_27, sX5_move_28, sX5_move_33, sX5_move_36, sX5_move_37, sX5_move_39, sX5_move_42, sX5_move_44, sX5_move_46, sX5_move_47, sX5_move_48, sX5_move_49, sX5_move_50, sX5_move_51, sX5_move_53, sX5_move_56, sX5_move_57, opK_some, guK_true, calK_some, rk_nil, rk_int, rk_ref, tl_some, tl_none, nb_int, nb_0, nb_1, nb_if, nb_if', hen_c hb1, c3]
        exact fin M3 h3 ((p1.tr (Pl.ou o2' (by omega) (by omega) (by omega))).tr (Pl.ou o3 (by omega) (by omega) (by omega)))
    -- all things
    have lp : ∀ (c t : Nat) (M1 : Mem) (v : Option Value), t + c = nT q → Pl (50 + 10 * l) M M1 → ∃ M2, lim (call (E' + 7)) none 5 cX5_play (some .int) 48 [some (.ref 0), some (.int (nI l)), some (.int (nI k)), some (.int (nI (N + k))), some (.ref (40 + 10 * l)), some (.int (nI (l % 2))), some (.int (tuL (fun x => (tuV N m (l + 1) x).1) l q t).1), some (.int (tuL (fun x => (tuV N m (l + 1) x).1) l q t).2), some (.int (nI t)), v] [] M1 = some (some (.int (tuV N (m + 1) l q).1), M2) ∧ Pl (50 + 10 * l) M M2 ∧ (l = 0 → M2 0 11 = (tuV N (m + 1) l q).2) := by
      intro c
      induction c with
      | zero =>
        intro t M1 v ht p1
        obtain rfl : t = nT q := by omega
        have e0 : M1 (40 + 10 * l) 0 = nI (nT q) := by rw [p1.1 _ (by omega) (by omega)]; exact h.1.1.trans hT.2
        rw [sX5_play_48]
        simp only [sX5_play_0, sX5_play_1, sX5_play_4, sX5_play_5, sX5_play_6, sX5_play_8, sX5_play_9, sX5_play_10, sX5_play_13, sX5_play_14, sX5_play_15, sX5_play_18, sX5_play_20, sX5_play_21, sX5_play_22, sX5_play_23, sX5_play_26, sX5_play_27, sX5_play_28, sX5_play_29, sX5_play_30, sX5_play_32, sX5_play_33, sX5_play_34, sX5_play_35, sX5_play_36, sX5_play_37, sX5_play_40, sX5_play_42, sX5_play_43, sX5_play_45, sX5_play_46, sX5_play_50, sX5_play_52, sX5_play_55, sX5_play_58, sX5_play_60, sX5_play_63, sX5_play_65, sX5_play_66, sX5_play_68, sX5_play_71, sX5_play_73, sX5_play_75, sX5_play_78, sX5_play_81, sX5_play_83, sX5_play_85, sX5_play_88, sX5_play_91, sX5_play_92, sX5_play_93, sX5_play_95, sX5_play_96, sX5_play_97, sX5_play_100, sX5_play_102, sX5_play_104, sX5_play_107, sX5_play_109, sX5_play_111, sX5_play_114, sX5_play_117, sX5_play_119, sX5_play_121, sX5_play_124, sX5_play_126, sX5_play_128, sX5_play_130, sX5_play_132, sX5_play_135, sX5_play_138, sX5_play_139, sX5_play_142, sX5_play_143, sX5_play_145, sX5_play_148, sX5_play_150, opK_some, guK_true, calK_some, rk_nil, rk_int, rk_ref, tl_some, tl_none, nb_int, nb_0, nb_1, nb_if, nb_if', hs_0 hb, e0]
        rw [if_pos (show nI (nT q) ≤ nI (nT q) from Int32.le_refl _)]
        by_cases hz : l = 0
        · subst hz
          rw [if_pos (show nI 0 = 0 from rfl)]
          simp only [p0_11, guK_true]
          exact ⟨_, rfl, ⟨fun j a b => by rw [mset_ne a]; exact p1.1 j a b, fun j a => by rw [mset_at, upd_ne a]; exact p1.2 j a⟩, fun _ => by rw [mset_at, upd_at]; rfl⟩
        · rw [if_neg (show ¬ nI l = 0 from fun z => hz (nI_inj (i := l) (j := 0) (by omega) (by omega) z))]
          exact ⟨M1, rfl, p1, fun z => absurd z hz⟩
      | succ c ihc =>
        intro t M1 v ht p1
        have t10 : t < 10 := by omega
        have h1 : HR M1 (40 + 10 * l) q := HR_ou h (fun j a b => p1.1 j (by omega) (by omega))
        have e0 : M1 (40 + 10 * l) 0 = nI (nT q) := h1.1.1.trans hT.2
        have e4 : M1 (40 + 10 * l + 4) t = q (at9 t 3) := h1.2.1 3 (by omega) t t10
        have co := C_isOut (d := E' + 6) hb h1 t10
        rw [show E' + 6 + 1 = E' + 7 from rfl] at co
        have ch := C_hasRoom (d := E' + 5) hb h1 w t10
        rw [show E' + 5 + 2 = E' + 7 from rfl] at ch
        rw [sX5_play_48]
        simp only [sX5_play_0, sX5_play_1, sX5_play_4, sX5_play_5, sX5_play_6, sX5_play_8, sX5_play_9, sX5_play_10, sX5_play_13, sX5_play_14, sX5_play_15, sX5_play_18, sX5_play_20, sX5_play_21, sX5_play_22, sX5_play_23, sX5_play_26, sX5_play_27, sX5_play_28, sX5_play_29, sX5_play_30, sX5_play_32, sX5_play_33, sX5_play_34, sX5_play_35, sX5_play_36, sX5_play_37, sX5_play_40, sX5_play_42, sX5_play_43, sX5_play_45, sX5_play_46, sX5_play_50, sX5_play_52, sX5_play_55, sX5_play_58, sX5_play_60, sX5_play_63, sX5_play_65, sX5_play_66, sX5_play_68, sX5_play_71, sX5_play_73, sX5_play_75, sX5_play_78, sX5_play_81, sX5_play_83, sX5_play_85, sX5_play_88, sX5_play_91, sX5_play_92, sX5_play_93, sX5_play_95, sX5_play_96, sX5_play_97, sX5_play_100, sX5_play_102, sX5_play_104, sX5_play_107, sX5_play_109, sX5_play_111, sX5_play_114, sX5_play_117, sX5_play_119, sX5_play_121, sX5_play_124, sX5_play_126, sX5_play_128, sX5_play_130, sX5_play_132, sX5_play_135, sX5_play_138, sX5_play_139, sX5_play_142, sX5_play_143, sX5_play_145, sX5_play_148, sX5_play_150, opK_some, guK_true, calK_some, rk_nil, rk_int, rk_ref, tl_some, tl_none, nb_int, nb_0, nb_1, nb_if, nb_if', q0, hs_0 hb, hs_4 hb, ha_4 hb, hen_c hb, e0, inb_nI t10 (by omega), nI_clamp (show t < 2 ^ 31 by omega), e4, co, ch, nI_1]
        rw [if_neg (show ¬ nI (nT q) ≤ nI t from nI_ge (by omega) (by omega))]
        have skip : ¬ mayT q l t → tuL (fun x => (tuV N m (l + 1) x).1) l q (t + 1) = tuL (fun x => (tuV N m (l + 1) x).1) l q t := fun z => if_neg (fun y => z y.1)
        by_cases g1 : q (at9 t 3) = nI (l % 2)
        · by_cases g2 : q (at9 t 4) = 0
          · by_cases g3 : roomR q t
            · obtain ⟨M2, c2, p2⟩ := mv M1 (nI t) (feedR q t) p1 (WR_feed w t10 g3.1).1 (Or.inr ⟨t, t10, g3.1, rfl, rfl⟩)
              have fin := ihc (t + 1) M2 (some (.int (leadR (feedR q t) + (tuV N m (l + 1) (dayR (feedR q t))).1))) (by omega) p2
              rw [if_pos g1, if_pos g2, if_neg (by decide), if_pos g3, if_neg (by decide)]
              simp only [sX5_play_0, sX5_play_1, sX5_play_4, sX5_play_5, sX5_play_6, sX5_play_8, sX5_play_9, sX5_play_10, sX5_play_13, sX5_play_14, sX5_play_15, sX5_play_18, sX5_play_20, sX5_play_21, sX5_play_22, sX5_play_23, sX5_play_26, sX5_play_27, sX5_play_28, sX5_play_29, sX5_play_30, sX5_play_32, sX5_play_33, sX5_play_34, sX5_play_35, sX5_play_36, sX5_play_37, sX5_play_40, sX5_play_42, sX5_play_43, sX5_play_45, sX5_play_46, sX5_play_50, sX5_play_52, sX5_play_55, sX5_play_58, sX5_play_60, sX5_play_63, sX5_play_65, sX5_play_66, sX5_play_68, sX5_play_71, sX5_play_73, sX5_play_75, sX5_play_78, sX5_play_81, sX5_play_83, sX5_play_85, sX5_play_88, sX5_play_91, sX5_play_92, sX5_play_93, sX5_play_95, sX5_play_96, sX5_play_97, sX5_play_100, sX5_play_102, sX5_play_104, sX5_play_107, sX5_play_109, sX5_play_111, sX5_play_114, sX5_play_117, sX5_play_119, sX5_play_121, sX5_play_124, sX5_play_126, sX5_play_128, sX5_play_130, sX5_play_132, sX5_play_135, sX5_play_138, sX5_play_139, sX5_play_142, sX5_play_143, sX5_play_145, sX5_play_148, sX5_play_150, opK_some, guK_true, calK_some, rk_nil, rk_int, rk_ref, tl_some, tl_none, nb_int, nb_0, nb_1, nb_if, nb_if', c2, nI_1]
              by_cases hp : l % 2 = 0
              · rw [hp, if_pos (show nI 0 = 0 from rfl)]
                rw [hp] at fin
                by_cases hl : (tuL (fun x => (tuV N m (l + 1) x).1) l q t).1 < leadR (feedR q t) + (tuV N m (l + 1) (dayR (feedR q t))).1
                · have ek : tuL (fun x => (tuV N m (l + 1) x).1) l q (t + 1) = (leadR (feedR q t) + (tuV N m (l + 1) (dayR (feedR q t))).1, nI t) := if_pos ⟨⟨g1, g2, g3⟩, (bet_0 hp).mpr hl⟩
                  rw [ek] at fin
                  rw [if_neg (Int32.not_le.mpr hl)]
                  exact fin
                · have ek : tuL (fun x => (tuV N m (l + 1) x).1) l q (t + 1) = tuL (fun x => (tuV N m (l + 1) x).1) l q t := if_neg (fun z => hl ((bet_0 hp).mp z.2))
                  rw [ek] at fin
                  rw [if_pos (Int32.not_lt.mp hl)]
                  exact fin
              · have hp1 : l % 2 = 1 := by omega
                rw [hp1, if_neg (show ¬ nI 1 = 0 by decide)]
                rw [hp1] at fin
                by_cases hl : leadR (feedR q t) + (tuV N m (l + 1) (dayR (feedR q t))).1 < (tuL (fun x => (tuV N m (l + 1) x).1) l q t).1
                · have ek : tuL (fun x => (tuV N m (l + 1) x).1) l q (t + 1) = (leadR (feedR q t) + (tuV N m (l + 1) (dayR (feedR q t))).1, nI t) := if_pos ⟨⟨g1, g2, g3⟩, (bet_1 hp).mpr hl⟩
                  rw [ek] at fin
                  rw [if_neg (Int32.not_le.mpr hl)]
                  exact fin
                · have ek : tuL (fun x => (tuV N m (l + 1) x).1) l q (t + 1) = tuL (fun x => (tuV N m (l + 1) x).1) l q t := if_neg (fun z => hl ((bet_1 hp).mp z.2))
                  rw [ek] at fin
                  rw [if_pos (Int32.not_lt.mp hl)]
                  exact fin
            · have fin := ihc (t + 1) M1 v (by omega) p1
              rw [skip (fun z => g3 z.2.2)] at fin
              rw [if_pos g1, if_pos g2, if_neg (by decide), if_neg g3, if_pos rfl]
              exact fin
          · have fin := ihc (t + 1) M1 v (by omega) p1
            rw [skip (fun z => g2 z.2.1)] at fin
            rw [if_pos g1, if_neg g2, if_pos rfl]
            exact fin
        · have fin := ihc (t + 1) M1 v (by omega) p1
          rw [skip (fun z => g1 z.1)] at fin
          rw [if_neg g1]
          exact fin
    obtain ⟨M1, c1, p1⟩ := mv M (-1) q Pl.rf w (Or.inl ⟨rfl, rfl⟩)
    obtain ⟨M2, c2, p2, f2⟩ := lp (nT q) 0 M1 none (by omega) p1
    rw [show E' + 2 + 6 = E' + 7 + 1 from rfl, nX5_play]
    simp only [sX5_play_0, sX5_play_1, sX5_play_4, sX5_play_5, sX5_play_6, sX5_play_8, sX5_play_9, sX5_play_10, sX5_play_13, sX5_play_14, sX5_play_15, sX5_play_18, sX5_play_20, sX5_play_21, sX5_play_22, sX5_play_23, sX5_play_26, sX5_play_27, sX5_play_28, sX5_play_29, sX5_play_30, sX5_play_32, sX5_play_33, sX5_play_34, sX5_play_35, sX5_play_36, sX5_play_37, sX5_play_40, sX5_play_42, sX5_play_43, sX5_play_45, sX5_play_46, sX5_play_50, sX5_play_52, sX5_play_55, sX5_play_58, sX5_play_60, sX5_play_63, sX5_play_65, sX5_play_66, sX5_play_68, sX5_play_71, sX5_play_73, sX5_play_75, sX5_play_78, sX5_play_81, sX5_play_83, sX5_play_85, sX5_play_88, sX5_play_91, sX5_play_92, sX5_play_93, sX5_play_95, sX5_play_96, sX5_play_97, sX5_play_100, sX5_play_102, sX5_play_104, sX5_play_107, sX5_play_109, sX5_play_111, sX5_play_114, sX5_play_117, sX5_play_119, sX5_play_121, sX5_play_124, sX5_play_126, sX5_play_128, sX5_play_130, sX5_play_132, sX5_play_135, sX5_play_138, sX5_play_139, sX5_play_142, sX5_play_143, sX5_play_145, sX5_play_148, sX5_play_150, opK_some, guK_true, calK_some, rk_nil, rk_int, rk_ref, tl_some, tl_none, nb_int, nb_0, nb_1, nb_if, nb_if', q0, o0_7, r6, la_i l4, la_g l4, nI_par (show l < 2 ^ 31 by omega), c1]
    rw [if_neg (show ¬ nI k ≤ nI l from nI_ge (by omega) (by omega)), if_pos (show nI l < 4 from nI_lt (b := 4) (by omega) (by omega))]
    refine ⟨M2, c2, ?_, fun z _ => f2 z⟩
    rw [if_neg (Nat.succ_ne_zero m), show 40 + 10 * l + 10 = 50 + 10 * l by omega]
    exact p2

