/-! the front is laid -/
abbrev readyG (g : Rw) : Prop := 0 < g 4 ∧ tkK (g (at9 (cr g 0) 0)) ≤ g (at9 (cr g 0) 5)
abbrev holG (g : Rw) : Prop := bulkR g < g 2
def lefG (g : Rw) (t : Nat) : Int32 := leK (g (at9 t 0)) (g (at9 t 2)) (g (at9 t 6))
def worG (g : Rw) : Int32 := if readyG g then (if holG g then 0 else lefG g (cr g 0)) else 0
def laiG (g : Rw) : Int32 := if readyG g then g 88 else -1
def hlwG (g : Rw) : Int32 := if readyG g then (if holG g then 1 else 0) else 0
/-- one leaves the crop -/
def leavR (r : Rw) (i : Nat) (x : Int32) : Rw := fun j => if j = 4 then r 4 - 1 else if 88 + i ≤ j ∧ j < 88 + (nC r - 1) then r (j + 1) else if j = 88 + (nC r - 1) then 0 else becR r (cr r i) x j
def eggR (g : Rw) (v hol : Int32) : Rw := upd (upd (upd (upd (upd g (96 + 3 * (iN (g 5) % 12)) (g 88)) (96 + 3 * (iN (g 5) % 12) + 1) v) (96 + 3 * (iN (g 5) % 12) + 2) (g 0)) 5 (g 5 + 1)) 6 (g 6 + hol)
def layR (g : Rw) : Rw := if readyG g then leavR (eggR g (worG g) (hlwG g)) 0 2 else g
def gR (r : Rw) : Rw := gN r (nC r)
def dayR (r : Rw) : Rw := upd (layR (gR r)) 0 (r 0 + 1)
def worD (r : Rw) : Int32 := worG (gR r)
def laiD (r : Rw) : Int32 := laiG (gR r)
theorem HR_congr {b : Nat} {M : Mem} {r r' : Rw} (h : HR M b r) (hw : nC r ≤ 8) (e : ∀ j, ((1 ≤ j ∧ j ≤ 4) ∨ (18 ≤ j ∧ j < 88 + nC r)) → r' j = r j) : HR M b r' := by
  have hn : nC r' = nC r := by unfold nC; rw [e 4 (by omega)]
  refine ⟨?_, fun f hf t ht => ?_, fun i hi => ?_⟩
  · rw [e 1 (by omega), e 2 (by omega), e 3 (by omega), e 4 (by omega)]
    exact h.1
  · have h1 := at9_lt ht hf
    have h2 := at9_ge t f
    rw [e _ (by omega)]
    exact h.2.1 f hf t ht
  · rw [hn] at hi
    rw [e _ (by omega)]
    exact h.2.2 i hi
theorem egg_keep {g : Rw} {v x : Int32} {j : Nat} (h : j < 5 ∨ (7 ≤ j ∧ j < 96)) : eggR g v x j = g j := by
  unfold eggR
  rw [upd_ne (by omega), upd_ne (by omega), upd_ne (by omega), upd_ne (by omega), upd_ne (by omega)]
theorem wr_pos {g : Rw} (w : WR g) : 0 < g 4 ↔ 0 < nC g := by
  have h8 := wr_C w
  rw [h8.2, ← nI_0, nI_ltI (by omega) (by omega)]
theorem bec_ne {r : Rw} {t j : Nat} {x : Int32} (h : j < 18 ∨ 88 ≤ j) (ht : t < 10) : becR r t x j = r j := by
  unfold becR at9
  rw [upd_ne (by omega), upd_ne (by omega), upd_ne (by omega)]
theorem bec_at {r : Rw} {t t' f : Nat} {x : Int32} (hf : f < 7) : becR r t x (at9 t' f) = if t' = t then (if f = 4 then x else if f = 5 ∨ f = 6 then 0 else r (at9 t' f)) else r (at9 t' f) := by
  unfold becR
  by_cases h6 : at9 t' f = at9 t 6
  · obtain ⟨e1, e2⟩ := at9_inj hf (by omega) h6
    subst e1 e2
    rw [upd_at]
    simp
  · rw [upd_ne h6]
    by_cases h5 : at9 t' f = at9 t 5
    · obtain ⟨e1, e2⟩ := at9_inj hf (by omega) h5
      subst e1 e2
      rw [upd_at]
      simp
    · rw [upd_ne h5]
      by_cases h4 : at9 t' f = at9 t 4
      · obtain ⟨e1, e2⟩ := at9_inj hf (by omega) h4
        subst e1 e2
        rw [upd_at]
        simp
      · rw [upd_ne h4]
        by_cases e : t' = t
        · subst e
          rw [if_pos rfl, if_neg (fun z => h4 (by rw [z])), if_neg (fun z => z.elim (fun z => h5 (by rw [z])) (fun z => h6 (by rw [z])))]
        · rw [if_neg e]
/-- the crop's rest comes forward -/
theorem HR_shift {b : Nat} {M : Mem} {g : Rw} (h : HR M b g) (w : WR g) (hp : 0 < nC g) : HR (mrow (mset M b 9 (g 4 - 1)) (b + 8) (va_cpy (M (b + 8)) (M (b + 8)) 1 0 (nC g - 1))) b (fun j => if j = 4 then g 4 - 1 else if 88 ≤ j ∧ j < 88 + (nC g - 1) then g (j + 1) else g j) := by
  have h8 := wr_C w
  have e4 : g 4 - 1 = nI (nC g - 1) := by rw [h8.2]; exact pk_sub (a := nC g) (b := 1) (by omega)
  have hn : nC (fun j => if j = 4 then g 4 - 1 else if 88 ≤ j ∧ j < 88 + (nC g - 1) then g (j + 1) else g j) = nC g - 1 := by
    show iN (if (4 : Nat) = 4 then g 4 - 1 else _) = _
    rw [if_pos rfl, e4, iN_nI (by omega)]
  refine ⟨?_, fun f hf t ht => ?_, fun i hi => ?_⟩
  · rw [mrow_ne (by omega), mset_at, upd_ne (by omega), upd_at, upd_ne (by omega), upd_ne (by omega)]
    simp only [show (3 : Nat) ≠ 4 by omega, show (1 : Nat) ≠ 4 by omega, show (2 : Nat) ≠ 4 by omega, if_false, if_true, show ¬ (88 ≤ 3 ∧ 3 < 88 + (nC g - 1)) by omega, show ¬ (88 ≤ 1 ∧ 1 < 88 + (nC g - 1)) by omega, show ¬ (88 ≤ 2 ∧ 2 < 88 + (nC g - 1)) by omega]
    exact ⟨h.1.1, trivial, h.1.2.2⟩
  · have h1 := at9_lt ht hf
    have h2 := at9_ge t f
    rw [mrow_ne (by omega), mset_ne (by omega)]
    show _ = if at9 t f = 4 then _ else if 88 ≤ at9 t f ∧ _ then _ else g (at9 t f)
    rw [if_neg (by omega), if_neg (by omega)]
    exact h.2.1 f hf t ht
  · rw [hn] at hi
    rw [mrow_at]
    show va_cpy _ _ 1 0 (nC g - 1) i = if 88 + i = 4 then _ else if 88 ≤ 88 + i ∧ 88 + i < 88 + (nC g - 1) then g (88 + i + 1) else _
    rw [if_neg (by omega), if_pos (by omega), pk_cpy_in (by omega) (by omega), show 1 + (i - 0) = i + 1 by omega, h.2.2 (i + 1) (by omega)]
    rfl
theorem tk_fold {x : Int32} : (stI 150).getD x.toNatClampNeg 0 = tkK x := rfl
theorem hol_1 {x y : Int32} : (if y ≤ x then (0 : Int32) else 1) = (if x < y then 1 else 0) := by
  by_cases h : y ≤ x
  · rw [if_pos h, if_neg (Int32.not_lt.mpr h)]
  · rw [if_neg h, if_pos (Int32.not_le.mp h)]
set_option maxHeartbeats 400000 in
theorem C_layFront {d b : Nat} {M : Mem} {g : Rw} (hb : isHen b) (h : HR M b g) (w : WR g) : ∃ M', call (d + 2) 30 [.ref b] M = some (none, M') ∧ HR M' b (layR g) ∧ Ou b M M' ∧ M' b 12 = laiG g ∧ M' b 13 = worG g ∧ M' b 14 = hlwG g := by
  have h8 := wr_C w
  rw [nX1_layFront]
  simp only [sX1_layFront_0, sX1_layFront_1, sX1_layFront_2, sX1_layFront_5, sX1_layFront_6, sX1_layFront_7, sX1_layFront_10, sX1_layFront_11, sX1_layFront_12, sX1_layFront_16, sX1_layFront_19, sX1_layFront_20, sX1_layFront_21, sX1_layFront_22, sX1_layFront_23, sX1_layFront_26, sX1_layFront_29, sX1_layFront_30, sX1_layFront_33, sX1_layFront_34, sX1_layFront_35, sX1_layFront_38, sX1_layFront_39, sX1_layFront_42, sX1_layFront_43, sX1_layFront_44, sX1_layFront_45, sX1_layFront_48, sX1_layFront_49, sX1_layFront_50, sX1_layFront_51, sX1_layFront_54, sX1_layFront_55, sX1_layFront_56, sX1_layFront_59, sX1_layFront_60, sX1_layFront_63, sX1_layFront_66, sX1_layFront_67, sX1_layFront_70, sX1_layFront_71, sX1_layFront_74, sX1_layFront_75, sX1_layFront_76, sX1_layFront_79, sX1_layFront_82, sX1_layFront_83, sX1_layFront_86, sX1_layFront_87, sX1_layFront_90, sX1_layFront_91, sX1_layFront_92, sX1_layFront_93, sX1_layFront_96, sX1_layFront_97, sX1_layFront_98, sX1_layFront_99, sX1_layFront_102, sX1_layFront_103, sX1_layFront_104, sX1_layFront_107, sX1_layFront_110, sX1_layFront_111, sX1_layFront_111_i, sX1_layFront_112, sX1_layFront_115, sX1_layFront_116, sX1_layFront_117, sX1_layFront_120, sX1_layFront_121, sX1_layFront_124, sX1_layFront_125, sX1_layFront_126, sX1_layFront_129, sX1_layFront_130, sX1_layFront_131, sX1_layFront_134, sX1_layFront_137, sX1_layFront_138, sX1_layFront_139, sX1_layFront_140, sX1_layFront_143, opK_some, guK_true, calK_some, rk_nil, rk_int, rk_ref, tl_some, tl_none, nb_int, nb_0, nb_1, nb_if, nb_if', hi_12 hb, hi_13 hb, hi_14 hb]
  obtain ⟨M1, hM1⟩ : ∃ M1, M1 = mset (mset (mset M b 12 (-1)) b 13 0) b 14 0 := ⟨_, rfl⟩
  rw [← hM1]
  have h1 : HR M1 b g := by rw [hM1]; exact HR_scr (HR_scr (HR_scr h (by omega)) (by omega)) (by omega)
  have o1 : Ou b M M1 := by rw [hM1]; exact (Ou.set0.tr Ou.set0).tr Ou.set0
  have f12 : M1 b 12 = -1 := by rw [hM1, mset_at, upd_ne (by omega), mset_at, upd_ne (by omega), mset_at, upd_at]
  have f13 : M1 b 13 = 0 := by rw [hM1, mset_at, upd_ne (by omega), mset_at, upd_at]
  have f14 : M1 b 14 = 0 := by rw [hM1, mset_at, upd_at]
  have e9 : M1 b 9 = g 4 := h1.1.2.1
  have notready : ¬ readyG g → ∃ M', some ((none : Option Value), M1) = some (none, M') ∧ HR M' b (layR g) ∧ Ou b M M' ∧ M' b 12 = laiG g ∧ M' b 13 = worG g ∧ M' b 14 = hlwG g := by
    intro hr
    refine ⟨M1, rfl, ?_, o1, ?_, ?_, ?_⟩
    · unfold layR
      rw [if_neg hr]
      exact h1
    · unfold laiG
      rw [if_neg hr, f12]
    · unfold worG
      rw [if_neg hr, f13]
    · unfold hlwG
      rw [if_neg hr, f14]
  rw [sX1_layFront_15]
  by_cases h0 : g 4 ≤ 0
  · simp only [sX1_layFront_0, sX1_layFront_1, sX1_layFront_2, sX1_layFront_5, sX1_layFront_6, sX1_layFront_7, sX1_layFront_10, sX1_layFront_11, sX1_layFront_12, sX1_layFront_16, sX1_layFront_19, sX1_layFront_20, sX1_layFront_21, sX1_layFront_22, sX1_layFront_23, sX1_layFront_26, sX1_layFront_29, sX1_layFront_30, sX1_layFront_33, sX1_layFront_34, sX1_layFront_35, sX1_layFront_38, sX1_layFront_39, sX1_layFront_42, sX1_layFront_43, sX1_layFront_44, sX1_layFront_45, sX1_layFront_48, sX1_layFront_49, sX1_layFront_50, sX1_layFront_51, sX1_layFront_54, sX1_layFront_55, sX1_layFront_56, sX1_layFront_59, sX1_layFront_60, sX1_layFront_63, sX1_layFront_66, sX1_layFront_67, sX1_layFront_70, sX1_layFront_71, sX1_layFront_74, sX1_layFront_75, sX1_layFront_76, sX1_layFront_79, sX1_layFront_82, sX1_layFront_83, sX1_layFront_86, sX1_layFront_87, sX1_layFront_90, sX1_layFront_91, sX1_layFront_92, sX1_layFront_93, sX1_layFront_96, sX1_layFront_97, sX1_layFront_98, sX1_layFront_99, sX1_layFront_102, sX1_layFront_103, sX1_layFront_104, sX1_layFront_107, sX1_layFront_110, sX1_layFront_111, sX1_layFront_111_i, sX1_layFront_112, sX1_layFront_115, sX1_layFront_116, sX1_layFront_117, sX1_layFront_120, sX1_layFront_121, sX1_layFront_124, sX1_layFront_125, sX1_layFront_126, sX1_layFront_129, sX1_layFront_130, sX1_layFront_131, sX1_layFront_134, sX1_layFront_137, sX1_layFront_138, sX1_layFront_139, sX1_layFront_140, sX1_layFront_143, opK_some, guK_true, calK_some, rk_nil, rk_int, rk_ref, tl_some, tl_none, nb_int, nb_0, nb_1, nb_if, nb_if', hs_8 hb, ha_8 hb, ib_0_8, hs_9 hb, e9, h0, if_true]
    exact notready (fun z => Int32.not_lt.mpr h0 z.1)
  · have hp : 0 < nC g := (wr_pos w).mp (Int32.not_le.mp h0)
    obtain ⟨c1, c2⟩ := wr_cr w (i := 0) hp
    have e8 : M1 (b + 8) 0 = nI (cr g 0) := (h1.2.2 0 hp).trans c2
    have e6 : M1 (b + 6) (cr g 0) = g (at9 (cr g 0) 5) := h1.2.1 5 (by omega) _ c1
    have e1 : M1 (b + 1) (cr g 0) = g (at9 (cr g 0) 0) := h1.2.1 0 (by omega) _ c1
    obtain ⟨k1, k2⟩ := (w.2.2.2 _ c1).1
    have k3 : inb (g (at9 (cr g 0) 0)) 7 = true := by rw [k2]; exact inb_nI (by omega) (by omega)
    by_cases h2 : tkK (g (at9 (cr g 0) 0)) ≤ g (at9 (cr g 0) 5)
    · have hr : readyG g := ⟨Int32.not_le.mp h0, h2⟩
      simp only [sX1_layFront_0, sX1_layFront_1, sX1_layFront_2, sX1_layFront_5, sX1_layFront_6, sX1_layFront_7, sX1_layFront_10, sX1_layFront_11, sX1_layFront_12, sX1_layFront_16, sX1_layFront_19, sX1_layFront_20, sX1_layFront_21, sX1_layFront_22, sX1_layFront_23, sX1_layFront_26, sX1_layFront_29, sX1_layFront_30, sX1_layFront_33, sX1_layFront_34, sX1_layFront_35, sX1_layFront_38, sX1_layFront_39, sX1_layFront_42, sX1_layFront_43, sX1_layFront_44, sX1_layFront_45, sX1_layFront_48, sX1_layFront_50, sX1_layFront_51, sX1_layFront_54, sX1_layFront_55, sX1_layFront_56, sX1_layFront_59, sX1_layFront_60, sX1_layFront_63, sX1_layFront_66, sX1_layFront_67, sX1_layFront_70, sX1_layFront_71, sX1_layFront_74, sX1_layFront_75, sX1_layFront_76, sX1_layFront_79, sX1_layFront_82, sX1_layFront_83, sX1_layFront_86, sX1_layFront_87, sX1_layFront_90, sX1_layFront_91, sX1_layFront_92, sX1_layFront_93, sX1_layFront_96, sX1_layFront_97, sX1_layFront_98, sX1_layFront_99, sX1_layFront_102, sX1_layFront_103, sX1_layFront_104, sX1_layFront_107, sX1_layFront_110, sX1_layFront_111, sX1_layFront_111_i, sX1_layFront_112, sX1_layFront_115, sX1_layFront_116, sX1_layFront_117, sX1_layFront_120, sX1_layFront_121, sX1_layFront_124, sX1_layFront_125, sX1_layFront_126, sX1_layFront_129, sX1_layFront_130, sX1_layFront_131, sX1_layFront_134, sX1_layFront_137, sX1_layFront_138, sX1_layFront_139, sX1_layFront_140, sX1_layFront_143, opK_some, guK_true, calK_some, rk_nil, rk_int, rk_ref, tl_some, tl_none, nb_int, nb_0, nb_1, nb_if, nb_if', hs_8 hb, ha_8 hb, ib_0_8, tn_0, hs_9 hb, hs_6 hb, ha_6 hb, hs_1 hb, ha_1 hb, a150, e9, e8, inb_nI c1 (by omega), nI_clamp (show cr g 0 < 2 ^ 31 by omega), e6, e1, k3, h0, if_false, tk_fold]
      rw [if_pos h2, sX1_layFront_49]
      simp only [sX1_layFront_0, sX1_layFront_1, sX1_layFront_2, sX1_layFront_5, sX1_layFront_6, sX1_layFront_7, sX1_layFront_10, sX1_layFront_11, sX1_layFront_12, sX1_layFront_16, sX1_layFront_19, sX1_layFront_20, sX1_layFront_21, sX1_layFront_22, sX1_layFront_23, sX1_layFront_26, sX1_layFront_29, sX1_layFront_30, sX1_layFront_33, sX1_layFront_34, sX1_layFront_35, sX1_layFront_38, sX1_layFront_39, sX1_layFront_42, sX1_layFront_43, sX1_layFront_44, sX1_layFront_45, sX1_layFront_48, sX1_layFront_50, sX1_layFront_51, sX1_layFront_54, sX1_layFront_55, sX1_layFront_56, sX1_layFront_59, sX1_layFront_60, sX1_layFront_63, sX1_layFront_66, sX1_layFront_67, sX1_layFront_70, sX1_layFront_71, sX1_layFront_75, sX1_layFront_76, sX1_layFront_79, sX1_layFront_82, sX1_layFront_83, sX1_layFront_86, sX1_layFront_87, sX1_layFront_90, sX1_layFront_91, sX1_layFront_92, sX1_layFront_93, sX1_layFront_96, sX1_layFront_97, sX1_layFront_98, sX1_layFront_99, sX1_layFront_102, sX1_layFront_103, sX1_layFront_104, sX1_layFront_107, sX1_layFront_110, sX1_layFront_111, sX1_layFront_111_i, sX1_layFront_112, sX1_layFront_115, sX1_layFront_116, sX1_layFront_117, sX1_layFront_120, sX1_layFront_121, sX1_layFront_124, sX1_layFront_125, sX1_layFront_126, sX1_layFront_129, sX1_layFront_130, sX1_layFront_131, sX1_layFront_134, sX1_layFront_137, sX1_layFront_138, sX1_layFront_139, sX1_layFront_140, sX1_layFront_143, opK_some, guK_true, calK_some, rk_nil, rk_int, rk_ref, tl_some, tl_none, nb_int, nb_0, nb_1, nb_if, nb_if', hi_12 hb, hen_c hb, hs_11 hb, hi_14 hb]
      have h3 : HR (mset M1 b 12 (nI (cr g 0))) b g := HR_scr h1 (by omega)
      simp only [sX1_layFront_0, sX1_layFront_1, sX1_layFront_2, sX1_layFront_5, sX1_layFront_6, sX1_layFront_7, sX1_layFront_10, sX1_layFront_11, sX1_layFront_12, sX1_layFront_16, sX1_layFront_19, sX1_layFront_20, sX1_layFront_21, sX1_layFront_22, sX1_layFront_23, sX1_layFront_26, sX1_layFront_29, sX1_layFront_30, sX1_layFront_33, sX1_layFront_34, sX1_layFront_35, sX1_layFront_38, sX1_layFront_39, sX1_layFront_42, sX1_layFront_43, sX1_layFront_44, sX1_layFront_45, sX1_layFront_48, sX1_layFront_50, sX1_layFront_51, sX1_layFront_54, sX1_layFront_55, sX1_layFront_56, sX1_layFront_59, sX1_layFront_60, sX1_layFront_63, sX1_layFront_66, sX1_layFront_67, sX1_layFront_70, sX1_layFront_71, sX1_layFront_75, sX1_layFront_76, sX1_layFront_79, sX1_layFront_82, sX1_layFront_83, sX1_layFront_86, sX1_layFront_87, sX1_layFront_90, sX1_layFront_91, sX1_layFront_92, sX1_layFront_93, sX1_layFront_96, sX1_layFront_97, sX1_layFront_98, sX1_layFront_99, sX1_layFront_102, sX1_layFront_103, sX1_layFront_104, sX1_layFront_107, sX1_layFront_110, sX1_layFront_111, sX1_layFront_111_i, sX1_layFront_112, sX1_layFront_115, sX1_layFront_116, sX1_layFront_117, sX1_layFront_120, sX1_layFront_121, sX1_layFront_124, sX1_layFront_125, sX1_layFront_126, sX1_layFront_129, sX1_layFront_130, sX1_layFront_131, sX1_layFront_134, sX1_layFront_137, sX1_layFront_138, sX1_layFront_139, sX1_layFront_140, sX1_layFront_143, opK_some, guK_true, calK_some, rk_nil, rk_int, rk_ref, tl_some, tl_none, nb_int, nb_0, nb_1, nb_if, nb_if', hi_12 hb, hen_c hb, hs_11 hb, hi_14 hb, C_bulkIn hb h3 w, h3.1.2.2.2, nb_if]
      have key : ∀ (x : Int32), (x = 0 ∨ x = 1) → x = (if holG g then 1 else 0) → ∃ M', lim (call (d + 1)) none 1 cX1_layFront none 74 [some (.ref b), some (.int (nI (cr g 0)))] [] (mset (mset M1 b 12 (nI (cr g 0))) b 14 x) = some (none, M') ∧ HR M' b (layR g) ∧ Ou b M M' ∧ M' b 12 = laiG g ∧ M' b 13 = worG g ∧ M' b 14 = hlwG g := by
        intro x hx01 hx
        have h4 : HR (mset (mset M1 b 12 (nI (cr g 0))) b 14 x) b g := HR_scr h3 (by omega)
        obtain ⟨M2, hM2⟩ : ∃ M2, M2 = mset (mset M1 b 12 (nI (cr g 0))) b 14 x := ⟨_, rfl⟩
        rw [← hM2] at h4 ⊢
        have g12 : M2 b 12 = nI (cr g 0) := by rw [hM2, mset_at, upd_ne (by omega), mset_at, upd_at]
        have g14 : M2 b 14 = x := by rw [hM2, mset_at, upd_at]
        have o2 : Ou b M M2 := by rw [hM2]; exact o1.tr (Ou.set0.tr Ou.set0)
        have e1' : M2 (b + 1) (cr g 0) = nI (iN (g (at9 (cr g 0) 0))) := (h4.2.1 0 (by omega) _ c1).trans k2
        have e3' : M2 (b + 3) (cr g 0) = g (at9 (cr g 0) 2) := h4.2.1 2 (by omega) _ c1
        have e7' : M2 (b + 7) (cr g 0) = g (at9 (cr g 0) 6) := h4.2.1 6 (by omega) _ c1
        have step : lim (call (d + 1)) none 1 cX1_layFront none 74 [some (.ref b), some (.int (nI (cr g 0)))] [] M2 = lim (call (d + 1)) none 1 cX1_layFront none 107 [some (.ref b), some (.int (nI (cr g 0)))] [.int (worG g), .ref b] M2 := by
          rw [sX1_layFront_74]
          unfold worG
          rw [if_pos hr]
          rcases hx01 with rfl | rfl
          · have hh : ¬ holG g := fun z => by rw [if_pos z] at hx; exact absurd hx (by decide)
            simp only [sX1_layFront_0, sX1_layFront_1, sX1_layFront_2, sX1_layFront_5, sX1_layFront_6, sX1_layFront_7, sX1_layFront_10, sX1_layFront_11, sX1_layFront_12, sX1_layFront_16, sX1_layFront_19, sX1_layFront_20, sX1_layFront_21, sX1_layFront_22, sX1_layFront_23, sX1_layFront_26, sX1_layFront_29, sX1_layFront_30, sX1_layFront_33, sX1_layFront_34, sX1_layFront_35, sX1_layFront_38, sX1_layFront_39, sX1_layFront_42, sX1_layFront_43, sX1_layFront_44, sX1_layFront_45, sX1_layFront_48, sX1_layFront_50, sX1_layFront_51, sX1_layFront_54, sX1_layFront_55, sX1_layFront_56, sX1_layFront_59, sX1_layFront_60, sX1_layFront_63, sX1_layFront_66, sX1_layFront_67, sX1_layFront_70, sX1_layFront_71, sX1_layFront_75, sX1_layFront_76, sX1_layFront_79, sX1_layFront_82, sX1_layFront_83, sX1_layFront_86, sX1_layFront_87, sX1_layFront_90, sX1_layFront_91, sX1_layFront_92, sX1_layFront_93, sX1_layFront_96, sX1_layFront_97, sX1_layFront_98, sX1_layFront_99, sX1_layFront_102, sX1_layFront_103, sX1_layFront_104, sX1_layFront_110, sX1_layFront_111, sX1_layFront_111_i, sX1_layFront_112, sX1_layFront_115, sX1_layFront_116, sX1_layFront_117, sX1_layFront_120, sX1_layFront_121, sX1_layFront_124, sX1_layFront_125, sX1_layFront_126, sX1_layFront_129, sX1_layFront_130, sX1_layFront_131, sX1_layFront_134, sX1_layFront_137, sX1_layFront_138, sX1_layFront_139, sX1_layFront_140, sX1_layFront_143, opK_some, guK_true, calK_some, rk_nil, rk_int, rk_ref, tl_some, tl_none, nb_int, nb_0, nb_1, nb_if, nb_if', hs_14 hb, g14, if_true, hs_1 hb, ha_1 hb, hs_3 hb, ha_3 hb, hs_7 hb, ha_7 hb, inb_nI c1 (by omega), nI_clamp (show cr g 0 < 2 ^ 31 by omega), e1', e3', e7', C_left _ k1]
            rw [if_neg hh]
            unfold lefG
            rw [← k2]
          · have hh : holG g := by
              by_cases z : holG g
              · exact z
              · rw [if_neg z] at hx; exact absurd hx (by decide)
            simp only [sX1_layFront_0, sX1_layFront_1, sX1_layFront_2, sX1_layFront_5, sX1_layFront_6, sX1_layFront_7, sX1_layFront_10, sX1_layFront_11, sX1_layFront_12, sX1_layFront_16, sX1_layFront_19, sX1_layFront_20, sX1_layFront_21, sX1_layFront_22, sX1_layFront_23, sX1_layFront_26, sX1_layFront_29, sX1_layFront_30, sX1_layFront_33, sX1_layFront_34, sX1_layFront_35, sX1_layFront_38, sX1_layFront_39, sX1_layFront_42, sX1_layFront_43, sX1_layFront_44, sX1_layFront_45, sX1_layFront_48, sX1_layFront_50, sX1_layFront_51, sX1_layFront_54, sX1_layFront_55, sX1_layFront_56, sX1_layFront_59, sX1_layFront_60, sX1_layFront_63, sX1_layFront_66, sX1_layFront_67, sX1_layFront_70, sX1_layFront_71, sX1_layFront_75, sX1_layFront_76, sX1_layFront_79, sX1_layFront_82, sX1_layFront_83, sX1_layFront_86, sX1_layFront_87, sX1_layFront_90, sX1_layFront_91, sX1_layFront_92, sX1_layFront_93, sX1_layFront_96, sX1_layFront_97, sX1_layFront_98, sX1_layFront_99, sX1_layFront_102, sX1_layFront_103, sX1_layFront_104, sX1_layFront_110, sX1_layFront_111, sX1_layFront_111_i, sX1_layFront_112, sX1_layFront_115, sX1_layFront_116, sX1_layFront_117, sX1_layFront_120, sX1_layFront_121, sX1_layFront_124, sX1_layFront_125, sX1_layFront_126, sX1_layFront_129, sX1_layFront_130, sX1_layFront_131, sX1_layFront_134, sX1_layFront_137, sX1_layFront_138, sX1_layFront_139, sX1_layFront_140, sX1_layFront_143, opK_some, guK_true, calK_some, rk_nil, rk_int, rk_ref, tl_some, tl_none, nb_int, nb_0, nb_1, nb_if, nb_if', hs_14 hb, g14, show ¬ ((1 : Int32) = 0) by decide, if_false]
            rw [if_pos hh]
        rw [step, sX1_layFront_107]
        have h5 : HR (mset M2 b 13 (worG g)) b g := HR_scr h4 (by omega)
        obtain ⟨M3, hM3⟩ : ∃ M3, M3 = mset M2 b 13 (worG g) := ⟨_, rfl⟩
        simp only [hi_13 hb, opK_some, guK_true, calK_some, rk_nil, rk_int, rk_ref, tl_some, tl_none, nb_int, nb_0, nb_1, nb_if, nb_if', ← hM3]
        rw [← hM3] at h5
        have g12' : M3 b 12 = nI (cr g 0) := by rw [hM3, mset_at, upd_ne (by omega)]; exact g12
        have g13' : M3 b 13 = worG g := by rw [hM3, mset_at, upd_at]
        have g14' : M3 b 14 = x := by rw [hM3, mset_at, upd_ne (by omega)]; exact g14
        have o3 : Ou b M M3 := by rw [hM3]; exact o2.tr Ou.set0
        have e9' : M3 b 9 = g 4 := h5.1.2.1
        have e4 : g 4 - 1 = nI (nC g - 1) := by rw [h8.2]; exact pk_sub (a := nC g) (b := 1) (by omega)
        have hcp : cpy9 (b + 8) (b + 8) 1 0 (g 4 - 1) = true := by
          unfold cpy9
          rw [hn_8 hb, e4]
          simp only [Bool.and_eq_true, decide_eq_true_eq, nI_clamp (show nC g - 1 < 2 ^ 31 by omega)]
          refine ⟨⟨⟨⟨by decide, by decide⟩, nI_pos (by omega)⟩, ?_⟩, ?_⟩
          · show 1 + (nC g - 1) ≤ 8
            omega
          · show 0 + (nC g - 1) ≤ 8
            omega
        have h6 := HR_shift h5 w hp
        obtain ⟨M4, hc4, h7, o4, q1, q2⟩ := C_putAside (d := d + 1 - 1) (x := 2) hb h6 c1
        have e98 : mset M3 b 9 (g 4 - 1) (b + 8) = M3 (b + 8) := mset_ne (by omega)
        have e99 : mset M3 b 9 (g 4 - 1) b 9 = g 4 - 1 := by rw [mset_at, upd_at]
        have tn1 : (g 4 - 1).toNatClampNeg = nC g - 1 := by rw [e4]; exact nI_clamp (by omega)
        rw [show d + 1 - 1 + 1 = d + 1 by omega] at hc4
        simp only [sX1_layFront_0, sX1_layFront_1, sX1_layFront_2, sX1_layFront_5, sX1_layFront_6, sX1_layFront_7, sX1_layFront_10, sX1_layFront_11, sX1_layFront_12, sX1_layFront_16, sX1_layFront_19, sX1_layFront_20, sX1_layFront_21, sX1_layFront_22, sX1_layFront_23, sX1_layFront_26, sX1_layFront_29, sX1_layFront_30, sX1_layFront_33, sX1_layFront_34, sX1_layFront_35, sX1_layFront_38, sX1_layFront_39, sX1_layFront_42, sX1_layFront_43, sX1_layFront_44, sX1_layFront_45, sX1_layFront_48, sX1_layFront_50, sX1_layFront_51, sX1_layFront_54, sX1_layFront_55, sX1_layFront_56, sX1_layFront_59, sX1_layFront_60, sX1_layFront_63, sX1_layFront_66, sX1_layFront_67, sX1_layFront_70, sX1_layFront_71, sX1_layFront_75, sX1_layFront_76, sX1_layFront_79, sX1_layFront_82, sX1_layFront_83, sX1_layFront_86, sX1_layFront_87, sX1_layFront_90, sX1_layFront_91, sX1_layFront_92, sX1_layFront_93, sX1_layFront_96, sX1_layFront_97, sX1_layFront_98, sX1_layFront_99, sX1_layFront_102, sX1_layFront_103, sX1_layFront_104, sX1_layFront_110, sX1_layFront_111, sX1_layFront_111_i, sX1_layFront_112, sX1_layFront_115, sX1_layFront_116, sX1_layFront_117, sX1_layFront_120, sX1_layFront_121, sX1_layFront_124, sX1_layFront_125, sX1_layFront_126, sX1_layFront_129, sX1_layFront_130, sX1_layFront_131, sX1_layFront_134, sX1_layFront_137, sX1_layFront_138, sX1_layFront_139, sX1_layFront_140, sX1_layFront_143, opK_some, guK_true, calK_some, rk_nil, rk_int, rk_ref, tl_some, tl_none, nb_int, nb_0, nb_1, nb_if, nb_if', hen_c hb, hs_9 hb, hs_8 hb, hi_9 hb, e9', e98, e99, hcp, tn_1, tn_0, tn1, hc4]
        refine ⟨M4, rfl, ?_, o3.tr ((Ou.set0.tr (fun k hk => mrow_ne (by omega))).tr o4), ?_, ?_, ?_⟩
        · have hn5 : nC (becR (fun j => if j = 4 then g 4 - 1 else if 88 ≤ j ∧ j < 88 + (nC g - 1) then g (j + 1) else g j) (cr g 0) 2) = nC g - 1 := by
            unfold nC
            rw [bec_ne (by omega) c1]
            show iN (if (4 : Nat) = 4 then g 4 - 1 else _) = _
            rw [if_pos rfl, e4]; exact iN_nI (j := nC g - 1) (by omega)
          refine HR_congr h7 (by rw [hn5]; omega) (fun j hj => ?_)
          rw [hn5] at hj
          unfold layR
          rw [if_pos hr]
          have en : nC (eggR g (worG g) (hlwG g)) = nC g := by unfold nC; rw [egg_keep (by omega)]
          have ec : cr (eggR g (worG g) (hlwG g)) 0 = cr g 0 := by unfold cr; rw [egg_keep (by omega)]
          unfold leavR
          rw [en, ec, egg_keep (by omega)]
          by_cases j4 : j = 4
          · subst j4
            rw [if_pos rfl, bec_ne (by omega) c1, if_pos rfl]
          · rw [if_neg j4]
            by_cases j88 : 88 ≤ j
            · rw [if_pos ⟨by omega, by omega⟩, egg_keep (by omega), bec_ne (by omega) c1, if_neg j4, if_pos ⟨by omega, by omega⟩]
            · rw [if_neg (by omega), if_neg (by omega)]
              unfold becR
              have hgj : ∀ y, y = j → (if y = 4 then g 4 - 1 else if 88 ≤ y ∧ y < 88 + (nC g - 1) then g (y + 1) else g y) = eggR g (worG g) (hlwG g) y := by
                intro y hy
                subst hy
                rw [if_neg j4, if_neg (by omega), egg_keep (by omega)]
              simp only [upd]
              rw [hgj j rfl]
        · rw [q1, mrow_ne (by omega), mset_at, upd_ne (by omega), g12']
          unfold laiG
          rw [if_pos hr]
          exact c2.symm
        · rw [q1, mrow_ne (by omega), mset_at, upd_ne (by omega), g13']
        · rw [q1, mrow_ne (by omega), mset_at, upd_ne (by omega), g14', hx]
          unfold hlwG
          rw [if_pos hr]
      by_cases hh : g 2 ≤ bulkR g
      · simp only [hh, if_true, nb_0, guK_true]
        exact key 0 (Or.inl rfl) (by rw [if_neg (Int32.not_lt.mpr hh)])
      · simp only [hh, if_false, nb_1, guK_true]
        exact key 1 (Or.inr rfl) (by rw [if_pos (Int32.not_le.mp hh)])
    · simp only [sX1_layFront_0, sX1_layFront_1, sX1_layFront_2, sX1_layFront_5, sX1_layFront_6, sX1_layFront_7, sX1_layFront_10, sX1_layFront_11, sX1_layFront_12, sX1_layFront_16, sX1_layFront_19, sX1_layFront_20, sX1_layFront_21, sX1_layFront_22, sX1_layFront_23, sX1_layFront_26, sX1_layFront_29, sX1_layFront_30, sX1_layFront_33, sX1_layFront_34, sX1_layFront_35, sX1_layFront_38, sX1_layFront_39, sX1_layFront_42, sX1_layFront_43, sX1_layFront_44, sX1_layFront_45, sX1_layFront_48, sX1_layFront_50, sX1_layFront_51, sX1_layFront_54, sX1_layFront_55, sX1_layFront_56, sX1_layFront_59, sX1_layFront_60, sX1_layFront_63, sX1_layFront_66, sX1_layFront_67, sX1_layFront_70, sX1_layFront_71, sX1_layFront_74, sX1_layFront_75, sX1_layFront_76, sX1_layFront_79, sX1_layFront_82, sX1_layFront_83, sX1_layFront_86, sX1_layFront_87, sX1_layFront_90, sX1_layFront_91, sX1_layFront_92, sX1_layFront_93, sX1_layFront_96, sX1_layFront_97, sX1_layFront_98, sX1_layFront_99, sX1_layFront_102, sX1_layFront_103, sX1_layFront_104, sX1_layFront_107, sX1_layFront_110, sX1_layFront_111, sX1_layFront_111_i, sX1_layFront_112, sX1_layFront_115, sX1_layFront_116, sX1_layFront_117, sX1_layFront_120, sX1_layFront_121, sX1_layFront_124, sX1_layFront_125, sX1_layFront_126, sX1_layFront_129, sX1_layFront_130, sX1_layFront_131, sX1_layFront_134, sX1_layFront_137, sX1_layFront_138, sX1_layFront_139, sX1_layFront_140, sX1_layFront_143, opK_some, guK_true, calK_some, rk_nil, rk_int, rk_ref, tl_some, tl_none, nb_int, nb_0, nb_1, nb_if, nb_if', hs_8 hb, ha_8 hb, ib_0_8, tn_0, hs_9 hb, hs_6 hb, ha_6 hb, hs_1 hb, ha_1 hb, a150, e9, e8, inb_nI c1 (by omega), nI_clamp (show cr g 0 < 2 ^ 31 by omega), e6, e1, k3, h0, if_false, tk_fold]
      rw [if_neg h2]
      exact notready (fun z => h2 z.2)

