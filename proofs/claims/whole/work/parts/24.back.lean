/-! rows that live on; the reference's rows kept aside -/
def WX (r : Rw) (m : Nat) : Prop := WR r ∧ rg (r 0) m ∧ rg (r 5) (iN (r 0))
theorem day_hi {r : Rw} (w : WR r) {j : Nat} (h : j = 1 ∨ j = 2 ∨ j = 3 ∨ (7 ≤ j ∧ j < 18) ∨ 132 ≤ j) : dayR r j = r j := by
  have hcs := wr_crs w (Nat.le_refl (nC r))
  have wg := WR_gN w (nC r) (Nat.le_refl _)
  have hg : gR r j = r j := gN_lo hcs (by omega)
  unfold dayR
  rw [upd_ne (by omega)]
  unfold layR
  by_cases hr : readyG (gR r)
  · have hp := (wr_pos wg).mp hr.1
    have h8 := wr_C wg
    have c1 := (wr_cr wg (i := 0) hp).1
    have en : nC (eggR (gR r) (worG (gR r)) (hlwG (gR r))) = nC (gR r) := by unfold nC; rw [egg_keep (by omega)]
    have ec : cr (eggR (gR r) (worG (gR r)) (hlwG (gR r))) 0 = cr (gR r) 0 := by unfold cr; rw [egg_keep (by omega)]
    have e1 : eggR (gR r) (worG (gR r)) (hlwG (gR r)) j = gR r j := by
      unfold eggR
      rw [upd_ne (by omega), upd_ne (by omega), upd_ne (by omega), upd_ne (by omega), upd_ne (by omega)]
    rw [if_pos hr]
    by_cases hj : j < 18
    · rw [leav_lo hj (by omega) (by rw [ec]; exact c1), e1, hg]
    · rw [leav_hi (by omega) (by rw [en]; exact hp) (by rw [en]; exact h8.1) (by rw [ec]; exact c1), e1, hg]
  · rw [if_neg hr, hg]
theorem day_5 {r : Rw} (w : WR r) : dayR r 5 = (if readyG (gR r) then r 5 + 1 else r 5) ∧ dayR r 6 = r 6 + hlwG (gR r) := by
  have hcs := wr_crs w (Nat.le_refl (nC r))
  have wg := WR_gN w (nC r) (Nat.le_refl _)
  have hg : gR r 5 = r 5 := gN_lo hcs (by omega)
  have hg6 : gR r 6 = r 6 := gN_lo hcs (by omega)
  unfold dayR
  rw [upd_ne (by omega), upd_ne (by omega)]
  unfold layR
  by_cases hr : readyG (gR r)
  · have hp := (wr_pos wg).mp hr.1
    have c1 := (wr_cr wg (i := 0) hp).1
    have ec : cr (eggR (gR r) (worG (gR r)) (hlwG (gR r))) 0 = cr (gR r) 0 := by unfold cr; rw [egg_keep (by omega)]
    rw [if_pos hr, if_pos hr, leav_lo (by omega) (by omega) (by rw [ec]; exact c1), leav_lo (by omega) (by omega) (by rw [ec]; exact c1)]
    unfold eggR
    rw [upd_ne (by omega), upd_at, upd_at, hg, hg6]
    exact ⟨rfl, rfl⟩
  · rw [if_neg hr, if_neg hr, hg, hg6]
    refine ⟨rfl, ?_⟩
    unfold hlwG
    rw [if_neg hr, Int32.add_zero]
theorem WX_day {r : Rw} {m : Nat} (w : WX r m) (hm : m + 1 < 2 ^ 31) : WX (dayR r) (m + 1) := by
  obtain ⟨w1, w2, w3⟩ := w
  have e0 : dayR r 0 = nI (iN (r 0) + 1) := by
    unfold dayR
    rw [upd_at, w2.2, nI_1, ← w2.2]
  have i0 : iN (dayR r 0) = iN (r 0) + 1 := by rw [e0]; exact iN_nI (by have := w2.1; omega)
  refine ⟨WR_day w1, ?_, ?_⟩
  · rw [e0]
    exact rg_nI (by have := w2.1; omega) hm
  · rw [i0, (day_5 w1).1]
    by_cases hr : readyG (gR r)
    · rw [if_pos hr, w3.2, nI_1]
      exact rg_nI (by have := w3.1; omega) (by have := w2.1; omega)
    · rw [if_neg hr]
      exact rg_le w3 (by omega)
theorem WX_dN {r : Rw} {m : Nat} (w : WX r m) : ∀ n, m + n < 2 ^ 31 → WX (dN r n) (m + n) := by
  intro n
  induction n with
  | zero => intro _; exact w
  | succ n ih => intro h; exact WX_day (ih (by omega)) (by omega)
theorem wx_5 {r : Rw} {m : Nat} (w : WX r m) (hm : m < 2 ^ 31) : r 5 = nI (iN (r 5)) ∧ iN (r 5) < 2 ^ 31 := ⟨w.2.2.2, by have := w.2.2.1; have := w.2.1.1; omega⟩
theorem dN_hi {r : Rw} (w : WR r) {j : Nat} (h : j = 1 ∨ j = 2 ∨ j = 3 ∨ (7 ≤ j ∧ j < 18) ∨ 132 ≤ j) : ∀ n, dN r n j = r j := by
  intro n
  induction n with
  | zero => rfl
  | succ n ih => exact (day_hi (WR_dN w n) h).trans ih
theorem L_m_daysGo {d n m : Nat} {r : Rw} (w : WX r m) (hm : m + n < 2 ^ 31) : ∀ (k i : Nat) (M1 : Mem), i + k = n → M1 131 = dN r i →
    ∃ M', lim (call (d + 5)) none 6 cX6_daysGo (some .int) 4 [some (.ref 130), some (.int (nI n)), some (.int (sW r i)), some (.int (nI i))] [] M1 = some (some (.int (sW r n)), M') ∧ Mo M1 M' ∧ M' 131 = dN r n := by
  intro k
  induction k with
  | zero =>
    intro i M1 hi e
    rw [sX6_daysGo_4]
    simp only [sX6_daysGo_0, sX6_daysGo_1, sX6_daysGo_2, sX6_daysGo_3, sX6_daysGo_5, sX6_daysGo_6, sX6_daysGo_9, sX6_daysGo_10, sX6_daysGo_11, sX6_daysGo_14, sX6_daysGo_15, sX6_daysGo_16, sX6_daysGo_19, sX6_daysGo_22, sX6_daysGo_23, opK_some, guK_true, calK_some, rk_nil, rk_int, rk_ref, tl_some, tl_none, nb_int, nb_0, nb_1, nb_if, nb_if']
    rw [if_pos (nI_le (by omega) (by omega))]
    rw [show i = n by omega] at e ⊢
    exact ⟨M1, rfl, Mo.rf, e⟩
  | succ k ih =>
    intro i M1 hi e
    have wi := WX_dN w i (by omega)
    obtain ⟨g1, g2⟩ := wx_5 wi (by omega)
    rw [← e] at wi g1
    obtain ⟨M2, c2, o2, r2, _, _⟩ := C_m_day (d := d + 0) wi.1 g1 (by rw [e]; exact g2)
    rw [show d + 0 + 5 = d + 5 from rfl] at c2
    rw [e] at r2 c2
    rw [sX6_daysGo_4]
    simp only [sX6_daysGo_0, sX6_daysGo_1, sX6_daysGo_2, sX6_daysGo_3, sX6_daysGo_5, sX6_daysGo_6, sX6_daysGo_9, sX6_daysGo_10, sX6_daysGo_11, sX6_daysGo_14, sX6_daysGo_15, sX6_daysGo_16, sX6_daysGo_19, sX6_daysGo_22, sX6_daysGo_23, opK_some, guK_true, calK_some, rk_nil, rk_int, rk_ref, tl_some, tl_none, nb_int, nb_0, nb_1, nb_if, nb_if', q130, c2, nI_1]
    rw [if_neg (nI_ge (by omega) (by omega))]
    obtain ⟨M3, c3, o3, r3⟩ := ih (i + 1) M2 (by omega) r2
    exact ⟨M3, c3, o2.tr o3, r3⟩
theorem C_m_daysGo {d n m : Nat} {M : Mem} (w : WX (M 131) m) (hm : m + n < 2 ^ 31) : ∃ M', call (d + 6) 164 [.ref 130, .int (nI n)] M = some (some (.int (sW (M 131) n)), M') ∧ Mo M M' ∧ M' 131 = dN (M 131) n := by
  rw [nX6_daysGo]
  simp only [sX6_daysGo_0, sX6_daysGo_1, sX6_daysGo_2, sX6_daysGo_3, sX6_daysGo_5, sX6_daysGo_6, sX6_daysGo_9, sX6_daysGo_10, sX6_daysGo_11, sX6_daysGo_14, sX6_daysGo_15, sX6_daysGo_16, sX6_daysGo_19, sX6_daysGo_22, sX6_daysGo_23, opK_some, guK_true, calK_some, rk_nil, rk_int, rk_ref, tl_some, tl_none, nb_int, nb_0, nb_1, nb_if, nb_if']
  have := L_m_daysGo (d := d) w hm n 0 M (by omega) rfl
  rw [show sW (M 131) 0 = 0 from rfl, nI_0] at this
  exact this
/-- one row laid over another -/
def cpR (a b : Rw) : Rw := fun k => if k < 132 then a k else b k
theorem L_copyRow {d a b : Nat} {M : Mem} (ha : ∀ M : Mem, arrV9 none a M = some (132, M a)) (hb : arrN b = some 132) (hab : a ≠ b) : ∀ (n k : Nat) (M1 : Mem), k + n = 132 → M1 = mrow M b (fun j => if j < k then M a j else M b j) →
    lim (call d) none 6 cX6_copyRow none 2 [some (.ref a), some (.ref b), some (.int (nI k))] [] M1 = some (none, mrow M b (cpR (M a) (M b))) := by
  intro n
  induction n with
  | zero =>
    intro k M1 hk e
    have e2 : k = 132 := by omega
    rw [sX6_copyRow_2]
    simp only [sX6_copyRow_0, sX6_copyRow_1, sX6_copyRow_3, sX6_copyRow_6, sX6_copyRow_9, sX6_copyRow_10, sX6_copyRow_11, sX6_copyRow_12, sX6_copyRow_13, sX6_copyRow_14, sX6_copyRow_15, sX6_copyRow_18, sX6_copyRow_21, opK_some, guK_true, calK_some, rk_nil, rk_int, rk_ref, tl_some, tl_none, nb_int, nb_0, nb_1, nb_if, nb_if']
    rw [if_pos (show (132 : Int32) ≤ nI k from nI_le (a := 132) (by omega) (by omega)), e, e2]
    rfl
  | succ n ih =>
    intro k M1 hk e
    have e2 : M1 a k = M a k := by rw [e, mrow_ne hab]
    rw [sX6_copyRow_2]
    simp only [sX6_copyRow_0, sX6_copyRow_1, sX6_copyRow_3, sX6_copyRow_6, sX6_copyRow_9, sX6_copyRow_10, sX6_copyRow_11, sX6_copyRow_12, sX6_copyRow_13, sX6_copyRow_14, sX6_copyRow_15, sX6_copyRow_18, sX6_copyRow_21, opK_some, guK_true, calK_some, rk_nil, rk_int, rk_ref, tl_some, tl_none, nb_int, nb_0, nb_1, nb_if, nb_if', ha, hb, inb_nI (show k < 132 by omega) (by omega), nI_clamp (show k < 2 ^ 31 by omega), e2, nI_1]
    rw [if_neg (show ¬ (132 : Int32) ≤ nI k from nI_ge (b := 132) (by omega) (by omega))]
    refine ih (k + 1) _ (by omega) ?_
    rw [e, mset_mrow, mrow_mrow, mrow_at]
    congr 1
    funext j
    unfold upd
    by_cases c : j = k
    · subst c
      rw [if_pos rfl, if_pos (by omega)]
    · rw [if_neg c]
      show (if j < k then M a j else M b j) = _
      by_cases c2 : j < k
      · rw [if_pos c2, if_pos (by omega)]
      · rw [if_neg c2, if_neg (by omega)]
theorem C_copyRow {d a b : Nat} {M : Mem} (ha : ∀ M : Mem, arrV9 none a M = some (132, M a)) (hb : arrN b = some 132) (hab : a ≠ b) : call (d + 1) 171 [.ref a, .ref b] M = some (none, mrow M b (cpR (M a) (M b))) := by
  rw [nX6_copyRow]
  simp only [sX6_copyRow_0, sX6_copyRow_1, sX6_copyRow_3, sX6_copyRow_6, sX6_copyRow_9, sX6_copyRow_10, sX6_copyRow_11, sX6_copyRow_12, sX6_copyRow_13, sX6_copyRow_14, sX6_copyRow_15, sX6_copyRow_18, sX6_copyRow_21, opK_some, guK_true, calK_some, rk_nil, rk_int, rk_ref, tl_some, tl_none, nb_int, nb_0, nb_1, nb_if, nb_if']
  rw [← nI_0]
  refine L_copyRow ha hb hab 132 0 M (by omega) ?_
  have : (fun j => if j < 0 then M a j else M b j) = M b := by funext j; rw [if_neg (by omega)]
  rw [this, mrow_self]
theorem C_aside {d : Nat} {M : Mem} : call (d + 1) 171 [.ref 131, .ref 133] M = some (none, mrow M 133 (cpR (M 131) (M 133))) := C_copyRow (fun _ => a131) b133 (by omega)
theorem C_back {d : Nat} {M : Mem} : call (d + 1) 171 [.ref 133, .ref 131] M = some (none, mrow M 131 (cpR (M 133) (M 131))) := C_copyRow (fun _ => a133) b131 (by omega)
theorem C_keep {d : Nat} {M : Mem} : call (d + 1) 171 [.ref 131, .ref 132] M = some (none, mrow M 132 (cpR (M 131) (M 132))) := C_copyRow (fun _ => a131) b132 (by omega)
theorem C_undo {d : Nat} {M : Mem} : call (d + 1) 171 [.ref 132, .ref 131] M = some (none, mrow M 131 (cpR (M 132) (M 131))) := C_copyRow (fun _ => a132) b131 (by omega)
theorem C_putBack {d : Nat} {M : Mem} {x : Int32} : call (d + 2) 172 [.ref 130, .int x] M = some (some (.int x), mrow M 131 (cpR (M 133) (M 131))) := by
  rw [nX6_putBack]
  simp only [sX6_putBack_0, sX6_putBack_1, sX6_putBack_4, sX6_putBack_5, sX6_putBack_8, sX6_putBack_11, sX6_putBack_12, opK_some, guK_true, calK_some, rk_nil, rk_int, rk_ref, tl_some, tl_none, nb_int, nb_0, nb_1, nb_if, nb_if', o130_2, o130_0, C_back]
theorem cp_back {r a q : Rw} (h : ∀ k, 132 ≤ k → q k = r k) : cpR (cpR r a) q = r := by
  funext k
  unfold cpR
  by_cases c : k < 132
  · rw [if_pos c, if_pos c]
  · rw [if_neg c, h k (by omega)]
theorem C_m_become {d i : Nat} {M : Mem} {v : Int32} (hi : i < 132) : call (d + 1) 149 [.ref 130, .int (nI i), .int v] M = some (some (.int (M 131 i)), mrow M 131 (upd (M 131) i v)) := by
  rw [nX6_become]
  simp only [sX6_become_0, sX6_become_1, sX6_become_4, sX6_become_5, sX6_become_6, sX6_become_7, sX6_become_8, sX6_become_11, sX6_become_12, sX6_become_13, sX6_become_14, sX6_become_15, opK_some, guK_true, calK_some, rk_nil, rk_int, rk_ref, tl_some, tl_none, nb_int, nb_0, nb_1, nb_if, nb_if', o130_0, a131, b131, inb_nI hi (by omega), nI_clamp (show i < 2 ^ 31 by omega), mset_mrow]

