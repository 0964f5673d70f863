/-! orders: the reference -/
def Mp (M M' : Mem) : Prop := (∀ j, j ≠ 130 → j ≠ 135 → j ≠ 136 → M' j = M j) ∧ ∀ j, j ≠ 5 → j ≠ 6 → j ≠ 7 → j ≠ 12 → M' 130 j = M 130 j
theorem Mp.rf {M : Mem} : Mp M M := ⟨fun _ _ _ _ => rfl, fun _ _ _ _ _ => rfl⟩
theorem Mp.tr {M M1 M2 : Mem} (h1 : Mp M M1) (h2 : Mp M1 M2) : Mp M M2 := ⟨fun j a b c => (h2.1 j a b c).trans (h1.1 j a b c), fun j a b c e => (h2.2 j a b c e).trans (h1.2 j a b c e)⟩
theorem Mp.mo {M M1 : Mem} (h : Mo M M1) (e : M1 131 = M 131) : Mp M M1 := by
  refine ⟨fun j a _ _ => ?_, fun j a b c _ => h.2 j a b c⟩
  by_cases z : j = 131
  · subst z
    exact e
  · exact h.1 j a z
theorem Mp.m135 {M : Mem} {i : Nat} {v : Int32} : Mp M (mset M 135 i v) := ⟨fun j _ b _ => mset_ne b, fun j _ _ _ _ => by rw [mset_ne (by omega)]⟩
theorem Mp.m136 {M : Mem} {i : Nat} {v : Int32} : Mp M (mset M 136 i v) := ⟨fun j _ _ c => mset_ne c, fun j _ _ _ _ => by rw [mset_ne (by omega)]⟩
theorem Mp.m12 {M : Mem} {v : Int32} : Mp M (mset M 130 12 v) := ⟨fun j a _ _ => mset_ne a, fun j _ _ _ e => by rw [mset_at, upd_ne e]⟩
theorem Mp.ms {M M1 : Mem} (h : Mp M M1) : Ms M M1 := ⟨fun k hk => h.1 k (by omega) (by omega) (by omega), h.2 3 (by omega) (by omega) (by omega) (by omega), h.2 17 (by omega) (by omega) (by omega) (by omega)⟩
def St (M : Mem) (b : Int32 × List Nat) (T : Nat) : Prop := M 130 12 = b.1 ∧ Bs M 136 b T
theorem rm_bit {s t : Nat} (hs : s < 1024) (ht : t < 10) : ∃ s', nI s &&& ((1 : Int32) <<< (nI t &&& 31) ^^^ (-1)) = nI s' ∧ s' ≤ s ∧ ∀ k, k < 10 → s'.testBit k = (s.testBit k && (k != t)) := by
  have m1 : ∀ k, k < 32 → (-1 : Int32).toBitVec.getLsbD k = true := by decide +kernel
  have hb : ∀ k, (s &&& (1023 - 2 ^ t)).testBit k = (s.testBit k && ((1023 - 2 ^ t).testBit k)) := fun k => Nat.testBit_and _ _ _
  have hc : ∀ t, t < 10 → ∀ k, k < 10 → (1023 - 2 ^ t).testBit k = (k != t) := by decide +kernel
  refine ⟨s &&& (1023 - 2 ^ t), ?_, Nat.and_le_left, fun k hk => by rw [hb, hc t ht k hk]⟩
  rw [one_shl (by omega)]
  apply Int32.toBitVec_inj.1
  apply BitVec.eq_of_getLsbD_eq
  intro k hk
  rw [Int32.toBitVec_and, Int32.toBitVec_xor, BitVec.getLsbD_and, BitVec.getLsbD_xor, m1 k hk, nI_bit, nI_bit, nI_bit, hb, decide_eq_true hk, Bool.true_and, Bool.true_and, Bool.true_and, Nat.testBit_two_pow]
  by_cases k10 : k < 10
  · rw [hc t ht k k10]
    by_cases e : t = k
    · rw [e]
      simp
    · rw [decide_eq_false e, bne_iff_ne.mpr (fun z => e z.symm)]
      rfl
  · rw [Nat.testBit_lt_two_pow (Nat.lt_of_lt_of_le (show s < 2 ^ 10 from hs) (p2_le (by omega)))]
    rfl
theorem fl_rm' {s s' t : Nat} (h : ∀ k, k < 10 → s'.testBit k = (s.testBit k && (k != t))) : ∀ n, n ≤ 10 → fl s' n = (fl s n).filter (fun y => y != t) := by
  intro n
  induction n with
  | zero => intro _; rfl
  | succ n ih =>
    intro hn
    by_cases c : s.testBit n = true
    · rw [fl_1 c, List.filter_append, ← ih (by omega)]
      by_cases d : n = t
      · have : ¬ s'.testBit n = true := by rw [h n (by omega), c, d]; simp
        rw [fl_0 this]
        simp [d]
      · have : s'.testBit n = true := by rw [h n (by omega), c]; simp [d]
        rw [fl_1 this]
        simp [d]
    · have : ¬ s'.testBit n = true := by
        rw [h n (by omega)]
        simp [c]
      rw [fl_0 c, fl_0 this, ih (by omega)]
theorem fl_flen {s t : Nat} : ∀ n, s.testBit t = true → t < n → ((fl s n).filter (fun y => y != t)).length + 1 = (fl s n).length := by
  intro n
  induction n with
  | zero => intro _ h; omega
  | succ n ih =>
    intro hb ht
    by_cases e : n = t
    · subst e
      rw [fl_1 hb, List.filter_append, List.length_append, List.length_append]
      have h0 : (fl s n).filter (fun y => y != n) = fl s n := List.filter_eq_self.mpr (fun y hy => bne_iff_ne.mpr (by have := fl_mem s n y hy; omega))
      rw [h0]
      simp
    · have := ih hb (by omega)
      by_cases c : s.testBit n = true
      · rw [fl_1 c, List.filter_append, List.length_append, List.length_append]
        have h1 : [n].filter (fun y => y != t) = [n] := List.filter_eq_self.mpr (fun y hy => bne_iff_ne.mpr (by have := List.mem_singleton.mp hy; omega))
        rw [h1]
        show _ + 1 + 1 = _ + 1
        omega
      · rw [fl_0 c]
        exact this
theorem L_ordcp {d T : Nat} {M : Mem} {pre : List Nat} {s n y : Int32} (hT : T ≤ 5) (hm : ∀ k, k < T → M 135 k = nI (lrow pre k)) (e10 : M 130 10 = nI T) : ∀ (c k : Nat) (M1 : Mem), k + c = T → (∀ j, j ≠ 136 → M1 j = M j) → (∀ i, i < k → M1 136 i = nI (lrow pre i)) →
    ∃ M', lim (call (d + 1)) none 6 cX6_orders none 26 [some (.ref 130), some (.int s), some (.int n), some (.int y), some (.int (nI k))] [] M1 = lim (call (d + 1)) none 6 cX6_orders none 55 [some (.ref 130), some (.int s), some (.int n), some (.int y), some (.int (nI T))] [] M' ∧ (∀ j, j ≠ 136 → M' j = M j) ∧ ∀ i, i < T → M' 136 i = nI (lrow pre i) := by
  intro c
  induction c with
  | zero =>
    intro k M1 hk o v
    obtain rfl : k = T := by omega
    rw [sX6_orders_26]
    simp only [sX6_orders_0, sX6_orders_1, sX6_orders_4, sX6_orders_5, sX6_orders_6, sX6_orders_9, sX6_orders_10, sX6_orders_11, sX6_orders_12, sX6_orders_15, sX6_orders_18, sX6_orders_19, sX6_orders_20, sX6_orders_23, sX6_orders_24, sX6_orders_28, sX6_orders_29, sX6_orders_32, sX6_orders_35, sX6_orders_36, sX6_orders_39, sX6_orders_41, sX6_orders_42, sX6_orders_45, sX6_orders_47, sX6_orders_48, sX6_orders_49, sX6_orders_52, sX6_orders_56, sX6_orders_58, sX6_orders_60, sX6_orders_63, sX6_orders_64, sX6_orders_67, sX6_orders_68, sX6_orders_69, sX6_orders_72, sX6_orders_75, sX6_orders_76, sX6_orders_79, sX6_orders_80, sX6_orders_83, sX6_orders_84, sX6_orders_87, sX6_orders_88, sX6_orders_89, sX6_orders_90, sX6_orders_91, sX6_orders_92, sX6_orders_93, sX6_orders_94, sX6_orders_95, sX6_orders_96, sX6_orders_97, sX6_orders_98, sX6_orders_99, sX6_orders_102, sX6_orders_105, sX6_orders_108, opK_some, guK_true, calK_some, rk_nil, rk_int, rk_ref, tl_some, tl_none, nb_int, nb_0, nb_1, nb_if, nb_if', o130_10, o 130 (by omega), e10]
    rw [if_pos (show nI k ≤ nI k from Int32.le_refl _)]
    exact ⟨M1, rfl, o, v⟩
  | succ c ih =>
    intro k M1 hk o v
    rw [sX6_orders_26]
    simp only [sX6_orders_0, sX6_orders_1, sX6_orders_4, sX6_orders_5, sX6_orders_6, sX6_orders_9, sX6_orders_10, sX6_orders_11, sX6_orders_12, sX6_orders_15, sX6_orders_18, sX6_orders_19, sX6_orders_20, sX6_orders_23, sX6_orders_24, sX6_orders_28, sX6_orders_29, sX6_orders_32, sX6_orders_35, sX6_orders_36, sX6_orders_39, sX6_orders_41, sX6_orders_42, sX6_orders_45, sX6_orders_47, sX6_orders_48, sX6_orders_49, sX6_orders_52, sX6_orders_56, sX6_orders_58, sX6_orders_60, sX6_orders_63, sX6_orders_64, sX6_orders_67, sX6_orders_68, sX6_orders_69, sX6_orders_72, sX6_orders_75, sX6_orders_76, sX6_orders_79, sX6_orders_80, sX6_orders_83, sX6_orders_84, sX6_orders_87, sX6_orders_88, sX6_orders_89, sX6_orders_90, sX6_orders_91, sX6_orders_92, sX6_orders_93, sX6_orders_94, sX6_orders_95, sX6_orders_96, sX6_orders_97, sX6_orders_98, sX6_orders_99, sX6_orders_102, sX6_orders_105, sX6_orders_108, opK_some, guK_true, calK_some, rk_nil, rk_int, rk_ref, tl_some, tl_none, nb_int, nb_0, nb_1, nb_if, nb_if', o130_9, o130_10, o130_11, a135, b136, o 130 (by omega), o 135 (by omega), e10, inb_nI (show k < 10 by omega) (by omega), inb_nI (show k < 5 by omega) (by omega), nI_clamp (show k < 2 ^ 31 by omega), hm k (by omega), nI_1]
    rw [if_neg (show ¬ nI T ≤ nI k from nI_ge (by omega) (by omega))]
    refine ih (k + 1) _ (by omega) (fun j hj => by rw [mset_ne hj]; exact o j hj) (fun i hi => ?_)
    rw [mset_at]
    by_cases e : i = k
    · rw [e, upd_at]
    · rw [upd_ne e]
      exact v i (by omega)
theorem fl_0s {s : Nat} (hs : s < 1024) (h : (fl s 10).length = 0) : s = 0 := by
  have mem : ∀ n k, k < n → s.testBit k = true → k ∈ fl s n := by
    intro n
    induction n with
    | zero => intro k hk; omega
    | succ n ih =>
      intro k hk hb
      by_cases c : s.testBit n = true
      · rw [fl_1 c]
        by_cases e : k = n
        · rw [e]
          exact List.mem_append_right _ (List.mem_singleton.mpr rfl)
        · exact List.mem_append_left _ (ih k (by omega) hb)
      · rw [fl_0 c]
        by_cases e : k = n
        · rw [e] at hb
          exact absurd hb c
        · exact ih k (by omega) hb
  apply Nat.eq_of_testBit_eq
  intro k
  rw [Nat.zero_testBit]
  by_cases c : s.testBit k = true
  · by_cases d : k < 10
    · have := mem 10 k d c
      rw [List.length_eq_zero_iff.mp h] at this
      exact absurd this List.not_mem_nil
    · rw [Nat.testBit_lt_two_pow (Nat.lt_of_lt_of_le (show s < 2 ^ 10 from hs) (p2_le (by omega)))]
  · exact Bool.eq_false_iff.mpr c
theorem C_orders {T n : Nat} {r a : Rw} (w : WX r 9999) (hT : T ≤ 5) (hn : n ≤ 1000) : ∀ (m s : Nat) (pre : List Nat) (b : Int32 × List Nat) (M : Mem) (E : Nat), (fl s 10).length = m → s < 1024 → pre.length + m = T → m ≤ E → (∀ k, k < pre.length → lrow pre k < 10 ∧ M 135 k = nI (lrow pre k)) → M 130 10 = nI T → M 131 = r → M 133 = cpR r a → St M b T →
    ∃ M', call (E + 8) 191 [.ref 130, .int (nI s), .int (nI n)] M = some (none, M') ∧ Mp M M' ∧ St M' (obF (fun ys => bS r (lrow ys) T n) ((pmF m (fl s 10)).map (fun ys => pre ++ ys)) b) T ∧ ∀ k, k < pre.length → M' 135 k = M 135 k := by
  intro m
  induction m with
  | zero =>
    intro s pre b M E hl hs hp hE hme e10 e131 e133 hst
    have s0 := fl_0s hs hl
    subst s0
    have hp' : pre.length = T := by omega
    obtain ⟨M2, c2, o2, r2⟩ := C_m_brings (d := E + 7 - 6) (size := T) (row := lrow pre) (n := n) w e131 e133 ⟨by omega, e10, fun k hk => hme k (by omega)⟩ hn
    rw [show E + 7 - 6 + 6 = E + 7 by omega] at c2
    have p2 : Mp M M2 := Mp.mo o2 (by rw [r2, e131])
    have e12 : M2 130 12 = b.1 := by rw [o2.2 12 (by omega) (by omega) (by omega)]; exact hst.1
    have fin : ∀ (M3 : Mem) (u : Option Value), lim (call (E + 7)) none 6 cX6_orders none 55 [some (.ref 130), some (.int (nI 0)), some (.int (nI n)), some (.int (bS r (lrow pre) T n)), u] [] M3 = some (none, M3) := by
      intro M3 u
      rw [sX6_orders_55]
      simp only [sX6_orders_0, sX6_orders_1, sX6_orders_4, sX6_orders_5, sX6_orders_6, sX6_orders_9, sX6_orders_10, sX6_orders_11, sX6_orders_12, sX6_orders_15, sX6_orders_18, sX6_orders_19, sX6_orders_20, sX6_orders_23, sX6_orders_24, sX6_orders_28, sX6_orders_29, sX6_orders_32, sX6_orders_35, sX6_orders_36, sX6_orders_39, sX6_orders_41, sX6_orders_42, sX6_orders_45, sX6_orders_47, sX6_orders_48, sX6_orders_49, sX6_orders_52, sX6_orders_56, sX6_orders_58, sX6_orders_60, sX6_orders_63, sX6_orders_64, sX6_orders_67, sX6_orders_68, sX6_orders_69, sX6_orders_72, sX6_orders_75, sX6_orders_76, sX6_orders_79, sX6_orders_80, sX6_orders_83, sX6_orders_84, sX6_orders_87, sX6_orders_88, sX6_orders_89, sX6_orders_90, sX6_orders_91, sX6_orders_92, sX6_orders_93, sX6_orders_94, sX6_orders_95, sX6_orders_96, sX6_orders_97, sX6_orders_98, sX6_orders_99, sX6_orders_102, sX6_orders_105, sX6_orders_108, opK_some, guK_true, calK_some, rk_nil, rk_int, rk_ref, tl_some, tl_none, nb_int, nb_0, nb_1, nb_if, nb_if']
      rw [sX6_orders_57]
      simp only [sX6_orders_0, sX6_orders_1, sX6_orders_4, sX6_orders_5, sX6_orders_6, sX6_orders_9, sX6_orders_10, sX6_orders_11, sX6_orders_12, sX6_orders_15, sX6_orders_18, sX6_orders_19, sX6_orders_20, sX6_orders_23, sX6_orders_24, sX6_orders_28, sX6_orders_29, sX6_orders_32, sX6_orders_35, sX6_orders_36, sX6_orders_39, sX6_orders_41, sX6_orders_42, sX6_orders_45, sX6_orders_47, sX6_orders_48, sX6_orders_49, sX6_orders_52, sX6_orders_56, sX6_orders_58, sX6_orders_60, sX6_orders_63, sX6_orders_64, sX6_orders_67, sX6_orders_68, sX6_orders_69, sX6_orders_72, sX6_orders_75, sX6_orders_76, sX6_orders_79, sX6_orders_80, sX6_orders_83, sX6_orders_84, sX6_orders_87, sX6_orders_88, sX6_orders_89, sX6_orders_90, sX6_orders_91, sX6_orders_92, sX6_orders_93, sX6_orders_94, sX6_orders_95, sX6_orders_96, sX6_orders_97, sX6_orders_98, sX6_orders_99, sX6_orders_102, sX6_orders_105, sX6_orders_108, opK_some, guK_true, calK_some, rk_nil, rk_int, rk_ref, tl_some, tl_none, nb_int, nb_0, nb_1, nb_if, nb_if']
      rw [if_neg (show ¬ (10 : Int32) ≤ 0 by decide), if_pos (show nI 0 = 0 from rfl)]
    have el : (pmF 0 (fl 0 10)).map (fun ys => pre ++ ys) = [pre] := by
      show [pre ++ []] = [pre]
      rw [List.append_nil]
    rw [el, show E + 8 = E + 7 + 1 from rfl, nX6_orders]
    simp only [sX6_orders_0, sX6_orders_1, sX6_orders_4, sX6_orders_5, sX6_orders_6, sX6_orders_9, sX6_orders_10, sX6_orders_11, sX6_orders_12, sX6_orders_15, sX6_orders_18, sX6_orders_19, sX6_orders_20, sX6_orders_23, sX6_orders_24, sX6_orders_28, sX6_orders_29, sX6_orders_32, sX6_orders_35, sX6_orders_36, sX6_orders_39, sX6_orders_41, sX6_orders_42, sX6_orders_45, sX6_orders_47, sX6_orders_48, sX6_orders_49, sX6_orders_52, sX6_orders_56, sX6_orders_58, sX6_orders_60, sX6_orders_63, sX6_orders_64, sX6_orders_67, sX6_orders_68, sX6_orders_69, sX6_orders_72, sX6_orders_75, sX6_orders_76, sX6_orders_79, sX6_orders_80, sX6_orders_83, sX6_orders_84, sX6_orders_87, sX6_orders_88, sX6_orders_89, sX6_orders_90, sX6_orders_91, sX6_orders_92, sX6_orders_93, sX6_orders_94, sX6_orders_95, sX6_orders_96, sX6_orders_97, sX6_orders_98, sX6_orders_99, sX6_orders_102, sX6_orders_105, sX6_orders_108, opK_some, guK_true, calK_some, rk_nil, rk_int, rk_ref, tl_some, tl_none, nb_int, nb_0, nb_1, nb_if, nb_if', q130, o130_12, c2, e12]
    rw [if_pos (show nI 0 = 0 from rfl)]
    show ∃ M', _ = _ ∧ Mp M M' ∧ St M' (if b.1 < bS r (lrow pre) T n then (bS r (lrow pre) T n, pre) else b) T ∧ _
    by_cases hc : b.1 < bS r (lrow pre) T n
    · obtain ⟨M3, hM3⟩ : ∃ M3, M3 = mset M2 130 12 (bS r (lrow pre) T n) := ⟨_, rfl⟩
      have p3 : Mp M2 M3 := by rw [hM3]; exact Mp.m12
      have f10 : M3 130 10 = nI T := by rw [hM3, mset_at, upd_ne (by omega), o2.2 10 (by omega) (by omega) (by omega)]; exact e10
      obtain ⟨M4, c4, o4, v4⟩ := L_ordcp (d := E + 6) (M := M3) (pre := pre) (s := nI 0) (n := nI n) (y := bS r (lrow pre) T n) hT (fun k hk => by rw [hM3, mset_ne (by omega), o2.1 135 (by omega) (by omega)]; exact (hme k (by omega)).2) f10 T 0 M3 (by omega) (fun _ _ => rfl) (fun i hi => absurd hi (Nat.not_lt_zero i))
      have p4 : Mp M3 M4 := ⟨fun j _ _ c => o4 j c, fun j _ _ _ _ => by rw [o4 130 (by omega)]⟩
      rw [if_neg (Int32.not_le.mpr hc), if_pos hc]
      simp only [p130_12, guK_true, ← hM3]
      refine ⟨M4, c4.trans (fin M4 _), (p2.tr p3).tr p4, ⟨?_, Or.inr v4⟩, fun k hk => ?_⟩
      · rw [o4 130 (by omega), hM3, mset_at, upd_at]
      · rw [o4 135 (by omega), hM3, mset_ne (by omega), o2.1 135 (by omega) (by omega)]
    · rw [if_pos (Int32.not_lt.mp hc), if_neg hc, fin M2 none]
      refine ⟨M2, rfl, p2, ⟨e12, ?_⟩, fun k hk => by rw [o2.1 135 (by omega) (by omega)]⟩
      rcases hst.2 with z | z
      · exact Or.inl z
      · exact Or.inr (fun k hk => by rw [o2.1 136 (by omega) (by omega)]; exact z k hk)
  | succ m ih =>
    intro s pre b M E hl hs hp hE hme e10 e131 e133 hst
    obtain ⟨E', rfl⟩ : ∃ E', E = E' + 1 := ⟨E - 1, by omega⟩
    have hs0 : ¬ nI s = 0 := by
      intro z
      have := nI_inj (i := s) (j := 0) (by omega) (by omega) z
      subst this
      rw [show (fl 0 10).length = 0 by decide] at hl
      omega
    have lp : ∀ (c t : Nat) (M1 : Mem) (u : Option Value), t + c = 10 → Mp M M1 → St M1 (obF (fun ys => bS r (lrow ys) T n) (((fl s t).flatMap (fun x => (pmF m ((fl s 10).filter (fun y => y != x))).map (fun ys => x :: ys))).map (fun ys => pre ++ ys)) b) T → (∀ k, k < pre.length → M1 135 k = M 135 k) →
        ∃ M', lim (call (E' + 8)) none 6 cX6_orders none 57 [some (.ref 130), some (.int (nI s)), some (.int (nI n)), some (.int (nI t)), u] [] M1 = some (none, M') ∧ Mp M M' ∧ St M' (obF (fun ys => bS r (lrow ys) T n) ((pmF (m + 1) (fl s 10)).map (fun ys => pre ++ ys)) b) T ∧ ∀ k, k < pre.length → M' 135 k = M 135 k := by
      intro c
      induction c with
      | zero =>
        intro t M1 u ht p1 s1 k1
        obtain rfl : t = 10 := by omega
        rw [sX6_orders_57]
        simp only [sX6_orders_0, sX6_orders_1, sX6_orders_4, sX6_orders_5, sX6_orders_6, sX6_orders_9, sX6_orders_10, sX6_orders_11, sX6_orders_12, sX6_orders_15, sX6_orders_18, sX6_orders_19, sX6_orders_20, sX6_orders_23, sX6_orders_24, sX6_orders_28, sX6_orders_29, sX6_orders_32, sX6_orders_35, sX6_orders_36, sX6_orders_39, sX6_orders_41, sX6_orders_42, sX6_orders_45, sX6_orders_47, sX6_orders_48, sX6_orders_49, sX6_orders_52, sX6_orders_56, sX6_orders_58, sX6_orders_60, sX6_orders_63, sX6_orders_64, sX6_orders_67, sX6_orders_68, sX6_orders_69, sX6_orders_72, sX6_orders_75, sX6_orders_76, sX6_orders_79, sX6_orders_80, sX6_orders_83, sX6_orders_84, sX6_orders_87, sX6_orders_88, sX6_orders_89, sX6_orders_90, sX6_orders_91, sX6_orders_92, sX6_orders_93, sX6_orders_94, sX6_orders_95, sX6_orders_96, sX6_orders_97, sX6_orders_98, sX6_orders_99, sX6_orders_102, sX6_orders_105, sX6_orders_108, opK_some, guK_true, calK_some, rk_nil, rk_int, rk_ref, tl_some, tl_none, nb_int, nb_0, nb_1, nb_if, nb_if']
        rw [if_pos (show (10 : Int32) ≤ nI 10 by decide)]
        exact ⟨M1, rfl, p1, s1, k1⟩
      | succ c ihc =>
        intro t M1 u ht p1 s1 k1
        rw [sX6_orders_57]
        simp only [sX6_orders_0, sX6_orders_1, sX6_orders_4, sX6_orders_5, sX6_orders_6, sX6_orders_9, sX6_orders_10, sX6_orders_11, sX6_orders_12, sX6_orders_15, sX6_orders_18, sX6_orders_19, sX6_orders_20, sX6_orders_23, sX6_orders_24, sX6_orders_28, sX6_orders_29, sX6_orders_32, sX6_orders_35, sX6_orders_36, sX6_orders_39, sX6_orders_41, sX6_orders_42, sX6_orders_45, sX6_orders_47, sX6_orders_48, sX6_orders_49, sX6_orders_52, sX6_orders_56, sX6_orders_58, sX6_orders_60, sX6_orders_63, sX6_orders_64, sX6_orders_67, sX6_orders_68, sX6_orders_69, sX6_orders_72, sX6_orders_75, sX6_orders_76, sX6_orders_79, sX6_orders_80, sX6_orders_83, sX6_orders_84, sX6_orders_87, sX6_orders_88, sX6_orders_90, sX6_orders_91, sX6_orders_92, sX6_orders_93, sX6_orders_94, sX6_orders_95, sX6_orders_96, sX6_orders_97, sX6_orders_98, sX6_orders_99, sX6_orders_102, sX6_orders_105, sX6_orders_108, opK_some, guK_true, calK_some, rk_nil, rk_int, rk_ref, tl_some, tl_none, nb_int, nb_0, nb_1, nb_if, nb_if', C_m_has, hb_v (show s < 2 ^ 31 by omega) (show t < 32 by omega), nI_1]
        rw [if_neg (show ¬ (10 : Int32) ≤ nI t from nI_ge (b := 10) (by omega) (by omega)), if_neg hs0]
        by_cases hb : s.testBit t = true
        · have cb := C_bits (d := E' + 7) (M := M1) hs
          rw [show E' + 7 + 1 = E' + 8 from rfl, hl] at cb
          have e10' : M1 130 10 = nI T := by rw [p1.2 10 (by omega) (by omega) (by omega) (by omega)]; exact e10
          have ei : nI T - nI (m + 1) = nI pre.length := by
            rw [pk_sub (by omega)]
            congr 1
            omega
          obtain ⟨s', es', ls', bs'⟩ := rm_bit (s := s) (t := t) hs (by omega)
          have hflt : fl s' 10 = (fl s 10).filter (fun y => y != t) := fl_rm' bs' 10 (by omega)
          have hlen : (fl s' 10).length = m := by
            rw [hflt]
            have := fl_flen (s := s) 10 hb (by omega)
            omega
          obtain ⟨M2, hM2⟩ : ∃ M2, M2 = mset M1 135 pre.length (nI t) := ⟨_, rfl⟩
          have p2 : Mp M1 M2 := by rw [hM2]; exact Mp.m135
          have p12 := p1.tr p2
          have eap : (pre ++ [t]).length = pre.length + 1 := by rw [List.length_append]; rfl
          obtain ⟨M3, c3, p3, s3, k3⟩ := ih s' (pre ++ [t]) (obF (fun ys => bS r (lrow ys) T n) (((fl s t).flatMap (fun x => (pmF m ((fl s 10).filter (fun y => y != x))).map (fun ys => x :: ys))).map (fun ys => pre ++ ys)) b) M2 E' hlen (by omega) (by omega) (by omega) (fun k hk => by
            rw [eap] at hk
            rw [lrow_app, hM2, mset_at]
            by_cases c : k = pre.length
            · rw [c, upd_at, if_neg (by omega), if_pos rfl]
              exact ⟨by omega, rfl⟩
            · rw [upd_ne c, if_pos (by omega), k1 k (by omega)]
              exact hme k (by omega)) (by rw [p12.2 10 (by omega) (by omega) (by omega) (by omega)]; exact e10) (by rw [p12.1 131 (by omega) (by omega) (by omega)]; exact e131) (by rw [p12.1 133 (by omega) (by omega) (by omega)]; exact e133) ⟨by rw [hM2, mset_ne (by omega)]; exact s1.1, by
              rcases s1.2 with z | z
              · exact Or.inl z
              · exact Or.inr (fun k hk => by rw [hM2, mset_ne (by omega)]; exact z k hk)⟩
          have ek : ((fl s (t + 1)).flatMap (fun x => (pmF m ((fl s 10).filter (fun y => y != x))).map (fun ys => x :: ys))).map (fun ys => pre ++ ys) = ((fl s t).flatMap (fun x => (pmF m ((fl s 10).filter (fun y => y != x))).map (fun ys => x :: ys))).map (fun ys => pre ++ ys) ++ (pmF m (fl s' 10)).map (fun ys => (pre ++ [t]) ++ ys) := by
            rw [fl_1 hb, List.flatMap_append, List.map_append, hflt]
            congr 1
            rw [List.flatMap_singleton, List.map_map]
            congr 1
            funext ys
            show pre ++ (t :: ys) = (pre ++ [t]) ++ ys
            rw [List.append_assoc]
            rfl
          have fin := ihc (t + 1) M3 u (by omega) (p12.tr p3) (by rw [ek, ob_app]; exact s3) (fun k hk => by
            rw [k3 k (by rw [eap]; omega), hM2, mset_at, upd_ne (by omega)]
            exact k1 k hk)
          simp only [sX6_orders_0, sX6_orders_1, sX6_orders_4, sX6_orders_5, sX6_orders_6, sX6_orders_9, sX6_orders_10, sX6_orders_11, sX6_orders_12, sX6_orders_15, sX6_orders_18, sX6_orders_19, sX6_orders_20, sX6_orders_23, sX6_orders_24, sX6_orders_28, sX6_orders_29, sX6_orders_32, sX6_orders_35, sX6_orders_36, sX6_orders_39, sX6_orders_41, sX6_orders_42, sX6_orders_45, sX6_orders_47, sX6_orders_48, sX6_orders_49, sX6_orders_52, sX6_orders_56, sX6_orders_58, sX6_orders_60, sX6_orders_63, sX6_orders_64, sX6_orders_67, sX6_orders_68, sX6_orders_69, sX6_orders_72, sX6_orders_75, sX6_orders_76, sX6_orders_79, sX6_orders_80, sX6_orders_83, sX6_orders_84, sX6_orders_87, sX6_orders_88, sX6_orders_90, sX6_orders_91, sX6_orders_92, sX6_orders_93, sX6_orders_94, sX6_orders_95, sX6_orders_96, sX6_orders_97, sX6_orders_98, sX6_orders_99, sX6_orders_102, sX6_orders_105, sX6_orders_108, opK_some, guK_true, calK_some, rk_nil, rk_int, rk_ref, tl_some, tl_none, nb_int, nb_0, nb_1, nb_if, nb_if', hb, if_true, one_eq, one_ne, if_false, o130_9, o130_10, e10', cb, ei]
          rw [sX6_orders_89]
          simp only [sX6_orders_0, sX6_orders_1, sX6_orders_4, sX6_orders_5, sX6_orders_6, sX6_orders_9, sX6_orders_10, sX6_orders_11, sX6_orders_12, sX6_orders_15, sX6_orders_18, sX6_orders_19, sX6_orders_20, sX6_orders_23, sX6_orders_24, sX6_orders_28, sX6_orders_29, sX6_orders_32, sX6_orders_35, sX6_orders_36, sX6_orders_39, sX6_orders_41, sX6_orders_42, sX6_orders_45, sX6_orders_47, sX6_orders_48, sX6_orders_49, sX6_orders_52, sX6_orders_56, sX6_orders_58, sX6_orders_60, sX6_orders_63, sX6_orders_64, sX6_orders_67, sX6_orders_68, sX6_orders_69, sX6_orders_72, sX6_orders_75, sX6_orders_76, sX6_orders_79, sX6_orders_80, sX6_orders_83, sX6_orders_84, sX6_orders_87, sX6_orders_88, sX6_orders_90, sX6_orders_91, sX6_orders_92, sX6_orders_93, sX6_orders_94, sX6_orders_95, sX6_orders_96, sX6_orders_97, sX6_orders_98, sX6_orders_99, sX6_orders_102, sX6_orders_105, sX6_orders_108, opK_some, guK_true, calK_some, rk_nil, rk_int, rk_ref, tl_some, tl_none, nb_int, nb_0, nb_1, nb_if, nb_if', b135, inb_nI (show pre.length < 10 by omega) (by omega), nI_clamp (show pre.length < 2 ^ 31 by omega), q130, es', ← hM2, c3, nI_1]
          exact fin
        · have ek : fl s (t + 1) = fl s t := fl_0 hb
          simp only [hb, if_false, zero_ne, zero_eq, if_true, Bool.false_eq_true]
          exact ihc (t + 1) M1 u (by omega) p1 (by rw [ek]; exact s1) k1
    obtain ⟨M2, c2, p2, s2, k2⟩ := lp 10 0 M none (by omega) Mp.rf hst (fun _ _ => rfl)
    rw [show E' + 1 + 8 = E' + 8 + 1 from rfl, nX6_orders]
    simp only [sX6_orders_0, sX6_orders_1, sX6_orders_4, sX6_orders_5, sX6_orders_6, sX6_orders_9, sX6_orders_10, sX6_orders_11, sX6_orders_12, sX6_orders_15, sX6_orders_18, sX6_orders_19, sX6_orders_20, sX6_orders_23, sX6_orders_24, sX6_orders_28, sX6_orders_29, sX6_orders_32, sX6_orders_35, sX6_orders_36, sX6_orders_39, sX6_orders_41, sX6_orders_42, sX6_orders_45, sX6_orders_47, sX6_orders_48, sX6_orders_49, sX6_orders_52, sX6_orders_56, sX6_orders_58, sX6_orders_60, sX6_orders_63, sX6_orders_64, sX6_orders_67, sX6_orders_68, sX6_orders_69, sX6_orders_72, sX6_orders_75, sX6_orders_76, sX6_orders_79, sX6_orders_80, sX6_orders_83, sX6_orders_84, sX6_orders_87, sX6_orders_88, sX6_orders_89, sX6_orders_90, sX6_orders_91, sX6_orders_92, sX6_orders_93, sX6_orders_94, sX6_orders_95, sX6_orders_96, sX6_orders_97, sX6_orders_98, sX6_orders_99, sX6_orders_102, sX6_orders_105, sX6_orders_108, opK_some, guK_true, calK_some, rk_nil, rk_int, rk_ref, tl_some, tl_none, nb_int, nb_0, nb_1, nb_if, nb_if']
    rw [if_neg hs0, sX6_orders_55]
    simp only [sX6_orders_0, sX6_orders_1, sX6_orders_4, sX6_orders_5, sX6_orders_6, sX6_orders_9, sX6_orders_10, sX6_orders_11, sX6_orders_12, sX6_orders_15, sX6_orders_18, sX6_orders_19, sX6_orders_20, sX6_orders_23, sX6_orders_24, sX6_orders_28, sX6_orders_29, sX6_orders_32, sX6_orders_35, sX6_orders_36, sX6_orders_39, sX6_orders_41, sX6_orders_42, sX6_orders_45, sX6_orders_47, sX6_orders_48, sX6_orders_49, sX6_orders_52, sX6_orders_56, sX6_orders_58, sX6_orders_60, sX6_orders_63, sX6_orders_64, sX6_orders_67, sX6_orders_68, sX6_orders_69, sX6_orders_72, sX6_orders_75, sX6_orders_76, sX6_orders_79, sX6_orders_80, sX6_orders_83, sX6_orders_84, sX6_orders_87, sX6_orders_88, sX6_orders_89, sX6_orders_90, sX6_orders_91, sX6_orders_92, sX6_orders_93, sX6_orders_94, sX6_orders_95, sX6_orders_96, sX6_orders_97, sX6_orders_98, sX6_orders_99, sX6_orders_102, sX6_orders_105, sX6_orders_108, opK_some, guK_true, calK_some, rk_nil, rk_int, rk_ref, tl_some, tl_none, nb_int, nb_0, nb_1, nb_if, nb_if']
    exact ⟨M2, c2, p2, s2, k2⟩

