/-! the text's items -/
abbrev nuP (S V : Nat → Int32) (lo hi : Int32) (i : Nat) : Prop := S i = 2 ∧ lo ≤ V i ∧ V i ≤ hi
def ptP (S V : Nat → Int32) (w lo hi : Int32) (i : Nat) (x : Int32) : Bool × Nat × Int32 := if S i = 1 ∧ V i = w then (if nuP S V lo hi (i + 1) then (true, i + 2, V (i + 1)) else (false, i + 1, x)) else (true, i, x)
abbrev pB (S V : Nat → Int32) (i : Nat) : Bool × Nat × Int32 := ptP S V 7 1 9 (i + 1) 2
abbrev pW (S V : Nat → Int32) (i : Nat) : Bool × Nat × Int32 := ptP S V 8 0 99 (pB S V i).2.1 10
abbrev pO (S V : Nat → Int32) (i : Nat) : Bool × Nat × Int32 := ptP S V 9 0 1 (pW S V i).2.1 0
def piK (S V : Nat → Int32) (i : Nat) (r : Rw) : Bool × Nat × Rw := if ¬ r 3 < 10 then (false, i, r) else if ¬ (pB S V i).1 = true then (false, (pB S V i).2.1, r) else if ¬ (pW S V i).1 = true then (false, (pW S V i).2.1, r) else if ¬ (pO S V i).1 = true then (false, (pO S V i).2.1, r) else (true, (pO S V i).2.1, comR r (V i) (pB S V i).2.2 (pW S V i).2.2 (pO S V i).2.2)
def piR (S V : Nat → Int32) (lo hi : Int32) (k i : Nat) (r : Rw) : Bool × Nat × Rw := if nuP S V lo hi (i + 1) then (true, i + 2, upd r k (V (i + 1))) else (false, i + 1, r)
def piT (S V : Nat → Int32) (i : Nat) (r : Rw) : Bool × Nat × Rw := if S i = 1 ∧ 0 ≤ V i ∧ V i ≤ 6 then piK S V i r else if S i = 1 ∧ V i = 10 then piR S V 1 40 1 i r else if S i = 1 ∧ V i = 11 then piR S V 0 9 2 i r else (false, i, r)
def pxT (S V : Nat → Int32) (Bg : Nat → Nat) : Nat → Nat → Rw → Nat → Int32 × Rw × Bool
  | 0, _, r, _ => (0, r, false)
  | m + 1, i, r, c => if ¬ (piT S V i r).1 = true then (-1 - nI (Bg (piT S V i r).2.1), r, false) else if S (piT S V i r).2.1 = 0 then (nI c, (piT S V i r).2.2, true) else if S (piT S V i r).2.1 = 3 then pxT S V Bg m ((piT S V i r).2.1 + 1) (piT S V i r).2.2 (c + 1) else (-1 - nI (Bg (piT S V i r).2.1), r, false)
theorem com_j {r : Rw} {k b x y : Int32} {j : Nat} : comR r k b x y j = if j = 3 then r 3 + 1 else if j = at9 (nT r) 6 then 0 else if j = at9 (nT r) 5 then 0 else if j = at9 (nT r) 4 then 0 else if j = at9 (nT r) 3 then y else if j = at9 (nT r) 2 then x else if j = at9 (nT r) 1 then b else if j = at9 (nT r) 0 then k else r j := rfl
theorem com_1 {r : Rw} {k b b' x y : Int32} : upd (comR r k b x y) (at9 (nT r) 1) b' = comR r k b' x y := by
  funext j
  by_cases c : j = at9 (nT r) 1
  · rw [c, upd_at, com_j]
    unfold at9
    rw [if_neg (by omega), if_neg (by omega), if_neg (by omega), if_neg (by omega), if_neg (by omega), if_neg (by omega), if_pos rfl]
  · rw [upd_ne c, com_j, com_j, if_neg c, if_neg c]
theorem com_2 {r : Rw} {k b x x' y : Int32} : upd (comR r k b x y) (at9 (nT r) 2) x' = comR r k b x' y := by
  funext j
  by_cases c : j = at9 (nT r) 2
  · rw [c, upd_at, com_j]
    unfold at9
    rw [if_neg (by omega), if_neg (by omega), if_neg (by omega), if_neg (by omega), if_neg (by omega), if_pos rfl]
  · rw [upd_ne c, com_j, com_j, if_neg c, if_neg c]
theorem com_3 {r : Rw} {k b x y y' : Int32} : upd (comR r k b x y) (at9 (nT r) 3) y' = comR r k b x y' := by
  funext j
  by_cases c : j = at9 (nT r) 3
  · rw [c, upd_at, com_j]
    unfold at9
    rw [if_neg (by omega), if_neg (by omega), if_neg (by omega), if_neg (by omega), if_pos rfl]
  · rw [upd_ne c, com_j, com_j, if_neg c, if_neg c]
/-! the class tells its hen -/
/-- tokens: to n, the END the last -/
def Tl (S V : Nat → Int32) (Bg : Nat → Nat) (n : Nat) (M : Mem) : Prop := M 7 5 = nI (n + 1) ∧ (∀ i, i ≤ n → M 92 i = S i ∧ M 93 i = nI (Bg i) ∧ M 94 i = V i)
def Tc (M M' : Mem) : Prop := (∀ k, k ≠ 7 → (k < 30 ∨ 39 ≤ k) → M' k = M k) ∧ ∀ j, j ≠ 6 → M' 7 j = M 7 j
theorem Tc.rf {M : Mem} : Tc M M := ⟨fun _ _ _ => rfl, fun _ _ => rfl⟩
theorem Tc.tr {M M1 M2 : Mem} (h1 : Tc M M1) (h2 : Tc M1 M2) : Tc M M2 := ⟨fun k a b => (h2.1 k a b).trans (h1.1 k a b), fun j a => (h2.2 j a).trans (h1.2 j a)⟩
theorem Tc.ou {M M1 : Mem} (h : Ou 30 M M1) : Tc M M1 := ⟨fun k _ b => h k (by omega), fun j _ => by rw [h 7 (by omega)]⟩
theorem Tc.at {M : Mem} {v : Int32} : Tc M (mset M 7 6 v) := ⟨fun k a _ => mset_ne a, fun j a => by rw [mset_at, upd_ne a]⟩
theorem Tl.tc {S V : Nat → Int32} {Bg : Nat → Nat} {n : Nat} {M M1 : Mem} (h : Tl S V Bg n M) (t : Tc M M1) : Tl S V Bg n M1 := ⟨(t.2 5 (by omega)).trans h.1, fun i hi => by rw [t.1 92 (by omega) (by omega), t.1 93 (by omega) (by omega), t.1 94 (by omega) (by omega)]; exact h.2 i hi⟩
theorem HR_7 {M : Mem} {q : Rw} {v : Int32} (h : HR M 30 q) : HR (mset M 7 6 v) 30 q := HR_ou h (fun k a b => mset_ne (by omega))
theorem C_step {d i n : Nat} {M : Mem} (e5 : M 7 5 = nI (n + 1)) (e6 : M 7 6 = nI i) (hi : i < n) (hn : n ≤ 120) : call (d + 1) 109 [.ref 7] M = some (none, mset M 7 6 (nI (i + 1))) := by
  rw [nX4_step]
  simp only [sX4_step_0, sX4_step_1, sX4_step_4, sX4_step_5, sX4_step_8, sX4_step_9, sX4_step_10, sX4_step_13, sX4_step_14, sX4_step_14_i, sX4_step_15, sX4_step_18, sX4_step_19, sX4_step_20, sX4_step_23, opK_some, guK_true, calK_some, rk_nil, rk_int, rk_ref, tl_some, tl_none, nb_int, nb_0, nb_1, nb_if, nb_if', o7_5, o7_6, p7_6, e5, e6, pk_sub1 (show 1 ≤ n + 1 by omega), Nat.add_sub_cancel, nI_1]
  rw [if_neg (show ¬ nI n ≤ nI i from nI_ge hi (by omega))]
theorem C_isNumber {d i n : Nat} {S V : Nat → Int32} {Bg : Nat → Nat} {M : Mem} {lo hi : Int32} (t : Tl S V Bg n M) (e6 : M 7 6 = nI i) (hi' : i ≤ n) (hn : n ≤ 120) : call (d + 2) 111 [.ref 7, .int lo, .int hi] M = some (some (.int (if nuP S V lo hi i then 1 else 0)), M) := by
  obtain ⟨t1, _, t3⟩ := t.2 i hi'
  rw [nX4_isNumber]
  simp only [sX4_isNumber_0, sX4_isNumber_1, sX4_isNumber_4, sX4_isNumber_5, sX4_isNumber_8, sX4_isNumber_9, sX4_isNumber_10, sX4_isNumber_13, sX4_isNumber_14, sX4_isNumber_17, sX4_isNumber_18, sX4_isNumber_21, sX4_isNumber_22, sX4_isNumber_23, sX4_isNumber_24, sX4_isNumber_27, sX4_isNumber_30, sX4_isNumber_31, sX4_isNumber_34, sX4_isNumber_35, opK_some, guK_true, calK_some, rk_nil, rk_int, rk_ref, tl_some, tl_none, nb_int, nb_0, nb_1, nb_if, nb_if', o7_2, o7_4, o7_6, a92, a94, e6, inb_nI (show i < 121 by omega) (by omega), nI_clamp (show i < 2 ^ 31 by omega), t1, t3, C_x_within]
  by_cases h2 : S i = 2
  · by_cases hv : lo ≤ V i ∧ V i ≤ hi
    · rw [if_pos h2, if_pos hv, if_neg (by decide), if_pos ⟨h2, hv⟩]
    · rw [if_pos h2, if_neg hv, if_pos rfl, if_neg (fun z => hv z.2)]
  · rw [if_neg h2, if_neg (fun z => h2 z.1)]
theorem C_tellPart {d i n t f : Nat} {S V : Nat → Int32} {Bg : Nat → Nat} {M : Mem} {lo hi x : Int32} {q : Rw} (tl : Tl S V Bg n M) (hn : n ≤ 120) (hS : S n = 0) (hS2 : ∀ i, S i = 2 → i ≤ n → i < n) (e6 : M 7 6 = nI i) (hi' : i ≤ n) (h : HR M 30 q) (ht : t < 10) (hf1 : 1 ≤ f) (hf : f < 4) (hx : q (at9 t f) = x) :
    ∃ M', call (d + 3) 110 [.ref 7, .ref 30, .int (nI t), .int (nI (6 + f)), .int lo, .int hi] M = some (some (.int (if (ptP S V (nI (6 + f)) lo hi i x).1 = true then 1 else 0)), M') ∧ Tc M M' ∧ M' 7 6 = nI (ptP S V (nI (6 + f)) lo hi i x).2.1 ∧ (ptP S V (nI (6 + f)) lo hi i x).2.1 ≤ n ∧ HR M' 30 (upd q (at9 t f) (ptP S V (nI (6 + f)) lo hi i x).2.2) := by
  obtain ⟨t1, _, t3⟩ := tl.2 i hi'
  have eq0 : upd q (at9 t f) x = q := upd_same hx
  have ia := inb_nI (show i < 121 by omega) (show 121 < 2 ^ 31 by omega)
  have ca := nI_clamp (show i < 2 ^ 31 by omega)
  rw [show d + 3 = d + 2 + 1 from rfl, nX4_tellPart]
  simp only [sX4_tellPart_0, sX4_tellPart_1, sX4_tellPart_4, sX4_tellPart_5, sX4_tellPart_8, sX4_tellPart_9, sX4_tellPart_10, sX4_tellPart_13, sX4_tellPart_14, sX4_tellPart_17, sX4_tellPart_18, sX4_tellPart_21, sX4_tellPart_22, sX4_tellPart_23, sX4_tellPart_26, sX4_tellPart_27, sX4_tellPart_29, sX4_tellPart_32, sX4_tellPart_33, sX4_tellPart_35, sX4_tellPart_37, sX4_tellPart_40, sX4_tellPart_43, sX4_tellPart_44, sX4_tellPart_45, sX4_tellPart_46, sX4_tellPart_47, sX4_tellPart_48, sX4_tellPart_49, sX4_tellPart_50, sX4_tellPart_52, sX4_tellPart_53, sX4_tellPart_54, sX4_tellPart_57, sX4_tellPart_58, sX4_tellPart_61, sX4_tellPart_62, sX4_tellPart_65, sX4_tellPart_66, sX4_tellPart_69, sX4_tellPart_70, opK_some, guK_true, calK_some, rk_nil, rk_int, rk_ref, tl_some, tl_none, nb_int, nb_0, nb_1, nb_if, nb_if', o7_2, o7_4, o7_6, a92, a94, e6, ia, ca, t1, t3]
  by_cases h1 : S i = 1
  · by_cases hv : V i = nI (6 + f)
    · have hin : i < n := by
        rcases Nat.lt_or_ge i n with c | c
        · exact c
        · have : i = n := by omega
          rw [this, hS] at h1
          exact absurd h1 (by decide)
      have c1 := C_step (d := d + 1) (M := M) tl.1 e6 hin hn
      rw [show d + 1 + 1 = d + 2 from rfl] at c1
      obtain ⟨M1, hM1⟩ : ∃ M1, M1 = mset M 7 6 (nI (i + 1)) := ⟨_, rfl⟩
      rw [← hM1] at c1
      have t01 : Tc M M1 := by rw [hM1]; exact Tc.at
      have tl1 := tl.tc t01
      have f6 : M1 7 6 = nI (i + 1) := by rw [hM1, mset_at, upd_at]
      have h1' : HR M1 30 q := by rw [hM1]; exact HR_7 h
      have c2 := C_isNumber (d := d) (lo := lo) (hi := hi) tl1 f6 (by omega) hn
      rw [if_pos h1, if_pos hv, sX4_tellPart_28]
      simp only [sX4_tellPart_0, sX4_tellPart_1, sX4_tellPart_4, sX4_tellPart_5, sX4_tellPart_8, sX4_tellPart_9, sX4_tellPart_10, sX4_tellPart_13, sX4_tellPart_14, sX4_tellPart_17, sX4_tellPart_18, sX4_tellPart_21, sX4_tellPart_22, sX4_tellPart_23, sX4_tellPart_26, sX4_tellPart_27, sX4_tellPart_29, sX4_tellPart_32, sX4_tellPart_33, sX4_tellPart_35, sX4_tellPart_37, sX4_tellPart_40, sX4_tellPart_43, sX4_tellPart_44, sX4_tellPart_45, sX4_tellPart_46, sX4_tellPart_47, sX4_tellPart_48, sX4_tellPart_49, sX4_tellPart_50, sX4_tellPart_52, sX4_tellPart_53, sX4_tellPart_54, sX4_tellPart_57, sX4_tellPart_58, sX4_tellPart_61, sX4_tellPart_62, sX4_tellPart_65, sX4_tellPart_66, sX4_tellPart_69, sX4_tellPart_70, opK_some, guK_true, calK_some, rk_nil, rk_int, rk_ref, tl_some, tl_none, nb_int, nb_0, nb_1, nb_if, nb_if', q7, c1, c2]
      by_cases hp : nuP S V lo hi (i + 1)
      · have ep : ptP S V (nI (6 + f)) lo hi i x = (true, i + 2, V (i + 1)) := by
          unfold ptP
          rw [if_pos ⟨h1, hv⟩, if_pos hp]
        have hin2 := hS2 (i + 1) hp.1 (by omega)
        obtain ⟨_, _, u3⟩ := tl1.2 (i + 1) (by omega)
        obtain ⟨M2, c3, h3, o3⟩ := C_alter (d := d + 1) (v := V (i + 1)) hen30 h1' ht hf
        rw [show d + 1 + 1 = d + 2 from rfl] at c3
        have t12 : Tc M1 M2 := Tc.ou o3
        have tl2 := tl1.tc t12
        have g6 : M2 7 6 = nI (i + 1) := by rw [o3 7 (by omega)]; exact f6
        have c4 := C_step (d := d + 1) (M := M2) tl2.1 g6 (by omega) hn
        rw [show d + 1 + 1 = d + 2 from rfl] at c4
        have ef : (1 : Int32) + nI (6 + f) - 7 = nI f := by
          rw [show (1 : Int32) + nI (6 + f) = nI (1 + (6 + f)) from nI_add 1 _]
          have := pk_sub (a := 1 + (6 + f)) (b := 7) (by omega)
          rw [show 1 + (6 + f) - 7 = f by omega] at this
          exact this
        rw [if_pos hp, if_neg (by decide), ep]
        simp only [sX4_tellPart_0, sX4_tellPart_1, sX4_tellPart_4, sX4_tellPart_5, sX4_tellPart_8, sX4_tellPart_9, sX4_tellPart_10, sX4_tellPart_13, sX4_tellPart_14, sX4_tellPart_17, sX4_tellPart_18, sX4_tellPart_21, sX4_tellPart_22, sX4_tellPart_23, sX4_tellPart_26, sX4_tellPart_27, sX4_tellPart_29, sX4_tellPart_32, sX4_tellPart_33, sX4_tellPart_35, sX4_tellPart_37, sX4_tellPart_40, sX4_tellPart_43, sX4_tellPart_44, sX4_tellPart_45, sX4_tellPart_46, sX4_tellPart_47, sX4_tellPart_48, sX4_tellPart_49, sX4_tellPart_50, sX4_tellPart_52, sX4_tellPart_53, sX4_tellPart_54, sX4_tellPart_57, sX4_tellPart_58, sX4_tellPart_61, sX4_tellPart_62, sX4_tellPart_65, sX4_tellPart_66, sX4_tellPart_69, sX4_tellPart_70, opK_some, guK_true, calK_some, rk_nil, rk_int, rk_ref, tl_some, tl_none, nb_int, nb_0, nb_1, nb_if, nb_if', q7, o7_4, o7_6, a94, f6, inb_nI (show i + 1 < 121 by omega) (by omega), nI_clamp (show i + 1 < 2 ^ 31 by omega), u3, ef, hen_c hen30, c3, c4, if_true]
        exact ⟨_, rfl, (t01.tr t12).tr Tc.at, by rw [mset_at, upd_at], by omega, HR_7 h3⟩
      · have ep : ptP S V (nI (6 + f)) lo hi i x = (false, i + 1, x) := by
          unfold ptP
          rw [if_pos ⟨h1, hv⟩, if_neg hp]
        rw [if_neg hp, if_pos rfl, ep]
        refine ⟨M1, rfl, t01, f6, hin, ?_⟩
        show HR M1 30 (upd q (at9 t f) x)
        rw [eq0]
        exact h1'
    · have ep : ptP S V (nI (6 + f)) lo hi i x = (true, i, x) := by
        unfold ptP
        rw [if_neg (fun z => hv z.2)]
      rw [if_pos h1, if_neg hv, ep]
      refine ⟨M, rfl, Tc.rf, e6, hi', ?_⟩
      show HR M 30 (upd q (at9 t f) x)
      rw [eq0]
      exact h
  · have ep : ptP S V (nI (6 + f)) lo hi i x = (true, i, x) := by
      unfold ptP
      rw [if_neg (fun z => h1 z.1)]
    rw [if_neg h1, ep]
    refine ⟨M, rfl, Tc.rf, e6, hi', ?_⟩
    show HR M 30 (upd q (at9 t f) x)
    rw [eq0]
    exact h
theorem pt_rg {S V : Nat → Int32} {w lo hi x : Int32} {i n : Nat} (h0 : 0 ≤ lo) (hh : hi.toInt = n) (hn : n < 2 ^ 31) (hx : rg x n) : rg (ptP S V w lo hi i x).2.2 n := by
  unfold ptP
  split
  · split
    · rename_i c
      exact rg_cut c.2 h0 hh hn
    · exact hx
  · exact hx
theorem pt_ge {S V : Nat → Int32} {w lo hi x : Int32} {i : Nat} : i ≤ (ptP S V w lo hi i x).2.1 := by
  unfold ptP
  split
  · split
    · show i ≤ i + 2
      omega
    · show i ≤ i + 1
      omega
  · exact Nat.le_refl _
theorem C_tellThing {d i n : Nat} {S V : Nat → Int32} {Bg : Nat → Nat} {M : Mem} {r : Rw} (tl : Tl S V Bg n M) (hn : n ≤ 120) (hS : S n = 0) (hS2 : ∀ i, S i = 2 → i ≤ n → i < n) (e6 : M 7 6 = nI i) (hi' : i < n) (ir : IR r) (hr : r 3 < 10) (h : HR M 30 (comR r (V i) 2 10 0)) :
    ∃ M', call (d + 4) 108 [.ref 7, .ref 30, .int (r 3)] M = some (some (.int (if (piK S V i r).1 = true then 1 else 0)), M') ∧ Tc M M' ∧ M' 7 6 = nI (piK S V i r).2.1 ∧ (piK S V i r).2.1 ≤ n ∧ ((piK S V i r).1 = true → HR M' 30 (piK S V i r).2.2) := by
  have hT := wr_T ir.1.1
  have t10 := (wr_lt10 ir.1.1).mp hr
  have c1 := C_step (d := d + 2) (M := M) tl.1 e6 hi' hn
  rw [show d + 2 + 1 = d + 3 from rfl] at c1
  obtain ⟨M1, hM1⟩ : ∃ M1, M1 = mset M 7 6 (nI (i + 1)) := ⟨_, rfl⟩
  rw [← hM1] at c1
  have t01 : Tc M M1 := by rw [hM1]; exact Tc.at
  have f6 : M1 7 6 = nI (i + 1) := by rw [hM1, mset_at, upd_at]
  have h1 : HR M1 30 (comR r (V i) 2 10 0) := by rw [hM1]; exact HR_7 h
  obtain ⟨M2, c2, t12, g2, l2, h2⟩ := C_tellPart (d := d) (t := nT r) (f := 1) (lo := 1) (hi := 9) (x := 2) (tl.tc t01) hn hS hS2 f6 (by omega) h1 t10 (by omega) (by omega) (by rw [com_at (by omega), if_pos rfl, if_neg (by omega), if_pos rfl])
  rw [com_1] at h2
  have t02 := t01.tr t12
  obtain ⟨M3, c3, t23, g3, l3, h3⟩ := C_tellPart (d := d) (t := nT r) (f := 2) (lo := 0) (hi := 99) (x := 10) (tl.tc t02) hn hS hS2 g2 l2 h2 t10 (by omega) (by omega) (by rw [com_at (by omega), if_pos rfl, if_neg (by omega), if_neg (by omega), if_pos rfl])
  rw [com_2] at h3
  have t03 := t02.tr t23
  obtain ⟨M4, c4, t34, g4, l4, h4⟩ := C_tellPart (d := d) (t := nT r) (f := 3) (lo := 0) (hi := 1) (x := 0) (tl.tc t03) hn hS hS2 g3 l3 h3 t10 (by omega) (by omega) (by rw [com_at (by omega), if_pos rfl, if_neg (by omega), if_neg (by omega), if_neg (by omega), if_pos rfl])
  rw [com_3] at h4
  have p0 : (0 : Int32) ≤ nI (nT r) := nI_le (a := 0) (by omega) (by omega)
  rw [show (nI (6 + 1) : Int32) = 7 from rfl] at c2 g2 l2 h2
  rw [show (nI (6 + 1) : Int32) = 7 from rfl, show (nI (6 + 2) : Int32) = 8 from rfl] at c3 g3 l3 h3
  rw [show (nI (6 + 1) : Int32) = 7 from rfl, show (nI (6 + 2) : Int32) = 8 from rfl, show (nI (6 + 3) : Int32) = 9 from rfl] at c4 g4 l4 h4
  rw [show d + 4 = d + 3 + 1 from rfl, nX4_tellThing, hT.2]
  simp only [sX4_tellThing_0, sX4_tellThing_1, sX4_tellThing_4, sX4_tellThing_5, sX4_tellThing_6, sX4_tellThing_7, sX4_tellThing_10, sX4_tellThing_11, sX4_tellThing_12, sX4_tellThing_13, sX4_tellThing_15, sX4_tellThing_16, sX4_tellThing_18, sX4_tellThing_21, sX4_tellThing_24, sX4_tellThing_25, sX4_tellThing_26, sX4_tellThing_27, sX4_tellThing_29, sX4_tellThing_30, sX4_tellThing_32, sX4_tellThing_35, sX4_tellThing_38, sX4_tellThing_39, sX4_tellThing_40, sX4_tellThing_41, sX4_tellThing_43, sX4_tellThing_44, sX4_tellThing_45, sX4_tellThing_48, sX4_tellThing_51, sX4_tellThing_52, sX4_tellThing_55, sX4_tellThing_56, opK_some, guK_true, calK_some, rk_nil, rk_int, rk_ref, tl_some, tl_none, nb_int, nb_0, nb_1, nb_if, nb_if', q7, p0, if_true, c1, c2]
  have nr : ¬ ¬ r 3 < 10 := fun z => z hr
  by_cases k1 : (pB S V i).1 = true
  · have n1 : ¬ ¬ (pB S V i).1 = true := fun z => z k1
    rw [if_pos k1, if_neg (by decide)]
    simp only [sX4_tellThing_0, sX4_tellThing_1, sX4_tellThing_4, sX4_tellThing_5, sX4_tellThing_6, sX4_tellThing_7, sX4_tellThing_10, sX4_tellThing_11, sX4_tellThing_12, sX4_tellThing_13, sX4_tellThing_15, sX4_tellThing_16, sX4_tellThing_18, sX4_tellThing_21, sX4_tellThing_24, sX4_tellThing_25, sX4_tellThing_26, sX4_tellThing_27, sX4_tellThing_29, sX4_tellThing_30, sX4_tellThing_32, sX4_tellThing_35, sX4_tellThing_38, sX4_tellThing_39, sX4_tellThing_40, sX4_tellThing_41, sX4_tellThing_43, sX4_tellThing_44, sX4_tellThing_45, sX4_tellThing_48, sX4_tellThing_51, sX4_tellThing_52, sX4_tellThing_55, sX4_tellThing_56, opK_some, guK_true, calK_some, rk_nil, rk_int, rk_ref, tl_some, tl_none, nb_int, nb_0, nb_1, nb_if, nb_if', q7, c3]
    by_cases k2 : (pW S V i).1 = true
    · have n2 : ¬ ¬ (pW S V i).1 = true := fun z => z k2
      rw [if_pos k2, if_neg (by decide)]
      simp only [sX4_tellThing_0, sX4_tellThing_1, sX4_tellThing_4, sX4_tellThing_5, sX4_tellThing_6, sX4_tellThing_7, sX4_tellThing_10, sX4_tellThing_11, sX4_tellThing_12, sX4_tellThing_13, sX4_tellThing_15, sX4_tellThing_16, sX4_tellThing_18, sX4_tellThing_21, sX4_tellThing_24, sX4_tellThing_25, sX4_tellThing_26, sX4_tellThing_27, sX4_tellThing_29, sX4_tellThing_30, sX4_tellThing_32, sX4_tellThing_35, sX4_tellThing_38, sX4_tellThing_39, sX4_tellThing_40, sX4_tellThing_41, sX4_tellThing_43, sX4_tellThing_44, sX4_tellThing_45, sX4_tellThing_48, sX4_tellThing_51, sX4_tellThing_52, sX4_tellThing_55, sX4_tellThing_56, opK_some, guK_true, calK_some, rk_nil, rk_int, rk_ref, tl_some, tl_none, nb_int, nb_0, nb_1, nb_if, nb_if', q7, c4]
      by_cases k3 : (pO S V i).1 = true
      · have n3 : ¬ ¬ (pO S V i).1 = true := fun z => z k3
        have ek : piK S V i r = (true, (pO S V i).2.1, comR r (V i) (pB S V i).2.2 (pW S V i).2.2 (pO S V i).2.2) := by
          unfold piK
          rw [if_neg nr, if_neg n1, if_neg n2, if_neg n3]
        rw [if_pos k3, if_neg (by decide), ek]
        exact ⟨M4, rfl, t03.tr t34, g4, l4, fun _ => h4⟩
      · have ek : piK S V i r = (false, (pO S V i).2.1, r) := by
          unfold piK
          rw [if_neg nr, if_neg n1, if_neg n2, if_pos k3]
        rw [if_neg k3, if_pos rfl, ek]
        exact ⟨M4, rfl, t03.tr t34, g4, l4, fun z => absurd (show false = true from z) (by decide)⟩
    · have ek : piK S V i r = (false, (pW S V i).2.1, r) := by
        unfold piK
        rw [if_neg nr, if_neg n1, if_pos k2]
      rw [if_neg k2, if_pos rfl, ek]
      exact ⟨M3, rfl, t03, g3, l3, fun z => absurd (show false = true from z) (by decide)⟩
  · have ek : piK S V i r = (false, (pB S V i).2.1, r) := by
      unfold piK
      rw [if_neg nr, if_pos k1]
    rw [if_neg k1, if_pos rfl, ek]
    exact ⟨M2, rfl, t02, g2, l2, fun z => absurd (show false = true from z) (by decide)⟩

