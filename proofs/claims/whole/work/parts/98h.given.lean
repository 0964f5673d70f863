/-! what the start gives: classes, arrays, statics, strings, nest words -/
def fl1 : List Cond := flatC (Jvm.Cond.and given_1 narrow_1)
theorem f1_in {w : Cond} {i : Nat} (h : fl1[i]? = some w) : w ∈ fl1 := List.mem_of_getElem? h
def nM : List Nat := [36, 38, 40, 42, 44, 46, 48, 329, 337, 339, 345, 347]
def tmM (i : Nat) : Jvm.Term := .string "FedHenModel" (nM.getD i 0)
def tmV (i : Nat) : Jvm.Term := .field (tmM i) "java/lang/String" "value" "[B"
def nmK : Nat → String := fun k => match k with | 0 => "TAKES" | 1 => "STAINS" | _ => "ABOVE"
def tmK (k : Nat) : Jvm.Term := .static "FedHen$Kinds" (nmK k) "[I"
def ixX : List Nat := [216, 237, 258, 281, 304, 328, 353, 379, 406, 435, 462, 492]
def ixC : List Nat := [217, 238, 259, 282, 305, 329, 354, 380, 407, 436, 463, 493]
def ixA : List Nat := [218, 239, 260, 283, 306, 330, 355, 381, 408, 437, 464, 494]
def ixL : List Nat := [219, 240, 261, 284, 307, 331, 356, 382, 409, 438, 465, 495]
def ixV : List (List Nat) := [[220, 221, 222, 223, 224], [241, 242, 243, 244], [262, 263, 264, 265, 266], [285, 286, 287, 288], [308, 309, 310, 311], [332, 333, 334, 335], [357, 358, 359, 360], [383, 384, 385, 386], [410, 411, 412, 413, 414], [439, 440], [466, 467, 468, 469], [496, 497, 498, 499, 500, 501]]
def ixN : List (List Nat) := [[], [257], [279, 280], [301, 302, 303], [324, 325, 326, 327], [348, 349, 350, 351, 352], [373, 374, 375, 376, 377, 378], [399, 400, 401, 402, 403, 404, 405], [427, 428, 429, 430, 431, 432, 433, 434], [453, 454, 455, 456, 457, 458, 459, 460, 461], [482, 483, 484, 485, 486, 487, 488, 489, 490, 491], [514, 515, 516, 517, 518, 519, 520, 521, 522, 523, 524]]
def ixT : List Nat := [225, 246, 269, 292, 316, 341, 367, 394, 423, 450, 480, 513]
def ixM : List Nat := [949, 950, 951, 952, 953, 954, 955, 1423, 1432, 1433, 1438, 1439]
def ixKa : List Nat := [5, 15, 30]
def ixKl : List Nat := [6, 16, 31]
def ixKe : List (List Nat) := [[7, 8, 9, 10, 11, 12, 13], [17, 18, 19, 20, 21, 22, 23], [32, 33, 34, 35, 36, 37, 38]]
def ixKs : List Nat := [382, 384, 868]
set_option maxRecDepth 100000 in
set_option maxHeartbeats 4000000 in
theorem fl_ex : ∀ i, i < 12 → fl1[ixX.getD i 0]? = some (Cond.exactly (tmM i) "java/lang/String") := by decide +kernel
set_option maxRecDepth 100000 in
set_option maxHeartbeats 4000000 in
theorem fl_co : ∀ i, i < 12 → fl1[ixC.getD i 0]? = some (Cond.eq (.field (tmM i) "java/lang/String" "coder" "B") (.int 0)) := by decide +kernel
set_option maxRecDepth 100000 in
set_option maxHeartbeats 4000000 in
theorem fl_ar : ∀ i, i < 12 → fl1[ixA.getD i 0]? = some (Cond.arrayOf (tmV i) .byte) := by decide +kernel
set_option maxRecDepth 100000 in
set_option maxHeartbeats 4000000 in
theorem fl_le : ∀ i, i < 12 → fl1[ixL.getD i 0]? = some (Cond.eq (.length (tmV i)) (.int (Int32.ofNat (lenS.getD i 0)))) := by decide +kernel
set_option maxRecDepth 100000 in
set_option maxHeartbeats 4000000 in
theorem fl_el : ∀ i, i < 12 → ∀ j, j < lenS.getD i 0 → fl1[(ixV.getD i []).getD j 0]? = some (Cond.eq (.elem (tmV i) (.int (Int32.ofNat j))) (.int ((bytS.getD i []).getD j 0))) := by decide +kernel
set_option maxRecDepth 100000 in
set_option maxHeartbeats 4000000 in
theorem fl_ne : ∀ i, i < 12 → ∀ j, j < i → fl1[(ixN.getD i []).getD j 0]? = some (Cond.not (Cond.eq (tmM j) (tmM i))) := by decide +kernel
set_option maxRecDepth 100000 in
set_option maxHeartbeats 4000000 in
theorem fl_tm : ∀ i, i < 12 → fl1[ixT.getD i 0]? = some (Cond.eq (.string RX4 (79 + 2 * i)) (tmM i)) := by decide +kernel
set_option maxRecDepth 100000 in
set_option maxHeartbeats 4000000 in
theorem fl_ka : ∀ k, k < 3 → fl1[ixKa.getD k 0]? = some (Cond.arrayOf (tmK k) .int) := by decide +kernel
set_option maxRecDepth 100000 in
set_option maxHeartbeats 4000000 in
theorem fl_kl : ∀ k, k < 3 → fl1[ixKl.getD k 0]? = some (Cond.eq (.length (tmK k)) (.int (Int32.ofNat 7))) := by decide +kernel
set_option maxRecDepth 100000 in
set_option maxHeartbeats 4000000 in
theorem fl_ke : ∀ k, k < 3 → ∀ j, j < 7 → fl1[(ixKe.getD k []).getD j 0]? = some (Cond.eq (.elem (tmK k) (.int (Int32.ofNat j))) (.int ((stI (150 + k)).getD j 0))) := by decide +kernel
set_option maxRecDepth 100000 in
set_option maxHeartbeats 4000000 in
theorem fl_cs : fl1[24]? = some (Cond.eq (.static "java/lang/String" "COMPACT_STRINGS" "Z") (.int 1)) := by decide +kernel
set_option maxRecDepth 100000 in
set_option maxHeartbeats 4000000 in
theorem fl_sf : fl1[25]? = some (Cond.isRef (.static "jdk/internal/util/Preconditions" "SIOOBE_FORMATTER" "Ljava/util/function/BiFunction;")) := by decide +kernel
set_option maxRecDepth 100000 in
set_option maxHeartbeats 4000000 in
theorem tb_sT : ∀ i, i < 12 → lw_tbl[752 + i]? = some (Cond.stringRef RX4 (79 + 2 * i) (txS.getD i "")) := by decide +kernel
set_option maxRecDepth 100000 in
set_option maxHeartbeats 4000000 in
theorem tb_sM : ∀ i, i < 12 → lw_tbl[ixM.getD i 0]? = some (Cond.stringRef RX6 (nM.getD i 0) (txS.getD i "")) := by decide +kernel
set_option maxRecDepth 100000 in
set_option maxHeartbeats 4000000 in
theorem tb_ks : ∀ k, k < 3 → lw_tbl[ixKs.getD k 0]? = some (Cond.laysStatic "FedHen$Kinds" (nmK k) "[I") := by decide +kernel
set_option maxRecDepth 100000 in
set_option maxHeartbeats 4000000 in
theorem tb_ik : lw_tbl[132]? = some (Cond.initialized "FedHen$Kinds") := by decide +kernel
set_option maxRecDepth 100000 in
set_option maxHeartbeats 4000000 in
theorem tb_is : lw_tbl[136]? = some (Cond.initialized "java/lang/String") := by decide +kernel
set_option maxRecDepth 100000 in
set_option maxHeartbeats 4000000 in
theorem tb_ip : lw_tbl[138]? = some (Cond.initialized "jdk/internal/util/Preconditions") := by decide +kernel
set_option maxRecDepth 100000 in
set_option maxHeartbeats 4000000 in
theorem tb_lc : lw_tbl[777]? = some (Cond.laysStatic "java/lang/String" "COMPACT_STRINGS" "Z") := by decide +kernel
set_option maxRecDepth 100000 in
set_option maxHeartbeats 4000000 in
theorem tb_lf : lw_tbl[793]? = some (Cond.laysStatic "jdk/internal/util/Preconditions" "SIOOBE_FORMATTER" "Ljava/util/function/BiFunction;") := by decide +kernel
set_option maxRecDepth 100000 in
set_option maxHeartbeats 4000000 in
theorem tb_nt : lw_tbl[381]? = some (Cond.fieldLinkNest RX1 69 "FedHen$Kinds" "TAKES" "[I" "FedHen") := by decide +kernel
set_option maxRecDepth 100000 in
set_option maxHeartbeats 4000000 in
theorem tb_ns : lw_tbl[383]? = some (Cond.fieldLinkNest RX1 74 "FedHen$Kinds" "STAINS" "[I" "FedHen") := by decide +kernel
set_option maxRecDepth 100000 in
set_option maxHeartbeats 4000000 in
theorem tb_n0 : lw_tbl[156]? = some (nwF) := by decide +kernel
set_option maxRecDepth 100000 in
set_option maxHeartbeats 4000000 in
theorem tb_n9 : lw_tbl[150]? = some (Cond.methodLinkNest RX5 9 yX0_init "FedHen") := by decide +kernel
set_option maxRecDepth 100000 in
set_option maxHeartbeats 4000000 in
theorem tb_n25 : lw_tbl[262]? = some (Cond.methodLinkNest RX5 25 yX4_init "FedHen") := by decide +kernel
set_option maxRecDepth 100000 in
set_option maxHeartbeats 4000000 in
theorem tb_n42 : lw_tbl[292]? = some (Cond.methodLinkNest RX5 42 yX1_init "FedHen") := by decide +kernel
set_option maxRecDepth 100000 in
set_option maxHeartbeats 4000000 in
theorem tb_n64 : lw_tbl[295]? = some (Cond.methodLinkNest RX5 64 yX3_init "FedHen") := by decide +kernel
set_option maxRecDepth 100000 in
set_option maxHeartbeats 4000000 in
theorem tb_oS : lw_tbl[290]? = some (Cond.arrayOver (.object "FedHen$Sheet")) := by decide +kernel
set_option maxRecDepth 100000 in
set_option maxHeartbeats 4000000 in
theorem tb_oH : lw_tbl[293]? = some (Cond.arrayOver (.object "FedHen$Hen")) := by decide +kernel
set_option maxRecDepth 100000 in
set_option maxHeartbeats 4000000 in
theorem tb_oT : lw_tbl[948]? = some (Cond.arrayOver (.object "java/lang/String")) := by decide +kernel
theorem tabK_c : ∀ e ∈ tabK, e.2 < 12 ∧ ((e.1 / 10000 = 4 ∧ e.1 % 10000 = 79 + 2 * e.2) ∨ (e.1 / 10000 = 6 ∧ e.1 % 10000 = nM.getD e.2 0)) := by decide
theorem nM_7 : ∀ i, i < 7 → nM.getD i 0 = 36 + 2 * i := by decide
section GIV
variable {s : State} {b : Nat}
theorem nw_of (hts : ∀ w ∈ lw_tbl, w.before #[Value.ref b] s = true) : NW s := by
  refine ⟨fun e he hn q hq => ?_, fun e he hn => ?_, va_Nw.of rfl (hts _ (List.mem_of_getElem? tb_nt)), va_Nw.of rfl (hts _ (List.mem_of_getElem? tb_ns))⟩
  · have h := List.all_eq_true.mp tabF_ok e he
    unfold okF at h
    rw [hq] at h
    dsimp only at h
    rw [Bool.and_eq_true] at h
    have h2 := of_decide_eq_true h.2
    unfold wF at h2
    rw [if_pos hn] at h2
    exact va_Nw.of rfl (hts _ (List.mem_of_getElem? h2))
  · have h := List.all_eq_true.mp tabM_ok e he
    unfold okM at h
    rw [Bool.and_eq_true] at h
    have h2 := of_decide_eq_true h.1
    unfold wM at h2
    rw [if_pos hn] at h2
    exact va_Nw.of rfl (hts _ (List.mem_of_getElem? h2))
theorem nw5_of (hts : ∀ w ∈ lw_tbl, w.before #[Value.ref b] s = true) : NW5 s := ⟨va_Nw.of rfl (hts _ (List.mem_of_getElem? tb_n0)), va_Nw.of rfl (hts _ (List.mem_of_getElem? tb_n9)), va_Nw.of rfl (hts _ (List.mem_of_getElem? tb_n25)), va_Nw.of rfl (hts _ (List.mem_of_getElem? tb_n42)), va_Nw.of rfl (hts _ (List.mem_of_getElem? tb_n64)), va_AO.of (hts _ (List.mem_of_getElem? tb_oS)), va_AO.of (hts _ (List.mem_of_getElem? tb_oH))⟩
theorem NW5.same {U : State} (h : s.vm = U.vm) (hN : NW5 s) : NW5 U := by
  obtain ⟨h1, h2, h3, h4, h5, h6, h7⟩ := hN
  have ha : s.vm.Alike U.vm := by rw [h]; exact Vm.Alike.refl _
  exact ⟨va_Nw.same rfl h h1, va_Nw.same rfl h h2, va_Nw.same rfl h h3, va_Nw.same rfl h h4, va_Nw.same rfl h h5, va_AO.moved ha h6, va_AO.moved ha h7⟩
theorem NW5.warm {U : State} (hW : s.WarmedH U.vm) (hN : NW5 s) : NW5 U := by
  obtain ⟨h1, h2, h3, h4, h5, h6, h7⟩ := hN
  exact ⟨va_Nw.warmM hW h1, va_Nw.warmM hW h2, va_Nw.warmM hW h3, va_Nw.warmM hW h4, va_Nw.warmM hW h5, va_AO.moved hW.alike h6, va_AO.moved hW.alike h7⟩
theorem SR6.same {ad : Nat → Nat} {A : Nat → Prop} {H : Heap} {U : State} (h : U.vm = s.vm) (hS : SR6 ad A s H) : SR6 ad A U H := by
  have ha : s.vm.Alike U.vm := by rw [h]; exact Vm.Alike.refl _
  exact fun i hi => ⟨va_O.moved ha (hS i hi).1, vk_R.same h (hS i hi).2⟩
theorem SR6.go {ad : Nat → Nat} {A B : Nat → Prop} {H : Heap} {U : State} (h : SR6 ad A s s.heap) (hW : s.WarmedH U.vm) (hk : ∀ q : Nat, q < s.heap.size → ¬ A q → H[q]? = s.heap[q]?) (hAB : ∀ q, B q → A q) : SR6 ad B U H :=
  fun i hi => ⟨((va_O.moved hW.alike (h i hi).1).kept hk).narrow hAB, vk_R.warm hW (h i hi).2⟩
theorem k_of (hg : ∀ w ∈ gtbl, w.before #[Value.ref b] s = true) (h5 : Cond.instantiable RX5 12 ∈ gtbl) (h6 : Cond.instantiable RX6 31 ∈ gtbl) : ∃ (D : va_G) (iA : ClassId), va_K D cls6 [(iA, .int)] s := by
  obtain ⟨c0, i0, k0⟩ := u_known (C := RX0) (T := TX0) (N := 9) (n := 9) hg (cls_words (q := (RX0, TX0, 9)) (List.mem_of_getElem? (i := 0) rfl)) (hg _ wi_X0)
  obtain ⟨c1, i1, k1⟩ := u_known (C := RX1) (T := TX1) (N := 15) (n := 15) hg (cls_words (q := (RX1, TX1, 15)) (List.mem_of_getElem? (i := 1) rfl)) (hg _ wi_X1)
  obtain ⟨c2, i2, k2⟩ := u_known (C := RX3) (T := TX3) (N := 3) (n := 3) hg (cls_words (q := (RX3, TX3, 3)) (List.mem_of_getElem? (i := 2) rfl)) (hg _ wi_X3)
  obtain ⟨c3, i3, k3⟩ := u_known (C := RX4) (T := TX4) (N := 7) (n := 7) hg (cls_words (q := (RX4, TX4, 7)) (List.mem_of_getElem? (i := 3) rfl)) (hg _ wi_X4)
  obtain ⟨c4, i4, k4⟩ := u_known (C := RX5) (T := TX5) (N := 12) (n := 12) hg (cls_words (q := (RX5, TX5, 12)) (List.mem_of_getElem? (i := 4) rfl)) (hg _ h5)
  obtain ⟨c5, i5, k5⟩ := u_known (C := RX6) (T := TX6) (N := 31) (n := 31) hg (cls_words (q := (RX6, TX6, 31)) (List.mem_of_getElem? (i := 5) rfl)) (hg _ h6)
  obtain ⟨iA, kA, comp, a1, a2, a3⟩ := Cond.arrayClass_spec (hg _ w_arC)
  refine ⟨(fun k => match k with | 0 => c0 | 1 => c1 | 2 => c2 | 3 => c3 | 4 => c4 | _ => c5, fun k => match k with | 0 => i0 | 1 => i1 | 2 => i2 | 3 => i3 | 4 => i4 | _ => i5), iA, fun k q hq => ?_, fun k q hq => ?_⟩
  · match k, hq with
    | 0, hq => cases hq; exact k0
    | 1, hq => cases hq; exact k1
    | 2, hq => cases hq; exact k2
    | 3, hq => cases hq; exact k3
    | 4, hq => cases hq; exact k4
    | 5, hq => cases hq; exact k5
    | k + 6, hq => simp [cls6] at hq
  · match k, hq with
    | 0, hq =>
      cases hq
      exact ⟨fun n z => ⟨fun k h => (by cases h), kA, a2, comp, a3⟩, a1⟩
    | k + 1, hq => simp at hq
theorem st_tab (hts : ∀ w ∈ lw_tbl, w.before #[Value.ref b] s = true) (hf : ∀ w ∈ fl1, w.before #[Value.ref b] s = true) (k : Nat) (hk : k < 3) : ∃ t : Nat, va_Z "FedHen$Kinds" (nmK k) "[I" (.ref t) (fun q => s.heap.size ≤ q) s s.heap ∧ va_T .int t 7 (fun j => .int ((stI (150 + k)).getD j 0)) (fun q => s.heap.size ≤ q) s s.heap := by
  have hA : ∀ a : Nat, a < s.heap.size → ¬ (fun q : Nat => s.heap.size ≤ q) a := fun a h => Nat.not_le.mpr h
  obtain ⟨t, h1, h2⟩ := va_Tof (tm := tmK k) (ty := .int) (N := 7) (f := fun j => .int ((stI (150 + k)).getD j 0)) (A := fun q => s.heap.size ≤ q) (by decide) (hf _ (f1_in (fl_ka k hk))) (va_eqt (hf _ (f1_in (fl_kl k hk)))) (fun j hj => va_eqt (hf _ (f1_in (fl_ke k hk j hj)))) hA
  exact ⟨t, va_Zof (hts _ (List.mem_of_getElem? (tb_ks k hk))) (hts _ (List.mem_of_getElem? tb_ik)) h1 hA, h2⟩
theorem str_of (hts : ∀ w ∈ lw_tbl, w.before #[Value.ref b] s = true) (hf : ∀ w ∈ fl1, w.before #[Value.ref b] s = true) : ∃ ad av : Nat → Nat, vk_S 12 lenS bytS ad av (fun q => s.heap.size ≤ q) s s.heap ∧ (∀ i, i < 12 → vk_R RX4 (79 + 2 * i) (txS.getD i "") (ad i) s) ∧ ∀ i, i < 12 → vk_R RX6 (nM.getD i 0) (txS.getD i "") (ad i) s := by
  have hA : ∀ a : Nat, a < s.heap.size → ¬ (fun q : Nat => s.heap.size ≤ q) a := fun a h => Nat.not_le.mpr h
  obtain ⟨ad, av, hS, hE⟩ := vk_Sof (N := 12) (tm := tmM) (len := lenS) (byt := bytS) (A := fun q => s.heap.size ≤ q) (by decide) (fun i hi => hf _ (f1_in (fl_ex i hi))) (fun i hi => hf _ (f1_in (fl_co i hi))) (fun i hi => hf _ (f1_in (fl_ar i hi))) (fun i hi => hf _ (f1_in (fl_le i hi))) (fun i hi j hj => hf _ (f1_in (fl_el i hi j hj)))
    (fun i j hi hj hij => by
      rcases Nat.lt_or_gt_of_ne hij with h | h
      · exact Or.inl (hf _ (f1_in (fl_ne j hj i h)))
      · exact Or.inr (hf _ (f1_in (fl_ne i hi j h)))) hA
  refine ⟨ad, av, hS, fun i hi => ?_, fun i hi => ?_⟩
  · exact vk_R.of (hts _ (List.mem_of_getElem? (tb_sT i hi))) (Cond.eq_refs (hf _ (f1_in (fl_tm i hi))) (hE i hi) rfl)
  · exact vk_R.of (hts _ (List.mem_of_getElem? (tb_sM i hi))) (hE i hi)
theorem st_of (hts : ∀ w ∈ lw_tbl, w.before #[Value.ref b] s = true) (hgv : (Jvm.Cond.and given_1 narrow_1).before #[Value.ref b] s = true) : ∃ (nl : Value) (st ad av : Nat → Nat), (nl = .null ∨ ∃ t, nl = .ref t) ∧ SR6 ad (fun q => s.heap.size ≤ q) s s.heap ∧ ∀ G : GT, G.2.2.2 = nl → (∀ k, k < 3 → G.2.1 (150 + k) = st k) → (∀ i, i < 12 → G.2.1 (160 + i) = ad i) → (∀ i, i < 12 → G.2.1 (180 + i) = av i) → ST G (fun q => s.heap.size ≤ q) s s.heap := by
  have hf : ∀ w ∈ fl1, w.before #[Value.ref b] s = true := flat_of_before _ hgv
  have hA : ∀ a : Nat, a < s.heap.size → ¬ (fun q : Nat => s.heap.size ≤ q) a := fun a h => Nat.not_le.mpr h
  obtain ⟨t0, z0, w0⟩ := st_tab hts hf 0 (by decide)
  obtain ⟨t1, z1, w1⟩ := st_tab hts hf 1 (by decide)
  obtain ⟨t2, z2, w2⟩ := st_tab hts hf 2 (by decide)
  obtain ⟨ad, av, hS, hT, hM⟩ := str_of hts hf
  have hC := va_Zof (A := fun q => s.heap.size ≤ q) (hts _ (List.mem_of_getElem? tb_lc)) (hts _ (List.mem_of_getElem? tb_is)) (va_eqi (hf _ (f1_in fl_cs))) hA
  obtain ⟨nl, hnl, hq⟩ : ∃ nl : Value, (nl = .null ∨ ∃ t, nl = .ref t) ∧ va_Z "jdk/internal/util/Preconditions" "SIOOBE_FORMATTER" "Ljava/util/function/BiFunction;" nl (fun q => s.heap.size ≤ q) s s.heap := by
    rcases va_Zqof (A := fun q => s.heap.size ≤ q) (hts _ (List.mem_of_getElem? tb_lf)) (hts _ (List.mem_of_getElem? tb_ip)) (hf _ (f1_in fl_sf)) hA with h | ⟨t, h⟩
    · exact ⟨_, Or.inl rfl, h⟩
    · exact ⟨_, Or.inr ⟨t, rfl⟩, h⟩
  refine ⟨nl, fun k => match k with | 0 => t0 | 1 => t1 | _ => t2, ad, av, hnl, fun i hi => ⟨(hS.1 i (by omega)).1, ?_⟩, fun G gn gs ga gv => ?_⟩
  · rw [← nM_7 i hi]
    exact hM i (by omega)
  · have g0 : G.2.1 150 = t0 := gs 0 (by decide)
    have g1 : G.2.1 151 = t1 := gs 1 (by decide)
    have g2 : G.2.1 152 = t2 := gs 2 (by decide)
    refine ⟨?_, ?_, ?_, fun k hk => ?_, hC, ?_, ⟨fun i hi => ?_, fun i j hi hj e => hS.2 i j hi hj ((ga i hi).symm.trans (e.trans (ga j hj)))⟩, fun e he => ?_⟩
    · rw [g0]; exact z0
    · rw [g1]; exact z1
    · rw [g2]; exact z2
    · rcases hk with rfl | rfl | rfl
      · rw [g0]; exact w0
      · rw [g1]; exact w1
      · rw [g2]; exact w2
    · rw [gn]; exact hq
    · have h := hS.1 i hi
      rw [← ga i hi, ← gv i hi] at h
      exact h
    · obtain ⟨hl, h | h⟩ := tabK_c e he
      · rw [h.1, h.2, ga e.2 hl]
        exact hT e.2 hl
      · rw [h.1, h.2, ga e.2 hl]
        exact hM e.2 hl
end GIV
