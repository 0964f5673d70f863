/-! facts of the tables -/
set_option maxRecDepth 100000 in
theorem cls_words0 : cls6.all (fun q => (u_ws q.1 q.2.1 q.2.2).all (fun w => decide (w ∈ lw_tbl) && goodWord w)) = true := by decide +kernel
theorem cls_words {q : vw_C} (hq : q ∈ cls6) : ∀ w ∈ u_ws q.1 q.2.1 q.2.2, w ∈ gtbl := by
  intro w hw
  have h := List.all_eq_true.mp (List.all_eq_true.mp cls_words0 q hq) w hw
  rw [Bool.and_eq_true] at h
  exact List.mem_filter.mpr ⟨of_decide_eq_true h.1, h.2⟩
theorem cls_ty : ∀ (ci : Nat) (q : vw_C), cls6[ci]? = some q → ∃ ty0 : Nat → FieldType, (∀ k, k < q.2.2 → parseFieldDescriptor (q.2.1 k).2.2.1 = some (ty0 k)) ∧ (∀ a, a < q.2.2 → ∀ b, b < q.2.2 → a ≠ b → (q.2.1 a).2.1 ≠ (q.2.1 b).2.1)
  | 0, _, h => by cases h; exact ⟨tyX0, tyX0_ok, nmX0⟩
  | 1, _, h => by cases h; exact ⟨tyX1, tyX1_ok, nmX1⟩
  | 2, _, h => by cases h; exact ⟨tyX3, tyX3_ok, nmX3⟩
  | 3, _, h => by cases h; exact ⟨tyX4, tyX4_ok, nmX4⟩
  | 4, _, h => by cases h; exact ⟨tyX5, tyX5_ok, nmX5⟩
  | 5, _, h => by cases h; exact ⟨tyX6, tyX6_ok, nmX6⟩
  | n + 6, _, h => by cases h
def okO (c : Nat) (sl : List Nat) : Bool := match cls6[c]? with
  | some q => decide (sl.length = q.2.2) && (List.range q.2.2).all (fun k => !decide (sl[k]? = some 0) || (!(q.2.1 k).2.2.2 && decide (parseFieldDescriptor (q.2.1 k).2.2.1 = some (if isZ c k = true then .boolean else .int))))
  | none => false
def okL (e : Nat × Nat × List Nat) : Bool := match e.2 with
  | (1, c :: sl) => okO c sl
  | (5, _) => decide (e.1 = 150 ∨ e.1 = 151 ∨ e.1 = 152)
  | (6, [b]) => decide (160 ≤ e.1 ∧ e.1 < 172 ∧ b = e.1 + 20)
  | (7, [i]) => decide (e.1 = 180 + i ∧ i < 12)
  | (8, _) => decide (e.1 = 198)
  | (0, [_]) => true
  | (2, _) => true
  | (3, _) => true
  | (4, _) => true
  | _ => false
set_option maxRecDepth 100000 in
theorem layL_ok : layL.all okL = true := by decide +kernel
theorem lay_ok {k t : Nat} {l : List Nat} (h : lay k = (t, l)) (ht : t ≠ 9) : okL (k, t, l) = true := List.all_eq_true.mp layL_ok _ (lay_mem h ht)
theorem str_h {h : Nat} {l : List Nat} (hlay : lay h = (6, l)) : ∃ j : Nat, j < 12 ∧ h = 160 + j ∧ l = [180 + j] := by
  have ho := lay_ok hlay (by decide)
  match l, ho with
  | [], ho => cases ho
  | _ :: _ :: _, ho => cases ho
  | [b], ho =>
    have ho : 160 ≤ h ∧ h < 172 ∧ b = h + 20 := of_decide_eq_true ho
    exact ⟨h - 160, by omega, by omega, by rw [show b = 180 + (h - 160) by omega]⟩
theorem rsF_inv {oc i ci k : Nat} (h : rsF oc i = some (ci, k)) : ∃ (nest : Bool) (q : vw_C), cls6[ci]? = some q ∧ k < q.2.2 ∧ (nest = false → .fieldLink (ocN oc) i (q.2.1 k).1 (q.2.1 k).2.1 (q.2.1 k).2.2.1 ∈ gtbl) ∧ (nest = true → ∀ U, NW U → va_Nw (.fieldLinkNest (ocN oc) i (q.2.1 k).1 (q.2.1 k).2.1 (q.2.1 k).2.2.1 "FedHen") U) := by
  unfold rsF at h
  split at h
  · next hi =>
    cases hl : tabF.lookup (oc * 10000 + i) with
    | none => rw [hl] at h; cases h
    | some e =>
      rw [hl] at h
      have h : (e.1, e.2.1) = (ci, k) := Option.some.inj h
      have hm := lookup_mem hl
      have ho := List.all_eq_true.mp tabF_ok _ hm
      obtain ⟨e1, e2, nest, pos⟩ := e
      cases h
      have d1 : (oc * 10000 + i) / 10000 = oc := by omega
      have d2 : (oc * 10000 + i) % 10000 = i := by omega
      unfold okF at ho
      dsimp only at ho
      cases hq : cls6[e1]? with
      | none => rw [hq] at ho; cases ho
      | some q =>
        rw [hq] at ho
        dsimp only at ho
        rw [Bool.and_eq_true] at ho
        have hk := of_decide_eq_true ho.1
        have hw := of_decide_eq_true ho.2
        refine ⟨nest, q, rfl, hk, fun hn => ?_, fun hn U hU => ?_⟩
        · subst hn
          unfold wF at hw
          dsimp only at hw
          rw [if_neg (by decide), d1, d2] at hw
          exact g_mem hw rfl
        · have := hU.1 _ hm hn q hq
          dsimp only at this
          rw [d1, d2] at this
          exact this
  · cases h
theorem rsM_inv {oc i kd y n : Nat} (h : rsM oc i = some (kd, y, n)) : ∃ (nest : Bool) (pos : Nat), okM (oc * 10000 + i, kd, y, n, nest, pos) = true ∧ (nest = false → .methodLink (ocN oc) i (yM (oc * 10000 + i, kd, y, n, nest, pos)) ∈ gtbl) ∧ (nest = true → ∀ U, NW U → va_Nw (.methodLinkNest (ocN oc) i (yM (oc * 10000 + i, kd, y, n, nest, pos)) "FedHen") U) := by
  unfold rsM at h
  split at h
  · next hi =>
    cases hl : tabM.lookup (oc * 10000 + i) with
    | none => rw [hl] at h; cases h
    | some e =>
      rw [hl] at h
      have h : (e.1, e.2.1, e.2.2.1) = (kd, y, n) := Option.some.inj h
      have hm := lookup_mem hl
      have ho := List.all_eq_true.mp tabM_ok _ hm
      obtain ⟨e1, e2, e3, nest, pos⟩ := e
      cases h
      have d1 : (oc * 10000 + i) / 10000 = oc := by omega
      have d2 : (oc * 10000 + i) % 10000 = i := by omega
      refine ⟨nest, pos, ho, fun hn => ?_, fun hn U hU => ?_⟩
      · unfold okM at ho
        rw [Bool.and_eq_true] at ho
        have hw := of_decide_eq_true ho.1
        subst hn
        unfold wM at hw
        dsimp only at hw
        rw [if_neg (by decide), d1, d2] at hw
        exact g_mem hw rfl
      · have := hU.2.1 _ hm hn
        dsimp only at this
        rw [d1, d2] at this
        exact this
  · cases h
def okC (e : Nat × Int32 × Nat) : Bool := decide (lw_tbl[e.2.2]? = some (.constant (ocN (e.1 / 10000)) (e.1 % 10000) e.2.1))
set_option maxRecDepth 100000 in
theorem tabC_ok : tabC.all okC = true := by decide +kernel
theorem rsC_inv {oc i : Nat} {v : Int32} (h : rsC oc i = some v) : .constant (ocN oc) i v ∈ gtbl := by
  unfold rsC at h
  split at h
  · next hi =>
    cases hl : tabC.lookup (oc * 10000 + i) with
    | none => rw [hl] at h; cases h
    | some e =>
      rw [hl] at h
      have h : e.1 = v := Option.some.inj h
      have ho := List.all_eq_true.mp tabC_ok _ (lookup_mem hl)
      unfold okC at ho
      have hw := of_decide_eq_true ho
      dsimp only at hw
      rw [show (oc * 10000 + i) / 10000 = oc by omega, show (oc * 10000 + i) % 10000 = i by omega, h] at hw
      exact g_mem hw rfl
  · cases h
theorem rsK_inv {oc i k : Nat} (h : rsK oc i = some k) : (oc * 10000 + i, k) ∈ tabK ∧ (oc * 10000 + i) / 10000 = oc ∧ (oc * 10000 + i) % 10000 = i := by
  unfold rsK at h
  split at h
  · exact ⟨lookup_mem h, by omega, by omega⟩
  · cases h
theorem recv_name : ∀ (oc : Nat) (q : vw_C), cls6[ciO oc]? = some q → q.1 = ocN oc
  | 0, _, h => by cases h; rfl
  | 1, _, h => by cases h; rfl
  | 2, _, h => by cases h
  | 3, _, h => by cases h; rfl
  | 4, _, h => by cases h; rfl
  | 5, _, h => by cases h; rfl
  | 6, _, h => by cases h; rfl
  | 7, _, h => by cases h
  | 8, _, h => by cases h
  | 9, _, h => by cases h
  | n + 10, _, h => by cases h
theorem fs_at {G : GT} {M : Mem} {k i x : Nat} {sl : List Nat} (h : sl[i]? = some x) : (fsOf G M k sl)[i]? = some (match (generalizing := false) x with | 0 => .int (M k i) | r + 1 => .ref (G.2.1 r)) := by
  unfold fsOf
  rw [List.getElem?_mapIdx, h]
  rfl
theorem mset_at {M : Mem} {k i : Nat} {v : Int32} : mset M k i v k = upd (M k) i v := by
  unfold mset mrow
  rw [if_pos rfl]
theorem mset_ne {M : Mem} {k i j : Nat} {v : Int32} (h : j ≠ k) : mset M k i v j = M j := by
  unfold mset mrow
  rw [if_neg h]
theorem fs_set {G : GT} {M : Mem} {k i : Nat} {v : Int32} {sl : List Nat} (h : sl[i]? = some 0) : (fsOf G M k sl).set i (.int v) = fsOf G (mset M k i v) k sl := by
  refine List.ext_getElem? fun j => ?_
  have hlt : i < sl.length := (List.getElem?_eq_some_iff.mp h).1
  by_cases e : j = i
  · subst e
    rw [List.getElem?_set_self (by unfold fsOf; rw [List.length_mapIdx]; exact hlt), fs_at h]
    show some (Value.int v) = some (Value.int (mset M k j v k j))
    rw [mset_at]
    unfold upd
    rw [if_pos rfl]
  · rw [List.getElem?_set_ne (Ne.symm e)]
    cases hj : sl[j]? with
    | none =>
      have hn : sl.length ≤ j := List.getElem?_eq_none_iff.mp hj
      rw [List.getElem?_eq_none_iff.mpr (by unfold fsOf; rw [List.length_mapIdx]; exact hn), List.getElem?_eq_none_iff.mpr (by unfold fsOf; rw [List.length_mapIdx]; exact hn)]
    | some x =>
      rw [fs_at hj, fs_at hj]
      cases x with
      | zero =>
        show some (Value.int _) = some (Value.int (mset M k i v k j))
        rw [mset_at]
        unfold upd
        rw [if_neg e]
      | succ r => rfl
theorem g_inits {C : String} (h : (Cond.initialized C) ∈ lw_tbl) : Cond.initialized C ∈ gtbl := List.mem_filter.mpr ⟨h, rfl⟩
set_option maxRecDepth 100000 in
theorem g_max : Cond.static Lib.Math.max.name ∈ gtbl ∧ Cond.initialized "java/lang/Math" ∈ gtbl ∧ Cond.code Lib.Math.max.name Lib.Math.max.code 2 (some .int) ∈ gtbl := by decide +kernel
set_option maxRecDepth 100000 in
theorem g_min : Cond.static Lib.Math.min.name ∈ gtbl ∧ Cond.code Lib.Math.min.name Lib.Math.min.code 2 (some .int) ∈ gtbl := by decide +kernel
set_option maxRecDepth 100000 in
theorem g_copy : Cond.native arraycopyName ∈ gtbl ∧ Cond.static arraycopyName ∈ gtbl ∧ Cond.initialized "java/lang/System" ∈ gtbl := by decide +kernel
set_option maxRecDepth 100000 in
theorem g_stat : Cond.fieldLink RX2 15 "FedHen$Kinds" "ABOVE" "[I" ∈ gtbl ∧ Cond.fieldLink RJ0 38 "java/lang/String" "COMPACT_STRINGS" "Z" ∈ gtbl ∧ Cond.fieldLink RJ0 1053 "jdk/internal/util/Preconditions" "SIOOBE_FORMATTER" "Ljava/util/function/BiFunction;" ∈ gtbl ∧ Cond.fieldLink RJ0 9 "java/lang/String" "value" "[B" ∈ gtbl ∧ Cond.fieldLink RJ0 15 "java/lang/String" "coder" "B" ∈ gtbl := by decide +kernel
theorem nfw : nativeFrameWords "java/lang/System" "arraycopy" 5 ≤ 80 := by decide +kernel
theorem sz_le {G : GT} {sz : Nat} {s : State} {H : Heap} {locs : List Loc} (hsz : s.heap.size = sz) (hS : va_S (Aset G sz) s.heap H locs) : ∀ q, Aset G H.size q → Aset G sz q := by
  intro q h
  rcases h with h | h
  · exact Or.inl h
  · exact Or.inr (by rw [← hsz]; exact Nat.le_trans hS.1 h)
section SNDB
variable {p : Program} {l : Launch} {e : Env} {R : Room} {s : State} {m : MethodId} {args : Array Value} {below : List Frame} {meth : Method} {c : Code} {cal : Cal} {sc : Scr} {oc : Nat} {cc : ByteArray} {ret : Option FieldType} {nL : Nat} {G : GT} {sz d cells slots : Nat} {Q : State → Prop} {Ts : List Cond}
theorem W_call {H : Heap} {locs : List Loc} {pc : Nat} {ls : Array Slot} {st0 rest : List Value} {v : Option Value} {M' : Mem} {a : Array Value} (hr : va_Run p l e R s m args below meth c H locs cells slots 0 0 (F0 m pc ls st0) rest (Qy G H.size v M' a) (Aset G H.size)) (hS : va_S (Aset G sz) s.heap H locs) (hA : ∀ q, Aset G H.size q → Aset G sz q)
    (kk : ∀ (H1 : Heap) (locs1 : List Loc), va_P G.1 cls6 (wsO G M') H1 → va_S (Aset G sz) s.heap H1 locs1 → W p l e R s m args below meth c H1 locs1 cells slots Q (F0 m (pc + 3) ls ((v.map (tr G)).toList ++ rest))) : W p l e R s m args below meth c H locs cells slots Q (F0 m pc ls st0) := by
  intro T hT X
  obtain ⟨v', st₀, t, T', L, h0, X', hL, e1, e2, ⟨⟨hv, hPt⟩, hz, hk⟩, st⟩ := hr T hT X
  have hv : v' = v.map (tr G) := by injection hv
  subst hv
  rw [h0] at hz hk
  obtain ⟨t2, a1, b1⟩ := kk T'.heap (locs ++ L) (by rw [e1]; exact hPt)
    ⟨Nat.le_trans hS.1 (by rw [e1]; exact hz), fun q h1 h2 => by rw [e1, hk q (Nat.lt_of_lt_of_le h1 hS.1) (fun z => h2 (hA q z))]; exact hS.2.1 q h1 h2, fun q hq => by
      rcases List.mem_append.mp hq with h | h
      · exact hS.2.2 q h
      · exact hA _ (hL q h)⟩ T' rfl X'
  exact ⟨t2, st t2 a1, b1⟩

set_option maxHeartbeats 1000000 in
theorem so_ldc (C : Cx p l R s m args c sc oc cc nL G sz Ts d cells slots) (i : Nat) : Snd p l e R s m args below meth c cal sc oc cc ret nL G sz cells slots Q (.ldc i) := by
  obtain ⟨hx, hb, hml, hown, hts, hg, hK, hN, hT, hsz, hG, hX, hRf, hRl, hcl, hsl⟩ := C
  intro len pc lv st M z hd hs H locs ls hP hS hl kk
  replace hs : (match (generalizing := false) rsC oc i with | some v => (if len = 2 then some (Sum.inr (pc + 2, lv, .int v :: st, M)) else none) | none => opK (rsK oc i) (fun k => if len = 2 then some (Sum.inr (pc + 2, lv, .ref (160 + k) :: st, M)) else none) : So) = some (.inr z) := hs
  cases hc : rsC oc i with
  | some v =>
    rw [hc] at hs
    obtain ⟨rfl, hz⟩ := len_inv hs
    cases hz
    exact lv_ldc hx hb hown (hts _ (hg _ (rsC_inv hc))) hd (kk H locs ls hP hS hl)
  | none =>
    rw [hc] at hs
    obtain ⟨k, hk, hs⟩ := opK_inv hs
    obtain ⟨rfl, hz⟩ := len_inv hs
    cases hz
    obtain ⟨h1, h2, h3⟩ := rsK_inv hk
    have h4 := hT.2.2.2.2.2.2.2 _ h1
    dsimp only at h4
    rw [h2, h3] at h4
    exact va_ldcS hx hb hown h4 hd (kk H locs ls hP hS hl)
set_option maxHeartbeats 1000000 in
theorem so_ldcw (C : Cx p l R s m args c sc oc cc nL G sz Ts d cells slots) (i : Nat) : Snd p l e R s m args below meth c cal sc oc cc ret nL G sz cells slots Q (.ldc_w i) := by
  obtain ⟨hx, hb, hml, hown, hts, hg, hK, hN, hT, hsz, hG, hX, hRf, hRl, hcl, hsl⟩ := C
  intro len pc lv st M z hd hs H locs ls hP hS hl kk
  replace hs : (match (generalizing := false) rsC oc i with | some v => (if len = 3 then some (Sum.inr (pc + 3, lv, .int v :: st, M)) else none) | none => opK (rsK oc i) (fun k => if len = 3 then some (Sum.inr (pc + 3, lv, .ref (160 + k) :: st, M)) else none) : So) = some (.inr z) := hs
  cases hc : rsC oc i with
  | some v =>
    rw [hc] at hs
    obtain ⟨rfl, hz⟩ := len_inv hs
    cases hz
    exact lv_ldcw hx hb hown (hts _ (hg _ (rsC_inv hc))) hd (kk H locs ls hP hS hl)
  | none =>
    rw [hc] at hs
    obtain ⟨k, hk, hs⟩ := opK_inv hs
    obtain ⟨rfl, hz⟩ := len_inv hs
    cases hz
    obtain ⟨h1, h2, h3⟩ := rsK_inv hk
    have h4 := hT.2.2.2.2.2.2.2 _ h1
    dsimp only at h4
    rw [h2, h3] at h4
    exact W_ldcwS hx hb hown h4 hd (kk H locs ls hP hS hl)
set_option maxHeartbeats 1000000 in
theorem so_getstatic (C : Cx p l R s m args c sc oc cc nL G sz Ts d cells slots) (i : Nat) : Snd p l e R s m args below meth c cal sc oc cc ret nL G sz cells slots Q (.getstatic i) := by
  obtain ⟨hx, hb, hml, hown, hts, hg, hK, hN, hT, hsz, hG, hX, hRf, hRl, hcl, hsl⟩ := C
  intro len pc lv st M z hd hs H locs ls hP hS hl kk
  replace hs : opK (rsS oc i) (fun v => if len = 3 then some (Sum.inr (pc + 3, lv, v :: st, M)) else none : _ → So) = some (.inr z) := hs
  obtain ⟨v, hv, hs⟩ := opK_inv hs
  obtain ⟨rfl, hz⟩ := len_inv hs
  cases hz
  unfold rsS at hv
  split at hv
  · cases hv
    exact va_getsN hx hb hT.1 hS hown (va_Nw.use rfl hN.2.2.1) (fun _ h => h) hd (kk H locs ls hP hS hl)
  · cases hv
    exact va_getsN hx hb hT.2.1 hS hown (va_Nw.use rfl hN.2.2.2) (fun _ h => h) hd (kk H locs ls hP hS hl)
  · cases hv
    exact va_gets hx hb hT.2.2.1 hS hown (hts _ (hg _ g_stat.1)) (fun _ h => h) hd (kk H locs ls hP hS hl)
  · cases hv
    exact va_gets hx hb hT.2.2.2.2.1 hS hown (hts _ (hg _ g_stat.2.1)) (fun _ h => h) hd (kk H locs ls hP hS hl)
  · cases hv
    exact va_gets hx hb hT.2.2.2.2.2.1 hS hown (hts _ (hg _ g_stat.2.2.1)) (fun _ h => h) hd (kk H locs ls hP hS hl)
  · cases hv
set_option maxHeartbeats 1000000 in
theorem so_getfield (C : Cx p l R s m args c sc oc cc nL G sz Ts d cells slots) (i : Nat) : Snd p l e R s m args below meth c cal sc oc cc ret nL G sz cells slots Q (.getfield i) := by
  obtain ⟨hx, hb, hml, hown, hts, hg, hK, hN, hT, hsz, hG, hX, hRf, hRl, hcl, hsl⟩ := C
  intro len pc lv st M z hd hs H locs ls hP hS hl kk
  replace hs : popr st (fun h r => if oc = 9 then (match (generalizing := false) lay h with | (6, [b]) => (if i = 9 then (if len = 3 then some (Sum.inr (pc + 3, lv, .ref b :: r, M)) else none) else if i = 15 then (if len = 3 then some (Sum.inr (pc + 3, lv, .int 0 :: r, M)) else none) else none) | _ => none) else opK (rsF oc i) (fun e => opK (slotV e.1 e.2 h M) (fun v => if len = 3 then some (Sum.inr (pc + 3, lv, v :: r, M)) else none)) : _ → _ → So) = some (.inr z) := hs
  obtain ⟨h, r, he9, hq9⟩ := popr_inv hs
  clear hs
  subst he9
  have hs := hq9
  clear hq9
  by_cases hoc : oc = 9
  · rw [if_pos hoc] at hs
    subst hoc
    split at hs
    · next b hlay =>
      obtain ⟨j, hj, rfl, hb2⟩ := str_h hlay
      cases hb2
      have hk := (hT.2.2.2.2.2.2.1).1 j hj
      split at hs
      · next hi =>
        subst hi
        obtain ⟨rfl, hz⟩ := len_inv hs
        cases hz
        exact vk_getf hx hb hk.2.2.1 hS hown (hts _ (hg _ g_stat.2.2.2.1)) (fun _ h => h) hd (kk H locs ls hP hS hl)
      · split at hs
        · next hi =>
          subst hi
          obtain ⟨rfl, hz⟩ := len_inv hs
          cases hz
          exact vk_getf hx hb hk.2.1 hS hown (hts _ (hg _ g_stat.2.2.2.2)) (fun _ h => h) hd (kk H locs ls hP hS hl)
        · cases hs
    · cases hs
  · rw [if_neg hoc] at hs
    obtain ⟨e, he, hs⟩ := opK_inv hs
    obtain ⟨ci, k⟩ := e
    obtain ⟨v, hv, hs⟩ := opK_inv hs
    obtain ⟨rfl, hz⟩ := len_inv hs
    cases hz
    obtain ⟨nest, q, hq, hk, hw1, hw2⟩ := rsF_inv he
    dsimp only at hv
    unfold slotV at hv
    split at hv
    · next c0 sl hlay =>
      split at hv
      · next hc0 =>
        subst hc0
        obtain ⟨q0, -, hq0⟩ := ws_at (G := G) (M := M) (hs_of hlay (by decide))
        have hcell : cellOf G M h = .inr (c0, fsOf G M h sl) := by unfold cellOf; rw [hlay] <;> rfl
        rw [hcell] at hq0
        have hfv : (fsOf G M h sl)[k]? = some (tr G v) := by
          split at hv
          · next hsl2 => cases hv; rw [fs_at hsl2]; rfl
          · next hsl2 => cases hv; rw [fs_at hsl2]; rfl
          · cases hv
        cases nest with
        | false => exact va_get (C := q.1) (T := q.2.1) (N := q.2.2) hx hb hts (fun w hw => hg _ (cls_words (List.mem_of_getElem? hq) w hw)) hown hK hP q0 hq0 hq k hk (hts _ (hg _ (hw1 rfl))) (fun _ h => h) hfv hd (kk H locs ls hP hS hl)
        | true => exact va_getN (C := q.1) (T := q.2.1) (N := q.2.2) hx hb hts (fun w hw => hg _ (cls_words (List.mem_of_getElem? hq) w hw)) hown hK hP q0 hq0 hq k hk (va_Nw.use rfl (hw2 rfl s hN)) (fun _ h => h) hfv hd (kk H locs ls hP hS hl)
      · cases hv
    · cases hv
set_option maxHeartbeats 1000000 in
theorem so_putfield (C : Cx p l R s m args c sc oc cc nL G sz Ts d cells slots) (i : Nat) : Snd p l e R s m args below meth c cal sc oc cc ret nL G sz cells slots Q (.putfield i) := by
  obtain ⟨hx, hb, hml, hown, hts, hg, hK, hN, hT, hsz, hG, hX, hRf, hRl, hcl, hsl⟩ := C
  intro len pc lv st M z hd hs H locs ls hP hS hl kk
  replace hs : pop1 st (fun v r => popr r (fun h r => opK (rsF oc i) (fun e => guK (isInt e.1 e.2 h && (!isZ e.1 e.2 || narB .boolean v)) (if len = 3 then some (Sum.inr (pc + 3, lv, r, mset M h e.2 v)) else none))) : _ → _ → So) = some (.inr z) := hs
  obtain ⟨v, r1, he9, hq9⟩ := pop1_inv hs
  clear hs
  subst he9
  have hs := hq9
  clear hq9
  obtain ⟨h, r, he9, hq9⟩ := popr_inv hs
  clear hs
  subst he9
  have hs := hq9
  clear hq9
  obtain ⟨e, he, hs⟩ := opK_inv hs
  obtain ⟨ci, k⟩ := e
  obtain ⟨hgu, hs⟩ := guK_inv hs
  obtain ⟨rfl, hz⟩ := len_inv hs
  cases hz
  dsimp only at hgu kk ⊢
  rw [Bool.and_eq_true] at hgu
  obtain ⟨hi0, hzb⟩ := hgu
  obtain ⟨nest, q, hq, hk, hw1, hw2⟩ := rsF_inv he
  unfold isInt at hi0
  split at hi0
  · next c0 sl hlay =>
    rw [Bool.and_eq_true] at hi0
    have hc0 : c0 = ci := of_decide_eq_true hi0.1
    have hsk : sl[k]? = some 0 := of_decide_eq_true hi0.2
    subst hc0
    obtain ⟨q0, hq9, hq0⟩ := ws_at (G := G) (M := M) (hs_of hlay (by decide))
    have hcell : cellOf G M h = .inr (c0, fsOf G M h sl) := by unfold cellOf; rw [hlay] <;> rfl
    have hcell' : cellOf G (mset M h k v) h = .inr (c0, fsOf G (mset M h k v) h sl) := by unfold cellOf; rw [hlay] <;> rfl
    rw [hcell] at hq0
    have ho := lay_ok hlay (by decide)
    replace ho : okO c0 sl = true := ho
    unfold okO at ho
    rw [hq] at ho
    dsimp only at ho
    rw [Bool.and_eq_true] at ho
    have hlen : sl.length = q.2.2 := of_decide_eq_true ho.1
    have hok := List.all_eq_true.mp ho.2 k (List.mem_range.mpr hk)
    rw [Bool.or_eq_true, decide_eq_true hsk, Bool.and_eq_true] at hok
    have hok : (!(q.2.1 k).2.2.2) = true ∧ decide (parseFieldDescriptor (q.2.1 k).2.2.1 = some (if isZ c0 k = true then .boolean else .int)) = true := by
      rcases hok with h | h
      · cases h
      · exact h
    have hfin : (q.2.1 k).2.2.2 = false := by
      have := hok.1
      cases hh : (q.2.1 k).2.2.2 with
      | false => rfl
      | true => rw [hh] at this; cases this
    have hpd := of_decide_eq_true hok.2
    obtain ⟨ty0, hty, hnm⟩ := cls_ty _ _ hq
    have hnar : narrow (if isZ c0 k = true then .boolean else .int) (.int v) = .int v ∧ fits (if isZ c0 k = true then .boolean else .int) (.int v) = true := by
      cases hzz : isZ c0 k with
      | false => exact ⟨rfl, rfl⟩
      | true =>
        rw [hzz] at hzb
        have hzb : narB .boolean v = true := by
          rw [Bool.or_eq_true] at hzb
          rcases hzb with h | h
          · cases h
          · exact h
        have hn : narrow .boolean (.int v) = .int v := of_decide_eq_true hzb
        refine ⟨hn, ?_⟩
        have hn2 : v &&& 1 = v := by
          have : Value.int (v &&& 1) = .int v := hn
          injection this
        obtain ⟨j, hj, e⟩ := pk_andE v (m := 1) 1 (by decide)
        rw [hn2] at e
        subst e
        match j, hj with
        | 0, _ => decide
        | 1, _ => decide
    have hlk : k < (fsOf G M h sl).length := by unfold fsOf; rw [List.length_mapIdx, hlen]; exact hk
    have fin : ∀ (H1 : Heap) (locs1 : List Loc), va_P G.1 cls6 ((wsO G M).set q0 (G.2.1 h, .inr (c0, (fsOf G M h sl).set k (.int v)))) H1 → va_D (Aset G sz) ((wsO G M).set q0 (G.2.1 h, .inr (c0, (fsOf G M h sl).set k (.int v)))) → va_S (Aset G sz) s.heap H1 locs1 → W p l e R s m args below meth c H1 locs1 cells slots Q (F0 m (pc + 3) ls (r.map (tr G))) := by
      intro H1 locs1 hP1 _ hS1
      rw [ws_set (M' := mset M h k v) hq9 (by rw [hcell', fs_set hsk]) (fun j hj => mset_ne hj)] at hP1
      exact kk H1 locs1 ls hP1 hS1 hl
    cases nest with
    | false => exact va_put (C := q.1) (T := q.2.1) (N := q.2.2) hx hb hts (fun w hw => hg _ (cls_words (List.mem_of_getElem? hq) w hw)) ty0 hty hnm hown hK hP (ws_D hG) hS q0 hq0 hq k hk (hts _ (hg _ (hw1 rfl))) (fun _ h => h) hfin hpd hnar.1 hnar.2 hlk hd fin
    | true => exact va_putN (C := q.1) (T := q.2.1) (N := q.2.2) hx hb hts (fun w hw => hg _ (cls_words (List.mem_of_getElem? hq) w hw)) ty0 hty hnm hown hK hP (ws_D hG) hS q0 hq0 hq k hk (va_Nw.use rfl (hw2 rfl s hN)) (fun _ h => h) hfin hpd hnar.1 hnar.2 hlk hd fin
  · cases hi0
set_option maxHeartbeats 1000000 in
theorem so_iaload (C : Cx p l R s m args c sc oc cc nL G sz Ts d cells slots) : Snd p l e R s m args below meth c cal sc oc cc ret nL G sz cells slots Q .iaload := by
  obtain ⟨hx, hb, hml, hown, hts, hg, hK, hN, hT, hsz, hG, hX, hRf, hRl, hcl, hsl⟩ := C
  intro len pc lv st M z hd hs H locs ls hP hS hl kk
  replace hs : pop1 st (fun i r => popr r (fun h r => opK (arrV9 sc h M) (fun a => guK (inb i a.1) (if len = 1 then some (Sum.inr (pc + 1, lv, .int (a.2 i.toNatClampNeg) :: r, M)) else none))) : _ → _ → So) = some (.inr z) := hs
  obtain ⟨i, r1, he9, hq9⟩ := pop1_inv hs
  clear hs
  subst he9
  have hs := hq9
  clear hq9
  obtain ⟨h, r, he9, hq9⟩ := popr_inv hs
  clear hs
  subst he9
  have hs := hq9
  clear hq9
  obtain ⟨a, ha, hs⟩ := opK_inv hs
  obtain ⟨hin, hs⟩ := guK_inv hs
  obtain ⟨rfl, hz⟩ := len_inv hs
  cases hz
  have hin := inb_vp hin
  unfold arrV9 at ha
  split at ha
  · next n hlay =>
    cases ha
    obtain ⟨q0, -, hq0⟩ := ws_at (G := G) (M := M) (hs_of hlay (by decide))
    have hcell : cellOf G M h = .inl (G.2.2.1 0, n, .inl (M h)) := by unfold cellOf; rw [hlay] <;> rfl
    rw [hcell] at hq0
    exact va_iald hx hb hK hP q0 0 hq0 rfl hin hd (kk H locs ls hP hS hl)
  · next l0 hlay =>
    cases ha
    have ho := lay_ok hlay (by decide)
    have ho : h = 150 ∨ h = 151 ∨ h = 152 := of_decide_eq_true ho
    exact va_ti hx hb (hT.2.2.2.1 h ho) hS hin rfl hd (kk H locs ls hP hS hl)
  · next l0 hlay =>
    have ho := lay_ok hlay (by decide)
    have ho : h = 198 := of_decide_eq_true ho
    subst ho
    obtain ⟨L, xs⟩ := a
    obtain ⟨g1, g2, g3⟩ := hX L xs ha
    exact va_sld hx hb g1 g2 g3 hS hin hd (kk H locs ls hP hS hl)
  · cases ha
set_option maxHeartbeats 1000000 in
theorem so_baload (C : Cx p l R s m args c sc oc cc nL G sz Ts d cells slots) : Snd p l e R s m args below meth c cal sc oc cc ret nL G sz cells slots Q .baload := by
  obtain ⟨hx, hb, hml, hown, hts, hg, hK, hN, hT, hsz, hG, hX, hRf, hRl, hcl, hsl⟩ := C
  intro len pc lv st M z hd hs H locs ls hP hS hl kk
  replace hs : pop1 st (fun i r => popr r (fun h r => opK (arrB h) (fun a => guK (inb i a.1) (if len = 1 then some (Sum.inr (pc + 1, lv, .int (a.2 i.toNatClampNeg) :: r, M)) else none))) : _ → _ → So) = some (.inr z) := hs
  obtain ⟨i, r1, he9, hq9⟩ := pop1_inv hs
  clear hs
  subst he9
  have hs := hq9
  clear hq9
  obtain ⟨h, r, he9, hq9⟩ := popr_inv hs
  clear hs
  subst he9
  have hs := hq9
  clear hq9
  obtain ⟨a, ha, hs⟩ := opK_inv hs
  obtain ⟨hin, hs⟩ := guK_inv hs
  obtain ⟨rfl, hz⟩ := len_inv hs
  cases hz
  have hin := inb_vp hin
  unfold arrB at ha
  split at ha
  · next j hlay =>
    cases ha
    have ho := lay_ok hlay (by decide)
    have ho : h = 180 + j ∧ j < 12 := of_decide_eq_true ho
    obtain ⟨rfl, hj⟩ := ho
    have hk := (hT.2.2.2.2.2.2.1).1 j hj
    exact va_tb hx hb hk.2.2.2 hS hin rfl hd (kk H locs ls hP hS hl)
  · cases ha
set_option maxHeartbeats 1000000 in
theorem so_aaload (C : Cx p l R s m args c sc oc cc nL G sz Ts d cells slots) : Snd p l e R s m args below meth c cal sc oc cc ret nL G sz cells slots Q .aaload := by
  obtain ⟨hx, hb, hml, hown, hts, hg, hK, hN, hT, hsz, hG, hX, hRf, hRl, hcl, hsl⟩ := C
  intro len pc lv st M z hd hs H locs ls hP hS hl kk
  replace hs : pop1 st (fun i r => popr r (fun h r => opK (arrR h) (fun l => guK (inb i l.length) (if len = 1 then some (Sum.inr (pc + 1, lv, .ref (l.getD i.toNatClampNeg 0) :: r, M)) else none))) : _ → _ → So) = some (.inr z) := hs
  obtain ⟨i, r1, he9, hq9⟩ := pop1_inv hs
  clear hs
  subst he9
  have hs := hq9
  clear hq9
  obtain ⟨h, r, he9, hq9⟩ := popr_inv hs
  clear hs
  subst he9
  have hs := hq9
  clear hq9
  obtain ⟨a, ha, hs⟩ := opK_inv hs
  obtain ⟨hin, hs⟩ := guK_inv hs
  obtain ⟨rfl, hz⟩ := len_inv hs
  cases hz
  have hin := inb_vp hin
  have hlt : i.toNatClampNeg < a.length := Nat.not_le.mp fun q => hin (Or.inr q)
  have key : va_rf (refsOf G a i.toNatClampNeg) = tr G (.ref (a.getD i.toNatClampNeg 0)) := by
    unfold refsOf
    rw [List.getD_eq_getElem?_getD, List.getElem?_eq_getElem hlt]
    rfl
  have kk' : W p l e R s m args below meth c H locs cells slots Q (F0 m (pc + 1) ls (va_rf (refsOf G a i.toNatClampNeg) :: r.map (tr G))) := by
    rw [key]
    exact kk H locs ls hP hS hl
  unfold arrR at ha
  split at ha
  · next l0 hlay =>
    cases ha
    obtain ⟨q0, -, hq0⟩ := ws_at (G := G) (M := M) (hs_of hlay (by decide))
    have hcell : cellOf G M h = .inl (G.2.2.1 1, a.length, .inr (.inr (.inr (.inr (refsOf G a))))) := by unfold cellOf; rw [hlay] <;> rfl
    rw [hcell] at hq0
    exact va_aldq hx hb hK hP q0 1 hq0 rfl hin hd kk'
  · next l0 hlay =>
    cases ha
    obtain ⟨q0, -, hq0⟩ := ws_at (G := G) (M := M) (hs_of hlay (by decide))
    have hcell : cellOf G M h = .inl (G.2.2.1 2, a.length, .inr (.inr (.inr (.inr (refsOf G a))))) := by unfold cellOf; rw [hlay] <;> rfl
    rw [hcell] at hq0
    exact va_aldq hx hb hK hP q0 2 hq0 rfl hin hd kk'
  · next l0 hlay =>
    cases ha
    obtain ⟨q0, -, hq0⟩ := ws_at (G := G) (M := M) (hs_of hlay (by decide))
    have hcell : cellOf G M h = .inl (G.2.2.1 3, a.length, .inr (.inr (.inr (.inr (refsOf G a))))) := by unfold cellOf; rw [hlay] <;> rfl
    rw [hcell] at hq0
    exact va_aldq hx hb hK hP q0 3 hq0 rfl hin hd kk'
  · cases ha
set_option maxHeartbeats 1000000 in
theorem so_iastore (C : Cx p l R s m args c sc oc cc nL G sz Ts d cells slots) : Snd p l e R s m args below meth c cal sc oc cc ret nL G sz cells slots Q .iastore := by
  obtain ⟨hx, hb, hml, hown, hts, hg, hK, hN, hT, hsz, hG, hX, hRf, hRl, hcl, hsl⟩ := C
  intro len pc lv st M z hd hs H locs ls hP hS hl kk
  replace hs : pop2 st (fun i x r => popr r (fun h r => opK (arrN h) (fun n => guK (inb i n) (if len = 1 then some (Sum.inr (pc + 1, lv, r, mset M h i.toNatClampNeg x)) else none))) : _ → _ → _ → So) = some (.inr z) := hs
  obtain ⟨i, x, r1, he9, hq9⟩ := pop2_inv hs
  clear hs
  subst he9
  have hs := hq9
  clear hq9
  obtain ⟨h, r, he9, hq9⟩ := popr_inv hs
  clear hs
  subst he9
  have hs := hq9
  clear hq9
  obtain ⟨n, hn, hs⟩ := opK_inv hs
  obtain ⟨hin, hs⟩ := guK_inv hs
  obtain ⟨rfl, hz⟩ := len_inv hs
  cases hz
  have hin := inb_vp hin
  unfold arrN at hn
  split at hn
  · next n0 hlay =>
    cases hn
    obtain ⟨q0, hq9, hq0⟩ := ws_at (G := G) (M := M) (hs_of hlay (by decide))
    have hcell : cellOf G M h = .inl (G.2.2.1 0, n, .inl (M h)) := by unfold cellOf; rw [hlay] <;> rfl
    have hcell' : cellOf G (mset M h i.toNatClampNeg x) h = .inl (G.2.2.1 0, n, .inl (upd (M h) i.toNatClampNeg x)) := by unfold cellOf; rw [hlay, mset_at] <;> rfl
    rw [hcell] at hq0
    refine va_iast hx hb hK hP (ws_D hG) hS q0 0 hq0 rfl hin hd (fun H1 locs1 hP1 _ hS1 => ?_)
    rw [ws_set (M' := mset M h i.toNatClampNeg x) hq9 hcell'.symm (fun j hj => mset_ne hj)] at hP1
    exact kk H1 locs1 ls hP1 hS1 hl
  · cases hn
set_option maxHeartbeats 1000000 in
theorem so_alen (C : Cx p l R s m args c sc oc cc nL G sz Ts d cells slots) : Snd p l e R s m args below meth c cal sc oc cc ret nL G sz cells slots Q .arraylength := by
  obtain ⟨hx, hb, hml, hown, hts, hg, hK, hN, hT, hsz, hG, hX, hRf, hRl, hcl, hsl⟩ := C
  intro len pc lv st M z hd hs H locs ls hP hS hl kk
  replace hs : popr st (fun h r => (match (generalizing := false) arrV9 sc h M with | some a => (if len = 1 then some (Sum.inr (pc + 1, lv, .int (Int32.ofNat a.1) :: r, M)) else none) | none => (match (generalizing := false) arrB h with | some a => (if len = 1 then some (Sum.inr (pc + 1, lv, .int (Int32.ofNat a.1) :: r, M)) else none) | none => opK (arrR h) (fun l => if len = 1 then some (Sum.inr (pc + 1, lv, .int (Int32.ofNat l.length) :: r, M)) else none))) : _ → _ → So) = some (.inr z) := hs
  obtain ⟨h, r, he9, hq9⟩ := popr_inv hs
  clear hs
  subst he9
  have hs := hq9
  clear hq9
  cases ha : arrV9 sc h M with
  | some a =>
    rw [ha] at hs
    obtain ⟨rfl, hz⟩ := len_inv hs
    cases hz
    unfold arrV9 at ha
    split at ha
    · next n hlay =>
      cases ha
      obtain ⟨q0, -, hq0⟩ := ws_at (G := G) (M := M) (hs_of hlay (by decide))
      have hcell : cellOf G M h = .inl (G.2.2.1 0, n, .inl (M h)) := by unfold cellOf; rw [hlay] <;> rfl
      rw [hcell] at hq0
      exact va_alen (ty := .int) hx hb hK hP q0 0 hq0 rfl rfl hd (kk H locs ls hP hS hl)
    · next l0 hlay =>
      cases ha
      have ho := lay_ok hlay (by decide)
      have ho : h = 150 ∨ h = 151 ∨ h = 152 := of_decide_eq_true ho
      exact va_tlen hx hb (hT.2.2.2.1 h ho) hS rfl hd (kk H locs ls hP hS hl)
    · next l0 hlay =>
      have ho := lay_ok hlay (by decide)
      have ho : h = 198 := of_decide_eq_true ho
      subst ho
      obtain ⟨L, xs⟩ := a
      obtain ⟨g1, g2, g3⟩ := hX L xs ha
      exact va_slen hx hb g1 g2 g3 hS hd (kk H locs ls hP hS hl)
    · cases ha
  | none =>
    rw [ha] at hs
    dsimp only at hs
    cases hB : arrB h with
    | some a =>
      rw [hB] at hs
      obtain ⟨rfl, hz⟩ := len_inv hs
      cases hz
      unfold arrB at hB
      split at hB
      · next j hlay =>
        cases hB
        have ho := lay_ok hlay (by decide)
        have ho : h = 180 + j ∧ j < 12 := of_decide_eq_true ho
        obtain ⟨rfl, hj⟩ := ho
        have hk := (hT.2.2.2.2.2.2.1).1 j hj
        exact va_tlen hx hb hk.2.2.2 hS rfl hd (kk H locs ls hP hS hl)
      · cases hB
    | none =>
      rw [hB] at hs
      dsimp only at hs
      obtain ⟨a, hR, hs⟩ := opK_inv hs
      obtain ⟨rfl, hz⟩ := len_inv hs
      cases hz
      unfold arrR at hR
      split at hR
      · next l0 hlay =>
        cases hR
        obtain ⟨q0, -, hq0⟩ := ws_at (G := G) (M := M) (hs_of hlay (by decide))
        have hcell : cellOf G M h = .inl (G.2.2.1 1, a.length, .inr (.inr (.inr (.inr (refsOf G a))))) := by unfold cellOf; rw [hlay] <;> rfl
        rw [hcell] at hq0
        exact va_alen (ty := .object "FedHen$Sheet") hx hb hK hP q0 1 hq0 rfl rfl hd (kk H locs ls hP hS hl)
      · next l0 hlay =>
        cases hR
        obtain ⟨q0, -, hq0⟩ := ws_at (G := G) (M := M) (hs_of hlay (by decide))
        have hcell : cellOf G M h = .inl (G.2.2.1 2, a.length, .inr (.inr (.inr (.inr (refsOf G a))))) := by unfold cellOf; rw [hlay] <;> rfl
        rw [hcell] at hq0
        exact va_alen (ty := .object "FedHen$Hen") hx hb hK hP q0 2 hq0 rfl rfl hd (kk H locs ls hP hS hl)
      · next l0 hlay =>
        cases hR
        obtain ⟨q0, -, hq0⟩ := ws_at (G := G) (M := M) (hs_of hlay (by decide))
        have hcell : cellOf G M h = .inl (G.2.2.1 3, a.length, .inr (.inr (.inr (.inr (refsOf G a))))) := by unfold cellOf; rw [hlay] <;> rfl
        rw [hcell] at hq0
        exact va_alen (ty := .object "java/lang/String") hx hb hK hP q0 3 hq0 rfl rfl hd (kk H locs ls hP hS hl)
      · cases hR
end SNDB
