/-! calls; a whole run; a method's contract -/
theorem good_list {Ts L : List Cond} (hg : ∀ w ∈ gtbl, w ∈ Ts) (h : ∀ w ∈ L, w ∈ gtbl) : GoodIn Ts L := fun w hw => ⟨hg w (h w hw), good_of_word (gtbl_good w (h w hw))⟩
theorem okY_inv {q : mtT} (hm : q ∈ mt) : plainName q.1.cls = true ∧ q.1.cls = ocN q.2.2.2.2.1 ∧ Cond.code q.1 q.2.1 q.2.2.1 q.2.2.2.1 ∈ gtbl ∧ Cond.initialized q.1.cls ∈ gtbl ∧ (q.2.2.2.2.2.1 = true → Cond.static q.1 ∈ gtbl) ∧ (q.2.2.2.2.2.1 = false → Cond.instanceMethod q.1 ∈ gtbl ∧ Cond.selects q.1.cls q.1 q.1 ∈ gtbl) ∧
    q.1.cls ≠ "java/lang/invoke/MethodHandle" ∧ q.1.cls ≠ "java/lang/invoke/VarHandle" ∧ (parseMethodDescriptor q.1.desc).map (fun d => d.parameters.length) = some q.2.2.2.2.2.2.2.2.2.2 ∧ q.2.2.1 ≤ 12 := by
  have h := List.all_eq_true.mp mt_ok q hm
  unfold okY at h
  simp only [Bool.and_eq_true] at h
  obtain ⟨⟨⟨⟨⟨⟨h0, h2⟩, h4⟩, h5⟩, h6⟩, h9⟩, h10⟩ := h
  have h0 := of_decide_eq_true h0
  have h2 := of_decide_eq_true h2
  have h5 := of_decide_eq_true h5
  have h9 := of_decide_eq_true (List.all_eq_true.mp dsc_ok _ (of_decide_eq_true h9))
  have hne := oc_ne _ h0
  refine ⟨by rw [h2]; exact oc_pl _ h0, h2, mt_cd q hm, g_mem (of_decide_eq_true h4) rfl, fun hs => ?_, fun hs => ⟨?_, ?_⟩, by rw [h2]; exact hne.1, by rw [h2]; exact hne.2, h9, of_decide_eq_true h10⟩
  · rw [if_pos hs] at h5
    exact g_mem h5 rfl
  · rw [if_neg (by rw [hs]; decide)] at h5
    exact g_mem h5 rfl
  · rw [hs, Bool.false_or] at h6
    exact g_mem (of_decide_eq_true h6) rfl
section SNDC
variable {p : Program} {l : Launch} {e : Env} {R : Room} {s : State} {m : MethodId} {args : Array Value} {below : List Frame} {meth : Method} {c : Code} {cal : Cal} {sc : Scr} {oc : Nat} {cc : ByteArray} {ret : Option FieldType} {nL : Nat} {G : GT} {sz d cells slots : Nat} {Q : State → Prop} {Ts : List Cond}
theorem Wd_at {H : Heap} {locs : List Loc} {M : Mem} (hT : ST G (Aset G sz) s s.heap) (hK : va_K G.1 cls6 (tysG G) s) (hN : NW s) (hsz : s.heap.size = sz) (hS : va_S (Aset G sz) s.heap H locs) (hP : va_P G.1 cls6 (wsO G M) H) : ∀ U : State, U.heap = H → s.WarmedH U.vm → Wd G H.size M U := by
  intro U hU hW
  refine ⟨by rw [hU], by rw [hU]; exact hP, va_K.moved hW.alike hK, NW.warm hW hN, ?_⟩
  rw [hU]
  exact hT.go hW (fun q h1 h2 => hS.2.1 q h1 h2) (sz_le hsz hS)
set_option maxHeartbeats 1000000 in
theorem so_virt (C : Cx p l R s m args c sc oc cc nL G sz Ts d cells slots) (hcal : ∀ (y : Nat) (vs : List Value) (M : Mem) (v : Option Value) (M' : Mem), cal y vs M = some (v, M') → MetY d y vs M v M') (i : Nat) : Snd p l e R s m args below meth c cal sc oc cc ret nL G sz cells slots Q (.invokevirtual i) := by
  obtain ⟨hx, hb, hml, hown, hts, hg, hK, hN, hT, hsz, hG, hX, hRf, hRl, hcl, hsl⟩ := C
  intro len pc lv st M z hd hs H locs ls hP hS hl kk
  replace hs : opK (rsM oc i) (fun e => (match (generalizing := false) e with
      | (0, y, n) => argK n st fun as r => popr r fun h r => opK (mt[y]?) fun q => guK (isCl (ciO q.2.2.2.2.1) h && rk 8 r) (calK (cal y (.ref h :: as) M) fun v M' => if len = 3 then some (.inr (pc + 3, lv, v.toList ++ r, M')) else none)
      | _ => none : So)) = some (.inr z) := hs
  obtain ⟨e', he, hs⟩ := opK_inv hs
  split at hs
  · next y n =>
    obtain ⟨hn, hs⟩ := argK_inv hs
    obtain ⟨h, r, hdrop, hs⟩ := popr_inv hs
    obtain ⟨q, hq, hs⟩ := opK_inv hs
    obtain ⟨hgu, hs⟩ := guK_inv hs
    obtain ⟨v, M', hc, hs⟩ := calK_inv hs
    obtain ⟨rfl, hz⟩ := len_inv hs
    cases hz
    rw [Bool.and_eq_true] at hgu
    obtain ⟨nest, pos, hok, hw1, hw2⟩ := rsM_inv he
    have hyM : yM (oc * 10000 + i, 0, y, n, nest, pos) = q.1 := by
      show ((mt[y]?).map (fun q => q.1)).getD arraycopyName = q.1
      rw [hq]
      rfl
    rw [hyM] at hw1 hw2
    obtain ⟨y1, y2, y3, y4, -, y6, y7, y8, y9, y10⟩ := okY_inv (List.mem_of_getElem? hq)
    have hok2 : q.2.2.2.2.2.1 = false ∧ q.2.2.2.2.2.2.2.2.2.2 = n := by
      unfold okM at hok
      rw [Bool.and_eq_true] at hok
      have h2 := hok.2
      dsimp only at h2
      rw [hq] at h2
      replace h2 : (!q.2.2.2.2.2.1 && decide (q.2.2.2.2.2.2.2.2.2.2 = n)) = true := h2
      rw [Bool.and_eq_true] at h2
      refine ⟨?_, of_decide_eq_true h2.2⟩
      cases hh : q.2.2.2.2.2.1 with
      | false => rfl
      | true => rw [hh] at h2; cases h2.1
    obtain ⟨hst, hna⟩ := hok2
    rw [hna] at y9
    obtain ⟨y6a, y6b⟩ := y6 hst
    have hM := hcal _ _ _ _ _ hc q hq l G H.size hG
    have hst2 : st.map (tr G) = (((st.take n).reverse).map (tr G)).reverse ++ .ref (G.2.1 h) :: r.map (tr G) := by
      rw [List.map_reverse, List.reverse_reverse]
      conv => lhs; rw [← List.take_append_drop n st, hdrop, List.map_append]
      rfl
    have hn2 : (((st.take n).reverse).map (tr G)).length = n := by
      rw [List.length_map, List.length_reverse, List.length_take, Nat.min_eq_left hn]
    have hrec : ∃ cellB : Cell, H[G.2.1 h]? = some cellB ∧ cellB.vm.isStatics = false ∧ s.vm.findClass q.1.cls = some cellB.cls := by
      have hcl2 := hgu.1
      unfold isCl at hcl2
      split at hcl2
      · next c0 sl hlay =>
        have hc0 : c0 = ciO q.2.2.2.2.1 := of_decide_eq_true hcl2
        obtain ⟨q0, -, hq0⟩ := ws_at (G := G) (M := M) (hs_of hlay (by decide))
        have hcell : cellOf G M h = .inr (c0, fsOf G M h sl) := by unfold cellOf; rw [hlay] <;> rfl
        rw [hcell] at hq0
        have ho := lay_ok hlay (by decide)
        replace ho : okO c0 sl = true := ho
        unfold okO at ho
        cases hq6 : cls6[c0]? with
        | none => rw [hq6] at ho; cases ho
        | some q6 =>
          have hnm := recv_name q.2.2.2.2.1 q6 (by rw [← hc0]; exact hq6)
          rw [y2, ← hnm]
          exact va_recv hK hP hq6 hq0
      · next l0 hlay =>
        have hc0 : ciO q.2.2.2.2.1 = 100 := of_decide_eq_true hcl2
        have hoc9 : q.2.2.2.2.1 = 9 := by
          generalize q.2.2.2.2.1 = o at hc0
          match o, hc0 with
          | 9, _ => rfl
          | 0, hh => cases hh
          | 1, hh => cases hh
          | 2, hh => cases hh
          | 3, hh => cases hh
          | 4, hh => cases hh
          | 5, hh => cases hh
          | 6, hh => cases hh
          | 7, hh => cases hh
          | 8, hh => cases hh
          | n + 10, hh => cases hh
        obtain ⟨j, hj, rfl, -⟩ := str_h hlay
        rw [y2, hoc9]
        exact vk_recv (i := j) hT.2.2.2.2.2.2.1 hj hS
      · cases hcl2
    have hp : PreV s H q.1.cls (G.2.1 h) (va_Pc ((Value.ref h :: (st.take n).reverse).map (tr G)) (Wd G H.size M)) (((st.take n).reverse).map (tr G)) := ⟨Wd_blind G H.size M _, hrec, fun U hU hW => ⟨rfl, Wd_at hT hK hN hsz hS hP U hU hW⟩⟩
    have hfin : va_Run p l e R s m args below meth c H locs cells slots 0 0 (F0 m pc ls (st.map (tr G))) (r.map (tr G)) (Qy G H.size v M' (Value.ref (G.2.1 h) :: ((st.take n).reverse).map (tr G)).toArray) (Aset G H.size) := by
      have hroom : (rmD d).frames + 1 ≤ R.frames ∧ 8 + (q.2.2.1 + 11) + (rmD d).locals ≤ R.locals := ⟨by show d + 1 + 1 ≤ _; omega, by show 8 + (q.2.2.1 + 11) + (40 * d + 100) ≤ _; omega⟩
      have hws : ∀ w ∈ Cond.code q.1 q.2.1 q.2.2.1 q.2.2.2.1 :: gtbl, w ∈ gtbl := fun w hw => by
        rcases List.mem_cons.mp hw with h | h
        · rw [h]; exact y3
        · exact h
      cases nest with
      | false =>
        refine va_runV (As := ((st.take n).reverse).map (tr G)) (rest := r.map (tr G)) (C := q.1.cls) ⟨hx, hb, hml, hown, hts⟩ hM (cwV n hts (good_list hg (fun w hw => ?_)) rfl rfl rfl ⟨rfl, y7, y8, y9⟩ hroom) hp rfl hn2 hl.1.1 hst2 (lv_room (rk_sum 8 r hgu.2 G)) hd ⟨hcl, hsl⟩
        unfold wsV at hw
        rcases List.mem_append.mp hw with h | h
        · simp only [List.mem_cons, List.not_mem_nil, or_false] at h
          rcases h with h | h | h | h
          · rw [h]; exact hw1 rfl
          · rw [h]; exact y6a
          · rw [h]; exact y6b
          · rw [h]; exact y4
        · exact hws w h
      | true => exact va_runVN (As := ((st.take n).reverse).map (tr G)) (rest := r.map (tr G)) (C := q.1.cls) ⟨hx, hb, hml, hown, hts⟩ hM ⟨va_cnB n hts (good_list hg hws) rfl rfl rfl (hw2 rfl s hN) (hts _ (hg _ y4)) ⟨y7, y8, y9⟩ hroom, hts _ (hg _ y6a), hts _ (hg _ y6b)⟩ hp rfl hn2 hl.1.1 hst2 (lv_room (rk_sum 8 r hgu.2 G)) hd ⟨hcl, hsl⟩
    refine W_call hfin hS (sz_le hsz hS) (fun H1 locs1 hP1 hS1 => ?_)
    have hk := kk H1 locs1 ls hP1 hS1 hl
    dsimp only at hk
    rw [List.map_append, show v.toList.map (tr G) = (v.map (tr G)).toList by cases v <;> rfl] at hk
    exact hk
  · cases hs
set_option maxHeartbeats 1000000 in
theorem so_stat (C : Cx p l R s m args c sc oc cc nL G sz Ts d cells slots) (hcal : ∀ (y : Nat) (vs : List Value) (M : Mem) (v : Option Value) (M' : Mem), cal y vs M = some (v, M') → MetY d y vs M v M') (i : Nat) : Snd p l e R s m args below meth c cal sc oc cc ret nL G sz cells slots Q (.invokestatic i) := by
  obtain ⟨hx, hb, hml, hown, hts, hg, hK, hN, hT, hsz, hG, hX, hRf, hRl, hcl, hsl⟩ := C
  intro len pc lv st M z hd hs H locs ls hP hS hl kk
  replace hs : opK (rsM oc i) (fun e => (match (generalizing := false) e with
      | (1, y, n) => argK n st fun as r => guK (rk 8 r) (calK (cal y as M) fun v M' => if len = 3 then some (.inr (pc + 3, lv, v.toList ++ r, M')) else none)
      | (3, _, _) => pop2 st fun x y r => guK (rk 8 r) (if len = 3 then some (.inr (pc + 3, lv, .int (if x < y then y else x) :: r, M)) else none)
      | (4, _, _) => pop2 st fun x y r => guK (rk 8 r) (if len = 3 then some (.inr (pc + 3, lv, .int (if y < x then y else x) :: r, M)) else none)
      | (5, _, _) => pop2 st fun dp n r => popr r fun d r => pop1 r fun sp r => popr r fun a r => opK (arrN a) fun n0 => opK (arrN d) fun n1' => guK (decide (¬ sp < 0) && decide (¬ dp < 0) && decide (¬ n < 0) && decide (sp.toNatClampNeg + n.toNatClampNeg ≤ n0) && decide (dp.toNatClampNeg + n.toNatClampNeg ≤ n1') && rk 8 r)
          (if len = 3 then some (.inr (pc + 3, lv, r, mrow M d (va_cpy (M a) (M d) sp.toNatClampNeg dp.toNatClampNeg n.toNatClampNeg))) else none)
      | _ => none : So)) = some (.inr z) := hs
  obtain ⟨e', he, hs⟩ := opK_inv hs
  split at hs
  · next y n =>
    obtain ⟨hn, hs⟩ := argK_inv hs
    obtain ⟨hgu, hs⟩ := guK_inv hs
    obtain ⟨v, M', hc, hs⟩ := calK_inv hs
    obtain ⟨rfl, hz⟩ := len_inv hs
    cases hz
    obtain ⟨nest, pos, hok, hw1, hw2⟩ := rsM_inv he
    unfold okM at hok
    rw [Bool.and_eq_true] at hok
    have h2 := hok.2
    dsimp only at h2
    cases hq : mt[y]? with
    | none => rw [hq] at h2; cases h2
    | some q =>
      rw [hq] at h2
      replace h2 : (q.2.2.2.2.2.1 && decide (q.2.2.2.2.2.2.2.2.2.2 = n)) = true := h2
      rw [Bool.and_eq_true] at h2
      have hna : q.2.2.2.2.2.2.2.2.2.2 = n := of_decide_eq_true h2.2
      have hyM : yM (oc * 10000 + i, 1, y, n, nest, pos) = q.1 := by
        show ((mt[y]?).map (fun q => q.1)).getD arraycopyName = q.1
        rw [hq]
        rfl
      rw [hyM] at hw1 hw2
      obtain ⟨y1, y2, y3, y4, y5, -, y7, y8, y9, y10⟩ := okY_inv (List.mem_of_getElem? hq)
      have y5 := y5 h2.1
      rw [hna] at y9
      have hM := hcal _ _ _ _ _ hc q hq l G H.size hG
      have hst2 : st.map (tr G) = (((st.take n).reverse).map (tr G)).reverse ++ (st.drop n).map (tr G) := by
        rw [List.map_reverse, List.reverse_reverse, ← List.map_append, List.take_append_drop]
      have hn2 : (((st.take n).reverse).map (tr G)).length = n := by
        rw [List.length_map, List.length_reverse, List.length_take, Nat.min_eq_left hn]
      have hp : PreS s H (va_Pc (((st.take n).reverse).map (tr G)) (Wd G H.size M)) (((st.take n).reverse).map (tr G)) := ⟨Wd_blind G H.size M _, fun U hU hW => ⟨rfl, Wd_at hT hK hN hsz hS hP U hU hW⟩⟩
      have hfin : va_Run p l e R s m args below meth c H locs cells slots 0 0 (F0 m pc ls (st.map (tr G))) ((st.drop n).map (tr G)) (Qy G H.size v M' (((st.take n).reverse).map (tr G)).toArray) (Aset G H.size) := by
        have hroom : (rmD d).frames + 1 ≤ R.frames ∧ 8 + (q.2.2.1 + 11) + (rmD d).locals ≤ R.locals := ⟨by show d + 1 + 1 ≤ _; omega, by show 8 + (q.2.2.1 + 11) + (40 * d + 100) ≤ _; omega⟩
        have hws : ∀ w ∈ Cond.code q.1 q.2.1 q.2.2.1 q.2.2.2.1 :: gtbl, w ∈ gtbl := fun w hw => by
          rcases List.mem_cons.mp hw with h | h
          · rw [h]; exact y3
          · exact h
        cases nest with
        | false =>
          refine va_runS (As := ((st.take n).reverse).map (tr G)) (rest := (st.drop n).map (tr G)) ⟨hx, hb, hml, hown, hts⟩ hM (va_cwS n hts (good_list hg (fun w hw => ?_)) rfl rfl rfl ⟨y7, y8, y9⟩ hroom) hp rfl hn2 hl.1.1 hst2 (lv_room (rk_sum 8 _ hgu G)) hd ⟨hcl, hsl⟩
          unfold va_wsS at hw
          rcases List.mem_append.mp hw with h | h
          · simp only [List.mem_cons, List.not_mem_nil, or_false] at h
            rcases h with h | h | h
            · rw [h]; exact hw1 rfl
            · rw [h]; exact y5
            · rw [h]; exact y4
          · exact hws w h
        | true => exact va_runSN (As := ((st.take n).reverse).map (tr G)) (rest := (st.drop n).map (tr G)) ⟨hx, hb, hml, hown, hts⟩ hM ⟨va_cnB n hts (good_list hg hws) rfl rfl rfl (hw2 rfl s hN) (hts _ (hg _ y4)) ⟨y7, y8, y9⟩ hroom, hts _ (hg _ y5), trivial⟩ hp rfl hn2 hl.1.1 hst2 (lv_room (rk_sum 8 _ hgu G)) hd ⟨hcl, hsl⟩
      refine W_call hfin hS (sz_le hsz hS) (fun H1 locs1 hP1 hS1 => ?_)
      have hk := kk H1 locs1 ls hP1 hS1 hl
      dsimp only at hk
      rw [List.map_append, show v.toList.map (tr G) = (v.map (tr G)).toList by cases v <;> rfl] at hk
      exact hk
  · next a1 a2 =>
    obtain ⟨x, y, r, he9, hq9⟩ := pop2_inv hs
    clear hs
    subst he9
    have hs := hq9
    clear hq9
    obtain ⟨hgu, hs⟩ := guK_inv hs
    obtain ⟨rfl, hz⟩ := len_inv hs
    cases hz
    obtain ⟨nest, pos, hok, hw1, -⟩ := rsM_inv he
    unfold okM at hok
    rw [Bool.and_eq_true] at hok
    have hnest : nest = false := by cases nest with | false => rfl | true => cases hok.2
    have hsum := rk_sum 8 r hgu G
    exact va_mmax hx hb (hml.trans hl.1.1.symm) hown (hts _ (hg _ (hw1 hnest))) (hts _ (hg _ g_max.1)) (hts _ (hg _ g_max.2.1)) (hts _ (hg _ g_max.2.2)) (by omega) (by omega) hcl hsl hd (kk H locs ls hP hS hl)
  · next a1 a2 =>
    obtain ⟨x, y, r, he9, hq9⟩ := pop2_inv hs
    clear hs
    subst he9
    have hs := hq9
    clear hq9
    obtain ⟨hgu, hs⟩ := guK_inv hs
    obtain ⟨rfl, hz⟩ := len_inv hs
    cases hz
    obtain ⟨nest, pos, hok, hw1, -⟩ := rsM_inv he
    unfold okM at hok
    rw [Bool.and_eq_true] at hok
    have hnest : nest = false := by cases nest with | false => rfl | true => cases hok.2
    have hsum := rk_sum 8 r hgu G
    exact va_mmin hx hb (hml.trans hl.1.1.symm) hown (hts _ (hg _ (hw1 hnest))) (hts _ (hg _ g_min.1)) (hts _ (hg _ g_max.2.1)) (hts _ (hg _ g_min.2)) (by omega) (by omega) hcl hsl hd (kk H locs ls hP hS hl)
  · next a1 a2 =>
    obtain ⟨dp, n, r1, he9, hq9⟩ := pop2_inv hs
    clear hs
    subst he9
    have hs := hq9
    clear hq9
    obtain ⟨dh, r2, he9, hq9⟩ := popr_inv hs
    clear hs
    subst he9
    have hs := hq9
    clear hq9
    obtain ⟨sp, r3, he9, hq9⟩ := pop1_inv hs
    clear hs
    subst he9
    have hs := hq9
    clear hq9
    obtain ⟨ah, r, he9, hq9⟩ := popr_inv hs
    clear hs
    subst he9
    have hs := hq9
    clear hq9
    obtain ⟨n0, hn0, hs⟩ := opK_inv hs
    obtain ⟨n1, hn1, hs⟩ := opK_inv hs
    obtain ⟨hgu, hs⟩ := guK_inv hs
    obtain ⟨rfl, hz⟩ := len_inv hs
    cases hz
    simp only [Bool.and_eq_true] at hgu
    obtain ⟨⟨⟨⟨⟨b1, b2⟩, b3⟩, b4⟩, b5⟩, b6⟩ := hgu
    obtain ⟨nest, pos, hok, hw1, -⟩ := rsM_inv he
    unfold okM at hok
    rw [Bool.and_eq_true] at hok
    have hnest : nest = false := by cases nest with | false => rfl | true => cases hok.2
    have hsum := rk_sum 8 r b6 G
    have hnf := nfw
    have lay0 : ∀ {h n : Nat}, arrN h = some n → lay h = (0, [n]) := by
      intro h n hh
      unfold arrN at hh
      split at hh
      · next hlay => cases hh; exact hlay
      · cases hh
    have la := lay0 hn0
    have ld := lay0 hn1
    obtain ⟨q0, -, hq0⟩ := ws_at (G := G) (M := M) (hs_of la (by decide))
    obtain ⟨q1, hq9, hq1⟩ := ws_at (G := G) (M := M) (hs_of ld (by decide))
    rw [show cellOf G M ah = .inl (G.2.2.1 0, n0, .inl (M ah)) by unfold cellOf; rw [la] <;> rfl] at hq0
    rw [show cellOf G M dh = .inl (G.2.2.1 0, n1, .inl (M dh)) by unfold cellOf; rw [ld] <;> rfl] at hq1
    refine va_copyi hx hb (hml.trans hl.1.1.symm) hown (hts _ (hg _ (hw1 hnest))) (hts _ (hg _ g_copy.1)) (hts _ (hg _ g_copy.2.1)) (hts _ (hg _ g_copy.2.2)) hK hP (ws_D hG) hS q0 q1 0 0 (ty := .int) hq0 hq1 rfl rfl rfl (of_decide_eq_true b1) (of_decide_eq_true b2) (of_decide_eq_true b3) (of_decide_eq_true b4) (of_decide_eq_true b5) (fun _ _ => rfl) (by omega) (by omega) hd (fun H1 locs1 hP1 _ hS1 => ?_)
    rw [ws_set (M' := mrow M dh (va_cpy (M ah) (M dh) sp.toNatClampNeg dp.toNatClampNeg n.toNatClampNeg)) hq9 (by unfold cellOf; rw [ld, show mrow M dh (va_cpy (M ah) (M dh) sp.toNatClampNeg dp.toNatClampNeg n.toNatClampNeg) dh = va_cpy (M ah) (M dh) sp.toNatClampNeg dp.toNatClampNeg n.toNatClampNeg from if_pos rfl] <;> rfl) (fun j hj => by unfold mrow; rw [if_neg hj])] at hP1
    exact kk H1 locs1 ls hP1 hS1 hl
  · cases hs
end SNDC

