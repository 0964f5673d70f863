/-! the law, from its entry (the first eight rows and whole_start's head: the skeleton's) -/
def R_law : String := "FedHenLaw"
def lw_P (b : Addr) (xs : List Int32) (args : Array Value) (s : State) : Prop := args = #[.ref b] ∧ s.IntsAt b xs ∧ xs.length ≤ 3072 ∧ (Jvm.Cond.and given_1 narrow_1).before args s = true
def lw_Q (_ : Array Value) (s : State) (o : Outcome) (t : State) : Prop := o = .returned (some (.int 1)) ∧ Framed s o t [] 600000 7302250
def lw_Z (below : List Frame) (a : Array Value) (s : State) : State → Prop := fun t => ∃ o, t.status = .running ∧ Ended t below o ∧ lw_Q a s o t
/-- the law's own end, with 1 on the stack, nothing written that was there before, its room as the claim has it -/
theorem lw_ret {p : Program} {l : Launch} {e : Env} {s : State} {m : MethodId} {below : List Frame} {meth : Method} {c : Code} {b : Nat} (hx : p.tables.exec = Jvm.exec) (hb : c.code = code) (hr : meth.sig.returnType = ret) (hlocks : meth.locks = false) {pc : Nat} {H : Heap} {ls : Array Slot} (hdg : decode code pc = .ok (.ireturn, 1)) : W p l e room_1 s m #[Value.ref b] below meth c H [] 600000 7302250 (lw_Z below #[Value.ref b] s) (F0 m pc ls [.int 1]) := by
  intro T hT X
  obtain ⟨fs, hret, hrun, hended, hW, hframe⟩ := X.leave (v := some (.int 1)) (hlocks := hlocks) (fun h => by rw [hr] at h; cases h)
  have hmeth' : T.vm.method? m = some meth := X.method'
  refine ⟨T.setFrames fs, ?_, .returned (some (.int 1)), hrun, hended, rfl, ⟨_, rfl⟩, hW, hframe⟩
  jvm_step X.here [X.here.top, hx, hb, hdg, hmeth', hr, ret, narrow_b1]
  (try refine ⟨rfl, ?_⟩); (try refine ⟨rfl, ?_⟩)
  first | (intro acts; rw [hret _ acts rfl rfl rfl]) | rw [hret _ _ rfl rfl rfl]
  exact Steps.refl _
/-- what holds at the law's entry: the machine, the code, the tables' words (any of lw_tbl by 'hts w (by decide +kernel)'), the script of L ints xs at the cell b, what the Statement gives of the start (any of its parts by flat_of_before) -/
def lw_At (p : Program) (s : State) (m : MethodId) (meth : Method) (c : Code) (b L : Nat) (xs : Nat → Int32) : Prop :=
  p.tables.exec = Jvm.exec ∧ c.code = code ∧ meth.sig.returnType = ret ∧ c.maxLocals = 4 ∧ s.vm.findClass R_law = some m.cls ∧ (∀ w ∈ lw_tbl, w.before #[Value.ref b] s = true) ∧ va_X b L xs s s.heap ∧ b < s.heap.size ∧ meth.locks = false ∧ (Jvm.Cond.and given_1 narrow_1).before #[Value.ref b] s = true
set_option maxRecDepth 100000 in
theorem wl_L_7 : Cond.classLink RL 7 RX5 ∈ gtbl := g_mem (i := 140) (by decide +kernel) (by decide +kernel)
set_option maxRecDepth 100000 in
theorem wl_L_10 : Cond.classLink RL 10 RX6 ∈ gtbl := g_mem (i := 941) (by decide +kernel) (by decide +kernel)
set_option maxRecDepth 100000 in
theorem wml_L_9 : Cond.methodLink RL 9 yX5_init ∈ gtbl := g_mem (i := 142) (by decide +kernel) (by decide +kernel)
set_option maxRecDepth 100000 in
theorem wml_L_12 : Cond.methodLink RL 12 yX6_init ∈ gtbl := g_mem (i := 943) (by decide +kernel) (by decide +kernel)
set_option maxRecDepth 100000 in
theorem wi_X5 : Cond.instantiable RX5 12 ∈ gtbl := g_mem (i := 141) (by decide +kernel) (by decide +kernel)
set_option maxRecDepth 100000 in
theorem wn_X5 : Cond.initialized RX5 ∈ gtbl := g_mem (i := 126) (by decide +kernel) (by decide +kernel)
set_option maxRecDepth 100000 in
theorem wj_X5 : Cond.instanceMethod yX5_init ∈ gtbl := g_mem (i := 143) (by decide +kernel) (by decide +kernel)
set_option maxRecDepth 100000 in
theorem wc_X5 : Cond.code yX5_init cX5_init 2 none ∈ gtbl := g_mem (i := 144) rfl rfl
theorem bo_X5 : ∀ j, j < 12 → defaultValue (tyX5 j) = vp_V blX5 j := fun j hj => by rcases (show j = 0 ∨ j = 1 ∨ j = 2 ∨ j = 3 ∨ j = 4 ∨ j = 5 ∨ j = 6 ∨ j = 7 ∨ j = 8 ∨ j = 9 ∨ j = 10 ∨ j = 11 by omega) with rfl | rfl | rfl | rfl | rfl | rfl | rfl | rfl | rfl | rfl | rfl | rfl <;> rfl
set_option maxRecDepth 100000 in
theorem wi_X6 : Cond.instantiable RX6 31 ∈ gtbl := g_mem (i := 942) (by decide +kernel) (by decide +kernel)
set_option maxRecDepth 100000 in
theorem wn_X6 : Cond.initialized RX6 ∈ gtbl := g_mem (i := 131) (by decide +kernel) (by decide +kernel)
set_option maxRecDepth 100000 in
theorem wj_X6 : Cond.instanceMethod yX6_init ∈ gtbl := g_mem (i := 944) (by decide +kernel) (by decide +kernel)
set_option maxRecDepth 100000 in
theorem wc_X6 : Cond.code yX6_init cX6_init 2 none ∈ gtbl := g_mem (i := 945) rfl rfl
theorem bo_X6 : ∀ j, j < 31 → defaultValue (tyX6 j) = vp_V blX6 j := fun j hj => by rcases (show j = 0 ∨ j = 1 ∨ j = 2 ∨ j = 3 ∨ j = 4 ∨ j = 5 ∨ j = 6 ∨ j = 7 ∨ j = 8 ∨ j = 9 ∨ j = 10 ∨ j = 11 ∨ j = 12 ∨ j = 13 ∨ j = 14 ∨ j = 15 ∨ j = 16 ∨ j = 17 ∨ j = 18 ∨ j = 19 ∨ j = 20 ∨ j = 21 ∨ j = 22 ∨ j = 23 ∨ j = 24 ∨ j = 25 ∨ j = 26 ∨ j = 27 ∨ j = 28 ∨ j = 29 ∨ j = 30 by omega) with rfl | rfl | rfl | rfl | rfl | rfl | rfl | rfl | rfl | rfl | rfl | rfl | rfl | rfl | rfl | rfl | rfl | rfl | rfl | rfl | rfl | rfl | rfl | rfl | rfl | rfl | rfl | rfl | rfl | rfl | rfl <;> rfl
/-- from the loop's head: the two objects stand as their constructors leave them -/
theorem start_run {p : Program} {l : Launch} {e : Env} {s : State} {m : MethodId} {below : List Frame} {meth : Method} {c : Code} {b L : Nat} {xs : Nat → Int32} (hL : L ≤ 3072) (C0 : lw_At p s m meth c b L xs) {G : GT} {H : Heap} {locs : List Loc} {ls : Array Slot} {cells slots : Nat} (hK : va_K G.1 cls6 (tysG G) s) (hN : NW s) (hT : ST G (fun q => s.heap.size ≤ q) s s.heap) (hn : G.2.2.2 = .null ∨ ∃ t, G.2.2.2 = .ref t) (h198 : G.2.1 198 = b) (hP : va_P G.1 cls6 (wsO G M0) H) (hD : va_D (fun q => s.heap.size ≤ q) (wsO G M0)) (hS : va_S (fun q => s.heap.size ≤ q) s.heap H locs) (hl : lv_has ls 4 [(3, .int 0), (2, .ref (G.2.1 130)), (1, .ref (G.2.1 0)), (0, .ref (G.2.1 198))]) (hc : cells ≤ 600000) (hs : slots ≤ 7302250) : W p l e room_1 s m #[Value.ref b] below meth c H locs cells slots (lw_Z below #[Value.ref b] s) (F0 m 18 ls []) := by
  obtain ⟨hx, hb, hr, hml, hown, hts, hX, hbl, hlocks, hgv⟩ := C0
  have hg : ∀ w ∈ gtbl, w.before #[Value.ref b] s = true := fun w hw => hts w (List.mem_filter.mp hw).1
  have hG : GInj G := GI_of hD hn
  have hAe : (fun q : Nat => s.heap.size ≤ q) = Aset G s.heap.size := funext fun q => propext ⟨fun h => Or.inr h, fun h => by
    rcases h with ⟨k, hk, rfl⟩ | h
    · obtain ⟨i, -, hi⟩ := ws_at (G := G) (M := M0) hk
      exact hD.2 i _ hi
    · exact h⟩
  have hTA : ST G (Aset G s.heap.size) s s.heap := by rw [← hAe]; exact hT
  have hSA : va_S (Aset G s.heap.size) s.heap H locs := by rw [← hAe]; exact hS
  obtain ⟨M', hrun⟩ := law_go (L := L) (xs := xs) hL L 0 M0 (by omega) (by omega) J_0
  obtain ⟨n, hrn⟩ := lim_ex hrun
  have C : Cx p l room_1 s m #[Value.ref b] c (some (L, xs)) 7 cL_law 4 G s.heap.size gtbl 40 cells slots := ⟨hx, hb, hml, hown, hg, fun w hw => hw, hK, hN, hTA, rfl, hG, fun L' xs' h => by
    cases h
    rw [h198]
    refine ⟨hX, hbl, fun hq => ?_⟩
    rw [← hAe] at hq
    exact absurd hbl (Nat.not_lt.mpr hq), Nat.le_of_ble_eq_true rfl, Nat.le_of_ble_eq_true rfl, hc, hs⟩
  refine run_sound (ret := some .boolean) (rv := some (.int 1)) (M' := M') C (fun y vs M v M' h => call_sound 40 y vs M v M' h) ?_ n 18 (lvL 0) [] M0 hrn H locs ls hP hSA ?_
  · intro H' locs' ls' pc st hP' hS' hr'
    rcases hr' with ⟨x, rt, hd, rfl, -, -, hv⟩ | ⟨h9, -, -, h, -⟩ | ⟨-, -, h, -⟩
    · cases hv
      refine va_forget (fun q hq => ?_) (W.widen hc hs (lw_ret hx hb hr hlocks hd))
      have h := hS'.2.2 q hq
      rw [← hAe] at h
      exact h
    · cases h
    · cases h
  · refine ⟨⟨hl.1, hl.2.1, fun q hq => ?_⟩, rfl, fun j w h => ?_⟩
    · obtain ⟨w, h1, h2⟩ := prs_mem.mp hq
      obtain ⟨j, v⟩ := q
      dsimp only at h1 h2 ⊢
      subst h2
      rcases j with _ | _ | _ | _ | j
      · cases h1; exact lv_at hl 3 rfl
      · cases h1; exact lv_at hl 2 rfl
      · cases h1; exact lv_at hl 1 rfl
      · cases h1; exact lv_at hl 0 rfl
      · cases h1
    · rcases j with _ | _ | _ | _ | j
      · cases h; rfl
      · cases h; rfl
      · cases h; rfl
      · cases h; rfl
      · cases h
set_option maxHeartbeats 16000000 in
set_option maxRecDepth 100000 in
theorem whole_start {p : Program} {e : Env} {s : State} {m : MethodId} {below : List Frame} {meth : Method} {c : Code} (l : Launch) (hflags : l.flags = flags0) {b L : Nat} {xs : Nat → Int32} (hL : L ≤ 3072) (C0 : lw_At p s m meth c b L xs) : W p l e room_1 s m #[Value.ref b] below meth c s.heap [] 0 0 (lw_Z below #[Value.ref b] s) (entryFrame m ([Value.ref b] : List Value).toArray 4) := by
  obtain ⟨hx, hb, hr, hml, hown0, hts, hX, hbl, hlocks, hgv⟩ := id C0
  have hg : ∀ w ∈ gtbl, w.before #[Value.ref b] s = true := fun w hw => hts w (List.mem_filter.mp hw).1
  have hown : s.vm.findClass RL = some m.cls := hown0
  obtain ⟨D, iA, hK⟩ := k_of hg wi_X5 wi_X6
  obtain ⟨nl, st, ad, av, hnl, hSR, hST⟩ := st_of hts hgv
  have hN5 := nw5_of hts
  have hOT : va_AO "java/lang/String" s := va_AO.of (hts _ (List.mem_of_getElem? tb_oT))
  have hA : ∀ q : Nat, s.heap.size ≤ q → (fun q : Nat => s.heap.size ≤ q) q := fun _ h => h
  have hS : va_S (fun q : Nat => s.heap.size ≤ q) s.heap s.heap [] := va_S.rf
  have hP : va_P D cls6 [] s.heap := fun k q h => by simp at h
  have hD : va_D (fun q : Nat => s.heap.size ≤ q) [] := ⟨fun i j p q h => by simp at h, fun k q h => by simp at h⟩
  have hl := lv_entry ([.ref b]) (n := 4) (Nat.le_of_ble_eq_true rfl)
  rw [lg_entry_eq]
  generalize (lg_sl ([.ref b]) ++ List.replicate (4 - (lg_sl ([.ref b])).length) Slot.unset).toArray = ls at hl ⊢
  have hl : lv_has ls 4 [(0, .ref b)] := hl
  refine va_new (ci := 4) (fs := blX5) (C := RX5) (T := TX5) (N := 12) hx hb hg (cls_words (q := (RX5, TX5, 12)) (List.mem_of_getElem? (i := 4) rfl)) tyX5 tyX5_ok hown (hg _ wl_L_7) (hg _ wi_X5) (hg _ wn_X5) hK hP hD hS hA rfl bo_X5 (Nat.le_of_ble_eq_true rfl) (Nat.le_of_ble_eq_true rfl) dL_law_0 (fun h5 H hP hD hS => ?_)
  have hP : va_P D cls6 [(h5, .inr (4, blX5))] H := hP
  have hD : va_D (fun q : Nat => s.heap.size ≤ q) [(h5, .inr (4, blX5))] := hD
  refine lv_dup hx hb dL_law_3 rfl ?_
  have hFc := va_free (wc := [(h5, .inr (4, blX5))]) hD hS hA [0] rfl
  refine va_callv (va_runI (As := []) (rest := [.ref h5]) ⟨hx, hb, hml, hown, hg⟩ (c_X5_init l D iA h5 H.size) (cwI 0 hg (good_list (fun w hw => hw) (List.forall_mem_cons.mpr ⟨wc_X5, fun w hw => hw⟩)) rfl rfl rfl (hg _ wn_X5) (hg _ wml_L_9) (hg _ wj_X5) rfl ⟨by decide +kernel, by decide +kernel, by decide +kernel⟩ ⟨Nat.le_of_ble_eq_true rfl, Nat.le_of_ble_eq_true rfl⟩) ⟨fun a U g mk q => by obtain ⟨q0, q1, qP, qK, qD, qN⟩ := q; exact ⟨q0, q1, qP, va_K.moved (u := U) (U := U.calling g mk a) (Vm.Alike.refl U.vm) qK, qD, NW5.same (s := U) (U := U.calling g mk a) rfl qN⟩, fun U hU hW => ⟨rfl, by rw [hU], by rw [hU]; exact hP, va_K.moved hW.alike hK, hD.weaken (fun _ _ _ _ => trivial), NW5.warm hW hN5⟩⟩ rfl rfl hl.1 rfl (lv_room (Nat.le_of_ble_eq_true rfl)) dL_law_4 ⟨Nat.le_of_ble_eq_true rfl, Nat.le_of_ble_eq_true rfl⟩) hS (fun q _ h => hFc q h) hFc (fun u t H1 locs ht hvm hw hB hz1 hk1 hS => ?_)
  obtain ⟨u5, iB, iC⟩ := u
  obtain ⟨hP1, hK1, hD1⟩ := hB
  rw [ht] at hP1
  have hK := va_K.moved hvm.symm hK1
  obtain ⟨hP, hD⟩ := va_join (wr := []) (w1 := wdX5 iA iB iC h5 u5) hP hD [0] [] rfl rfl (by decide) (by decide) hk1 hFc hP1 hD1
  clear hP1 hK1 hD1 hFc hk1 hz1 ht
  generalize H1 = H at hP hS ⊢
  have hP : va_P D cls6 (wdX5 iA iB iC h5 u5) H := hP
  have hD : va_D (fun q : Nat => s.heap.size ≤ q) (wdX5 iA iB iC h5 u5) := hD
  have hK : va_K D cls6 [(iA, .int), (iB, .object "FedHen$Sheet"), (iC, .object "FedHen$Hen")] s := hK
  refine lv_astore_n (lv' := [(1, .ref h5), (0, .ref b)]) hx hb dL_law_7 rfl hl (by decide) rfl (fun ls hl => ?_)
  refine va_new (ci := 5) (fs := blX6) (C := RX6) (T := TX6) (N := 31) hx hb hg (cls_words (q := (RX6, TX6, 31)) (List.mem_of_getElem? (i := 5) rfl)) tyX6 tyX6_ok hown (hg _ wl_L_10) (hg _ wi_X6) (hg _ wn_X6) hK hP hD hS hA rfl bo_X6 (Nat.le_of_ble_eq_true rfl) (Nat.le_of_ble_eq_true rfl) dL_law_8 (fun h6 H hP hD hS => ?_)
  refine lv_dup hx hb dL_law_11 rfl ?_
  have hPc := hP.sub (ws' := [(h6, .inr (5, blX6))]) [102] rfl
  have hDc := hD.sub (ws' := [(h6, .inr (5, blX6))]) [102] (by decide) rfl
  have hKc := hK.sub (tys' := [(iA, .int)]) [0] rfl
  have hFc := va_free (wc := [(h6, .inr (5, blX6))]) hD hS hA [102] rfl
  refine va_callv (va_runI (As := []) (rest := [.ref h6]) ⟨hx, hb, hml, hown, hg⟩ (c_X6_init l D iA ad h6 H.size) (cwI 0 hg (good_list (fun w hw => hw) (List.forall_mem_cons.mpr ⟨wc_X6, fun w hw => hw⟩)) rfl rfl rfl (hg _ wn_X6) (hg _ wml_L_12) (hg _ wj_X6) rfl ⟨by decide +kernel, by decide +kernel, by decide +kernel⟩ ⟨Nat.le_of_ble_eq_true rfl, Nat.le_of_ble_eq_true rfl⟩) ⟨fun a U g mk q => by obtain ⟨q0, q1, qP, qK, qD, qO, qS⟩ := q; exact ⟨q0, q1, qP, va_K.moved (u := U) (U := U.calling g mk a) (Vm.Alike.refl U.vm) qK, qD, va_AO.moved (u := U) (U := U.calling g mk a) (Vm.Alike.refl U.vm) qO, SR6.same (s := U) (U := U.calling g mk a) rfl qS⟩, fun U hU hW => ⟨rfl, by rw [hU], by rw [hU]; exact hPc, va_K.moved hW.alike hKc, hDc.weaken (fun _ _ _ _ => trivial), va_AO.moved hW.alike hOT, by rw [hU]; exact SR6.go hSR hW hS.2.1 hFc⟩⟩ rfl rfl hl.1 rfl (lv_room (Nat.le_of_ble_eq_true rfl)) dL_law_12 ⟨Nat.le_of_ble_eq_true rfl, Nat.le_of_ble_eq_true rfl⟩) hS (fun q _ h => hFc q h) hFc (fun u t H1 locs ht hvm hw hB hz1 hk1 hS => ?_)
  obtain ⟨u6, iD⟩ := u
  obtain ⟨hP1, hK1, hD1⟩ := hB
  rw [ht] at hP1
  have hK6 := va_K.moved hvm.symm hK1
  obtain ⟨hP, hD⟩ := va_join (wr := wdX5 iA iB iC h5 u5) (w1 := wdX6 iA iD ad h6 u6) hP hD [102] [0, 1, 2, 3, 4, 5, 6, 7, 8, 9, 10, 11, 12, 13, 14, 15, 16, 17, 18, 19, 20, 21, 22, 23, 24, 25, 26, 27, 28, 29, 30, 31, 32, 33, 34, 35, 36, 37, 38, 39, 40, 41, 42, 43, 44, 45, 46, 47, 48, 49, 50, 51, 52, 53, 54, 55, 56, 57, 58, 59, 60, 61, 62, 63, 64, 65, 66, 67, 68, 69, 70, 71, 72, 73, 74, 75, 76, 77, 78, 79, 80, 81, 82, 83, 84, 85, 86, 87, 88, 89, 90, 91, 92, 93, 94, 95, 96, 97, 98, 99, 100, 101] rfl rfl (by decide) (by decide) hk1 hFc hP1 hD1
  clear hP1 hK1 hD1 hFc hk1 hz1 ht hPc hDc hKc
  generalize H1 = H at hP hS ⊢
  refine lv_astore_n (lv' := [(2, .ref h6), (1, .ref h5), (0, .ref b)]) hx hb dL_law_15 rfl hl (by decide) rfl (fun ls hl => ?_)
  refine lv_iconst (v := 0) hx hb dL_law_16 (by decide) ?_
  refine lv_istore_n (lv' := [(3, .int 0), (2, .ref h6), (1, .ref h5), (0, .ref b)]) hx hb dL_law_17 rfl hl (by decide) rfl (fun ls hl => ?_)
  have hKf := hK.app (hK6.sub (tys' := [(iD, .object "java/lang/String")]) [1] rfl)
  refine start_run (G := GG D iA iB iC iD nl h5 h6 b u5 u6 st ad av) hL C0 hKf (nw_of hts) (hST _ rfl (fun k hk => ?_) (fun i hi => ?_) (fun i hi => ?_)) hnl rfl (wd_P hP) (wd_D hD) hS hl (Nat.le_of_ble_eq_true rfl) (Nat.le_of_ble_eq_true rfl)
  · rcases (show k = 0 ∨ k = 1 ∨ k = 2 by omega) with rfl | rfl | rfl <;> rfl
  · rcases (show i = 0 ∨ i = 1 ∨ i = 2 ∨ i = 3 ∨ i = 4 ∨ i = 5 ∨ i = 6 ∨ i = 7 ∨ i = 8 ∨ i = 9 ∨ i = 10 ∨ i = 11 by omega) with rfl | rfl | rfl | rfl | rfl | rfl | rfl | rfl | rfl | rfl | rfl | rfl <;> rfl
  · rcases (show i = 0 ∨ i = 1 ∨ i = 2 ∨ i = 3 ∨ i = 4 ∨ i = 5 ∨ i = 6 ∨ i = 7 ∨ i = 8 ∨ i = 9 ∨ i = 10 ∨ i = 11 by omega) with rfl | rfl | rfl | rfl | rfl | rfl | rfl | rfl | rfl | rfl | rfl | rfl <;> rfl
