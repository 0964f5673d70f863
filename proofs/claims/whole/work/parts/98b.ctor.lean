/-! constructors: small rows -/
section KW
variable {p : Program} {l : Launch} {e : Env} {R : Room} {s : State} {m : MethodId} {args : Array Value} {below : List Frame} {meth : Method} {c : Code} {H : Heap} {locs : List Loc} {cells slots : Nat} {Q : State → Prop} {cc : ByteArray} {pc : Nat} {ls : Array Slot} {rest : List Value} {D : va_G} {tys : List (ClassId × FieldType)} {ws : va_W} {A : Nat → Prop} {H0 : Heap}
theorem w_put (hx : p.tables.exec = Jvm.exec) (hb : c.code = cc) (hg : ∀ w ∈ gtbl, w.before args s = true) {own : String} (hown : s.vm.findClass own = some m.cls) (hin : meth.name = "<init>") (hK : va_K D cls6 tys s) (hP : va_P D cls6 ws H) (hD : va_D A ws) (hS : va_S A H0 H locs) (q0 : Nat) {a : Nat} {ci index : Nat} {fs : List Value} (he : ws[q0]? = some (a, .inr (ci, fs))) {C : String} {T : u_T} {N : Nat} (hc : cls6[ci]? = some (C, T, N)) (k : Nat) (hk : k < N) (hw : (T k).1 = own ∧ Cond.fieldLink own index (T k).1 (T k).2.1 (T k).2.2.1 ∈ gtbl) {ty : FieldType} {v : Value} (hd : parseFieldDescriptor (T k).2.2.1 = some ty) (hn : narrow ty v = v) (hfit : fits ty v = true) (hl : k < fs.length) (hdg : decode cc pc = .ok (.putfield index, 3))
    (kk : ∀ (H1 : Heap) (locs1 : List Loc), va_P D cls6 (ws.set q0 (a, .inr (ci, fs.set k v))) H1 → va_D A (ws.set q0 (a, .inr (ci, fs.set k v))) → va_S A H0 H1 locs1 → W p l e R s m args below meth c H1 locs1 cells slots Q (F0 m (pc + 3) ls rest)) : W p l e R s m args below meth c H locs cells slots Q (F0 m pc ls (v :: .ref a :: rest)) := by
  obtain ⟨ty0, hty, hnm⟩ := cls_ty _ _ hc
  cases hf : (T k).2.2.2 with
  | false => exact va_put (C := C) (T := T) (N := N) hx hb hg (cls_words (List.mem_of_getElem? hc)) ty0 hty hnm hown hK hP hD hS q0 he hc k hk (hg _ hw.2) (fun _ h => h) hf hd hn hfit hl hdg kk
  | true => exact va_putF (C := C) (T := T) (N := N) hx hb hg (cls_words (List.mem_of_getElem? hc)) ty0 hty hnm hown hK hP hD hS q0 he hc k hk (hg _ hw.2) (fun _ h => h) hf hin hw.1 hd hn hfit hl hdg kk
theorem w_arC : Cond.arrayClass .int ∈ gtbl := g_mem (i := 222) (by decide +kernel) (by decide +kernel)
theorem w_newi (hx : p.tables.exec = Jvm.exec) (hb : c.code = cc) (hg : ∀ w ∈ gtbl, w.before args s = true) (hK : va_K D cls6 tys s) (t0 : Nat) {iA : ClassId} (ht : tys[t0]? = some (iA, .int)) (hP : va_P D cls6 ws H) (hD : va_D A ws) (hS : va_S A H0 H locs) (hA : ∀ q, H0.size ≤ q → A q) {n : Int32} (N : Nat) (hn : ¬ n < 0) (hN : n.toNatClampNeg = N) (hby : N * 4 ≤ 536870912) (hcells : cells + 1 ≤ R.cells) (hslots : slots + N ≤ R.slots) (hdg : decode cc pc = .ok (.newarray .int, 2))
    (kk : ∀ (q : Nat) (H1 : Heap), va_P D cls6 (ws ++ [(q, .inl (iA, N, .inl (fun _ => 0)))]) H1 → va_D A (ws ++ [(q, .inl (iA, N, .inl (fun _ => 0)))]) → va_S A H0 H1 locs → W p l e R s m args below meth c H1 locs (cells + 1) (slots + N) Q (F0 m (pc + 2) ls (.ref q :: rest))) : W p l e R s m args below meth c H locs cells slots Q (F0 m pc ls (.int n :: rest)) := by
  refine va_newa (atype := .int) hx hb (hg _ w_arC) (ty := .int) rfl hK hP hD hS hA (a0 := (N, .inl (fun _ => 0))) (fun _ => rfl) hn hN hby hcells hslots hdg (fun q cA H1 hK1 hP1 hD1 hS1 => ?_)
  have h1 := (hK1.2 tys.length (cA, .int) (by rw [List.getElem?_append_right (Nat.le_refl _), Nat.sub_self]; rfl)).2
  have h2 := (hK.2 t0 _ ht).2
  obtain rfl : cA = iA := Option.some.inj (h1.symm.trans h2)
  exact kk q H1 hP1 hD1 hS1
end KW
theorem w_oi : Cond.instanceMethod Lib.objectInit ∈ gtbl := g_mem (i := 146) (by decide +kernel) (by decide +kernel)
theorem w_oc : Cond.code Lib.objectInit ⟨#[0xb1]⟩ 1 none ∈ gtbl := g_mem (i := 147) (by decide +kernel) (by decide +kernel)

theorem wf_X3_0 : (TX3 0).1 = RX3 ∧ Cond.fieldLink RX3 9 (TX3 0).1 (TX3 0).2.1 (TX3 0).2.2.1 ∈ gtbl := ⟨rfl, g_mem (i := 299) (by decide +kernel) (by decide +kernel)⟩
theorem wf_X3_1 : (TX3 1).1 = RX3 ∧ Cond.fieldLink RX3 15 (TX3 1).1 (TX3 1).2.1 (TX3 1).2.2.1 ∈ gtbl := ⟨rfl, g_mem (i := 301) (by decide +kernel) (by decide +kernel)⟩
theorem wf_X3_2 : (TX3 2).1 = RX3 ∧ Cond.fieldLink RX3 18 (TX3 2).1 (TX3 2).2.1 (TX3 2).2.2.1 ∈ gtbl := ⟨rfl, g_mem (i := 303) (by decide +kernel) (by decide +kernel)⟩
theorem wm_X3 : Cond.methodLink RX3 3 Lib.objectInit ∈ gtbl := g_mem (i := 298) (by decide +kernel) (by decide +kernel)
abbrev blX3 : List Value := [.int 0, .int 0, .null]
abbrev wdX3 (iA : ClassId) (h0 : Nat) (u : Nat → Nat) : va_W := [(h0, .inr (2, [.int 0, .int 0, .ref (u 0)])), (u 0, .inl (iA, 40, .inl (fun _ => 0)))]
set_option maxHeartbeats 4000000 in
set_option maxRecDepth 100000 in
theorem c_X3_init (l : Launch) (D : va_G) (iA : ClassId) (h0 sz : Nat) : Met l yX3_init (.code yX3_init cX3_init 1 none :: gtbl) ({ frames := 1, cells := 1, slots := 40, locals := 12 }) (va_Pc [.ref h0] (fun U => U.heap.size = sz ∧ va_P D cls6 [(h0, .inr (2, blX3))] U.heap ∧ va_K D cls6 [(iA, .int)] U ∧ va_D (fun _ => True) [(h0, .inr (2, blX3))])) (va_Qv (fun _ : Nat → Nat => True) (fun u t => va_P D cls6 (wdX3 iA h0 u) t.heap ∧ va_D (va_A [(h0, .inr (2, blX3))] sz) (wdX3 iA h0 u)) (va_A [(h0, .inr (2, blX3))] sz)) 1 40 (va_A [(h0, .inr (2, blX3))] sz) := by
  refine Met.ofW (cc := cX3_init) (maxL := 1) (ret := none) (by decide) rfl ?_
  intro p e s m args below meth c s₁ B hml hv
  obtain ⟨rfl, hsz, hP, hK, hD0⟩ := hv
  have hx := B.exec
  have hb := B.bytes
  have hr := B.returns
  have hts := atoms_spec (ws := .code yX3_init cX3_init 1 none :: gtbl) B.pre
  have hg : ∀ w ∈ gtbl, w.before _ s = true := fun w hw => hts w (List.mem_cons_of_mem _ hw)
  have hown : s.vm.findClass RX3 = some m.cls := findClass_of_methodNamed B.named
  have hlocks := B.notSynchronized
  have hin : meth.name = "<init>" := (name_of_methodNamed B.named B.method).1
  subst hsz
  have hD := hD0.self (sz := s.heap.size)
  generalize hAe : va_A [(h0, .inr (2, blX3))] s.heap.size = A at hD ⊢
  have hA : ∀ q : Nat, s.heap.size ≤ q → A q := fun q h => by rw [← hAe]; exact Or.inr h
  have hS : va_S A s.heap s.heap [] := va_S.rf
  have hP : va_P D cls6 [(h0, .inr (2, [.int 0, .int 0, .null]))] s.heap := hP
  have hl := lv_entry ([.ref h0]) (n := 1) (Nat.le_of_ble_eq_true rfl)
  rw [lg_entry_eq]
  generalize (lg_sl ([.ref h0]) ++ List.replicate (1 - (lg_sl ([.ref h0])).length) Slot.unset).toArray = ls at hl ⊢
  have hl : lv_has ls 1 [(0, .ref h0)] := hl
  refine lv_aload_n hx hb dX3_init_0 rfl (lv_at hl 0 rfl) ?_
  refine W.objInit hx hb hown (hg _ wm_X3) (hg _ w_oi) (hg _ w_oc) rfl (by rw [hml]; exact hl.1) rfl dX3_init_1 (Nat.le_of_ble_eq_true rfl) (Nat.le_of_ble_eq_true rfl) ?_
  refine W.eq (g2 := F0 m 4 ls []) rfl ?_
  refine lv_aload_n hx hb dX3_init_4 rfl (lv_at hl 0 rfl) ?_
  refine lv_iconst (v := 0) hx hb dX3_init_5 (by decide) ?_
  refine w_put (ty := .int) hx hb hg hown hin hK hP hD hS 0 rfl (C := RX3) (T := TX3) (N := 3) rfl 0 (by decide) wf_X3_0 (by decide +kernel) rfl rfl (Nat.le_of_ble_eq_true rfl) dX3_init_6 (fun H locs hP hD hS => ?_)
  have hP : va_P D cls6 [(h0, .inr (2, [.int 0, .int 0, .null]))] H := hP
  have hD : va_D A [(h0, .inr (2, [.int 0, .int 0, .null]))] := hD
  refine lv_aload_n hx hb dX3_init_9 rfl (lv_at hl 0 rfl) ?_
  refine lv_iconst (v := 0) hx hb dX3_init_10 (by decide) ?_
  refine w_put (ty := .int) hx hb hg hown hin hK hP hD hS 0 rfl (C := RX3) (T := TX3) (N := 3) rfl 1 (by decide) wf_X3_1 (by decide +kernel) rfl rfl (Nat.le_of_ble_eq_true rfl) dX3_init_11 (fun H locs hP hD hS => ?_)
  have hP : va_P D cls6 [(h0, .inr (2, [.int 0, .int 0, .null]))] H := hP
  have hD : va_D A [(h0, .inr (2, [.int 0, .int 0, .null]))] := hD
  refine lv_aload_n hx hb dX3_init_14 rfl (lv_at hl 0 rfl) ?_
  refine lv_bipush (v := 40) hx hb dX3_init_15 (by decide) ?_
  refine w_newi hx hb hg hK 0 rfl hP hD hS hA 40 (by decide) (by decide) (Nat.le_of_ble_eq_true rfl) (Nat.le_of_ble_eq_true rfl) (Nat.le_of_ble_eq_true rfl) dX3_init_17 (fun q0 H hP hD hS => ?_)
  have hP : va_P D cls6 [(h0, .inr (2, [.int 0, .int 0, .null])), (q0, .inl (iA, 40, .inl (fun _ => 0)))] H := hP
  have hD : va_D A [(h0, .inr (2, [.int 0, .int 0, .null])), (q0, .inl (iA, 40, .inl (fun _ => 0)))] := hD
  refine w_put (ty := .array .int) hx hb hg hown hin hK hP hD hS 0 rfl (C := RX3) (T := TX3) (N := 3) rfl 2 (by decide) wf_X3_2 (by decide +kernel) rfl rfl (Nat.le_of_ble_eq_true rfl) dX3_init_19 (fun H locs hP hD hS => ?_)
  have hP : va_P D cls6 [(h0, .inr (2, [.int 0, .int 0, .ref q0])), (q0, .inl (iA, 40, .inl (fun _ => 0)))] H := hP
  have hD : va_D A [(h0, .inr (2, [.int 0, .int 0, .ref q0])), (q0, .inl (iA, 40, .inl (fun _ => 0)))] := hD
  exact W.vret hx hb hr (fun t ht hW => ⟨⟨fun i => match i with  | _ => q0, rfl, trivial, by rw [ht]; exact hP, hD⟩, hS.F ht⟩) hS.2.2 dX3_init_22
theorem wf_X1_0 : (TX1 0).1 = RX1 ∧ Cond.fieldLink RX1 9 (TX1 0).1 (TX1 0).2.1 (TX1 0).2.2.1 ∈ gtbl := ⟨rfl, g_mem (i := 160) (by decide +kernel) (by decide +kernel)⟩
theorem wf_X1_1 : (TX1 1).1 = RX1 ∧ Cond.fieldLink RX1 15 (TX1 1).1 (TX1 1).2.1 (TX1 1).2.2.1 ∈ gtbl := ⟨rfl, g_mem (i := 162) (by decide +kernel) (by decide +kernel)⟩
theorem wf_X1_2 : (TX1 2).1 = RX1 ∧ Cond.fieldLink RX1 19 (TX1 2).1 (TX1 2).2.1 (TX1 2).2.2.1 ∈ gtbl := ⟨rfl, g_mem (i := 164) (by decide +kernel) (by decide +kernel)⟩
theorem wf_X1_3 : (TX1 3).1 = RX1 ∧ Cond.fieldLink RX1 22 (TX1 3).1 (TX1 3).2.1 (TX1 3).2.2.1 ∈ gtbl := ⟨rfl, g_mem (i := 165) (by decide +kernel) (by decide +kernel)⟩
theorem wf_X1_4 : (TX1 4).1 = RX1 ∧ Cond.fieldLink RX1 25 (TX1 4).1 (TX1 4).2.1 (TX1 4).2.2.1 ∈ gtbl := ⟨rfl, g_mem (i := 167) (by decide +kernel) (by decide +kernel)⟩
theorem wf_X1_5 : (TX1 5).1 = RX1 ∧ Cond.fieldLink RX1 28 (TX1 5).1 (TX1 5).2.1 (TX1 5).2.2.1 ∈ gtbl := ⟨rfl, g_mem (i := 169) (by decide +kernel) (by decide +kernel)⟩
theorem wf_X1_6 : (TX1 6).1 = RX1 ∧ Cond.fieldLink RX1 31 (TX1 6).1 (TX1 6).2.1 (TX1 6).2.2.1 ∈ gtbl := ⟨rfl, g_mem (i := 171) (by decide +kernel) (by decide +kernel)⟩
theorem wf_X1_7 : (TX1 7).1 = RX1 ∧ Cond.fieldLink RX1 34 (TX1 7).1 (TX1 7).2.1 (TX1 7).2.2.1 ∈ gtbl := ⟨rfl, g_mem (i := 172) (by decide +kernel) (by decide +kernel)⟩
theorem wf_X1_8 : (TX1 8).1 = RX1 ∧ Cond.fieldLink RX1 37 (TX1 8).1 (TX1 8).2.1 (TX1 8).2.2.1 ∈ gtbl := ⟨rfl, g_mem (i := 173) (by decide +kernel) (by decide +kernel)⟩
theorem wf_X1_9 : (TX1 9).1 = RX1 ∧ Cond.fieldLink RX1 40 (TX1 9).1 (TX1 9).2.1 (TX1 9).2.2.1 ∈ gtbl := ⟨rfl, g_mem (i := 175) (by decide +kernel) (by decide +kernel)⟩
theorem wf_X1_10 : (TX1 10).1 = RX1 ∧ Cond.fieldLink RX1 43 (TX1 10).1 (TX1 10).2.1 (TX1 10).2.2.1 ∈ gtbl := ⟨rfl, g_mem (i := 177) (by decide +kernel) (by decide +kernel)⟩
theorem wf_X1_11 : (TX1 11).1 = RX1 ∧ Cond.fieldLink RX1 46 (TX1 11).1 (TX1 11).2.1 (TX1 11).2.2.1 ∈ gtbl := ⟨rfl, g_mem (i := 180) (by decide +kernel) (by decide +kernel)⟩
theorem wf_X1_12 : (TX1 12).1 = RX1 ∧ Cond.fieldLink RX1 49 (TX1 12).1 (TX1 12).2.1 (TX1 12).2.2.1 ∈ gtbl := ⟨rfl, g_mem (i := 183) (by decide +kernel) (by decide +kernel)⟩
theorem wf_X1_13 : (TX1 13).1 = RX1 ∧ Cond.fieldLink RX1 52 (TX1 13).1 (TX1 13).2.1 (TX1 13).2.2.1 ∈ gtbl := ⟨rfl, g_mem (i := 186) (by decide +kernel) (by decide +kernel)⟩
theorem wf_X1_14 : (TX1 14).1 = RX1 ∧ Cond.fieldLink RX1 55 (TX1 14).1 (TX1 14).2.1 (TX1 14).2.2.1 ∈ gtbl := ⟨rfl, g_mem (i := 189) (by decide +kernel) (by decide +kernel)⟩
theorem wm_X1 : Cond.methodLink RX1 3 Lib.objectInit ∈ gtbl := g_mem (i := 159) (by decide +kernel) (by decide +kernel)
abbrev blX1 : List Value := [.int 0, .null, .null, .null, .null, .null, .null, .null, .null, .int 0, .int 0, .int 0, .int 0, .int 0, .int 0]
abbrev wdX1 (iA : ClassId) (h0 : Nat) (u : Nat → Nat) : va_W := [(h0, .inr (1, [.int 0, .ref (u 0), .ref (u 1), .ref (u 2), .ref (u 3), .ref (u 4), .ref (u 5), .ref (u 6), .ref (u 7), .int 0, .int 12, .int 2, .int (-1), .int 0, .int 0])), (u 0, .inl (iA, 10, .inl (fun _ => 0))), (u 1, .inl (iA, 10, .inl (fun _ => 0))), (u 2, .inl (iA, 10, .inl (fun _ => 0))), (u 3, .inl (iA, 10, .inl (fun _ => 0))), (u 4, .inl (iA, 10, .inl (fun _ => 0))), (u 5, .inl (iA, 10, .inl (fun _ => 0))), (u 6, .inl (iA, 10, .inl (fun _ => 0))), (u 7, .inl (iA, 8, .inl (fun _ => 0)))]
set_option maxHeartbeats 4000000 in
set_option maxRecDepth 100000 in
theorem c_X1_init (l : Launch) (D : va_G) (iA : ClassId) (h0 sz : Nat) : Met l yX1_init (.code yX1_init cX1_init 1 none :: gtbl) ({ frames := 1, cells := 8, slots := 78, locals := 12 }) (va_Pc [.ref h0] (fun U => U.heap.size = sz ∧ va_P D cls6 [(h0, .inr (1, blX1))] U.heap ∧ va_K D cls6 [(iA, .int)] U ∧ va_D (fun _ => True) [(h0, .inr (1, blX1))])) (va_Qv (fun _ : Nat → Nat => True) (fun u t => va_P D cls6 (wdX1 iA h0 u) t.heap ∧ va_D (va_A [(h0, .inr (1, blX1))] sz) (wdX1 iA h0 u)) (va_A [(h0, .inr (1, blX1))] sz)) 8 78 (va_A [(h0, .inr (1, blX1))] sz) := by
  refine Met.ofW (cc := cX1_init) (maxL := 1) (ret := none) (by decide) rfl ?_
  intro p e s m args below meth c s₁ B hml hv
  obtain ⟨rfl, hsz, hP, hK, hD0⟩ := hv
  have hx := B.exec
  have hb := B.bytes
  have hr := B.returns
  have hts := atoms_spec (ws := .code yX1_init cX1_init 1 none :: gtbl) B.pre
  have hg : ∀ w ∈ gtbl, w.before _ s = true := fun w hw => hts w (List.mem_cons_of_mem _ hw)
  have hown : s.vm.findClass RX1 = some m.cls := findClass_of_methodNamed B.named
  have hlocks := B.notSynchronized
  have hin : meth.name = "<init>" := (name_of_methodNamed B.named B.method).1
  subst hsz
  have hD := hD0.self (sz := s.heap.size)
  generalize hAe : va_A [(h0, .inr (1, blX1))] s.heap.size = A at hD ⊢
  have hA : ∀ q : Nat, s.heap.size ≤ q → A q := fun q h => by rw [← hAe]; exact Or.inr h
  have hS : va_S A s.heap s.heap [] := va_S.rf
  have hP : va_P D cls6 [(h0, .inr (1, [.int 0, .null, .null, .null, .null, .null, .null, .null, .null, .int 0, .int 0, .int 0, .int 0, .int 0, .int 0]))] s.heap := hP
  have hl := lv_entry ([.ref h0]) (n := 1) (Nat.le_of_ble_eq_true rfl)
  rw [lg_entry_eq]
  generalize (lg_sl ([.ref h0]) ++ List.replicate (1 - (lg_sl ([.ref h0])).length) Slot.unset).toArray = ls at hl ⊢
  have hl : lv_has ls 1 [(0, .ref h0)] := hl
  refine lv_aload_n hx hb dX1_init_0 rfl (lv_at hl 0 rfl) ?_
  refine W.objInit hx hb hown (hg _ wm_X1) (hg _ w_oi) (hg _ w_oc) rfl (by rw [hml]; exact hl.1) rfl dX1_init_1 (Nat.le_of_ble_eq_true rfl) (Nat.le_of_ble_eq_true rfl) ?_
  refine W.eq (g2 := F0 m 4 ls []) rfl ?_
  refine lv_aload_n hx hb dX1_init_4 rfl (lv_at hl 0 rfl) ?_
  refine lv_iconst (v := 0) hx hb dX1_init_5 (by decide) ?_
  refine w_put (ty := .int) hx hb hg hown hin hK hP hD hS 0 rfl (C := RX1) (T := TX1) (N := 15) rfl 0 (by decide) wf_X1_0 (by decide +kernel) rfl rfl (Nat.le_of_ble_eq_true rfl) dX1_init_6 (fun H locs hP hD hS => ?_)
  have hP : va_P D cls6 [(h0, .inr (1, [.int 0, .null, .null, .null, .null, .null, .null, .null, .null, .int 0, .int 0, .int 0, .int 0, .int 0, .int 0]))] H := hP
  have hD : va_D A [(h0, .inr (1, [.int 0, .null, .null, .null, .null, .null, .null, .null, .null, .int 0, .int 0, .int 0, .int 0, .int 0, .int 0]))] := hD
  refine lv_aload_n hx hb dX1_init_9 rfl (lv_at hl 0 rfl) ?_
  refine lv_bipush (v := 10) hx hb dX1_init_10 (by decide) ?_
  refine w_newi hx hb hg hK 0 rfl hP hD hS hA 10 (by decide) (by decide) (Nat.le_of_ble_eq_true rfl) (Nat.le_of_ble_eq_true rfl) (Nat.le_of_ble_eq_true rfl) dX1_init_12 (fun q0 H hP hD hS => ?_)
  have hP : va_P D cls6 [(h0, .inr (1, [.int 0, .null, .null, .null, .null, .null, .null, .null, .null, .int 0, .int 0, .int 0, .int 0, .int 0, .int 0])), (q0, .inl (iA, 10, .inl (fun _ => 0)))] H := hP
  have hD : va_D A [(h0, .inr (1, [.int 0, .null, .null, .null, .null, .null, .null, .null, .null, .int 0, .int 0, .int 0, .int 0, .int 0, .int 0])), (q0, .inl (iA, 10, .inl (fun _ => 0)))] := hD
  refine w_put (ty := .array .int) hx hb hg hown hin hK hP hD hS 0 rfl (C := RX1) (T := TX1) (N := 15) rfl 1 (by decide) wf_X1_1 (by decide +kernel) rfl rfl (Nat.le_of_ble_eq_true rfl) dX1_init_14 (fun H locs hP hD hS => ?_)
  have hP : va_P D cls6 [(h0, .inr (1, [.int 0, .ref q0, .null, .null, .null, .null, .null, .null, .null, .int 0, .int 0, .int 0, .int 0, .int 0, .int 0])), (q0, .inl (iA, 10, .inl (fun _ => 0)))] H := hP
  have hD : va_D A [(h0, .inr (1, [.int 0, .ref q0, .null, .null, .null, .null, .null, .null, .null, .int 0, .int 0, .int 0, .int 0, .int 0, .int 0])), (q0, .inl (iA, 10, .inl (fun _ => 0)))] := hD
  refine lv_aload_n hx hb dX1_init_17 rfl (lv_at hl 0 rfl) ?_
  refine lv_bipush (v := 10) hx hb dX1_init_18 (by decide) ?_
  refine w_newi hx hb hg hK 0 rfl hP hD hS hA 10 (by decide) (by decide) (Nat.le_of_ble_eq_true rfl) (Nat.le_of_ble_eq_true rfl) (Nat.le_of_ble_eq_true rfl) dX1_init_20 (fun q1 H hP hD hS => ?_)
  have hP : va_P D cls6 [(h0, .inr (1, [.int 0, .ref q0, .null, .null, .null, .null, .null, .null, .null, .int 0, .int 0, .int 0, .int 0, .int 0, .int 0])), (q0, .inl (iA, 10, .inl (fun _ => 0))), (q1, .inl (iA, 10, .inl (fun _ => 0)))] H := hP
  have hD : va_D A [(h0, .inr (1, [.int 0, .ref q0, .null, .null, .null, .null, .null, .null, .null, .int 0, .int 0, .int 0, .int 0, .int 0, .int 0])), (q0, .inl (iA, 10, .inl (fun _ => 0))), (q1, .inl (iA, 10, .inl (fun _ => 0)))] := hD
  refine w_put (ty := .array .int) hx hb hg hown hin hK hP hD hS 0 rfl (C := RX1) (T := TX1) (N := 15) rfl 2 (by decide) wf_X1_2 (by decide +kernel) rfl rfl (Nat.le_of_ble_eq_true rfl) dX1_init_22 (fun H locs hP hD hS => ?_)
  have hP : va_P D cls6 [(h0, .inr (1, [.int 0, .ref q0, .ref q1, .null, .null, .null, .null, .null, .null, .int 0, .int 0, .int 0, .int 0, .int 0, .int 0])), (q0, .inl (iA, 10, .inl (fun _ => 0))), (q1, .inl (iA, 10, .inl (fun _ => 0)))] H := hP
  have hD : va_D A [(h0, .inr (1, [.int 0, .ref q0, .ref q1, .null, .null, .null, .null, .null, .null, .int 0, .int 0, .int 0, .int 0, .int 0, .int 0])), (q0, .inl (iA, 10, .inl (fun _ => 0))), (q1, .inl (iA, 10, .inl (fun _ => 0)))] := hD
  refine lv_aload_n hx hb dX1_init_25 rfl (lv_at hl 0 rfl) ?_
  refine lv_bipush (v := 10) hx hb dX1_init_26 (by decide) ?_
  refine w_newi hx hb hg hK 0 rfl hP hD hS hA 10 (by decide) (by decide) (Nat.le_of_ble_eq_true rfl) (Nat.le_of_ble_eq_true rfl) (Nat.le_of_ble_eq_true rfl) dX1_init_28 (fun q2 H hP hD hS => ?_)
  have hP : va_P D cls6 [(h0, .inr (1, [.int 0, .ref q0, .ref q1, .null, .null, .null, .null, .null, .null, .int 0, .int 0, .int 0, .int 0, .int 0, .int 0])), (q0, .inl (iA, 10, .inl (fun _ => 0))), (q1, .inl (iA, 10, .inl (fun _ => 0))), (q2, .inl (iA, 10, .inl (fun _ => 0)))] H := hP
  have hD : va_D A [(h0, .inr (1, [.int 0, .ref q0, .ref q1, .null, .null, .null, .null, .null, .null, .int 0, .int 0, .int 0, .int 0, .int 0, .int 0])), (q0, .inl (iA, 10, .inl (fun _ => 0))), (q1, .inl (iA, 10, .inl (fun _ => 0))), (q2, .inl (iA, 10, .inl (fun _ => 0)))] := hD
  refine w_put (ty := .array .int) hx hb hg hown hin hK hP hD hS 0 rfl (C := RX1) (T := TX1) (N := 15) rfl 3 (by decide) wf_X1_3 (by decide +kernel) rfl rfl (Nat.le_of_ble_eq_true rfl) dX1_init_30 (fun H locs hP hD hS => ?_)
  have hP : va_P D cls6 [(h0, .inr (1, [.int 0, .ref q0, .ref q1, .ref q2, .null, .null, .null, .null, .null, .int 0, .int 0, .int 0, .int 0, .int 0, .int 0])), (q0, .inl (iA, 10, .inl (fun _ => 0))), (q1, .inl (iA, 10, .inl (fun _ => 0))), (q2, .inl (iA, 10, .inl (fun _ => 0)))] H := hP
  have hD : va_D A [(h0, .inr (1, [.int 0, .ref q0, .ref q1, .ref q2, .null, .null, .null, .null, .null, .int 0, .int 0, .int 0, .int 0, .int 0, .int 0])), (q0, .inl (iA, 10, .inl (fun _ => 0))), (q1, .inl (iA, 10, .inl (fun _ => 0))), (q2, .inl (iA, 10, .inl (fun _ => 0)))] := hD
  refine lv_aload_n hx hb dX1_init_33 rfl (lv_at hl 0 rfl) ?_
  refine lv_bipush (v := 10) hx hb dX1_init_34 (by decide) ?_
  refine w_newi hx hb hg hK 0 rfl hP hD hS hA 10 (by decide) (by decide) (Nat.le_of_ble_eq_true rfl) (Nat.le_of_ble_eq_true rfl) (Nat.le_of_ble_eq_true rfl) dX1_init_36 (fun q3 H hP hD hS => ?_)
  have hP : va_P D cls6 [(h0, .inr (1, [.int 0, .ref q0, .ref q1, .ref q2, .null, .null, .null, .null, .null, .int 0, .int 0, .int 0, .int 0, .int 0, .int 0])), (q0, .inl (iA, 10, .inl (fun _ => 0))), (q1, .inl (iA, 10, .inl (fun _ => 0))), (q2, .inl (iA, 10, .inl (fun _ => 0))), (q3, .inl (iA, 10, .inl (fun _ => 0)))] H := hP
  have hD : va_D A [(h0, .inr (1, [.int 0, .ref q0, .ref q1, .ref q2, .null, .null, .null, .null, .null, .int 0, .int 0, .int 0, .int 0, .int 0, .int 0])), (q0, .inl (iA, 10, .inl (fun _ => 0))), (q1, .inl (iA, 10, .inl (fun _ => 0))), (q2, .inl (iA, 10, .inl (fun _ => 0))), (q3, .inl (iA, 10, .inl (fun _ => 0)))] := hD
  refine w_put (ty := .array .int) hx hb hg hown hin hK hP hD hS 0 rfl (C := RX1) (T := TX1) (N := 15) rfl 4 (by decide) wf_X1_4 (by decide +kernel) rfl rfl (Nat.le_of_ble_eq_true rfl) dX1_init_38 (fun H locs hP hD hS => ?_)
  have hP : va_P D cls6 [(h0, .inr (1, [.int 0, .ref q0, .ref q1, .ref q2, .ref q3, .null, .null, .null, .null, .int 0, .int 0, .int 0, .int 0, .int 0, .int 0])), (q0, .inl (iA, 10, .inl (fun _ => 0))), (q1, .inl (iA, 10, .inl (fun _ => 0))), (q2, .inl (iA, 10, .inl (fun _ => 0))), (q3, .inl (iA, 10, .inl (fun _ => 0)))] H := hP
  have hD : va_D A [(h0, .inr (1, [.int 0, .ref q0, .ref q1, .ref q2, .ref q3, .null, .null, .null, .null, .int 0, .int 0, .int 0, .int 0, .int 0, .int 0])), (q0, .inl (iA, 10, .inl (fun _ => 0))), (q1, .inl (iA, 10, .inl (fun _ => 0))), (q2, .inl (iA, 10, .inl (fun _ => 0))), (q3, .inl (iA, 10, .inl (fun _ => 0)))] := hD
  refine lv_aload_n hx hb dX1_init_41 rfl (lv_at hl 0 rfl) ?_
  refine lv_bipush (v := 10) hx hb dX1_init_42 (by decide) ?_
  refine w_newi hx hb hg hK 0 rfl hP hD hS hA 10 (by decide) (by decide) (Nat.le_of_ble_eq_true rfl) (Nat.le_of_ble_eq_true rfl) (Nat.le_of_ble_eq_true rfl) dX1_init_44 (fun q4 H hP hD hS => ?_)
  have hP : va_P D cls6 [(h0, .inr (1, [.int 0, .ref q0, .ref q1, .ref q2, .ref q3, .null, .null, .null, .null, .int 0, .int 0, .int 0, .int 0, .int 0, .int 0])), (q0, .inl (iA, 10, .inl (fun _ => 0))), (q1, .inl (iA, 10, .inl (fun _ => 0))), (q2, .inl (iA, 10, .inl (fun _ => 0))), (q3, .inl (iA, 10, .inl (fun _ => 0))), (q4, .inl (iA, 10, .inl (fun _ => 0)))] H := hP
  have hD : va_D A [(h0, .inr (1, [.int 0, .ref q0, .ref q1, .ref q2, .ref q3, .null, .null, .null, .null, .int 0, .int 0, .int 0, .int 0, .int 0, .int 0])), (q0, .inl (iA, 10, .inl (fun _ => 0))), (q1, .inl (iA, 10, .inl (fun _ => 0))), (q2, .inl (iA, 10, .inl (fun _ => 0))), (q3, .inl (iA, 10, .inl (fun _ => 0))), (q4, .inl (iA, 10, .inl (fun _ => 0)))] := hD
  refine w_put (ty := .array .int) hx hb hg hown hin hK hP hD hS 0 rfl (C := RX1) (T := TX1) (N := 15) rfl 5 (by decide) wf_X1_5 (by decide +kernel) rfl rfl (Nat.le_of_ble_eq_true rfl) dX1_init_46 (fun H locs hP hD hS => ?_)
  have hP : va_P D cls6 [(h0, .inr (1, [.int 0, .ref q0, .ref q1, .ref q2, .ref q3, .ref q4, .null, .null, .null, .int 0, .int 0, .int 0, .int 0, .int 0, .int 0])), (q0, .inl (iA, 10, .inl (fun _ => 0))), (q1, .inl (iA, 10, .inl (fun _ => 0))), (q2, .inl (iA, 10, .inl (fun _ => 0))), (q3, .inl (iA, 10, .inl (fun _ => 0))), (q4, .inl (iA, 10, .inl (fun _ => 0)))] H := hP
  have hD : va_D A [(h0, .inr (1, [.int 0, .ref q0, .ref q1, .ref q2, .ref q3, .ref q4, .null, .null, .null, .int 0, .int 0, .int 0, .int 0, .int 0, .int 0])), (q0, .inl (iA, 10, .inl (fun _ => 0))), (q1, .inl (iA, 10, .inl (fun _ => 0))), (q2, .inl (iA, 10, .inl (fun _ => 0))), (q3, .inl (iA, 10, .inl (fun _ => 0))), (q4, .inl (iA, 10, .inl (fun _ => 0)))] := hD
  refine lv_aload_n hx hb dX1_init_49 rfl (lv_at hl 0 rfl) ?_
  refine lv_bipush (v := 10) hx hb dX1_init_50 (by decide) ?_
  refine w_newi hx hb hg hK 0 rfl hP hD hS hA 10 (by decide) (by decide) (Nat.le_of_ble_eq_true rfl) (Nat.le_of_ble_eq_true rfl) (Nat.le_of_ble_eq_true rfl) dX1_init_52 (fun q5 H hP hD hS => ?_)
  have hP : va_P D cls6 [(h0, .inr (1, [.int 0, .ref q0, .ref q1, .ref q2, .ref q3, .ref q4, .null, .null, .null, .int 0, .int 0, .int 0, .int 0, .int 0, .int 0])), (q0, .inl (iA, 10, .inl (fun _ => 0))), (q1, .inl (iA, 10, .inl (fun _ => 0))), (q2, .inl (iA, 10, .inl (fun _ => 0))), (q3, .inl (iA, 10, .inl (fun _ => 0))), (q4, .inl (iA, 10, .inl (fun _ => 0))), (q5, .inl (iA, 10, .inl (fun _ => 0)))] H := hP
  have hD : va_D A [(h0, .inr (1, [.int 0, .ref q0, .ref q1, .ref q2, .ref q3, .ref q4, .null, .null, .null, .int 0, .int 0, .int 0, .int 0, .int 0, .int 0])), (q0, .inl (iA, 10, .inl (fun _ => 0))), (q1, .inl (iA, 10, .inl (fun _ => 0))), (q2, .inl (iA, 10, .inl (fun _ => 0))), (q3, .inl (iA, 10, .inl (fun _ => 0))), (q4, .inl (iA, 10, .inl (fun _ => 0))), (q5, .inl (iA, 10, .inl (fun _ => 0)))] := hD
  refine w_put (ty := .array .int) hx hb hg hown hin hK hP hD hS 0 rfl (C := RX1) (T := TX1) (N := 15) rfl 6 (by decide) wf_X1_6 (by decide +kernel) rfl rfl (Nat.le_of_ble_eq_true rfl) dX1_init_54 (fun H locs hP hD hS => ?_)
  have hP : va_P D cls6 [(h0, .inr (1, [.int 0, .ref q0, .ref q1, .ref q2, .ref q3, .ref q4, .ref q5, .null, .null, .int 0, .int 0, .int 0, .int 0, .int 0, .int 0])), (q0, .inl (iA, 10, .inl (fun _ => 0))), (q1, .inl (iA, 10, .inl (fun _ => 0))), (q2, .inl (iA, 10, .inl (fun _ => 0))), (q3, .inl (iA, 10, .inl (fun _ => 0))), (q4, .inl (iA, 10, .inl (fun _ => 0))), (q5, .inl (iA, 10, .inl (fun _ => 0)))] H := hP
  have hD : va_D A [(h0, .inr (1, [.int 0, .ref q0, .ref q1, .ref q2, .ref q3, .ref q4, .ref q5, .null, .null, .int 0, .int 0, .int 0, .int 0, .int 0, .int 0])), (q0, .inl (iA, 10, .inl (fun _ => 0))), (q1, .inl (iA, 10, .inl (fun _ => 0))), (q2, .inl (iA, 10, .inl (fun _ => 0))), (q3, .inl (iA, 10, .inl (fun _ => 0))), (q4, .inl (iA, 10, .inl (fun _ => 0))), (q5, .inl (iA, 10, .inl (fun _ => 0)))] := hD
  refine lv_aload_n hx hb dX1_init_57 rfl (lv_at hl 0 rfl) ?_
  refine lv_bipush (v := 10) hx hb dX1_init_58 (by decide) ?_
  refine w_newi hx hb hg hK 0 rfl hP hD hS hA 10 (by decide) (by decide) (Nat.le_of_ble_eq_true rfl) (Nat.le_of_ble_eq_true rfl) (Nat.le_of_ble_eq_true rfl) dX1_init_60 (fun q6 H hP hD hS => ?_)
  have hP : va_P D cls6 [(h0, .inr (1, [.int 0, .ref q0, .ref q1, .ref q2, .ref q3, .ref q4, .ref q5, .null, .null, .int 0, .int 0, .int 0, .int 0, .int 0, .int 0])), (q0, .inl (iA, 10, .inl (fun _ => 0))), (q1, .inl (iA, 10, .inl (fun _ => 0))), (q2, .inl (iA, 10, .inl (fun _ => 0))), (q3, .inl (iA, 10, .inl (fun _ => 0))), (q4, .inl (iA, 10, .inl (fun _ => 0))), (q5, .inl (iA, 10, .inl (fun _ => 0))), (q6, .inl (iA, 10, .inl (fun _ => 0)))] H := hP
  have hD : va_D A [(h0, .inr (1, [.int 0, .ref q0, .ref q1, .ref q2, .ref q3, .ref q4, .ref q5, .null, .null, .int 0, .int 0, .int 0, .int 0, .int 0, .int 0])), (q0, .inl (iA, 10, .inl (fun _ => 0))), (q1, .inl (iA, 10, .inl (fun _ => 0))), (q2, .inl (iA, 10, .inl (fun _ => 0))), (q3, .inl (iA, 10, .inl (fun _ => 0))), (q4, .inl (iA, 10, .inl (fun _ => 0))), (q5, .inl (iA, 10, .inl (fun _ => 0))), (q6, .inl (iA, 10, .inl (fun _ => 0)))] := hD
  refine w_put (ty := .array .int) hx hb hg hown hin hK hP hD hS 0 rfl (C := RX1) (T := TX1) (N := 15) rfl 7 (by decide) wf_X1_7 (by decide +kernel) rfl rfl (Nat.le_of_ble_eq_true rfl) dX1_init_62 (fun H locs hP hD hS => ?_)
  have hP : va_P D cls6 [(h0, .inr (1, [.int 0, .ref q0, .ref q1, .ref q2, .ref q3, .ref q4, .ref q5, .ref q6, .null, .int 0, .int 0, .int 0, .int 0, .int 0, .int 0])), (q0, .inl (iA, 10, .inl (fun _ => 0))), (q1, .inl (iA, 10, .inl (fun _ => 0))), (q2, .inl (iA, 10, .inl (fun _ => 0))), (q3, .inl (iA, 10, .inl (fun _ => 0))), (q4, .inl (iA, 10, .inl (fun _ => 0))), (q5, .inl (iA, 10, .inl (fun _ => 0))), (q6, .inl (iA, 10, .inl (fun _ => 0)))] H := hP
  have hD : va_D A [(h0, .inr (1, [.int 0, .ref q0, .ref q1, .ref q2, .ref q3, .ref q4, .ref q5, .ref q6, .null, .int 0, .int 0, .int 0, .int 0, .int 0, .int 0])), (q0, .inl (iA, 10, .inl (fun _ => 0))), (q1, .inl (iA, 10, .inl (fun _ => 0))), (q2, .inl (iA, 10, .inl (fun _ => 0))), (q3, .inl (iA, 10, .inl (fun _ => 0))), (q4, .inl (iA, 10, .inl (fun _ => 0))), (q5, .inl (iA, 10, .inl (fun _ => 0))), (q6, .inl (iA, 10, .inl (fun _ => 0)))] := hD
  refine lv_aload_n hx hb dX1_init_65 rfl (lv_at hl 0 rfl) ?_
  refine lv_bipush (v := 8) hx hb dX1_init_66 (by decide) ?_
  refine w_newi hx hb hg hK 0 rfl hP hD hS hA 8 (by decide) (by decide) (Nat.le_of_ble_eq_true rfl) (Nat.le_of_ble_eq_true rfl) (Nat.le_of_ble_eq_true rfl) dX1_init_68 (fun q7 H hP hD hS => ?_)
  have hP : va_P D cls6 [(h0, .inr (1, [.int 0, .ref q0, .ref q1, .ref q2, .ref q3, .ref q4, .ref q5, .ref q6, .null, .int 0, .int 0, .int 0, .int 0, .int 0, .int 0])), (q0, .inl (iA, 10, .inl (fun _ => 0))), (q1, .inl (iA, 10, .inl (fun _ => 0))), (q2, .inl (iA, 10, .inl (fun _ => 0))), (q3, .inl (iA, 10, .inl (fun _ => 0))), (q4, .inl (iA, 10, .inl (fun _ => 0))), (q5, .inl (iA, 10, .inl (fun _ => 0))), (q6, .inl (iA, 10, .inl (fun _ => 0))), (q7, .inl (iA, 8, .inl (fun _ => 0)))] H := hP
  have hD : va_D A [(h0, .inr (1, [.int 0, .ref q0, .ref q1, .ref q2, .ref q3, .ref q4, .ref q5, .ref q6, .null, .int 0, .int 0, .int 0, .int 0, .int 0, .int 0])), (q0, .inl (iA, 10, .inl (fun _ => 0))), (q1, .inl (iA, 10, .inl (fun _ => 0))), (q2, .inl (iA, 10, .inl (fun _ => 0))), (q3, .inl (iA, 10, .inl (fun _ => 0))), (q4, .inl (iA, 10, .inl (fun _ => 0))), (q5, .inl (iA, 10, .inl (fun _ => 0))), (q6, .inl (iA, 10, .inl (fun _ => 0))), (q7, .inl (iA, 8, .inl (fun _ => 0)))] := hD
  refine w_put (ty := .array .int) hx hb hg hown hin hK hP hD hS 0 rfl (C := RX1) (T := TX1) (N := 15) rfl 8 (by decide) wf_X1_8 (by decide +kernel) rfl rfl (Nat.le_of_ble_eq_true rfl) dX1_init_70 (fun H locs hP hD hS => ?_)
  have hP : va_P D cls6 [(h0, .inr (1, [.int 0, .ref q0, .ref q1, .ref q2, .ref q3, .ref q4, .ref q5, .ref q6, .ref q7, .int 0, .int 0, .int 0, .int 0, .int 0, .int 0])), (q0, .inl (iA, 10, .inl (fun _ => 0))), (q1, .inl (iA, 10, .inl (fun _ => 0))), (q2, .inl (iA, 10, .inl (fun _ => 0))), (q3, .inl (iA, 10, .inl (fun _ => 0))), (q4, .inl (iA, 10, .inl (fun _ => 0))), (q5, .inl (iA, 10, .inl (fun _ => 0))), (q6, .inl (iA, 10, .inl (fun _ => 0))), (q7, .inl (iA, 8, .inl (fun _ => 0)))] H := hP
  have hD : va_D A [(h0, .inr (1, [.int 0, .ref q0, .ref q1, .ref q2, .ref q3, .ref q4, .ref q5, .ref q6, .ref q7, .int 0, .int 0, .int 0, .int 0, .int 0, .int 0])), (q0, .inl (iA, 10, .inl (fun _ => 0))), (q1, .inl (iA, 10, .inl (fun _ => 0))), (q2, .inl (iA, 10, .inl (fun _ => 0))), (q3, .inl (iA, 10, .inl (fun _ => 0))), (q4, .inl (iA, 10, .inl (fun _ => 0))), (q5, .inl (iA, 10, .inl (fun _ => 0))), (q6, .inl (iA, 10, .inl (fun _ => 0))), (q7, .inl (iA, 8, .inl (fun _ => 0)))] := hD
  refine lv_aload_n hx hb dX1_init_73 rfl (lv_at hl 0 rfl) ?_
  refine lv_iconst (v := 0) hx hb dX1_init_74 (by decide) ?_
  refine w_put (ty := .int) hx hb hg hown hin hK hP hD hS 0 rfl (C := RX1) (T := TX1) (N := 15) rfl 9 (by decide) wf_X1_9 (by decide +kernel) rfl rfl (Nat.le_of_ble_eq_true rfl) dX1_init_75 (fun H locs hP hD hS => ?_)
  have hP : va_P D cls6 [(h0, .inr (1, [.int 0, .ref q0, .ref q1, .ref q2, .ref q3, .ref q4, .ref q5, .ref q6, .ref q7, .int 0, .int 0, .int 0, .int 0, .int 0, .int 0])), (q0, .inl (iA, 10, .inl (fun _ => 0))), (q1, .inl (iA, 10, .inl (fun _ => 0))), (q2, .inl (iA, 10, .inl (fun _ => 0))), (q3, .inl (iA, 10, .inl (fun _ => 0))), (q4, .inl (iA, 10, .inl (fun _ => 0))), (q5, .inl (iA, 10, .inl (fun _ => 0))), (q6, .inl (iA, 10, .inl (fun _ => 0))), (q7, .inl (iA, 8, .inl (fun _ => 0)))] H := hP
  have hD : va_D A [(h0, .inr (1, [.int 0, .ref q0, .ref q1, .ref q2, .ref q3, .ref q4, .ref q5, .ref q6, .ref q7, .int 0, .int 0, .int 0, .int 0, .int 0, .int 0])), (q0, .inl (iA, 10, .inl (fun _ => 0))), (q1, .inl (iA, 10, .inl (fun _ => 0))), (q2, .inl (iA, 10, .inl (fun _ => 0))), (q3, .inl (iA, 10, .inl (fun _ => 0))), (q4, .inl (iA, 10, .inl (fun _ => 0))), (q5, .inl (iA, 10, .inl (fun _ => 0))), (q6, .inl (iA, 10, .inl (fun _ => 0))), (q7, .inl (iA, 8, .inl (fun _ => 0)))] := hD
  refine lv_aload_n hx hb dX1_init_78 rfl (lv_at hl 0 rfl) ?_
  refine lv_bipush (v := 12) hx hb dX1_init_79 (by decide) ?_
  refine w_put (ty := .int) hx hb hg hown hin hK hP hD hS 0 rfl (C := RX1) (T := TX1) (N := 15) rfl 10 (by decide) wf_X1_10 (by decide +kernel) rfl rfl (Nat.le_of_ble_eq_true rfl) dX1_init_81 (fun H locs hP hD hS => ?_)
  have hP : va_P D cls6 [(h0, .inr (1, [.int 0, .ref q0, .ref q1, .ref q2, .ref q3, .ref q4, .ref q5, .ref q6, .ref q7, .int 0, .int 12, .int 0, .int 0, .int 0, .int 0])), (q0, .inl (iA, 10, .inl (fun _ => 0))), (q1, .inl (iA, 10, .inl (fun _ => 0))), (q2, .inl (iA, 10, .inl (fun _ => 0))), (q3, .inl (iA, 10, .inl (fun _ => 0))), (q4, .inl (iA, 10, .inl (fun _ => 0))), (q5, .inl (iA, 10, .inl (fun _ => 0))), (q6, .inl (iA, 10, .inl (fun _ => 0))), (q7, .inl (iA, 8, .inl (fun _ => 0)))] H := hP
  have hD : va_D A [(h0, .inr (1, [.int 0, .ref q0, .ref q1, .ref q2, .ref q3, .ref q4, .ref q5, .ref q6, .ref q7, .int 0, .int 12, .int 0, .int 0, .int 0, .int 0])), (q0, .inl (iA, 10, .inl (fun _ => 0))), (q1, .inl (iA, 10, .inl (fun _ => 0))), (q2, .inl (iA, 10, .inl (fun _ => 0))), (q3, .inl (iA, 10, .inl (fun _ => 0))), (q4, .inl (iA, 10, .inl (fun _ => 0))), (q5, .inl (iA, 10, .inl (fun _ => 0))), (q6, .inl (iA, 10, .inl (fun _ => 0))), (q7, .inl (iA, 8, .inl (fun _ => 0)))] := hD
  refine lv_aload_n hx hb dX1_init_84 rfl (lv_at hl 0 rfl) ?_
  refine lv_iconst (v := 2) hx hb dX1_init_85 (by decide) ?_
  refine w_put (ty := .int) hx hb hg hown hin hK hP hD hS 0 rfl (C := RX1) (T := TX1) (N := 15) rfl 11 (by decide) wf_X1_11 (by decide +kernel) rfl rfl (Nat.le_of_ble_eq_true rfl) dX1_init_86 (fun H locs hP hD hS => ?_)
  have hP : va_P D cls6 [(h0, .inr (1, [.int 0, .ref q0, .ref q1, .ref q2, .ref q3, .ref q4, .ref q5, .ref q6, .ref q7, .int 0, .int 12, .int 2, .int 0, .int 0, .int 0])), (q0, .inl (iA, 10, .inl (fun _ => 0))), (q1, .inl (iA, 10, .inl (fun _ => 0))), (q2, .inl (iA, 10, .inl (fun _ => 0))), (q3, .inl (iA, 10, .inl (fun _ => 0))), (q4, .inl (iA, 10, .inl (fun _ => 0))), (q5, .inl (iA, 10, .inl (fun _ => 0))), (q6, .inl (iA, 10, .inl (fun _ => 0))), (q7, .inl (iA, 8, .inl (fun _ => 0)))] H := hP
  have hD : va_D A [(h0, .inr (1, [.int 0, .ref q0, .ref q1, .ref q2, .ref q3, .ref q4, .ref q5, .ref q6, .ref q7, .int 0, .int 12, .int 2, .int 0, .int 0, .int 0])), (q0, .inl (iA, 10, .inl (fun _ => 0))), (q1, .inl (iA, 10, .inl (fun _ => 0))), (q2, .inl (iA, 10, .inl (fun _ => 0))), (q3, .inl (iA, 10, .inl (fun _ => 0))), (q4, .inl (iA, 10, .inl (fun _ => 0))), (q5, .inl (iA, 10, .inl (fun _ => 0))), (q6, .inl (iA, 10, .inl (fun _ => 0))), (q7, .inl (iA, 8, .inl (fun _ => 0)))] := hD
  refine lv_aload_n hx hb dX1_init_89 rfl (lv_at hl 0 rfl) ?_
  refine lv_iconst (v := -1) hx hb dX1_init_90 (by decide) ?_
  refine w_put (ty := .int) hx hb hg hown hin hK hP hD hS 0 rfl (C := RX1) (T := TX1) (N := 15) rfl 12 (by decide) wf_X1_12 (by decide +kernel) rfl rfl (Nat.le_of_ble_eq_true rfl) dX1_init_91 (fun H locs hP hD hS => ?_)
  have hP : va_P D cls6 [(h0, .inr (1, [.int 0, .ref q0, .ref q1, .ref q2, .ref q3, .ref q4, .ref q5, .ref q6, .ref q7, .int 0, .int 12, .int 2, .int (-1), .int 0, .int 0])), (q0, .inl (iA, 10, .inl (fun _ => 0))), (q1, .inl (iA, 10, .inl (fun _ => 0))), (q2, .inl (iA, 10, .inl (fun _ => 0))), (q3, .inl (iA, 10, .inl (fun _ => 0))), (q4, .inl (iA, 10, .inl (fun _ => 0))), (q5, .inl (iA, 10, .inl (fun _ => 0))), (q6, .inl (iA, 10, .inl (fun _ => 0))), (q7, .inl (iA, 8, .inl (fun _ => 0)))] H := hP
  have hD : va_D A [(h0, .inr (1, [.int 0, .ref q0, .ref q1, .ref q2, .ref q3, .ref q4, .ref q5, .ref q6, .ref q7, .int 0, .int 12, .int 2, .int (-1), .int 0, .int 0])), (q0, .inl (iA, 10, .inl (fun _ => 0))), (q1, .inl (iA, 10, .inl (fun _ => 0))), (q2, .inl (iA, 10, .inl (fun _ => 0))), (q3, .inl (iA, 10, .inl (fun _ => 0))), (q4, .inl (iA, 10, .inl (fun _ => 0))), (q5, .inl (iA, 10, .inl (fun _ => 0))), (q6, .inl (iA, 10, .inl (fun _ => 0))), (q7, .inl (iA, 8, .inl (fun _ => 0)))] := hD
  refine lv_aload_n hx hb dX1_init_94 rfl (lv_at hl 0 rfl) ?_
  refine lv_iconst (v := 0) hx hb dX1_init_95 (by decide) ?_
  refine w_put (ty := .int) hx hb hg hown hin hK hP hD hS 0 rfl (C := RX1) (T := TX1) (N := 15) rfl 13 (by decide) wf_X1_13 (by decide +kernel) rfl rfl (Nat.le_of_ble_eq_true rfl) dX1_init_96 (fun H locs hP hD hS => ?_)
  have hP : va_P D cls6 [(h0, .inr (1, [.int 0, .ref q0, .ref q1, .ref q2, .ref q3, .ref q4, .ref q5, .ref q6, .ref q7, .int 0, .int 12, .int 2, .int (-1), .int 0, .int 0])), (q0, .inl (iA, 10, .inl (fun _ => 0))), (q1, .inl (iA, 10, .inl (fun _ => 0))), (q2, .inl (iA, 10, .inl (fun _ => 0))), (q3, .inl (iA, 10, .inl (fun _ => 0))), (q4, .inl (iA, 10, .inl (fun _ => 0))), (q5, .inl (iA, 10, .inl (fun _ => 0))), (q6, .inl (iA, 10, .inl (fun _ => 0))), (q7, .inl (iA, 8, .inl (fun _ => 0)))] H := hP
  have hD : va_D A [(h0, .inr (1, [.int 0, .ref q0, .ref q1, .ref q2, .ref q3, .ref q4, .ref q5, .ref q6, .ref q7, .int 0, .int 12, .int 2, .int (-1), .int 0, .int 0])), (q0, .inl (iA, 10, .inl (fun _ => 0))), (q1, .inl (iA, 10, .inl (fun _ => 0))), (q2, .inl (iA, 10, .inl (fun _ => 0))), (q3, .inl (iA, 10, .inl (fun _ => 0))), (q4, .inl (iA, 10, .inl (fun _ => 0))), (q5, .inl (iA, 10, .inl (fun _ => 0))), (q6, .inl (iA, 10, .inl (fun _ => 0))), (q7, .inl (iA, 8, .inl (fun _ => 0)))] := hD
  refine lv_aload_n hx hb dX1_init_99 rfl (lv_at hl 0 rfl) ?_
  refine lv_iconst (v := 0) hx hb dX1_init_100 (by decide) ?_
  refine w_put (ty := .boolean) hx hb hg hown hin hK hP hD hS 0 rfl (C := RX1) (T := TX1) (N := 15) rfl 14 (by decide) wf_X1_14 (by decide +kernel) rfl rfl (Nat.le_of_ble_eq_true rfl) dX1_init_101 (fun H locs hP hD hS => ?_)
  have hP : va_P D cls6 [(h0, .inr (1, [.int 0, .ref q0, .ref q1, .ref q2, .ref q3, .ref q4, .ref q5, .ref q6, .ref q7, .int 0, .int 12, .int 2, .int (-1), .int 0, .int 0])), (q0, .inl (iA, 10, .inl (fun _ => 0))), (q1, .inl (iA, 10, .inl (fun _ => 0))), (q2, .inl (iA, 10, .inl (fun _ => 0))), (q3, .inl (iA, 10, .inl (fun _ => 0))), (q4, .inl (iA, 10, .inl (fun _ => 0))), (q5, .inl (iA, 10, .inl (fun _ => 0))), (q6, .inl (iA, 10, .inl (fun _ => 0))), (q7, .inl (iA, 8, .inl (fun _ => 0)))] H := hP
  have hD : va_D A [(h0, .inr (1, [.int 0, .ref q0, .ref q1, .ref q2, .ref q3, .ref q4, .ref q5, .ref q6, .ref q7, .int 0, .int 12, .int 2, .int (-1), .int 0, .int 0])), (q0, .inl (iA, 10, .inl (fun _ => 0))), (q1, .inl (iA, 10, .inl (fun _ => 0))), (q2, .inl (iA, 10, .inl (fun _ => 0))), (q3, .inl (iA, 10, .inl (fun _ => 0))), (q4, .inl (iA, 10, .inl (fun _ => 0))), (q5, .inl (iA, 10, .inl (fun _ => 0))), (q6, .inl (iA, 10, .inl (fun _ => 0))), (q7, .inl (iA, 8, .inl (fun _ => 0)))] := hD
  exact W.vret hx hb hr (fun t ht hW => ⟨⟨fun i => match i with | 0 => q0 | 1 => q1 | 2 => q2 | 3 => q3 | 4 => q4 | 5 => q5 | 6 => q6 | _ => q7, rfl, trivial, by rw [ht]; exact hP, hD⟩, hS.F ht⟩) hS.2.2 dX1_init_104
theorem wf_X4_0 : (TX4 0).1 = RX4 ∧ Cond.fieldLink RX4 9 (TX4 0).1 (TX4 0).2.1 (TX4 0).2.2.1 ∈ gtbl := ⟨rfl, g_mem (i := 266) (by decide +kernel) (by decide +kernel)⟩
theorem wf_X4_1 : (TX4 1).1 = RX4 ∧ Cond.fieldLink RX4 15 (TX4 1).1 (TX4 1).2.1 (TX4 1).2.2.1 ∈ gtbl := ⟨rfl, g_mem (i := 267) (by decide +kernel) (by decide +kernel)⟩
theorem wf_X4_2 : (TX4 2).1 = RX4 ∧ Cond.fieldLink RX4 19 (TX4 2).1 (TX4 2).2.1 (TX4 2).2.2.1 ∈ gtbl := ⟨rfl, g_mem (i := 269) (by decide +kernel) (by decide +kernel)⟩
theorem wf_X4_3 : (TX4 3).1 = RX4 ∧ Cond.fieldLink RX4 22 (TX4 3).1 (TX4 3).2.1 (TX4 3).2.2.1 ∈ gtbl := ⟨rfl, g_mem (i := 270) (by decide +kernel) (by decide +kernel)⟩
theorem wf_X4_4 : (TX4 4).1 = RX4 ∧ Cond.fieldLink RX4 25 (TX4 4).1 (TX4 4).2.1 (TX4 4).2.2.1 ∈ gtbl := ⟨rfl, g_mem (i := 271) (by decide +kernel) (by decide +kernel)⟩
theorem wf_X4_5 : (TX4 5).1 = RX4 ∧ Cond.fieldLink RX4 28 (TX4 5).1 (TX4 5).2.1 (TX4 5).2.2.1 ∈ gtbl := ⟨rfl, g_mem (i := 272) (by decide +kernel) (by decide +kernel)⟩
theorem wf_X4_6 : (TX4 6).1 = RX4 ∧ Cond.fieldLink RX4 31 (TX4 6).1 (TX4 6).2.1 (TX4 6).2.2.1 ∈ gtbl := ⟨rfl, g_mem (i := 273) (by decide +kernel) (by decide +kernel)⟩
theorem wm_X4 : Cond.methodLink RX4 3 Lib.objectInit ∈ gtbl := g_mem (i := 265) (by decide +kernel) (by decide +kernel)
abbrev blX4 : List Value := [.null, .int 0, .null, .null, .null, .int 0, .int 0]
abbrev wdX4 (iA : ClassId) (h0 : Nat) (u : Nat → Nat) : va_W := [(h0, .inr (3, [.ref (u 0), .int 0, .ref (u 1), .ref (u 2), .ref (u 3), .int 0, .int 0])), (u 0, .inl (iA, 120, .inl (fun _ => 0))), (u 1, .inl (iA, 121, .inl (fun _ => 0))), (u 2, .inl (iA, 121, .inl (fun _ => 0))), (u 3, .inl (iA, 121, .inl (fun _ => 0)))]
set_option maxHeartbeats 4000000 in
set_option maxRecDepth 100000 in
theorem c_X4_init (l : Launch) (D : va_G) (iA : ClassId) (h0 sz : Nat) : Met l yX4_init (.code yX4_init cX4_init 1 none :: gtbl) ({ frames := 1, cells := 4, slots := 483, locals := 12 }) (va_Pc [.ref h0] (fun U => U.heap.size = sz ∧ va_P D cls6 [(h0, .inr (3, blX4))] U.heap ∧ va_K D cls6 [(iA, .int)] U ∧ va_D (fun _ => True) [(h0, .inr (3, blX4))])) (va_Qv (fun _ : Nat → Nat => True) (fun u t => va_P D cls6 (wdX4 iA h0 u) t.heap ∧ va_D (va_A [(h0, .inr (3, blX4))] sz) (wdX4 iA h0 u)) (va_A [(h0, .inr (3, blX4))] sz)) 4 483 (va_A [(h0, .inr (3, blX4))] sz) := by
  refine Met.ofW (cc := cX4_init) (maxL := 1) (ret := none) (by decide) rfl ?_
  intro p e s m args below meth c s₁ B hml hv
  obtain ⟨rfl, hsz, hP, hK, hD0⟩ := hv
  have hx := B.exec
  have hb := B.bytes
  have hr := B.returns
  have hts := atoms_spec (ws := .code yX4_init cX4_init 1 none :: gtbl) B.pre
  have hg : ∀ w ∈ gtbl, w.before _ s = true := fun w hw => hts w (List.mem_cons_of_mem _ hw)
  have hown : s.vm.findClass RX4 = some m.cls := findClass_of_methodNamed B.named
  have hlocks := B.notSynchronized
  have hin : meth.name = "<init>" := (name_of_methodNamed B.named B.method).1
  subst hsz
  have hD := hD0.self (sz := s.heap.size)
  generalize hAe : va_A [(h0, .inr (3, blX4))] s.heap.size = A at hD ⊢
  have hA : ∀ q : Nat, s.heap.size ≤ q → A q := fun q h => by rw [← hAe]; exact Or.inr h
  have hS : va_S A s.heap s.heap [] := va_S.rf
  have hP : va_P D cls6 [(h0, .inr (3, [.null, .int 0, .null, .null, .null, .int 0, .int 0]))] s.heap := hP
  have hl := lv_entry ([.ref h0]) (n := 1) (Nat.le_of_ble_eq_true rfl)
  rw [lg_entry_eq]
  generalize (lg_sl ([.ref h0]) ++ List.replicate (1 - (lg_sl ([.ref h0])).length) Slot.unset).toArray = ls at hl ⊢
  have hl : lv_has ls 1 [(0, .ref h0)] := hl
  refine lv_aload_n hx hb dX4_init_0 rfl (lv_at hl 0 rfl) ?_
  refine W.objInit hx hb hown (hg _ wm_X4) (hg _ w_oi) (hg _ w_oc) rfl (by rw [hml]; exact hl.1) rfl dX4_init_1 (Nat.le_of_ble_eq_true rfl) (Nat.le_of_ble_eq_true rfl) ?_
  refine W.eq (g2 := F0 m 4 ls []) rfl ?_
  refine lv_aload_n hx hb dX4_init_4 rfl (lv_at hl 0 rfl) ?_
  refine lv_bipush (v := 120) hx hb dX4_init_5 (by decide) ?_
  refine w_newi hx hb hg hK 0 rfl hP hD hS hA 120 (by decide) (by decide) (Nat.le_of_ble_eq_true rfl) (Nat.le_of_ble_eq_true rfl) (Nat.le_of_ble_eq_true rfl) dX4_init_7 (fun q0 H hP hD hS => ?_)
  have hP : va_P D cls6 [(h0, .inr (3, [.null, .int 0, .null, .null, .null, .int 0, .int 0])), (q0, .inl (iA, 120, .inl (fun _ => 0)))] H := hP
  have hD : va_D A [(h0, .inr (3, [.null, .int 0, .null, .null, .null, .int 0, .int 0])), (q0, .inl (iA, 120, .inl (fun _ => 0)))] := hD
  refine w_put (ty := .array .int) hx hb hg hown hin hK hP hD hS 0 rfl (C := RX4) (T := TX4) (N := 7) rfl 0 (by decide) wf_X4_0 (by decide +kernel) rfl rfl (Nat.le_of_ble_eq_true rfl) dX4_init_9 (fun H locs hP hD hS => ?_)
  have hP : va_P D cls6 [(h0, .inr (3, [.ref q0, .int 0, .null, .null, .null, .int 0, .int 0])), (q0, .inl (iA, 120, .inl (fun _ => 0)))] H := hP
  have hD : va_D A [(h0, .inr (3, [.ref q0, .int 0, .null, .null, .null, .int 0, .int 0])), (q0, .inl (iA, 120, .inl (fun _ => 0)))] := hD
  refine lv_aload_n hx hb dX4_init_12 rfl (lv_at hl 0 rfl) ?_
  refine lv_iconst (v := 0) hx hb dX4_init_13 (by decide) ?_
  refine w_put (ty := .int) hx hb hg hown hin hK hP hD hS 0 rfl (C := RX4) (T := TX4) (N := 7) rfl 1 (by decide) wf_X4_1 (by decide +kernel) rfl rfl (Nat.le_of_ble_eq_true rfl) dX4_init_14 (fun H locs hP hD hS => ?_)
  have hP : va_P D cls6 [(h0, .inr (3, [.ref q0, .int 0, .null, .null, .null, .int 0, .int 0])), (q0, .inl (iA, 120, .inl (fun _ => 0)))] H := hP
  have hD : va_D A [(h0, .inr (3, [.ref q0, .int 0, .null, .null, .null, .int 0, .int 0])), (q0, .inl (iA, 120, .inl (fun _ => 0)))] := hD
  refine lv_aload_n hx hb dX4_init_17 rfl (lv_at hl 0 rfl) ?_
  refine lv_bipush (v := 121) hx hb dX4_init_18 (by decide) ?_
  refine w_newi hx hb hg hK 0 rfl hP hD hS hA 121 (by decide) (by decide) (Nat.le_of_ble_eq_true rfl) (Nat.le_of_ble_eq_true rfl) (Nat.le_of_ble_eq_true rfl) dX4_init_20 (fun q1 H hP hD hS => ?_)
  have hP : va_P D cls6 [(h0, .inr (3, [.ref q0, .int 0, .null, .null, .null, .int 0, .int 0])), (q0, .inl (iA, 120, .inl (fun _ => 0))), (q1, .inl (iA, 121, .inl (fun _ => 0)))] H := hP
  have hD : va_D A [(h0, .inr (3, [.ref q0, .int 0, .null, .null, .null, .int 0, .int 0])), (q0, .inl (iA, 120, .inl (fun _ => 0))), (q1, .inl (iA, 121, .inl (fun _ => 0)))] := hD
  refine w_put (ty := .array .int) hx hb hg hown hin hK hP hD hS 0 rfl (C := RX4) (T := TX4) (N := 7) rfl 2 (by decide) wf_X4_2 (by decide +kernel) rfl rfl (Nat.le_of_ble_eq_true rfl) dX4_init_22 (fun H locs hP hD hS => ?_)
  have hP : va_P D cls6 [(h0, .inr (3, [.ref q0, .int 0, .ref q1, .null, .null, .int 0, .int 0])), (q0, .inl (iA, 120, .inl (fun _ => 0))), (q1, .inl (iA, 121, .inl (fun _ => 0)))] H := hP
  have hD : va_D A [(h0, .inr (3, [.ref q0, .int 0, .ref q1, .null, .null, .int 0, .int 0])), (q0, .inl (iA, 120, .inl (fun _ => 0))), (q1, .inl (iA, 121, .inl (fun _ => 0)))] := hD
  refine lv_aload_n hx hb dX4_init_25 rfl (lv_at hl 0 rfl) ?_
  refine lv_bipush (v := 121) hx hb dX4_init_26 (by decide) ?_
  refine w_newi hx hb hg hK 0 rfl hP hD hS hA 121 (by decide) (by decide) (Nat.le_of_ble_eq_true rfl) (Nat.le_of_ble_eq_true rfl) (Nat.le_of_ble_eq_true rfl) dX4_init_28 (fun q2 H hP hD hS => ?_)
  have hP : va_P D cls6 [(h0, .inr (3, [.ref q0, .int 0, .ref q1, .null, .null, .int 0, .int 0])), (q0, .inl (iA, 120, .inl (fun _ => 0))), (q1, .inl (iA, 121, .inl (fun _ => 0))), (q2, .inl (iA, 121, .inl (fun _ => 0)))] H := hP
  have hD : va_D A [(h0, .inr (3, [.ref q0, .int 0, .ref q1, .null, .null, .int 0, .int 0])), (q0, .inl (iA, 120, .inl (fun _ => 0))), (q1, .inl (iA, 121, .inl (fun _ => 0))), (q2, .inl (iA, 121, .inl (fun _ => 0)))] := hD
  refine w_put (ty := .array .int) hx hb hg hown hin hK hP hD hS 0 rfl (C := RX4) (T := TX4) (N := 7) rfl 3 (by decide) wf_X4_3 (by decide +kernel) rfl rfl (Nat.le_of_ble_eq_true rfl) dX4_init_30 (fun H locs hP hD hS => ?_)
  have hP : va_P D cls6 [(h0, .inr (3, [.ref q0, .int 0, .ref q1, .ref q2, .null, .int 0, .int 0])), (q0, .inl (iA, 120, .inl (fun _ => 0))), (q1, .inl (iA, 121, .inl (fun _ => 0))), (q2, .inl (iA, 121, .inl (fun _ => 0)))] H := hP
  have hD : va_D A [(h0, .inr (3, [.ref q0, .int 0, .ref q1, .ref q2, .null, .int 0, .int 0])), (q0, .inl (iA, 120, .inl (fun _ => 0))), (q1, .inl (iA, 121, .inl (fun _ => 0))), (q2, .inl (iA, 121, .inl (fun _ => 0)))] := hD
  refine lv_aload_n hx hb dX4_init_33 rfl (lv_at hl 0 rfl) ?_
  refine lv_bipush (v := 121) hx hb dX4_init_34 (by decide) ?_
  refine w_newi hx hb hg hK 0 rfl hP hD hS hA 121 (by decide) (by decide) (Nat.le_of_ble_eq_true rfl) (Nat.le_of_ble_eq_true rfl) (Nat.le_of_ble_eq_true rfl) dX4_init_36 (fun q3 H hP hD hS => ?_)
  have hP : va_P D cls6 [(h0, .inr (3, [.ref q0, .int 0, .ref q1, .ref q2, .null, .int 0, .int 0])), (q0, .inl (iA, 120, .inl (fun _ => 0))), (q1, .inl (iA, 121, .inl (fun _ => 0))), (q2, .inl (iA, 121, .inl (fun _ => 0))), (q3, .inl (iA, 121, .inl (fun _ => 0)))] H := hP
  have hD : va_D A [(h0, .inr (3, [.ref q0, .int 0, .ref q1, .ref q2, .null, .int 0, .int 0])), (q0, .inl (iA, 120, .inl (fun _ => 0))), (q1, .inl (iA, 121, .inl (fun _ => 0))), (q2, .inl (iA, 121, .inl (fun _ => 0))), (q3, .inl (iA, 121, .inl (fun _ => 0)))] := hD
  refine w_put (ty := .array .int) hx hb hg hown hin hK hP hD hS 0 rfl (C := RX4) (T := TX4) (N := 7) rfl 4 (by decide) wf_X4_4 (by decide +kernel) rfl rfl (Nat.le_of_ble_eq_true rfl) dX4_init_38 (fun H locs hP hD hS => ?_)
  have hP : va_P D cls6 [(h0, .inr (3, [.ref q0, .int 0, .ref q1, .ref q2, .ref q3, .int 0, .int 0])), (q0, .inl (iA, 120, .inl (fun _ => 0))), (q1, .inl (iA, 121, .inl (fun _ => 0))), (q2, .inl (iA, 121, .inl (fun _ => 0))), (q3, .inl (iA, 121, .inl (fun _ => 0)))] H := hP
  have hD : va_D A [(h0, .inr (3, [.ref q0, .int 0, .ref q1, .ref q2, .ref q3, .int 0, .int 0])), (q0, .inl (iA, 120, .inl (fun _ => 0))), (q1, .inl (iA, 121, .inl (fun _ => 0))), (q2, .inl (iA, 121, .inl (fun _ => 0))), (q3, .inl (iA, 121, .inl (fun _ => 0)))] := hD
  refine lv_aload_n hx hb dX4_init_41 rfl (lv_at hl 0 rfl) ?_
  refine lv_iconst (v := 0) hx hb dX4_init_42 (by decide) ?_
  refine w_put (ty := .int) hx hb hg hown hin hK hP hD hS 0 rfl (C := RX4) (T := TX4) (N := 7) rfl 5 (by decide) wf_X4_5 (by decide +kernel) rfl rfl (Nat.le_of_ble_eq_true rfl) dX4_init_43 (fun H locs hP hD hS => ?_)
  have hP : va_P D cls6 [(h0, .inr (3, [.ref q0, .int 0, .ref q1, .ref q2, .ref q3, .int 0, .int 0])), (q0, .inl (iA, 120, .inl (fun _ => 0))), (q1, .inl (iA, 121, .inl (fun _ => 0))), (q2, .inl (iA, 121, .inl (fun _ => 0))), (q3, .inl (iA, 121, .inl (fun _ => 0)))] H := hP
  have hD : va_D A [(h0, .inr (3, [.ref q0, .int 0, .ref q1, .ref q2, .ref q3, .int 0, .int 0])), (q0, .inl (iA, 120, .inl (fun _ => 0))), (q1, .inl (iA, 121, .inl (fun _ => 0))), (q2, .inl (iA, 121, .inl (fun _ => 0))), (q3, .inl (iA, 121, .inl (fun _ => 0)))] := hD
  refine lv_aload_n hx hb dX4_init_46 rfl (lv_at hl 0 rfl) ?_
  refine lv_iconst (v := 0) hx hb dX4_init_47 (by decide) ?_
  refine w_put (ty := .int) hx hb hg hown hin hK hP hD hS 0 rfl (C := RX4) (T := TX4) (N := 7) rfl 6 (by decide) wf_X4_6 (by decide +kernel) rfl rfl (Nat.le_of_ble_eq_true rfl) dX4_init_48 (fun H locs hP hD hS => ?_)
  have hP : va_P D cls6 [(h0, .inr (3, [.ref q0, .int 0, .ref q1, .ref q2, .ref q3, .int 0, .int 0])), (q0, .inl (iA, 120, .inl (fun _ => 0))), (q1, .inl (iA, 121, .inl (fun _ => 0))), (q2, .inl (iA, 121, .inl (fun _ => 0))), (q3, .inl (iA, 121, .inl (fun _ => 0)))] H := hP
  have hD : va_D A [(h0, .inr (3, [.ref q0, .int 0, .ref q1, .ref q2, .ref q3, .int 0, .int 0])), (q0, .inl (iA, 120, .inl (fun _ => 0))), (q1, .inl (iA, 121, .inl (fun _ => 0))), (q2, .inl (iA, 121, .inl (fun _ => 0))), (q3, .inl (iA, 121, .inl (fun _ => 0)))] := hD
  exact W.vret hx hb hr (fun t ht hW => ⟨⟨fun i => match i with | 0 => q0 | 1 => q1 | 2 => q2 | _ => q3, rfl, trivial, by rw [ht]; exact hP, hD⟩, hS.F ht⟩) hS.2.2 dX4_init_51