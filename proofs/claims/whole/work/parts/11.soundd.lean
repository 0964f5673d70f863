/-! a whole run -/
/-- how a run ends -/
def RetAt (cc : ByteArray) (ret : Option FieldType) (pc : Nat) (st : List Value) (v : Option Value) : Prop := (∃ (x : Int32) (rt : FieldType), decode cc pc = .ok (.ireturn, 1) ∧ st = [.int x] ∧ ret = some rt ∧ narrow rt (.int x) = .int x ∧ v = some (.int x)) ∨ (∃ h, decode cc pc = .ok (.areturn, 1) ∧ st = [.ref h] ∧ ret = some (.object "java/lang/String") ∧ v = some (.ref h)) ∨ (decode cc pc = .ok (.return_, 1) ∧ st = [] ∧ ret = none ∧ v = none)
set_option maxHeartbeats 2000000 in
theorem inl_inv {cal : Cal} {sc : Scr} {oc : Nat} {ret : Option FieldType} {cc : ByteArray} {ins : Instr} {len pc : Nat} {lv : Lv} {st : List Value} {M : Mem} {r : Rs} (hd : decode cc pc = .ok (ins, len)) (hs : stp cal sc oc ret ins len pc lv st M = some (.inl r)) : RetAt cc ret pc st r.1 ∧ r.2 = M := by
  cases ins
  case ireturn =>
    have hs : (match (generalizing := false) st with | [.int v] => opK ret fun rt => guK (narB rt v) (if len = 1 then some (.inl (some (.int v), M)) else none) | _ => none : So) = some (.inl r) := hs
    split at hs
    · obtain ⟨rt, hr, hs⟩ := opK_inv hs
      obtain ⟨hn, hs⟩ := guK_inv hs
      obtain ⟨rfl, hz⟩ := len_inv hs
      cases hz
      exact ⟨Or.inl ⟨_, rt, hd, rfl, hr, of_decide_eq_true hn, rfl⟩, rfl⟩
    · cases hs
  case areturn =>
    have hs : (match (generalizing := false) st with | [.ref h] => guK (decide (ret = some (.object "java/lang/String"))) (if len = 1 then some (.inl (some (.ref h), M)) else none) | _ => none : So) = some (.inl r) := hs
    split at hs
    · obtain ⟨hn, hs⟩ := guK_inv hs
      obtain ⟨rfl, hz⟩ := len_inv hs
      cases hz
      exact ⟨Or.inr (Or.inl ⟨_, hd, rfl, of_decide_eq_true hn, rfl⟩), rfl⟩
    · cases hs
  case return_ =>
    have hs : (match (generalizing := false) st with | [] => guK (decide (ret = none)) (if len = 1 then some (.inl (none, M)) else none) | _ => none : So) = some (.inl r) := hs
    split at hs
    · obtain ⟨hn, hs⟩ := guK_inv hs
      obtain ⟨rfl, hz⟩ := len_inv hs
      cases hz
      exact ⟨Or.inr (Or.inr ⟨hd, rfl, of_decide_eq_true hn, rfl⟩), rfl⟩
    · cases hs
  case ifCond cnd off =>
    exfalso
    cases cnd <;> (simp only [stp, pop1, jmpK] at hs; repeat' (first | (cases hs; done) | split at hs))
  case if_icmp cnd off =>
    exfalso
    cases cnd <;> (simp only [stp, pop2, jmpK] at hs; repeat' (first | (cases hs; done) | split at hs))
  all_goals
    exfalso
    simp only [stp, pop1, pop2, popr, lvI, lvR, lvS, jmpK, argK, calK, guK, opK, reduceCtorEq] at hs
    try (repeat' (first | (cases hs; done) | split at hs))
section SNDD
variable {p : Program} {l : Launch} {e : Env} {R : Room} {s : State} {m : MethodId} {args : Array Value} {below : List Frame} {meth : Method} {c : Code} {cal : Cal} {sc : Scr} {oc : Nat} {cc : ByteArray} {ret : Option FieldType} {nL : Nat} {G : GT} {sz d cells slots : Nat} {Q : State → Prop} {Ts : List Cond}
set_option maxHeartbeats 2000000 in
theorem stp_sound (C : Cx p l R s m args c sc oc cc nL G sz Ts d cells slots) (hcal : ∀ (y : Nat) (vs : List Value) (M : Mem) (v : Option Value) (M' : Mem), cal y vs M = some (v, M') → MetY d y vs M v M') (ins : Instr) : Snd p l e R s m args below meth c cal sc oc cc ret nL G sz cells slots Q ins := by
  cases ins
  case iconst n => exact so_iconst C n
  case bipush n => exact so_bipush C n
  case sipush n => exact so_sipush C n
  case iload_n k => exact so_iload_n C k
  case iload k => exact so_iload C k
  case aload_n k => exact so_aload_n C k
  case aload k => exact so_aload C k
  case istore_n k => exact so_istore_n C k
  case istore k => exact so_istore C k
  case astore_n k => exact so_astore_n C k
  case astore k => exact so_astore C k
  case iinc k n => exact so_iinc C k n
  case iadd => exact so_iadd C
  case isub => exact so_isub C
  case imul => exact so_imul C
  case iand => exact so_iand C
  case ior => exact so_ior C
  case ixor => exact so_ixor C
  case ishl => exact so_ishl C
  case ishr => exact so_ishr C
  case iushr => exact so_iushr C
  case idiv => exact so_idiv C
  case irem => exact so_irem C
  case ineg => exact so_ineg C
  case i2b => exact so_i2b C
  case i2s => exact so_i2s C
  case i2c => exact so_i2c C
  case i2l => exact so_i2l C
  case ladd => exact so_ladd C
  case lcmp => exact so_lcmp C
  case dup => exact so_dup C
  case dup2 => exact so_dup2 C
  case pop => exact so_pop C
  case ifCond cnd off =>
    cases cnd
    case eq => exact so_ifeq C off
    case ne => exact so_ifne C off
    case lt => exact so_iflt C off
    case ge => exact so_ifge C off
    case gt => exact so_ifgt C off
    case le => exact so_ifle C off
  case if_icmp cnd off =>
    cases cnd
    case eq => exact so_cmpeq C off
    case ne => exact so_cmpne C off
    case lt => exact so_cmplt C off
    case ge => exact so_cmpge C off
    case gt => exact so_cmpgt C off
    case le => exact so_cmple C off
  case goto off => exact so_goto C off
  case tableswitch a b cc dd => exact so_table C a b cc dd
  case lookupswitch a b => exact so_look C a b
  case ldc i => exact so_ldc C i
  case ldc_w i => exact so_ldcw C i
  case getstatic i => exact so_getstatic C i
  case getfield i => exact so_getfield C i
  case putfield i => exact so_putfield C i
  case iaload => exact so_iaload C
  case baload => exact so_baload C
  case aaload => exact so_aaload C
  case iastore => exact so_iastore C
  case arraylength => exact so_alen C
  case invokevirtual i => exact so_virt C hcal i
  case invokestatic i => exact so_stat C hcal i
  all_goals
    intro len pc lv st M z hd hs
    simp only [stp, guK, opK, reduceCtorEq] at hs
    try (repeat' (first | (cases hs; done) | split at hs))
theorem run_sound (C : Cx p l R s m args c sc oc cc nL G sz Ts d cells slots) (hcal : ∀ (y : Nat) (vs : List Value) (M : Mem) (v : Option Value) (M' : Mem), cal y vs M = some (v, M') → MetY d y vs M v M') {rv : Option Value} {M' : Mem}
    (hret : ∀ (H : Heap) (locs : List Loc) (ls : Array Slot) (pc : Nat) (st : List Value), va_P G.1 cls6 (wsO G M') H → va_S (Aset G sz) s.heap H locs → RetAt cc ret pc st rv → W p l e R s m args below meth c H locs cells slots Q (F0 m pc ls (st.map (tr G)))) :
    ∀ (n pc : Nat) (lv : Lv) (st : List Value) (M : Mem), run cal sc oc cc ret n pc lv st M = some (rv, M') → ∀ (H : Heap) (locs : List Loc) (ls : Array Slot), va_P G.1 cls6 (wsO G M) H → va_S (Aset G sz) s.heap H locs → lvh G ls nL lv → W p l e R s m args below meth c H locs cells slots Q (F0 m pc ls (st.map (tr G))) := by
  intro n
  induction n with
  | zero => intro pc lv st M h; cases h
  | succ n ih =>
    intro pc lv st M h H locs ls hP hS hl
    rw [run] at h
    cases hd : decode cc pc with
    | error er => rw [hd] at h; cases h
    | ok q =>
      obtain ⟨ins, len⟩ := q
      rw [hd] at h
      dsimp only at h
      cases hs : stp cal sc oc ret ins len pc lv st M with
      | none => rw [hs] at h; cases h
      | some x =>
        rw [hs] at h
        cases x with
        | inl r =>
          have h : r = (rv, M') := Option.some.inj h
          obtain ⟨h1, h2⟩ := inl_inv hd hs
          subst h
          dsimp only at h1 h2
          subst h2
          exact hret H locs ls pc st hP hS h1
        | inr z =>
          obtain ⟨pc', lv', st', M1⟩ := z
          exact stp_sound C hcal ins len pc lv st M _ hd hs H locs ls hP hS hl (fun H' locs' ls' hP' hS' hl' => ih pc' lv' st' M1 h H' locs' ls' hP' hS' hl')
end SNDD
theorem c1s_cat {G : GT} (hG : GInj G) : ∀ (vs : List Value), c1s vs = true → ∀ v ∈ vs.map (tr G), v.category = 1
  | [], _, v, hv => by cases hv
  | .int x :: l, h, v, hv => by
    rcases List.mem_cons.mp hv with e | e
    · rw [e]; rfl
    · exact c1s_cat hG l h v e
  | .ref x :: l, h, v, hv => by
    rcases List.mem_cons.mp hv with e | e
    · rw [e]; rfl
    · exact c1s_cat hG l h v e
  | .null :: l, h, v, hv => by
    rcases List.mem_cons.mp hv with e | e
    · rw [e]
      show (G.2.2.2).category = 1
      rcases hG.2 with h | ⟨t, h⟩ <;> rw [h] <;> rfl
    · exact c1s_cat hG l h v e
  | .long _ :: _, h, _, _ => by cases h
  | .float _ :: _, h, _, _ => by cases h
  | .double _ :: _, h, _, _ => by cases h
  | .retAddr _ :: _, h, _, _ => by cases h
theorem lg_len : ∀ (vs : List Value), (∀ v ∈ vs, v.category = 1) → (lg_sl vs).length = vs.length
  | [], _ => rfl
  | v :: l, h => by
    have h1 := h v List.mem_cons_self
    have ih := lg_len l (fun w hw => h w (List.mem_cons_of_mem _ hw))
    unfold lg_sl at ih ⊢
    rw [List.flatMap_cons, List.length_append, ih, if_neg (by omega)]
    simp
    omega
theorem args_at : ∀ (vs : List Value) (i j : Nat) (v : Value), (∀ v ∈ vs, v.category = 1) → vs[j]? = some v → (i + j, v) ∈ lv_args i vs
  | [], i, j, v, _, h => by cases j <;> cases h
  | w :: l, i, j, v, hc, h => by
    unfold lv_args
    cases j with
    | zero => cases h; exact List.mem_cons_self
    | succ j =>
      have h : l[j]? = some v := h
      refine List.mem_cons_of_mem _ ?_
      rw [if_neg (by have := hc w List.mem_cons_self; omega), show i + (j + 1) = (i + 1) + j by omega]
      exact args_at l (i + 1) j v (fun x hx => hc x (List.mem_cons_of_mem _ hx)) h
theorem ent_at {vs : List Value} {nL j : Nat} {w : Value} (h : (ent vs nL)[j]? = some (some w)) : vs[j]? = some w := by
  unfold ent at h
  by_cases hj : j < vs.length
  · rw [List.getElem?_append_left (by rw [List.length_map]; exact hj), List.getElem?_map] at h
    cases hv : vs[j]? with
    | none => rw [hv] at h; cases h
    | some v => rw [hv] at h; exact congrArg some (Option.some.inj (Option.some.inj h))
  · rw [List.getElem?_append_right (by rw [List.length_map]; omega)] at h
    have := List.mem_of_getElem? h
    rw [List.mem_replicate] at this
    cases this.2
theorem lvh_ent {G : GT} (hG : GInj G) {vs : List Value} {nL : Nat} (h1 : vs.length ≤ nL) (h2 : c1s vs = true) : lvh G ((lg_sl (vs.map (tr G)) ++ List.replicate (nL - (lg_sl (vs.map (tr G))).length) Slot.unset).toArray) nL (ent vs nL) := by
  have hc := c1s_cat hG vs h2
  have hl := lv_entry (vs.map (tr G)) (n := nL) (by rw [lg_len _ hc, List.length_map]; exact h1)
  have hat : ∀ (j : Nat) (w : Value), (ent vs nL)[j]? = some (some w) → (vs.map (tr G))[j]? = some (tr G w) := by
    intro j w h
    rw [List.getElem?_map, ent_at h]
    rfl
  refine ⟨⟨hl.1, hl.2.1, fun q hq => ?_⟩, ?_, fun j w h => hc _ (List.mem_of_getElem? (hat j w h))⟩
  · obtain ⟨w, h3, h4⟩ := prs_mem.mp hq
    have := args_at _ 0 q.1 _ hc (hat q.1 w h3)
    rw [Nat.zero_add, ← h4] at this
    exact hl.2.2 q this
  · unfold ent
    rw [List.length_append, List.length_map, List.length_replicate]
    omega
/-- THE CONTRACT of a method, by what the little machine answers -/
theorem call_sound : ∀ (d y : Nat) (vs : List Value) (M : Mem) (v : Option Value) (M' : Mem), call d y vs M = some (v, M') → MetY d y vs M v M' := by
  intro d
  induction d with
  | zero => intro y vs M v M' h; cases h
  | succ d ih =>
    intro y vs M v M' h q hq l G sz hG
    obtain ⟨q', hq', h1, h2, h3⟩ := call_of h
    cases hq.symm.trans hq'
    obtain ⟨n, hn⟩ := lim_ex h3
    obtain ⟨y1, y2, y3, y4, -, -, y7, y8, y9, y10⟩ := okY_inv (List.mem_of_getElem? hq)
    refine Met.ofW (cc := q.2.1) (maxL := q.2.2.1) (ret := q.2.2.2.1) y1 rfl ?_
    intro p e s m args below meth c s₁ B hml hv
    obtain ⟨rfl, hsz, hP, hK, hN, hT⟩ := hv
    have hts := atoms_spec (ws := Cond.code q.1 q.2.1 q.2.2.1 q.2.2.2.1 :: gtbl) B.pre
    have hown : s.vm.findClass q.1.cls = some m.cls := findClass_of_methodNamed B.named
    rw [y2] at hown
    rw [lg_entry_eq]
    have hlk := B.notSynchronized
    refine run_sound (d := d) (sc := none) (oc := q.2.2.2.2.1) (cc := q.2.1) (nL := q.2.2.1) (G := G) (sz := sz) (Ts := Cond.code q.1 q.2.1 q.2.2.1 q.2.2.2.1 :: gtbl) (rv := v) (M' := M') (ret := q.2.2.2.1)
      ⟨B.exec, B.bytes, hml, hown, hts, fun w hw => List.mem_cons_of_mem _ hw, hK, hN, hT, hsz, hG, (fun L xs h => by cases h), by show d + 2 ≤ d + 1 + 1; omega, by show 40 * d + 140 ≤ 40 * (d + 1) + 100; omega, Nat.zero_le _, Nat.zero_le _⟩ ih ?_ n 0 (ent vs q.2.2.1) [] M hn s.heap [] _ hP va_S.rf (lvh_ent hG h1 h2)
    intro H locs ls pc st hP' hS' hr
    rcases hr with ⟨x, rt, hd, rfl, hrt, hnar, rfl⟩ | ⟨h9, hd, rfl, hrt, rfl⟩ | ⟨hd, rfl, hrt, rfl⟩
    · exact W.zret (v := x) (ty := rt) B.exec B.bytes (B.returns.trans hrt) hnar (fun t ht hW => ⟨⟨rfl, by rw [ht]; exact hP'⟩, hS'.F ht⟩) hS'.2.2 hd hlk
    · exact W.aret (v := .ref (G.2.1 h9)) B.exec B.bytes (B.returns.trans hrt) (Or.inl ⟨_, rfl⟩) (Or.inr ⟨_, rfl⟩) (fun t ht hW => ⟨⟨rfl, by rw [ht]; exact hP'⟩, hS'.F ht⟩) hS'.2.2 hd hlk
    · exact W.vret B.exec B.bytes (B.returns.trans hrt) (fun t ht hW => ⟨⟨rfl, by rw [ht]; exact hP'⟩, hS'.F ht⟩) hS'.2.2 hd hlk

