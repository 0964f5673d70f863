/-! the little machine is sound: instruction by instruction, over the kit's rows -/
def NW (U : State) : Prop := (∀ e ∈ tabF, e.2.2.2.1 = true → ∀ q, cls6[e.2.1]? = some q → va_Nw (.fieldLinkNest (ocN (e.1 / 10000)) (e.1 % 10000) (q.2.1 e.2.2.1).1 (q.2.1 e.2.2.1).2.1 (q.2.1 e.2.2.1).2.2.1 "FedHen") U) ∧
  (∀ e ∈ tabM, e.2.2.2.2.1 = true → va_Nw (.methodLinkNest (ocN (e.1 / 10000)) (e.1 % 10000) (yM e) "FedHen") U) ∧
  va_Nw (.fieldLinkNest RX1 69 "FedHen$Kinds" "TAKES" "[I" "FedHen") U ∧ va_Nw (.fieldLinkNest RX1 74 "FedHen$Kinds" "STAINS" "[I" "FedHen") U
theorem NW.warm {s U : State} (hW : s.WarmedH U.vm) (h : NW s) : NW U := ⟨fun e he hn q hq => va_Nw.warmF hW (h.1 e he hn q hq), fun e he hn => va_Nw.warmM hW (h.2.1 e he hn), va_Nw.warmF hW h.2.2.1, va_Nw.warmF hW h.2.2.2⟩
theorem NW.same {s U : State} (hv : s.vm = U.vm) (h : NW s) : NW U := ⟨fun e he hn q hq => va_Nw.same rfl hv (h.1 e he hn q hq), fun e he hn => va_Nw.same rfl hv (h.2.1 e he hn), va_Nw.same rfl hv h.2.2.1, va_Nw.same rfl hv h.2.2.2⟩
def ST (G : GT) (A : Nat → Prop) (U : State) (H : Heap) : Prop :=
  va_Z "FedHen$Kinds" "TAKES" "[I" (.ref (G.2.1 150)) A U H ∧ va_Z "FedHen$Kinds" "STAINS" "[I" (.ref (G.2.1 151)) A U H ∧ va_Z "FedHen$Kinds" "ABOVE" "[I" (.ref (G.2.1 152)) A U H ∧
  (∀ k, k = 150 ∨ k = 151 ∨ k = 152 → va_T .int (G.2.1 k) 7 (fun j => .int ((stI k).getD j 0)) A U H) ∧
  va_Z "java/lang/String" "COMPACT_STRINGS" "Z" (.int 1) A U H ∧ va_Z "jdk/internal/util/Preconditions" "SIOOBE_FORMATTER" "Ljava/util/function/BiFunction;" G.2.2.2 A U H ∧
  vk_S 12 lenS bytS (fun i => G.2.1 (160 + i)) (fun i => G.2.1 (180 + i)) A U H ∧
  (∀ e ∈ tabK, vk_R (ocN (e.1 / 10000)) (e.1 % 10000) (txS.getD e.2 "") (G.2.1 (160 + e.2)) U)
theorem ST.go {G : GT} {A B : Nat → Prop} {s U : State} {H : Heap} (h : ST G A s s.heap) (hW : s.WarmedH U.vm) (hk : ∀ q : Nat, q < s.heap.size → ¬ A q → H[q]? = s.heap[q]?) (hAB : ∀ q, B q → A q) : ST G B U H := by
  have hv := hW.alike
  exact ⟨((va_Z.moved hv h.1).kept hk).narrow hAB, ((va_Z.moved hv h.2.1).kept hk).narrow hAB, ((va_Z.moved hv h.2.2.1).kept hk).narrow hAB, fun k hkk => ((va_T.moved hv (h.2.2.2.1 k hkk)).kept hk).narrow hAB,
    ((va_Z.moved hv h.2.2.2.2.1).kept hk).narrow hAB, ((va_Z.moved hv h.2.2.2.2.2.1).kept hk).narrow hAB, ((vk_S.moved hv h.2.2.2.2.2.2.1).kept hk).narrow hAB, fun e he => vk_R.warm hW (h.2.2.2.2.2.2.2 e he)⟩
theorem ST.same {G : GT} {A : Nat → Prop} {s U : State} {H : Heap} (h : ST G A s H) (hv : U.vm = s.vm) : ST G A U H := by
  have ha : s.vm.Alike U.vm := by rw [hv]; exact Vm.Alike.refl _
  exact ⟨va_Z.moved ha h.1, va_Z.moved ha h.2.1, va_Z.moved ha h.2.2.1, fun k hkk => va_T.moved ha (h.2.2.2.1 k hkk), va_Z.moved ha h.2.2.2.2.1, va_Z.moved ha h.2.2.2.2.2.1, vk_S.moved ha h.2.2.2.2.2.2.1, fun e he => vk_R.same hv (h.2.2.2.2.2.2.2 e he)⟩
def Wd (G : GT) (sz : Nat) (M : Mem) (U : State) : Prop := U.heap.size = sz ∧ va_P G.1 cls6 (wsO G M) U.heap ∧ va_K G.1 cls6 (tysG G) U ∧ NW U ∧ ST G (Aset G sz) U U.heap
def Qy (G : GT) (sz : Nat) (v : Option Value) (M' : Mem) : Array Value → State → Outcome → State → Prop := fun _ st oc t => (oc = .returned (v.map (tr G)) ∧ va_P G.1 cls6 (wsO G M') t.heap) ∧ va_F (Aset G sz) st t
def rmD (d : Nat) : Room := { frames := d + 1, cells := 0, slots := 0, locals := 40 * d + 100 }
def MetY (d y : Nat) (vs : List Value) (M : Mem) (v : Option Value) (M' : Mem) : Prop := ∀ q, mt[y]? = some q → ∀ (l : Launch) (G : GT) (sz : Nat), GInj G → Met l q.1 (.code q.1 q.2.1 q.2.2.1 q.2.2.2.1 :: gtbl) (rmD d) (va_Pc (vs.map (tr G)) (Wd G sz M)) (Qy G sz v M') 0 0 (Aset G sz)
theorem Wd_blind (G : GT) (sz : Nat) (M : Mem) (av : List Value) : FrameBlind (va_Pc av (Wd G sz M)) := by
  intro a U g mk h
  obtain ⟨h0, h1, h2, h3, h4, h5⟩ := h
  exact ⟨h0, h1, h2, va_K.moved (u := U) (U := U.calling g mk a) (Vm.Alike.refl U.vm) h3, NW.same (U := U.calling g mk a) rfl h4, ST.same (U := U.calling g mk a) h5 rfl⟩
/-! locals -/
def prs (G : GT) (lv : Lv) : List (Nat × Value) := (List.range lv.length).filterMap (fun j => match lv[j]? with | some (some w) => some (j, tr G w) | _ => none)
theorem prs_mem {G : GT} {lv : Lv} {q : Nat × Value} : q ∈ prs G lv ↔ ∃ w, lv[q.1]? = some (some w) ∧ q.2 = tr G w := by
  unfold prs
  rw [List.mem_filterMap]
  constructor
  · rintro ⟨j, hj, h⟩
    cases hl : lv[j]? with
    | none => rw [hl] at h; cases h
    | some o =>
      cases o with
      | none => rw [hl] at h; cases h
      | some w =>
        rw [hl] at h
        cases h
        exact ⟨w, hl, rfl⟩
  · rintro ⟨w, h1, h2⟩
    refine ⟨q.1, List.mem_range.mpr (List.getElem?_eq_some_iff.mp h1).1, ?_⟩
    rw [h1]
    show some (q.1, tr G w) = some q
    rw [← h2]
def lvh (G : GT) (ls : Array Slot) (nL : Nat) (lv : Lv) : Prop := lv_has ls nL (prs G lv) ∧ lv.length = nL ∧ ∀ (j : Nat) (w : Value), lv[j]? = some (some w) → (tr G w).category = 1
theorem lvh_at {G : GT} {ls : Array Slot} {nL : Nat} {lv : Lv} (h : lvh G ls nL lv) {i : Nat} {w : Value} (hi : lv[i]? = some (some w)) : ls[i]? = some (.val (tr G w)) := h.1.2.2 (i, tr G w) (prs_mem.mpr ⟨w, hi, rfl⟩)
theorem lvh_set {G : GT} {ls ls' : Array Slot} {nL : Nat} {lv : Lv} {i : Nat} {w : Value} (h : lvh G ls nL lv) (hi : i < lv.length) (hc : (tr G w).category = 1)
    (h' : lv_has ls' nL ((i, tr G w) :: (prs G lv).filter (fun q => !(q.1 == i) && !(q.1 + 1 == i && q.2.category == 2)))) : lvh G ls' nL (lv.set i (some w)) := by
  have hcat : ∀ (j : Nat) (w' : Value), (lv.set i (some w))[j]? = some (some w') → (j = i ∧ w' = w) ∨ (j ≠ i ∧ lv[j]? = some (some w')) := by
    intro j w' hj
    by_cases e : j = i
    · subst e
      rw [List.getElem?_set_self hi] at hj
      cases hj
      exact Or.inl ⟨rfl, rfl⟩
    · rw [List.getElem?_set_ne (Ne.symm e)] at hj
      exact Or.inr ⟨e, hj⟩
  refine ⟨⟨h'.1, h'.2.1, fun q hq => ?_⟩, by rw [List.length_set]; exact h.2.1, fun j w' hj => ?_⟩
  · obtain ⟨w', h1, h2⟩ := prs_mem.mp hq
    rcases hcat q.1 w' h1 with ⟨e1, e2⟩ | ⟨e1, e2⟩
    · have : q = (i, tr G w) := Prod.ext e1 (by rw [h2, e2])
      rw [this]
      exact h'.2.2 _ List.mem_cons_self
    · refine h'.2.2 q (List.mem_cons_of_mem _ (List.mem_filter.mpr ⟨prs_mem.mpr ⟨w', e2, h2⟩, ?_⟩))
      have hc2 : q.2.category = 1 := by rw [h2]; exact h.2.2 _ _ e2
      simp [e1, hc2]
  · rcases hcat j w' hj with ⟨e1, e2⟩ | ⟨e1, e2⟩
    · rw [e2]; exact hc
    · exact h.2.2 j w' e2
/-! inversions -/
section INV
variable {α β : Type} {z : α}
theorem pop1_inv {st : List Value} {k : Int32 → List Value → Option α} (h : pop1 st k = some z) : ∃ x r, st = .int x :: r ∧ k x r = some z := by
  unfold pop1 at h
  split at h
  · exact ⟨_, _, rfl, h⟩
  · cases h
theorem pop2_inv {st : List Value} {k : Int32 → Int32 → List Value → Option α} (h : pop2 st k = some z) : ∃ x y r, st = .int y :: .int x :: r ∧ k x y r = some z := by
  unfold pop2 at h
  split at h
  · exact ⟨_, _, _, rfl, h⟩
  · cases h
theorem popr_inv {st : List Value} {k : Nat → List Value → Option α} (h : popr st k = some z) : ∃ x r, st = .ref x :: r ∧ k x r = some z := by
  unfold popr at h
  split at h
  · exact ⟨_, _, rfl, h⟩
  · cases h
theorem lvI_inv {lv : Lv} {i : Nat} {k : Int32 → Option α} (h : lvI lv i k = some z) : ∃ x, lv[i]? = some (some (.int x)) ∧ k x = some z := by
  unfold lvI at h
  split at h
  · exact ⟨_, by assumption, h⟩
  · cases h
theorem lvR_inv {lv : Lv} {i : Nat} {k : Nat → Option α} (h : lvR lv i k = some z) : ∃ x, lv[i]? = some (some (.ref x)) ∧ k x = some z := by
  unfold lvR at h
  split at h
  · exact ⟨_, by assumption, h⟩
  · cases h
theorem lvS_inv {lv : Lv} {i : Nat} {v : Value} {k : Lv → Option α} (h : lvS lv i v k = some z) : i < lv.length ∧ k (lv.set i (some v)) = some z := by
  unfold lvS at h
  split at h
  · exact ⟨by assumption, h⟩
  · cases h
theorem jmpK_inv {pc : Nat} {off : Int} {k : Nat → Option α} (h : jmpK pc off k = some z) : ∃ t : Nat, (pc : Int) + off = (t : Int) ∧ k t = some z := by
  unfold jmpK at h
  split at h
  · next t ht => exact ⟨t, ht, h⟩
  · cases h
theorem argK_inv {n : Nat} {st : List Value} {k : List Value → List Value → Option α} (h : argK n st k = some z) : n ≤ st.length ∧ k (st.take n).reverse (st.drop n) = some z := by
  unfold argK at h
  split at h
  · exact ⟨by assumption, h⟩
  · cases h
theorem calK_inv {o : Option Rs} {k : Option Value → Mem → Option α} (h : calK o k = some z) : ∃ v M, o = some (v, M) ∧ k v M = some z := by
  unfold calK at h
  split at h
  · exact ⟨_, _, rfl, h⟩
  · cases h
theorem guK_inv {b : Bool} {k : Option α} (h : guK b k = some z) : b = true ∧ k = some z := by
  unfold guK at h
  split at h
  · exact ⟨by assumption, h⟩
  · cases h
theorem opK_inv {o : Option β} {k : β → Option α} (h : opK o k = some z) : ∃ x, o = some x ∧ k x = some z := by
  unfold opK at h
  split at h
  · exact ⟨_, rfl, h⟩
  · cases h
theorem len_inv {len k : Nat} {x : α} (h : (if len = k then some x else none) = some z) : len = k ∧ x = z := by
  split at h
  · exact ⟨by assumption, Option.some.inj h⟩
  · cases h
end INV
theorem inb_vp {i : Int32} {n : Nat} (h : inb i n = true) : vp_in i n := by
  unfold inb at h
  have h2 := of_decide_eq_true h
  exact h2
theorem rk_sum : ∀ (n : Nat) (l : List Value), rk n l = true → ∀ G : GT, ((l.map (tr G)).map fun v => v.category).sum ≤ n
  | _, [], _, _ => by simp
  | 0, .int _ :: _, h, _ => by cases h
  | 0, .ref _ :: _, h, _ => by cases h
  | n + 1, .int x :: l, h, G => by
    have := rk_sum n l h G
    rw [List.map_cons, List.map_cons, List.sum_cons]
    show (1 : Nat) + _ ≤ n + 1
    omega
  | n + 1, .ref x :: l, h, G => by
    have := rk_sum n l h G
    rw [List.map_cons, List.map_cons, List.sum_cons]
    show (1 : Nat) + _ ≤ n + 1
    omega
  | n, .long _ :: _, h, _ => by cases n <;> cases h
  | n, .float _ :: _, h, _ => by cases n <;> cases h
  | n, .double _ :: _, h, _ => by cases n <;> cases h
  | n, .null :: _, h, _ => by cases n <;> cases h
  | n, .retAddr _ :: _, h, _ => by cases n <;> cases h
def Cx (p : Program) (l : Launch) (R : Room) (s : State) (m : MethodId) (args : Array Value) (c : Code) (sc : Scr) (oc : Nat) (cc : ByteArray) (nL : Nat) (G : GT) (sz : Nat) (Ts : List Cond) (d cells slots : Nat) : Prop :=
  p.tables.exec = Jvm.exec ∧ c.code = cc ∧ c.maxLocals = nL ∧ s.vm.findClass (ocN oc) = some m.cls ∧ (∀ w ∈ Ts, w.before args s = true) ∧ (∀ w ∈ gtbl, w ∈ Ts) ∧ va_K G.1 cls6 (tysG G) s ∧ NW s ∧ ST G (Aset G sz) s s.heap ∧ s.heap.size = sz ∧ GInj G ∧
  (∀ L xs, sc = some (L, xs) → va_X (G.2.1 198) L xs s s.heap ∧ G.2.1 198 < s.heap.size ∧ ¬ Aset G sz (G.2.1 198)) ∧ d + 2 ≤ R.frames ∧ 40 * d + 140 ≤ R.locals ∧ cells ≤ R.cells ∧ slots ≤ R.slots
def Snd (p : Program) (l : Launch) (e : Env) (R : Room) (s : State) (m : MethodId) (args : Array Value) (below : List Frame) (meth : Method) (c : Code) (cal : Cal) (sc : Scr) (oc : Nat) (cc : ByteArray) (ret : Option FieldType) (nL : Nat) (G : GT) (sz cells slots : Nat) (Q : State → Prop) (ins : Instr) : Prop :=
  ∀ (len pc : Nat) (lv : Lv) (st : List Value) (M : Mem) (z : Cf), decode cc pc = .ok (ins, len) → stp cal sc oc ret ins len pc lv st M = some (.inr z) → ∀ (H : Heap) (locs : List Loc) (ls : Array Slot), va_P G.1 cls6 (wsO G M) H → va_S (Aset G sz) s.heap H locs → lvh G ls nL lv →
    (∀ (H' : Heap) (locs' : List Loc) (ls' : Array Slot), va_P G.1 cls6 (wsO G z.2.2.2) H' → va_S (Aset G sz) s.heap H' locs' → lvh G ls' nL z.2.1 → W p l e R s m args below meth c H' locs' cells slots Q (F0 m z.1 ls' (z.2.2.1.map (tr G)))) → W p l e R s m args below meth c H locs cells slots Q (F0 m pc ls (st.map (tr G)))
section WN
variable {p : Program} {l : Launch} {e : Env} {R : Room} {s : State} {m : MethodId} {args : Array Value} {below : List Frame} {meth : Method} {c : Code} {H : Heap} {locs : List Loc} {cells slots : Nat} {Q : State → Prop} {cc : ByteArray} {pc : Nat} {ls : Array Slot} {rest : List Value}
theorem W_if_eq (hexec : p.tables.exec = Jvm.exec) (hb : c.code = cc) {x : Int32} {off : Int} (hdg : decode cc pc = .ok (.ifCond .eq off, 3)) (hP : ¬ (x = 0)) (kf : W p l e R s m args below meth c H locs cells slots Q (F0 m (pc + 3) ls rest)) : W p l e R s m args below meth c H locs cells slots Q (F0 m pc ls (.int x :: rest)) := by
  intro T hT X
  obtain ⟨t, a, b⟩ := kf T hT X
  refine ⟨t, ?_, b⟩
  jvm_step X.here [X.here.top, hexec, hb, hdg, Op.ifCond.holds, hP]
  exact a
theorem W_if_ne (hexec : p.tables.exec = Jvm.exec) (hb : c.code = cc) {x : Int32} {off : Int} (hdg : decode cc pc = .ok (.ifCond .ne off, 3)) (hP : ¬ (¬ x = 0)) (kf : W p l e R s m args below meth c H locs cells slots Q (F0 m (pc + 3) ls rest)) : W p l e R s m args below meth c H locs cells slots Q (F0 m pc ls (.int x :: rest)) := by
  intro T hT X
  obtain ⟨t, a, b⟩ := kf T hT X
  refine ⟨t, ?_, b⟩
  have hP : x = 0 := Classical.not_not.mp hP
  jvm_step X.here [X.here.top, hexec, hb, hdg, Op.ifCond.holds, hP]
  exact a
theorem W_if_lt (hexec : p.tables.exec = Jvm.exec) (hb : c.code = cc) {x : Int32} {off : Int} (hdg : decode cc pc = .ok (.ifCond .lt off, 3)) (hP : ¬ (x < 0)) (kf : W p l e R s m args below meth c H locs cells slots Q (F0 m (pc + 3) ls rest)) : W p l e R s m args below meth c H locs cells slots Q (F0 m pc ls (.int x :: rest)) := by
  intro T hT X
  obtain ⟨t, a, b⟩ := kf T hT X
  refine ⟨t, ?_, b⟩
  jvm_step X.here [X.here.top, hexec, hb, hdg, Op.ifCond.holds, hP]
  exact a
theorem W_if_ge (hexec : p.tables.exec = Jvm.exec) (hb : c.code = cc) {x : Int32} {off : Int} (hdg : decode cc pc = .ok (.ifCond .ge off, 3)) (hP : ¬ (0 ≤ x)) (kf : W p l e R s m args below meth c H locs cells slots Q (F0 m (pc + 3) ls rest)) : W p l e R s m args below meth c H locs cells slots Q (F0 m pc ls (.int x :: rest)) := by
  intro T hT X
  obtain ⟨t, a, b⟩ := kf T hT X
  refine ⟨t, ?_, b⟩
  jvm_step X.here [X.here.top, hexec, hb, hdg, Op.ifCond.holds, hP]
  exact a
theorem W_if_gt (hexec : p.tables.exec = Jvm.exec) (hb : c.code = cc) {x : Int32} {off : Int} (hdg : decode cc pc = .ok (.ifCond .gt off, 3)) (hP : ¬ (0 < x)) (kf : W p l e R s m args below meth c H locs cells slots Q (F0 m (pc + 3) ls rest)) : W p l e R s m args below meth c H locs cells slots Q (F0 m pc ls (.int x :: rest)) := by
  intro T hT X
  obtain ⟨t, a, b⟩ := kf T hT X
  refine ⟨t, ?_, b⟩
  jvm_step X.here [X.here.top, hexec, hb, hdg, Op.ifCond.holds, hP]
  exact a
theorem W_if_le (hexec : p.tables.exec = Jvm.exec) (hb : c.code = cc) {x : Int32} {off : Int} (hdg : decode cc pc = .ok (.ifCond .le off, 3)) (hP : ¬ (x ≤ 0)) (kf : W p l e R s m args below meth c H locs cells slots Q (F0 m (pc + 3) ls rest)) : W p l e R s m args below meth c H locs cells slots Q (F0 m pc ls (.int x :: rest)) := by
  intro T hT X
  obtain ⟨t, a, b⟩ := kf T hT X
  refine ⟨t, ?_, b⟩
  jvm_step X.here [X.here.top, hexec, hb, hdg, Op.ifCond.holds, hP]
  exact a
theorem W_icmp_eq (hexec : p.tables.exec = Jvm.exec) (hb : c.code = cc) {x y : Int32} {off : Int} (hdg : decode cc pc = .ok (.if_icmp .eq off, 3)) (hP : ¬ (x = y)) (kf : W p l e R s m args below meth c H locs cells slots Q (F0 m (pc + 3) ls rest)) : W p l e R s m args below meth c H locs cells slots Q (F0 m pc ls (.int y :: .int x :: rest)) := by
  intro T hT X
  obtain ⟨t, a, b⟩ := kf T hT X
  refine ⟨t, ?_, b⟩
  jvm_step X.here [X.here.top, hexec, hb, hdg, Op.if_icmp.holds, hP]
  exact a
theorem W_icmp_ne (hexec : p.tables.exec = Jvm.exec) (hb : c.code = cc) {x y : Int32} {off : Int} (hdg : decode cc pc = .ok (.if_icmp .ne off, 3)) (hP : ¬ (¬ x = y)) (kf : W p l e R s m args below meth c H locs cells slots Q (F0 m (pc + 3) ls rest)) : W p l e R s m args below meth c H locs cells slots Q (F0 m pc ls (.int y :: .int x :: rest)) := by
  intro T hT X
  obtain ⟨t, a, b⟩ := kf T hT X
  refine ⟨t, ?_, b⟩
  have hP : x = y := Classical.not_not.mp hP
  jvm_step X.here [X.here.top, hexec, hb, hdg, Op.if_icmp.holds, hP]
  exact a
theorem W_icmp_lt (hexec : p.tables.exec = Jvm.exec) (hb : c.code = cc) {x y : Int32} {off : Int} (hdg : decode cc pc = .ok (.if_icmp .lt off, 3)) (hP : ¬ (x < y)) (kf : W p l e R s m args below meth c H locs cells slots Q (F0 m (pc + 3) ls rest)) : W p l e R s m args below meth c H locs cells slots Q (F0 m pc ls (.int y :: .int x :: rest)) := by
  intro T hT X
  obtain ⟨t, a, b⟩ := kf T hT X
  refine ⟨t, ?_, b⟩
  jvm_step X.here [X.here.top, hexec, hb, hdg, Op.if_icmp.holds, hP]
  exact a
theorem W_icmp_ge (hexec : p.tables.exec = Jvm.exec) (hb : c.code = cc) {x y : Int32} {off : Int} (hdg : decode cc pc = .ok (.if_icmp .ge off, 3)) (hP : ¬ (y ≤ x)) (kf : W p l e R s m args below meth c H locs cells slots Q (F0 m (pc + 3) ls rest)) : W p l e R s m args below meth c H locs cells slots Q (F0 m pc ls (.int y :: .int x :: rest)) := by
  intro T hT X
  obtain ⟨t, a, b⟩ := kf T hT X
  refine ⟨t, ?_, b⟩
  jvm_step X.here [X.here.top, hexec, hb, hdg, Op.if_icmp.holds, hP]
  exact a
theorem W_icmp_gt (hexec : p.tables.exec = Jvm.exec) (hb : c.code = cc) {x y : Int32} {off : Int} (hdg : decode cc pc = .ok (.if_icmp .gt off, 3)) (hP : ¬ (y < x)) (kf : W p l e R s m args below meth c H locs cells slots Q (F0 m (pc + 3) ls rest)) : W p l e R s m args below meth c H locs cells slots Q (F0 m pc ls (.int y :: .int x :: rest)) := by
  intro T hT X
  obtain ⟨t, a, b⟩ := kf T hT X
  refine ⟨t, ?_, b⟩
  jvm_step X.here [X.here.top, hexec, hb, hdg, Op.if_icmp.holds, hP]
  exact a
theorem W_icmp_le (hexec : p.tables.exec = Jvm.exec) (hb : c.code = cc) {x y : Int32} {off : Int} (hdg : decode cc pc = .ok (.if_icmp .le off, 3)) (hP : ¬ (x ≤ y)) (kf : W p l e R s m args below meth c H locs cells slots Q (F0 m (pc + 3) ls rest)) : W p l e R s m args below meth c H locs cells slots Q (F0 m pc ls (.int y :: .int x :: rest)) := by
  intro T hT X
  obtain ⟨t, a, b⟩ := kf T hT X
  refine ⟨t, ?_, b⟩
  jvm_step X.here [X.here.top, hexec, hb, hdg, Op.if_icmp.holds, hP]
  exact a
theorem W_ldcwS (hexec : p.tables.exec = Jvm.exec) (hb : c.code = cc) {own tx : String} {index q : Nat} (hown : s.vm.findClass own = some m.cls) (hZ : vk_R own index tx q s) (hdg : decode cc pc = .ok (.ldc_w index, 3))
    (k : W p l e R s m args below meth c H locs cells slots Q (F0 m (pc + 3) ls (.ref q :: rest))) : W p l e R s m args below meth c H locs cells slots Q (F0 m pc ls rest) := by
  intro T hT X
  obtain ⟨t, a1, b1⟩ := k T hT X
  refine ⟨t, ?_, b1⟩
  obtain ⟨kk, cf, i, a', hk, hcf, hcp, -, hr, hev'⟩ := Cond.stringRef_spec (args := #[]) hown hZ.1
  cases hZ.2.symm.trans hev'
  obtain ⟨k', hk', he⟩ := X.warmed.alike.2.2 _ _ hk
  have hr' : k'.resolved[index]? = some (some (.string q)) := by
    rcases X.warmed.entry hk hk' index with h | ⟨h, -⟩
    · rw [h]; exact hr
    · rw [hr] at h; cases h
  jvm_step X.here [X.here.top, hexec, hb, hdg, ldc_w.wp_string (e := e) (s := T) (f := F0 m pc ls rest) X.here.top hk' (by rw [he]; exact hcf) hcp hr']
  exact a1
end WN
section SND
variable {p : Program} {l : Launch} {e : Env} {R : Room} {s : State} {m : MethodId} {args : Array Value} {below : List Frame} {meth : Method} {c : Code} {cal : Cal} {sc : Scr} {oc : Nat} {cc : ByteArray} {ret : Option FieldType} {nL : Nat} {G : GT} {sz d cells slots : Nat} {Q : State → Prop} {Ts : List Cond}
theorem so_iconst (C : Cx p l R s m args c sc oc cc nL G sz Ts d cells slots) (n : Int) : Snd p l e R s m args below meth c cal sc oc cc ret nL G sz cells slots Q (.iconst n) := by
  obtain ⟨hx, hb, hml, hown, hts, hg, hK, hN, hT, hsz, hG, hX, hRf, hRl, hcl, hsl⟩ := C
  intro len pc lv st M z hd hs H locs ls hP hS hl kk
  have hs : (if len = 1 then some (Sum.inr (pc + 1, lv, .int (Int32.ofInt n) :: st, M)) else none : So) = some (.inr z) := hs
  obtain ⟨rfl, hz⟩ := len_inv hs
  cases hz
  exact lv_iconst hx hb hd rfl (kk H locs ls hP hS hl)
theorem so_bipush (C : Cx p l R s m args c sc oc cc nL G sz Ts d cells slots) (n : Int) : Snd p l e R s m args below meth c cal sc oc cc ret nL G sz cells slots Q (.bipush n) := by
  obtain ⟨hx, hb, hml, hown, hts, hg, hK, hN, hT, hsz, hG, hX, hRf, hRl, hcl, hsl⟩ := C
  intro len pc lv st M z hd hs H locs ls hP hS hl kk
  have hs : (if len = 2 then some (Sum.inr (pc + 2, lv, .int ((Int8.ofInt n).toInt32) :: st, M)) else none : So) = some (.inr z) := hs
  obtain ⟨rfl, hz⟩ := len_inv hs
  cases hz
  exact lv_bipush hx hb hd rfl (kk H locs ls hP hS hl)
theorem so_sipush (C : Cx p l R s m args c sc oc cc nL G sz Ts d cells slots) (n : Int) : Snd p l e R s m args below meth c cal sc oc cc ret nL G sz cells slots Q (.sipush n) := by
  obtain ⟨hx, hb, hml, hown, hts, hg, hK, hN, hT, hsz, hG, hX, hRf, hRl, hcl, hsl⟩ := C
  intro len pc lv st M z hd hs H locs ls hP hS hl kk
  have hs : (if len = 3 then some (Sum.inr (pc + 3, lv, .int ((Int16.ofInt n).toInt32) :: st, M)) else none : So) = some (.inr z) := hs
  obtain ⟨rfl, hz⟩ := len_inv hs
  cases hz
  exact lv_sipush hx hb hd rfl (kk H locs ls hP hS hl)
theorem so_iload_n (C : Cx p l R s m args c sc oc cc nL G sz Ts d cells slots) (k : Fin 4) : Snd p l e R s m args below meth c cal sc oc cc ret nL G sz cells slots Q (.iload_n k) := by
  obtain ⟨hx, hb, hml, hown, hts, hg, hK, hN, hT, hsz, hG, hX, hRf, hRl, hcl, hsl⟩ := C
  intro len pc lv st M z hd hs H locs ls hP hS hl kk
  have hs : lvI lv k (fun x => if len = 1 then some (Sum.inr (pc + 1, lv, .int x :: st, M)) else none : _ → So) = some (.inr z) := hs
  obtain ⟨x, hv, hs⟩ := lvI_inv hs
  obtain ⟨rfl, hz⟩ := len_inv hs
  cases hz
  exact lv_iload_n hx hb hd rfl (lvh_at hl hv) (kk H locs ls hP hS hl)
theorem so_iload (C : Cx p l R s m args c sc oc cc nL G sz Ts d cells slots) (k : Nat) : Snd p l e R s m args below meth c cal sc oc cc ret nL G sz cells slots Q (.iload k) := by
  obtain ⟨hx, hb, hml, hown, hts, hg, hK, hN, hT, hsz, hG, hX, hRf, hRl, hcl, hsl⟩ := C
  intro len pc lv st M z hd hs H locs ls hP hS hl kk
  have hs : lvI lv k (fun x => if len = 2 then some (Sum.inr (pc + 2, lv, .int x :: st, M)) else none : _ → So) = some (.inr z) := hs
  obtain ⟨x, hv, hs⟩ := lvI_inv hs
  obtain ⟨rfl, hz⟩ := len_inv hs
  cases hz
  exact lv_iload hx hb hd (lvh_at hl hv) (kk H locs ls hP hS hl)
theorem so_aload_n (C : Cx p l R s m args c sc oc cc nL G sz Ts d cells slots) (k : Fin 4) : Snd p l e R s m args below meth c cal sc oc cc ret nL G sz cells slots Q (.aload_n k) := by
  obtain ⟨hx, hb, hml, hown, hts, hg, hK, hN, hT, hsz, hG, hX, hRf, hRl, hcl, hsl⟩ := C
  intro len pc lv st M z hd hs H locs ls hP hS hl kk
  have hs : lvR lv k (fun x => if len = 1 then some (Sum.inr (pc + 1, lv, .ref x :: st, M)) else none : _ → So) = some (.inr z) := hs
  obtain ⟨x, hv, hs⟩ := lvR_inv hs
  obtain ⟨rfl, hz⟩ := len_inv hs
  cases hz
  exact lv_aload_n hx hb hd rfl (lvh_at hl hv) (kk H locs ls hP hS hl)
theorem so_aload (C : Cx p l R s m args c sc oc cc nL G sz Ts d cells slots) (k : Nat) : Snd p l e R s m args below meth c cal sc oc cc ret nL G sz cells slots Q (.aload k) := by
  obtain ⟨hx, hb, hml, hown, hts, hg, hK, hN, hT, hsz, hG, hX, hRf, hRl, hcl, hsl⟩ := C
  intro len pc lv st M z hd hs H locs ls hP hS hl kk
  have hs : lvR lv k (fun x => if len = 2 then some (Sum.inr (pc + 2, lv, .ref x :: st, M)) else none : _ → So) = some (.inr z) := hs
  obtain ⟨x, hv, hs⟩ := lvR_inv hs
  obtain ⟨rfl, hz⟩ := len_inv hs
  cases hz
  exact lv_aload hx hb hd (lvh_at hl hv) (kk H locs ls hP hS hl)
theorem so_istore_n (C : Cx p l R s m args c sc oc cc nL G sz Ts d cells slots) (k : Fin 4) : Snd p l e R s m args below meth c cal sc oc cc ret nL G sz cells slots Q (.istore_n k) := by
  obtain ⟨hx, hb, hml, hown, hts, hg, hK, hN, hT, hsz, hG, hX, hRf, hRl, hcl, hsl⟩ := C
  intro len pc lv st M z hd hs H locs ls hP hS hl kk
  have hs : pop1 st (fun x r => lvS lv k (.int x) (fun lv' => if len = 1 then some (Sum.inr (pc + 1, lv', r, M)) else none : _ → So)) = some (.inr z) := hs
  obtain ⟨x, r, he9, hq9⟩ := pop1_inv hs
  clear hs
  subst he9
  have hs := hq9
  clear hq9
  obtain ⟨hi, hs⟩ := lvS_inv hs
  obtain ⟨rfl, hz⟩ := len_inv hs
  cases hz
  exact lv_istore_n (i := (k : Nat)) hx hb hd rfl hl.1 (by rw [← hl.2.1]; exact hi) rfl (fun ls' hl' => kk H locs ls' hP hS (lvh_set (w := .int x) hl hi rfl hl'))
theorem so_istore (C : Cx p l R s m args c sc oc cc nL G sz Ts d cells slots) (k : Nat) : Snd p l e R s m args below meth c cal sc oc cc ret nL G sz cells slots Q (.istore k) := by
  obtain ⟨hx, hb, hml, hown, hts, hg, hK, hN, hT, hsz, hG, hX, hRf, hRl, hcl, hsl⟩ := C
  intro len pc lv st M z hd hs H locs ls hP hS hl kk
  have hs : pop1 st (fun x r => lvS lv k (.int x) (fun lv' => if len = 2 then some (Sum.inr (pc + 2, lv', r, M)) else none : _ → So)) = some (.inr z) := hs
  obtain ⟨x, r, he9, hq9⟩ := pop1_inv hs
  clear hs
  subst he9
  have hs := hq9
  clear hq9
  obtain ⟨hi, hs⟩ := lvS_inv hs
  obtain ⟨rfl, hz⟩ := len_inv hs
  cases hz
  exact lv_istore (i := (k : Nat)) hx hb hd hl.1 (by rw [← hl.2.1]; exact hi) rfl (fun ls' hl' => kk H locs ls' hP hS (lvh_set (w := .int x) hl hi rfl hl'))
theorem so_astore_n (C : Cx p l R s m args c sc oc cc nL G sz Ts d cells slots) (k : Fin 4) : Snd p l e R s m args below meth c cal sc oc cc ret nL G sz cells slots Q (.astore_n k) := by
  obtain ⟨hx, hb, hml, hown, hts, hg, hK, hN, hT, hsz, hG, hX, hRf, hRl, hcl, hsl⟩ := C
  intro len pc lv st M z hd hs H locs ls hP hS hl kk
  have hs : popr st (fun x r => lvS lv k (.ref x) (fun lv' => if len = 1 then some (Sum.inr (pc + 1, lv', r, M)) else none : _ → So)) = some (.inr z) := hs
  obtain ⟨x, r, he9, hq9⟩ := popr_inv hs
  clear hs
  subst he9
  have hs := hq9
  clear hq9
  obtain ⟨hi, hs⟩ := lvS_inv hs
  obtain ⟨rfl, hz⟩ := len_inv hs
  cases hz
  exact lv_astore_n (i := (k : Nat)) hx hb hd rfl hl.1 (by rw [← hl.2.1]; exact hi) rfl (fun ls' hl' => kk H locs ls' hP hS (lvh_set (w := .ref x) hl hi rfl hl'))
theorem so_astore (C : Cx p l R s m args c sc oc cc nL G sz Ts d cells slots) (k : Nat) : Snd p l e R s m args below meth c cal sc oc cc ret nL G sz cells slots Q (.astore k) := by
  obtain ⟨hx, hb, hml, hown, hts, hg, hK, hN, hT, hsz, hG, hX, hRf, hRl, hcl, hsl⟩ := C
  intro len pc lv st M z hd hs H locs ls hP hS hl kk
  have hs : popr st (fun x r => lvS lv k (.ref x) (fun lv' => if len = 2 then some (Sum.inr (pc + 2, lv', r, M)) else none : _ → So)) = some (.inr z) := hs
  obtain ⟨x, r, he9, hq9⟩ := popr_inv hs
  clear hs
  subst he9
  have hs := hq9
  clear hq9
  obtain ⟨hi, hs⟩ := lvS_inv hs
  obtain ⟨rfl, hz⟩ := len_inv hs
  cases hz
  exact lv_astore (i := (k : Nat)) hx hb hd hl.1 (by rw [← hl.2.1]; exact hi) rfl (fun ls' hl' => kk H locs ls' hP hS (lvh_set (w := .ref x) hl hi rfl hl'))
theorem so_iinc (C : Cx p l R s m args c sc oc cc nL G sz Ts d cells slots) (k : Nat) (n : Int) : Snd p l e R s m args below meth c cal sc oc cc ret nL G sz cells slots Q (.iinc k n) := by
  obtain ⟨hx, hb, hml, hown, hts, hg, hK, hN, hT, hsz, hG, hX, hRf, hRl, hcl, hsl⟩ := C
  intro len pc lv st M z hd hs H locs ls hP hS hl kk
  have hs : lvI lv k (fun x => lvS lv k (.int (x + Int32.ofInt n)) (fun lv' => if len = 3 then some (Sum.inr (pc + 3, lv', st, M)) else none : _ → So)) = some (.inr z) := hs
  obtain ⟨x, hv, hs⟩ := lvI_inv hs
  obtain ⟨hi, hs⟩ := lvS_inv hs
  obtain ⟨rfl, hz⟩ := len_inv hs
  cases hz
  obtain ⟨j, hj⟩ := List.getElem?_of_mem (prs_mem (G := G) (lv := lv) (q := (k, .int x)) |>.mpr ⟨.int x, hv, rfl⟩)
  exact lv_iinc hx hb hd hl.1 hj rfl (by rw [← hl.2.1]; exact hi) rfl (fun ls' hl' => kk H locs ls' hP hS (lvh_set (w := .int (x + Int32.ofInt n)) hl hi rfl hl'))
theorem so_iadd (C : Cx p l R s m args c sc oc cc nL G sz Ts d cells slots) : Snd p l e R s m args below meth c cal sc oc cc ret nL G sz cells slots Q .iadd := by
  obtain ⟨hx, hb, hml, hown, hts, hg, hK, hN, hT, hsz, hG, hX, hRf, hRl, hcl, hsl⟩ := C
  intro len pc lv st M z hd hs H locs ls hP hS hl kk
  have hs : pop2 st (fun (x y : Int32) r => if len = 1 then some (Sum.inr (pc + 1, lv, .int (x + y) :: r, M)) else none : _ → _ → _ → So) = some (.inr z) := hs
  obtain ⟨x, y, r, he9, hq9⟩ := pop2_inv hs
  clear hs
  subst he9
  have hs := hq9
  clear hq9
  obtain ⟨rfl, hz⟩ := len_inv hs
  cases hz
  exact lv_iadd hx hb hd (kk H locs ls hP hS hl)
theorem so_isub (C : Cx p l R s m args c sc oc cc nL G sz Ts d cells slots) : Snd p l e R s m args below meth c cal sc oc cc ret nL G sz cells slots Q .isub := by
  obtain ⟨hx, hb, hml, hown, hts, hg, hK, hN, hT, hsz, hG, hX, hRf, hRl, hcl, hsl⟩ := C
  intro len pc lv st M z hd hs H locs ls hP hS hl kk
  have hs : pop2 st (fun (x y : Int32) r => if len = 1 then some (Sum.inr (pc + 1, lv, .int (x - y) :: r, M)) else none : _ → _ → _ → So) = some (.inr z) := hs
  obtain ⟨x, y, r, he9, hq9⟩ := pop2_inv hs
  clear hs
  subst he9
  have hs := hq9
  clear hq9
  obtain ⟨rfl, hz⟩ := len_inv hs
  cases hz
  exact lv_isub hx hb hd (kk H locs ls hP hS hl)
theorem so_imul (C : Cx p l R s m args c sc oc cc nL G sz Ts d cells slots) : Snd p l e R s m args below meth c cal sc oc cc ret nL G sz cells slots Q .imul := by
  obtain ⟨hx, hb, hml, hown, hts, hg, hK, hN, hT, hsz, hG, hX, hRf, hRl, hcl, hsl⟩ := C
  intro len pc lv st M z hd hs H locs ls hP hS hl kk
  have hs : pop2 st (fun (x y : Int32) r => if len = 1 then some (Sum.inr (pc + 1, lv, .int (x * y) :: r, M)) else none : _ → _ → _ → So) = some (.inr z) := hs
  obtain ⟨x, y, r, he9, hq9⟩ := pop2_inv hs
  clear hs
  subst he9
  have hs := hq9
  clear hq9
  obtain ⟨rfl, hz⟩ := len_inv hs
  cases hz
  exact lv_imul hx hb hd (kk H locs ls hP hS hl)
theorem so_iand (C : Cx p l R s m args c sc oc cc nL G sz Ts d cells slots) : Snd p l e R s m args below meth c cal sc oc cc ret nL G sz cells slots Q .iand := by
  obtain ⟨hx, hb, hml, hown, hts, hg, hK, hN, hT, hsz, hG, hX, hRf, hRl, hcl, hsl⟩ := C
  intro len pc lv st M z hd hs H locs ls hP hS hl kk
  have hs : pop2 st (fun (x y : Int32) r => if len = 1 then some (Sum.inr (pc + 1, lv, .int (x &&& y) :: r, M)) else none : _ → _ → _ → So) = some (.inr z) := hs
  obtain ⟨x, y, r, he9, hq9⟩ := pop2_inv hs
  clear hs
  subst he9
  have hs := hq9
  clear hq9
  obtain ⟨rfl, hz⟩ := len_inv hs
  cases hz
  exact lv_iand hx hb hd (kk H locs ls hP hS hl)
theorem so_ior (C : Cx p l R s m args c sc oc cc nL G sz Ts d cells slots) : Snd p l e R s m args below meth c cal sc oc cc ret nL G sz cells slots Q .ior := by
  obtain ⟨hx, hb, hml, hown, hts, hg, hK, hN, hT, hsz, hG, hX, hRf, hRl, hcl, hsl⟩ := C
  intro len pc lv st M z hd hs H locs ls hP hS hl kk
  have hs : pop2 st (fun (x y : Int32) r => if len = 1 then some (Sum.inr (pc + 1, lv, .int (x ||| y) :: r, M)) else none : _ → _ → _ → So) = some (.inr z) := hs
  obtain ⟨x, y, r, he9, hq9⟩ := pop2_inv hs
  clear hs
  subst he9
  have hs := hq9
  clear hq9
  obtain ⟨rfl, hz⟩ := len_inv hs
  cases hz
  exact lv_ior hx hb hd (kk H locs ls hP hS hl)
theorem so_ixor (C : Cx p l R s m args c sc oc cc nL G sz Ts d cells slots) : Snd p l e R s m args below meth c cal sc oc cc ret nL G sz cells slots Q .ixor := by
  obtain ⟨hx, hb, hml, hown, hts, hg, hK, hN, hT, hsz, hG, hX, hRf, hRl, hcl, hsl⟩ := C
  intro len pc lv st M z hd hs H locs ls hP hS hl kk
  have hs : pop2 st (fun (x y : Int32) r => if len = 1 then some (Sum.inr (pc + 1, lv, .int (x ^^^ y) :: r, M)) else none : _ → _ → _ → So) = some (.inr z) := hs
  obtain ⟨x, y, r, he9, hq9⟩ := pop2_inv hs
  clear hs
  subst he9
  have hs := hq9
  clear hq9
  obtain ⟨rfl, hz⟩ := len_inv hs
  cases hz
  exact lv_ixor hx hb hd (kk H locs ls hP hS hl)
theorem so_ishl (C : Cx p l R s m args c sc oc cc nL G sz Ts d cells slots) : Snd p l e R s m args below meth c cal sc oc cc ret nL G sz cells slots Q .ishl := by
  obtain ⟨hx, hb, hml, hown, hts, hg, hK, hN, hT, hsz, hG, hX, hRf, hRl, hcl, hsl⟩ := C
  intro len pc lv st M z hd hs H locs ls hP hS hl kk
  have hs : pop2 st (fun (x y : Int32) r => if len = 1 then some (Sum.inr (pc + 1, lv, .int (x <<< (y &&& 31)) :: r, M)) else none : _ → _ → _ → So) = some (.inr z) := hs
  obtain ⟨x, y, r, he9, hq9⟩ := pop2_inv hs
  clear hs
  subst he9
  have hs := hq9
  clear hq9
  obtain ⟨rfl, hz⟩ := len_inv hs
  cases hz
  exact lv_ishl hx hb hd (kk H locs ls hP hS hl)
theorem so_ishr (C : Cx p l R s m args c sc oc cc nL G sz Ts d cells slots) : Snd p l e R s m args below meth c cal sc oc cc ret nL G sz cells slots Q .ishr := by
  obtain ⟨hx, hb, hml, hown, hts, hg, hK, hN, hT, hsz, hG, hX, hRf, hRl, hcl, hsl⟩ := C
  intro len pc lv st M z hd hs H locs ls hP hS hl kk
  have hs : pop2 st (fun (x y : Int32) r => if len = 1 then some (Sum.inr (pc + 1, lv, .int (x >>> (y &&& 31)) :: r, M)) else none : _ → _ → _ → So) = some (.inr z) := hs
  obtain ⟨x, y, r, he9, hq9⟩ := pop2_inv hs
  clear hs
  subst he9
  have hs := hq9
  clear hq9
  obtain ⟨rfl, hz⟩ := len_inv hs
  cases hz
  exact lv_ishr hx hb hd (kk H locs ls hP hS hl)
theorem so_iushr (C : Cx p l R s m args c sc oc cc nL G sz Ts d cells slots) : Snd p l e R s m args below meth c cal sc oc cc ret nL G sz cells slots Q .iushr := by
  obtain ⟨hx, hb, hml, hown, hts, hg, hK, hN, hT, hsz, hG, hX, hRf, hRl, hcl, hsl⟩ := C
  intro len pc lv st M z hd hs H locs ls hP hS hl kk
  have hs : pop2 st (fun x y r => if len = 1 then some (Sum.inr (pc + 1, lv, .int (x.toUInt32 >>> (y.toUInt32 &&& Int32.toUInt32 31)).toInt32 :: r, M)) else none : _ → _ → _ → So) = some (.inr z) := hs
  obtain ⟨x, y, r, he9, hq9⟩ := pop2_inv hs
  clear hs
  subst he9
  have hs := hq9
  clear hq9
  obtain ⟨rfl, hz⟩ := len_inv hs
  cases hz
  exact lv_iushr hx hb hd rfl (kk H locs ls hP hS hl)
theorem so_idiv (C : Cx p l R s m args c sc oc cc nL G sz Ts d cells slots) : Snd p l e R s m args below meth c cal sc oc cc ret nL G sz cells slots Q .idiv := by
  obtain ⟨hx, hb, hml, hown, hts, hg, hK, hN, hT, hsz, hG, hX, hRf, hRl, hcl, hsl⟩ := C
  intro len pc lv st M z hd hs H locs ls hP hS hl kk
  have hs : pop2 st (fun x y r => guK (decide (¬ y = 0)) (if len = 1 then some (Sum.inr (pc + 1, lv, .int (x / y) :: r, M)) else none : So)) = some (.inr z) := hs
  obtain ⟨x, y, r, he9, hq9⟩ := pop2_inv hs
  clear hs
  subst he9
  have hs := hq9
  clear hq9
  obtain ⟨hy, hs⟩ := guK_inv hs
  obtain ⟨rfl, hz⟩ := len_inv hs
  cases hz
  exact lv_idiv hx hb hd (of_decide_eq_true hy) (kk H locs ls hP hS hl)
theorem so_irem (C : Cx p l R s m args c sc oc cc nL G sz Ts d cells slots) : Snd p l e R s m args below meth c cal sc oc cc ret nL G sz cells slots Q .irem := by
  obtain ⟨hx, hb, hml, hown, hts, hg, hK, hN, hT, hsz, hG, hX, hRf, hRl, hcl, hsl⟩ := C
  intro len pc lv st M z hd hs H locs ls hP hS hl kk
  have hs : pop2 st (fun x y r => guK (decide (¬ y = 0)) (if len = 1 then some (Sum.inr (pc + 1, lv, .int (x - x / y * y) :: r, M)) else none : So)) = some (.inr z) := hs
  obtain ⟨x, y, r, he9, hq9⟩ := pop2_inv hs
  clear hs
  subst he9
  have hs := hq9
  clear hq9
  obtain ⟨hy, hs⟩ := guK_inv hs
  obtain ⟨rfl, hz⟩ := len_inv hs
  cases hz
  exact lv_irem hx hb hd (of_decide_eq_true hy) (kk H locs ls hP hS hl)
theorem so_ineg (C : Cx p l R s m args c sc oc cc nL G sz Ts d cells slots) : Snd p l e R s m args below meth c cal sc oc cc ret nL G sz cells slots Q .ineg := by
  obtain ⟨hx, hb, hml, hown, hts, hg, hK, hN, hT, hsz, hG, hX, hRf, hRl, hcl, hsl⟩ := C
  intro len pc lv st M z hd hs H locs ls hP hS hl kk
  have hs : pop1 st (fun x r => if len = 1 then some (Sum.inr (pc + 1, lv, .int (-x) :: r, M)) else none : _ → _ → So) = some (.inr z) := hs
  obtain ⟨x, r, he9, hq9⟩ := pop1_inv hs
  clear hs
  subst he9
  have hs := hq9
  clear hq9
  obtain ⟨rfl, hz⟩ := len_inv hs
  cases hz
  exact lv_ineg hx hb hd (kk H locs ls hP hS hl)
theorem so_i2b (C : Cx p l R s m args c sc oc cc nL G sz Ts d cells slots) : Snd p l e R s m args below meth c cal sc oc cc ret nL G sz cells slots Q .i2b := by
  obtain ⟨hx, hb, hml, hown, hts, hg, hK, hN, hT, hsz, hG, hX, hRf, hRl, hcl, hsl⟩ := C
  intro len pc lv st M z hd hs H locs ls hP hS hl kk
  have hs : pop1 st (fun x r => if len = 1 then some (Sum.inr (pc + 1, lv, .int x.toInt8.toInt32 :: r, M)) else none : _ → _ → So) = some (.inr z) := hs
  obtain ⟨x, r, he9, hq9⟩ := pop1_inv hs
  clear hs
  subst he9
  have hs := hq9
  clear hq9
  obtain ⟨rfl, hz⟩ := len_inv hs
  cases hz
  exact lv_i2b hx hb hd rfl (kk H locs ls hP hS hl)
theorem so_i2s (C : Cx p l R s m args c sc oc cc nL G sz Ts d cells slots) : Snd p l e R s m args below meth c cal sc oc cc ret nL G sz cells slots Q .i2s := by
  obtain ⟨hx, hb, hml, hown, hts, hg, hK, hN, hT, hsz, hG, hX, hRf, hRl, hcl, hsl⟩ := C
  intro len pc lv st M z hd hs H locs ls hP hS hl kk
  have hs : pop1 st (fun x r => if len = 1 then some (Sum.inr (pc + 1, lv, .int x.toInt16.toInt32 :: r, M)) else none : _ → _ → So) = some (.inr z) := hs
  obtain ⟨x, r, he9, hq9⟩ := pop1_inv hs
  clear hs
  subst he9
  have hs := hq9
  clear hq9
  obtain ⟨rfl, hz⟩ := len_inv hs
  cases hz
  exact lv_i2s hx hb hd rfl (kk H locs ls hP hS hl)
theorem so_i2c (C : Cx p l R s m args c sc oc cc nL G sz Ts d cells slots) : Snd p l e R s m args below meth c cal sc oc cc ret nL G sz cells slots Q .i2c := by
  obtain ⟨hx, hb, hml, hown, hts, hg, hK, hN, hT, hsz, hG, hX, hRf, hRl, hcl, hsl⟩ := C
  intro len pc lv st M z hd hs H locs ls hP hS hl kk
  have hs : pop1 st (fun x r => if len = 1 then some (Sum.inr (pc + 1, lv, .int (x.toUInt32 % 65536).toInt32 :: r, M)) else none : _ → _ → So) = some (.inr z) := hs
  obtain ⟨x, r, he9, hq9⟩ := pop1_inv hs
  clear hs
  subst he9
  have hs := hq9
  clear hq9
  obtain ⟨rfl, hz⟩ := len_inv hs
  cases hz
  exact lv_i2c hx hb hd rfl (kk H locs ls hP hS hl)
theorem so_i2l (C : Cx p l R s m args c sc oc cc nL G sz Ts d cells slots) : Snd p l e R s m args below meth c cal sc oc cc ret nL G sz cells slots Q .i2l := by
  obtain ⟨hx, hb, hml, hown, hts, hg, hK, hN, hT, hsz, hG, hX, hRf, hRl, hcl, hsl⟩ := C
  intro len pc lv st M z hd hs H locs ls hP hS hl kk
  have hs : pop1 st (fun x r => if len = 1 then some (Sum.inr (pc + 1, lv, .long x.toInt64 :: r, M)) else none : _ → _ → So) = some (.inr z) := hs
  obtain ⟨x, r, he9, hq9⟩ := pop1_inv hs
  clear hs
  subst he9
  have hs := hq9
  clear hq9
  obtain ⟨rfl, hz⟩ := len_inv hs
  cases hz
  exact lv_i2l hx hb hd rfl (kk H locs ls hP hS hl)
theorem so_ladd (C : Cx p l R s m args c sc oc cc nL G sz Ts d cells slots) : Snd p l e R s m args below meth c cal sc oc cc ret nL G sz cells slots Q .ladd := by
  obtain ⟨hx, hb, hml, hown, hts, hg, hK, hN, hT, hsz, hG, hX, hRf, hRl, hcl, hsl⟩ := C
  intro len pc lv st M z hd hs H locs ls hP hS hl kk
  have hs : (match (generalizing := false) st with | .long y :: .long x :: r => (if len = 1 then some (Sum.inr (pc + 1, lv, .long (x + y) :: r, M)) else none) | _ => none : So) = some (.inr z) := hs
  split at hs
  · obtain ⟨rfl, hz⟩ := len_inv hs
    cases hz
    exact lv_ladd hx hb hd (kk H locs ls hP hS hl)
  · cases hs
theorem so_lcmp (C : Cx p l R s m args c sc oc cc nL G sz Ts d cells slots) : Snd p l e R s m args below meth c cal sc oc cc ret nL G sz cells slots Q .lcmp := by
  obtain ⟨hx, hb, hml, hown, hts, hg, hK, hN, hT, hsz, hG, hX, hRf, hRl, hcl, hsl⟩ := C
  intro len pc lv st M z hd hs H locs ls hP hS hl kk
  have hs : (match (generalizing := false) st with | .long y :: .long x :: r => (if len = 1 then some (Sum.inr (pc + 1, lv, .int (lg_cmp x y) :: r, M)) else none) | _ => none : So) = some (.inr z) := hs
  split at hs
  · obtain ⟨rfl, hz⟩ := len_inv hs
    cases hz
    exact W.lcmp hx hb hd (kk H locs ls hP hS hl)
  · cases hs
theorem so_dup (C : Cx p l R s m args c sc oc cc nL G sz Ts d cells slots) : Snd p l e R s m args below meth c cal sc oc cc ret nL G sz cells slots Q .dup := by
  obtain ⟨hx, hb, hml, hown, hts, hg, hK, hN, hT, hsz, hG, hX, hRf, hRl, hcl, hsl⟩ := C
  intro len pc lv st M z hd hs H locs ls hP hS hl kk
  have hs : (match (generalizing := false) st with | .int x :: r => (if len = 1 then some (Sum.inr (pc + 1, lv, .int x :: .int x :: r, M)) else none) | .ref x :: r => (if len = 1 then some (Sum.inr (pc + 1, lv, .ref x :: .ref x :: r, M)) else none) | _ => none : So) = some (.inr z) := hs
  split at hs
  · obtain ⟨rfl, hz⟩ := len_inv hs
    cases hz
    exact lv_dup hx hb hd rfl (kk H locs ls hP hS hl)
  · obtain ⟨rfl, hz⟩ := len_inv hs
    cases hz
    exact lv_dup hx hb hd rfl (kk H locs ls hP hS hl)
  · cases hs
theorem so_dup2 (C : Cx p l R s m args c sc oc cc nL G sz Ts d cells slots) : Snd p l e R s m args below meth c cal sc oc cc ret nL G sz cells slots Q .dup2 := by
  obtain ⟨hx, hb, hml, hown, hts, hg, hK, hN, hT, hsz, hG, hX, hRf, hRl, hcl, hsl⟩ := C
  intro len pc lv st M z hd hs H locs ls hP hS hl kk
  have hs : (match (generalizing := false) st with | .int x :: .ref y :: r => (if len = 1 then some (Sum.inr (pc + 1, lv, .int x :: .ref y :: .int x :: .ref y :: r, M)) else none) | _ => none : So) = some (.inr z) := hs
  split at hs
  · obtain ⟨rfl, hz⟩ := len_inv hs
    cases hz
    exact lv_dup2_11 hx hb hd rfl rfl (kk H locs ls hP hS hl)
  · cases hs
theorem so_pop (C : Cx p l R s m args c sc oc cc nL G sz Ts d cells slots) : Snd p l e R s m args below meth c cal sc oc cc ret nL G sz cells slots Q .pop := by
  obtain ⟨hx, hb, hml, hown, hts, hg, hK, hN, hT, hsz, hG, hX, hRf, hRl, hcl, hsl⟩ := C
  intro len pc lv st M z hd hs H locs ls hP hS hl kk
  have hs : pop1 st (fun _ r => if len = 1 then some (Sum.inr (pc + 1, lv, r, M)) else none : _ → _ → So) = some (.inr z) := hs
  obtain ⟨x, r, he9, hq9⟩ := pop1_inv hs
  clear hs
  subst he9
  have hs := hq9
  clear hq9
  obtain ⟨rfl, hz⟩ := len_inv hs
  cases hz
  exact lv_pop hx hb hd rfl (kk H locs ls hP hS hl)
theorem so_ifeq (C : Cx p l R s m args c sc oc cc nL G sz Ts d cells slots) (off : Int) : Snd p l e R s m args below meth c cal sc oc cc ret nL G sz cells slots Q (.ifCond .eq off) := by
  obtain ⟨hx, hb, hml, hown, hts, hg, hK, hN, hT, hsz, hG, hX, hRf, hRl, hcl, hsl⟩ := C
  intro len pc lv st M z hd hs H locs ls hP hS hl kk
  have hs : pop1 st (fun x r => if x = 0 then jmpK pc off (fun t => if len = 3 then some (Sum.inr (t, lv, r, M)) else none) else (if len = 3 then some (Sum.inr (pc + 3, lv, r, M)) else none) : _ → _ → So) = some (.inr z) := hs
  obtain ⟨x, r, he9, hq9⟩ := pop1_inv hs
  clear hs
  subst he9
  have hs := hq9
  clear hq9
  by_cases hc : x = 0
  · rw [if_pos hc] at hs
    obtain ⟨t, ht, hs⟩ := jmpK_inv hs
    obtain ⟨rfl, hz⟩ := len_inv hs
    cases hz
    exact lv_if_eq hx hb hd ht (fun _ => kk H locs ls hP hS hl) (fun h => absurd hc h)
  · rw [if_neg hc] at hs
    obtain ⟨rfl, hz⟩ := len_inv hs
    cases hz
    exact W_if_eq hx hb hd (fun h => hc h) (kk H locs ls hP hS hl)
theorem so_ifne (C : Cx p l R s m args c sc oc cc nL G sz Ts d cells slots) (off : Int) : Snd p l e R s m args below meth c cal sc oc cc ret nL G sz cells slots Q (.ifCond .ne off) := by
  obtain ⟨hx, hb, hml, hown, hts, hg, hK, hN, hT, hsz, hG, hX, hRf, hRl, hcl, hsl⟩ := C
  intro len pc lv st M z hd hs H locs ls hP hS hl kk
  have hs : pop1 st (fun x r => if ¬ x = 0 then jmpK pc off (fun t => if len = 3 then some (Sum.inr (t, lv, r, M)) else none) else (if len = 3 then some (Sum.inr (pc + 3, lv, r, M)) else none) : _ → _ → So) = some (.inr z) := hs
  obtain ⟨x, r, he9, hq9⟩ := pop1_inv hs
  clear hs
  subst he9
  have hs := hq9
  clear hq9
  by_cases hc : ¬ x = 0
  · rw [if_pos hc] at hs
    obtain ⟨t, ht, hs⟩ := jmpK_inv hs
    obtain ⟨rfl, hz⟩ := len_inv hs
    cases hz
    exact lv_if_ne hx hb hd ht (fun _ => kk H locs ls hP hS hl) (fun h => absurd h hc)
  · rw [if_neg hc] at hs
    obtain ⟨rfl, hz⟩ := len_inv hs
    cases hz
    exact W_if_ne hx hb hd (fun h => hc h) (kk H locs ls hP hS hl)
theorem so_iflt (C : Cx p l R s m args c sc oc cc nL G sz Ts d cells slots) (off : Int) : Snd p l e R s m args below meth c cal sc oc cc ret nL G sz cells slots Q (.ifCond .lt off) := by
  obtain ⟨hx, hb, hml, hown, hts, hg, hK, hN, hT, hsz, hG, hX, hRf, hRl, hcl, hsl⟩ := C
  intro len pc lv st M z hd hs H locs ls hP hS hl kk
  have hs : pop1 st (fun x r => if x < 0 then jmpK pc off (fun t => if len = 3 then some (Sum.inr (t, lv, r, M)) else none) else (if len = 3 then some (Sum.inr (pc + 3, lv, r, M)) else none) : _ → _ → So) = some (.inr z) := hs
  obtain ⟨x, r, he9, hq9⟩ := pop1_inv hs
  clear hs
  subst he9
  have hs := hq9
  clear hq9
  by_cases hc : x < 0
  · rw [if_pos hc] at hs
    obtain ⟨t, ht, hs⟩ := jmpK_inv hs
    obtain ⟨rfl, hz⟩ := len_inv hs
    cases hz
    exact lv_if_lt hx hb hd ht (fun _ => kk H locs ls hP hS hl) (fun h => absurd hc h)
  · rw [if_neg hc] at hs
    obtain ⟨rfl, hz⟩ := len_inv hs
    cases hz
    exact W_if_lt hx hb hd (fun h => hc h) (kk H locs ls hP hS hl)
theorem so_ifge (C : Cx p l R s m args c sc oc cc nL G sz Ts d cells slots) (off : Int) : Snd p l e R s m args below meth c cal sc oc cc ret nL G sz cells slots Q (.ifCond .ge off) := by
  obtain ⟨hx, hb, hml, hown, hts, hg, hK, hN, hT, hsz, hG, hX, hRf, hRl, hcl, hsl⟩ := C
  intro len pc lv st M z hd hs H locs ls hP hS hl kk
  have hs : pop1 st (fun x r => if 0 ≤ x then jmpK pc off (fun t => if len = 3 then some (Sum.inr (t, lv, r, M)) else none) else (if len = 3 then some (Sum.inr (pc + 3, lv, r, M)) else none) : _ → _ → So) = some (.inr z) := hs
  obtain ⟨x, r, he9, hq9⟩ := pop1_inv hs
  clear hs
  subst he9
  have hs := hq9
  clear hq9
  by_cases hc : 0 ≤ x
  · rw [if_pos hc] at hs
    obtain ⟨t, ht, hs⟩ := jmpK_inv hs
    obtain ⟨rfl, hz⟩ := len_inv hs
    cases hz
    exact lv_if_ge hx hb hd ht (fun _ => kk H locs ls hP hS hl) (fun h => absurd hc h)
  · rw [if_neg hc] at hs
    obtain ⟨rfl, hz⟩ := len_inv hs
    cases hz
    exact W_if_ge hx hb hd (fun h => hc h) (kk H locs ls hP hS hl)
theorem so_ifgt (C : Cx p l R s m args c sc oc cc nL G sz Ts d cells slots) (off : Int) : Snd p l e R s m args below meth c cal sc oc cc ret nL G sz cells slots Q (.ifCond .gt off) := by
  obtain ⟨hx, hb, hml, hown, hts, hg, hK, hN, hT, hsz, hG, hX, hRf, hRl, hcl, hsl⟩ := C
  intro len pc lv st M z hd hs H locs ls hP hS hl kk
  have hs : pop1 st (fun x r => if 0 < x then jmpK pc off (fun t => if len = 3 then some (Sum.inr (t, lv, r, M)) else none) else (if len = 3 then some (Sum.inr (pc + 3, lv, r, M)) else none) : _ → _ → So) = some (.inr z) := hs
  obtain ⟨x, r, he9, hq9⟩ := pop1_inv hs
  clear hs
  subst he9
  have hs := hq9
  clear hq9
  by_cases hc : 0 < x
  · rw [if_pos hc] at hs
    obtain ⟨t, ht, hs⟩ := jmpK_inv hs
    obtain ⟨rfl, hz⟩ := len_inv hs
    cases hz
    exact lv_if_gt hx hb hd ht (fun _ => kk H locs ls hP hS hl) (fun h => absurd hc h)
  · rw [if_neg hc] at hs
    obtain ⟨rfl, hz⟩ := len_inv hs
    cases hz
    exact W_if_gt hx hb hd (fun h => hc h) (kk H locs ls hP hS hl)
theorem so_ifle (C : Cx p l R s m args c sc oc cc nL G sz Ts d cells slots) (off : Int) : Snd p l e R s m args below meth c cal sc oc cc ret nL G sz cells slots Q (.ifCond .le off) := by
  obtain ⟨hx, hb, hml, hown, hts, hg, hK, hN, hT, hsz, hG, hX, hRf, hRl, hcl, hsl⟩ := C
  intro len pc lv st M z hd hs H locs ls hP hS hl kk
  have hs : pop1 st (fun x r => if x ≤ 0 then jmpK pc off (fun t => if len = 3 then some (Sum.inr (t, lv, r, M)) else none) else (if len = 3 then some (Sum.inr (pc + 3, lv, r, M)) else none) : _ → _ → So) = some (.inr z) := hs
  obtain ⟨x, r, he9, hq9⟩ := pop1_inv hs
  clear hs
  subst he9
  have hs := hq9
  clear hq9
  by_cases hc : x ≤ 0
  · rw [if_pos hc] at hs
    obtain ⟨t, ht, hs⟩ := jmpK_inv hs
    obtain ⟨rfl, hz⟩ := len_inv hs
    cases hz
    exact lv_if_le hx hb hd ht (fun _ => kk H locs ls hP hS hl) (fun h => absurd hc h)
  · rw [if_neg hc] at hs
    obtain ⟨rfl, hz⟩ := len_inv hs
    cases hz
    exact W_if_le hx hb hd (fun h => hc h) (kk H locs ls hP hS hl)
theorem so_cmpeq (C : Cx p l R s m args c sc oc cc nL G sz Ts d cells slots) (off : Int) : Snd p l e R s m args below meth c cal sc oc cc ret nL G sz cells slots Q (.if_icmp .eq off) := by
  obtain ⟨hx, hb, hml, hown, hts, hg, hK, hN, hT, hsz, hG, hX, hRf, hRl, hcl, hsl⟩ := C
  intro len pc lv st M z hd hs H locs ls hP hS hl kk
  have hs : pop2 st (fun x y r => if x = y then jmpK pc off (fun t => if len = 3 then some (Sum.inr (t, lv, r, M)) else none) else (if len = 3 then some (Sum.inr (pc + 3, lv, r, M)) else none) : _ → _ → _ → So) = some (.inr z) := hs
  obtain ⟨x, y, r, he9, hq9⟩ := pop2_inv hs
  clear hs
  subst he9
  have hs := hq9
  clear hq9
  by_cases hc : x = y
  · rw [if_pos hc] at hs
    obtain ⟨t, ht, hs⟩ := jmpK_inv hs
    obtain ⟨rfl, hz⟩ := len_inv hs
    cases hz
    exact lv_icmp_eq hx hb hd ht (fun _ => kk H locs ls hP hS hl) (fun h => absurd hc h)
  · rw [if_neg hc] at hs
    obtain ⟨rfl, hz⟩ := len_inv hs
    cases hz
    exact W_icmp_eq hx hb hd (fun h => hc h) (kk H locs ls hP hS hl)
theorem so_cmpne (C : Cx p l R s m args c sc oc cc nL G sz Ts d cells slots) (off : Int) : Snd p l e R s m args below meth c cal sc oc cc ret nL G sz cells slots Q (.if_icmp .ne off) := by
  obtain ⟨hx, hb, hml, hown, hts, hg, hK, hN, hT, hsz, hG, hX, hRf, hRl, hcl, hsl⟩ := C
  intro len pc lv st M z hd hs H locs ls hP hS hl kk
  have hs : pop2 st (fun x y r => if ¬ x = y then jmpK pc off (fun t => if len = 3 then some (Sum.inr (t, lv, r, M)) else none) else (if len = 3 then some (Sum.inr (pc + 3, lv, r, M)) else none) : _ → _ → _ → So) = some (.inr z) := hs
  obtain ⟨x, y, r, he9, hq9⟩ := pop2_inv hs
  clear hs
  subst he9
  have hs := hq9
  clear hq9
  by_cases hc : ¬ x = y
  · rw [if_pos hc] at hs
    obtain ⟨t, ht, hs⟩ := jmpK_inv hs
    obtain ⟨rfl, hz⟩ := len_inv hs
    cases hz
    exact lv_icmp_ne hx hb hd ht (fun _ => kk H locs ls hP hS hl) (fun h => absurd h hc)
  · rw [if_neg hc] at hs
    obtain ⟨rfl, hz⟩ := len_inv hs
    cases hz
    exact W_icmp_ne hx hb hd (fun h => hc h) (kk H locs ls hP hS hl)
theorem so_cmplt (C : Cx p l R s m args c sc oc cc nL G sz Ts d cells slots) (off : Int) : Snd p l e R s m args below meth c cal sc oc cc ret nL G sz cells slots Q (.if_icmp .lt off) := by
  obtain ⟨hx, hb, hml, hown, hts, hg, hK, hN, hT, hsz, hG, hX, hRf, hRl, hcl, hsl⟩ := C
  intro len pc lv st M z hd hs H locs ls hP hS hl kk
  have hs : pop2 st (fun x y r => if x < y then jmpK pc off (fun t => if len = 3 then some (Sum.inr (t, lv, r, M)) else none) else (if len = 3 then some (Sum.inr (pc + 3, lv, r, M)) else none) : _ → _ → _ → So) = some (.inr z) := hs
  obtain ⟨x, y, r, he9, hq9⟩ := pop2_inv hs
  clear hs
  subst he9
  have hs := hq9
  clear hq9
  by_cases hc : x < y
  · rw [if_pos hc] at hs
    obtain ⟨t, ht, hs⟩ := jmpK_inv hs
    obtain ⟨rfl, hz⟩ := len_inv hs
    cases hz
    exact lv_icmp_lt hx hb hd ht (fun _ => kk H locs ls hP hS hl) (fun h => absurd hc h)
  · rw [if_neg hc] at hs
    obtain ⟨rfl, hz⟩ := len_inv hs
    cases hz
    exact W_icmp_lt hx hb hd (fun h => hc h) (kk H locs ls hP hS hl)
theorem so_cmpge (C : Cx p l R s m args c sc oc cc nL G sz Ts d cells slots) (off : Int) : Snd p l e R s m args below meth c cal sc oc cc ret nL G sz cells slots Q (.if_icmp .ge off) := by
  obtain ⟨hx, hb, hml, hown, hts, hg, hK, hN, hT, hsz, hG, hX, hRf, hRl, hcl, hsl⟩ := C
  intro len pc lv st M z hd hs H locs ls hP hS hl kk
  have hs : pop2 st (fun x y r => if y ≤ x then jmpK pc off (fun t => if len = 3 then some (Sum.inr (t, lv, r, M)) else none) else (if len = 3 then some (Sum.inr (pc + 3, lv, r, M)) else none) : _ → _ → _ → So) = some (.inr z) := hs
  obtain ⟨x, y, r, he9, hq9⟩ := pop2_inv hs
  clear hs
  subst he9
  have hs := hq9
  clear hq9
  by_cases hc : y ≤ x
  · rw [if_pos hc] at hs
    obtain ⟨t, ht, hs⟩ := jmpK_inv hs
    obtain ⟨rfl, hz⟩ := len_inv hs
    cases hz
    exact lv_icmp_ge hx hb hd ht (fun _ => kk H locs ls hP hS hl) (fun h => absurd hc h)
  · rw [if_neg hc] at hs
    obtain ⟨rfl, hz⟩ := len_inv hs
    cases hz
    exact W_icmp_ge hx hb hd (fun h => hc h) (kk H locs ls hP hS hl)
theorem so_cmpgt (C : Cx p l R s m args c sc oc cc nL G sz Ts d cells slots) (off : Int) : Snd p l e R s m args below meth c cal sc oc cc ret nL G sz cells slots Q (.if_icmp .gt off) := by
  obtain ⟨hx, hb, hml, hown, hts, hg, hK, hN, hT, hsz, hG, hX, hRf, hRl, hcl, hsl⟩ := C
  intro len pc lv st M z hd hs H locs ls hP hS hl kk
  have hs : pop2 st (fun x y r => if y < x then jmpK pc off (fun t => if len = 3 then some (Sum.inr (t, lv, r, M)) else none) else (if len = 3 then some (Sum.inr (pc + 3, lv, r, M)) else none) : _ → _ → _ → So) = some (.inr z) := hs
  obtain ⟨x, y, r, he9, hq9⟩ := pop2_inv hs
  clear hs
  subst he9
  have hs := hq9
  clear hq9
  by_cases hc : y < x
  · rw [if_pos hc] at hs
    obtain ⟨t, ht, hs⟩ := jmpK_inv hs
    obtain ⟨rfl, hz⟩ := len_inv hs
    cases hz
    exact lv_icmp_gt hx hb hd ht (fun _ => kk H locs ls hP hS hl) (fun h => absurd hc h)
  · rw [if_neg hc] at hs
    obtain ⟨rfl, hz⟩ := len_inv hs
    cases hz
    exact W_icmp_gt hx hb hd (fun h => hc h) (kk H locs ls hP hS hl)
theorem so_cmple (C : Cx p l R s m args c sc oc cc nL G sz Ts d cells slots) (off : Int) : Snd p l e R s m args below meth c cal sc oc cc ret nL G sz cells slots Q (.if_icmp .le off) := by
  obtain ⟨hx, hb, hml, hown, hts, hg, hK, hN, hT, hsz, hG, hX, hRf, hRl, hcl, hsl⟩ := C
  intro len pc lv st M z hd hs H locs ls hP hS hl kk
  have hs : pop2 st (fun x y r => if x ≤ y then jmpK pc off (fun t => if len = 3 then some (Sum.inr (t, lv, r, M)) else none) else (if len = 3 then some (Sum.inr (pc + 3, lv, r, M)) else none) : _ → _ → _ → So) = some (.inr z) := hs
  obtain ⟨x, y, r, he9, hq9⟩ := pop2_inv hs
  clear hs
  subst he9
  have hs := hq9
  clear hq9
  by_cases hc : x ≤ y
  · rw [if_pos hc] at hs
    obtain ⟨t, ht, hs⟩ := jmpK_inv hs
    obtain ⟨rfl, hz⟩ := len_inv hs
    cases hz
    exact lv_icmp_le hx hb hd ht (fun _ => kk H locs ls hP hS hl) (fun h => absurd hc h)
  · rw [if_neg hc] at hs
    obtain ⟨rfl, hz⟩ := len_inv hs
    cases hz
    exact W_icmp_le hx hb hd (fun h => hc h) (kk H locs ls hP hS hl)
theorem so_goto (C : Cx p l R s m args c sc oc cc nL G sz Ts d cells slots) (off : Int) : Snd p l e R s m args below meth c cal sc oc cc ret nL G sz cells slots Q (.goto off) := by
  obtain ⟨hx, hb, hml, hown, hts, hg, hK, hN, hT, hsz, hG, hX, hRf, hRl, hcl, hsl⟩ := C
  intro len pc lv st M z hd hs H locs ls hP hS hl kk
  have hs : jmpK pc off (fun t => if len = 3 then some (Sum.inr (t, lv, st, M)) else none : _ → So) = some (.inr z) := hs
  obtain ⟨t, ht, hs⟩ := jmpK_inv hs
  obtain ⟨rfl, hz⟩ := len_inv hs
  cases hz
  exact lv_goto hx hb hd ht (kk H locs ls hP hS hl)
theorem so_table (C : Cx p l R s m args c sc oc cc nL G sz Ts d cells slots) (dflt lo hi : Int) (offs : Array Int) : Snd p l e R s m args below meth c cal sc oc cc ret nL G sz cells slots Q (.tableswitch dflt lo hi offs) := by
  obtain ⟨hx, hb, hml, hown, hts, hg, hK, hN, hT, hsz, hG, hX, hRf, hRl, hcl, hsl⟩ := C
  intro len pc lv st M z hd hs H locs ls hP hS hl kk
  have hs : pop1 st (fun x r => if x.toInt < lo ∨ hi < x.toInt then jmpK pc dflt (fun t => some (Sum.inr (t, lv, r, M))) else opK (offs[(x.toInt - lo).toNat]?) (fun off => jmpK pc off (fun t => some (Sum.inr (t, lv, r, M)))) : _ → _ → So) = some (.inr z) := hs
  obtain ⟨x, r, he9, hq9⟩ := pop1_inv hs
  clear hs
  subst he9
  have hs := hq9
  clear hq9
  by_cases hc : x.toInt < lo ∨ hi < x.toInt
  · rw [if_pos hc] at hs
    obtain ⟨t, ht, hs⟩ := jmpK_inv hs
    cases hs
    exact lv_tableOut hx hb hd hc ht (kk H locs ls hP hS hl)
  · rw [if_neg hc] at hs
    obtain ⟨off, ho, hs⟩ := opK_inv hs
    obtain ⟨t, ht, hs⟩ := jmpK_inv hs
    cases hs
    exact lv_tableIn hx hb hd (fun h => hc (Or.inl h)) (fun h => hc (Or.inr h)) ho ht (kk H locs ls hP hS hl)
theorem so_look (C : Cx p l R s m args c sc oc cc nL G sz Ts d cells slots) (dflt : Int) (ps : Array (Int × Int)) : Snd p l e R s m args below meth c cal sc oc cc ret nL G sz cells slots Q (.lookupswitch dflt ps) := by
  obtain ⟨hx, hb, hml, hown, hts, hg, hK, hN, hT, hsz, hG, hX, hRf, hRl, hcl, hsl⟩ := C
  intro len pc lv st M z hd hs H locs ls hP hS hl kk
  have hs : pop1 st (fun x r => guK ((ps.toList.zip (ps.toList.drop 1)).all (fun (a, next) => a.1 < next.1)) (jmpK pc (Op.lookupswitch.offset ps.toList dflt x.toInt) (fun t => some (Sum.inr (t, lv, r, M)))) : _ → _ → So) = some (.inr z) := hs
  obtain ⟨x, r, he9, hq9⟩ := pop1_inv hs
  clear hs
  subst he9
  have hs := hq9
  clear hq9
  obtain ⟨hp, hs⟩ := guK_inv hs
  obtain ⟨t, ht, hs⟩ := jmpK_inv hs
  cases hs
  exact lv_lookup hx hb hd hp rfl ht (kk H locs ls hP hS hl)
end SND
