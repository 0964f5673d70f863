/-! the little machine: bytecode over a memory of rows of ints; references are handles of a fixed layout; what it answers, the machine answers (part 06) -/
abbrev Mem : Type := Nat → Nat → Int32
abbrev Lv : Type := List (Option Value)
abbrev Rs : Type := Option Value × Mem
abbrev Cf : Type := Nat × Lv × List Value × Mem
abbrev So : Type := Option (Sum Rs Cf)
abbrev Cal : Type := Nat → List Value → Mem → Option Rs
abbrev Scr : Type := Option (Nat × (Nat → Int32))
def mrow (M : Mem) (k : Nat) (f : Nat → Int32) : Mem := fun k' => if k' = k then f else M k'
def mset (M : Mem) (k i : Nat) (v : Int32) : Mem := mrow M k (upd (M k) i v)
def rsF (oc idx : Nat) : Option (Nat × Nat) := if idx < 10000 then (tabF.lookup (oc * 10000 + idx)).map (fun e => (e.1, e.2.1)) else none
def rsM (oc idx : Nat) : Option (Nat × Nat × Nat) := if idx < 10000 then (tabM.lookup (oc * 10000 + idx)).map (fun e => (e.1, e.2.1, e.2.2.1)) else none
def rsC (oc idx : Nat) : Option Int32 := if idx < 10000 then (tabC.lookup (oc * 10000 + idx)).map (fun e => e.1) else none
def rsK (oc idx : Nat) : Option Nat := if idx < 10000 then tabK.lookup (oc * 10000 + idx) else none
/-- statics: own*10000+index -/
def rsS (oc idx : Nat) : Option Value := match oc, idx with
  | 1, 69 => some (.ref 150)
  | 1, 74 => some (.ref 151)
  | 2, 15 => some (.ref 152)
  | 9, 38 => some (.int 1)
  | 9, 1053 => some .null
  | _, _ => none
def inb (i : Int32) (n : Nat) : Bool := decide (¬ (i < 0 ∨ n ≤ i.toNatClampNeg))
/-- what an object's field holds -/
def slotV (ci k h : Nat) (M : Mem) : Option Value := match lay h with
  | (1, c :: sl) => if c = ci then (match sl[k]? with | some 0 => some (.int (M h k)) | some (r + 1) => some (.ref r) | none => none) else none
  | _ => none
def isInt (ci k h : Nat) : Bool := match lay h with
  | (1, c :: sl) => decide (c = ci) && decide (sl[k]? = some 0)
  | _ => false
def isZ (ci k : Nat) : Bool := match ci, k with
  | 1, 14 => true
  | 4, 2 => true
  | 5, 3 => true
  | 5, 7 => true
  | 5, 22 => true
  | _, _ => false
def isCl (ci h : Nat) : Bool := match lay h with
  | (1, c :: _) => decide (c = ci)
  | (6, _) => decide (ci = 100)
  | _ => false
/-- which class the objects of an own class are -/
def ciO (oc : Nat) : Nat := match oc with | 0 => 0 | 1 => 1 | 3 => 2 | 4 => 3 | 5 => 4 | 6 => 5 | 9 => 100 | _ => 99
def arrV9 (sc : Scr) (h : Nat) (M : Mem) : Option (Nat × (Nat → Int32)) := match lay h with
  | (0, [n]) => some (n, M h)
  | (5, _) => some (7, fun j => (stI h).getD j 0)
  | (8, _) => sc
  | _ => none
def arrB (h : Nat) : Option (Nat × (Nat → Int32)) := match lay h with
  | (7, [i]) => some (lenS.getD i 0, fun j => (bytS.getD i []).getD j 0)
  | _ => none
def arrR (h : Nat) : Option (List Nat) := match lay h with
  | (2, l) => some l
  | (3, l) => some l
  | (4, l) => some l
  | _ => none
def arrN (h : Nat) : Option Nat := match lay h with
  | (0, [n]) => some n
  | _ => none
/-- little enough on the stack, and no longs -/
def rk : Nat → List Value → Bool
  | _, [] => true
  | n + 1, .int _ :: l => rk n l
  | n + 1, .ref _ :: l => rk n l
  | _, _ => false
def narB (rt : FieldType) (v : Int32) : Bool := decide (narrow rt (.int v) = .int v)
def pop1 {α : Type} (st : List Value) (k : Int32 → List Value → Option α) : Option α := match st with | .int x :: r => k x r | _ => none
def pop2 {α : Type} (st : List Value) (k : Int32 → Int32 → List Value → Option α) : Option α := match st with | .int y :: .int x :: r => k x y r | _ => none
def popr {α : Type} (st : List Value) (k : Nat → List Value → Option α) : Option α := match st with | .ref h :: r => k h r | _ => none
def lvI {α : Type} (lv : Lv) (i : Nat) (k : Int32 → Option α) : Option α := match lv[i]? with | some (some (.int x)) => k x | _ => none
def lvR {α : Type} (lv : Lv) (i : Nat) (k : Nat → Option α) : Option α := match lv[i]? with | some (some (.ref x)) => k x | _ => none
def lvS {α : Type} (lv : Lv) (i : Nat) (v : Value) (k : Lv → Option α) : Option α := if i < lv.length then k (lv.set i (some v)) else none
def jmpK {α : Type} (pc : Nat) (off : Int) (k : Nat → Option α) : Option α := match (pc : Int) + off with | .ofNat t => k t | .negSucc _ => none
/-- the arguments of a call: so many, behind each other, from the stack's top -/
def argK {α : Type} (n : Nat) (st : List Value) (k : List Value → List Value → Option α) : Option α := if n ≤ st.length then k (st.take n).reverse (st.drop n) else none
def calK {α : Type} (o : Option Rs) (k : Option Value → Mem → Option α) : Option α := match o with | some (v, M) => k v M | none => none
def guK {α : Type} (b : Bool) (k : Option α) : Option α := if b = true then k else none
def opK {α β : Type} (o : Option β) (k : β → Option α) : Option α := match o with | some x => k x | none => none
/-- one instruction -/
def stp (cal : Cal) (sc : Scr) (oc : Nat) (ret : Option FieldType) (ins : Instr) (len pc : Nat) (lv : Lv) (st : List Value) (M : Mem) : So :=
  let n1 : List Value → So := fun st' => if len = 1 then some (.inr (pc + 1, lv, st', M)) else none
  let n2 : List Value → So := fun st' => if len = 2 then some (.inr (pc + 2, lv, st', M)) else none
  let n3 : List Value → So := fun st' => if len = 3 then some (.inr (pc + 3, lv, st', M)) else none
  let go : Nat → List Value → So := fun t st' => some (.inr (t, lv, st', M))
  match ins with
  | .iconst n => n1 (.int (Int32.ofInt n) :: st)
  | .bipush n => n2 (.int (Int8.ofInt n).toInt32 :: st)
  | .sipush n => n3 (.int (Int16.ofInt n).toInt32 :: st)
  | .iload_n k => lvI lv k fun x => n1 (.int x :: st)
  | .iload k => lvI lv k fun x => n2 (.int x :: st)
  | .aload_n k => lvR lv k fun x => n1 (.ref x :: st)
  | .aload k => lvR lv k fun x => n2 (.ref x :: st)
  | .istore_n k => pop1 st fun x r => lvS lv k (.int x) fun lv' => if len = 1 then some (.inr (pc + 1, lv', r, M)) else none
  | .istore k => pop1 st fun x r => lvS lv k (.int x) fun lv' => if len = 2 then some (.inr (pc + 2, lv', r, M)) else none
  | .astore_n k => popr st fun x r => lvS lv k (.ref x) fun lv' => if len = 1 then some (.inr (pc + 1, lv', r, M)) else none
  | .astore k => popr st fun x r => lvS lv k (.ref x) fun lv' => if len = 2 then some (.inr (pc + 2, lv', r, M)) else none
  | .iinc k n => lvI lv k fun x => lvS lv k (.int (x + Int32.ofInt n)) fun lv' => if len = 3 then some (.inr (pc + 3, lv', st, M)) else none
  | .iadd => pop2 st fun x y r => n1 (.int (x + y) :: r)
  | .isub => pop2 st fun x y r => n1 (.int (x - y) :: r)
  | .imul => pop2 st fun x y r => n1 (.int (x * y) :: r)
  | .iand => pop2 st fun x y r => n1 (.int (x &&& y) :: r)
  | .ior => pop2 st fun x y r => n1 (.int (x ||| y) :: r)
  | .ixor => pop2 st fun x y r => n1 (.int (x ^^^ y) :: r)
  | .idiv => pop2 st fun x y r => guK (decide (¬ y = 0)) (n1 (.int (x / y) :: r))
  | .irem => pop2 st fun x y r => guK (decide (¬ y = 0)) (n1 (.int (x - x / y * y) :: r))
  | .ineg => pop1 st fun x r => n1 (.int (-x) :: r)
  | .ishl => pop2 st fun x y r => n1 (.int (x <<< (y &&& 31)) :: r)
  | .ishr => pop2 st fun x y r => n1 (.int (x >>> (y &&& 31)) :: r)
  | .iushr => pop2 st fun x y r => n1 (.int (x.toUInt32 >>> (y.toUInt32 &&& Int32.toUInt32 31)).toInt32 :: r)
  | .i2b => pop1 st fun x r => n1 (.int x.toInt8.toInt32 :: r)
  | .i2s => pop1 st fun x r => n1 (.int x.toInt16.toInt32 :: r)
  | .i2c => pop1 st fun x r => n1 (.int (x.toUInt32 % 65536).toInt32 :: r)
  | .i2l => pop1 st fun x r => n1 (.long x.toInt64 :: r)
  | .ladd => (match st with | .long y :: .long x :: r => n1 (.long (x + y) :: r) | _ => none)
  | .lcmp => (match st with | .long y :: .long x :: r => n1 (.int (lg_cmp x y) :: r) | _ => none)
  | .dup => (match st with | .int x :: r => n1 (.int x :: .int x :: r) | .ref x :: r => n1 (.ref x :: .ref x :: r) | _ => none)
  | .dup2 => (match st with | .int x :: .ref y :: r => n1 (.int x :: .ref y :: .int x :: .ref y :: r) | _ => none)
  | .pop => pop1 st fun _ r => n1 r
  | .ifCond .eq off => pop1 st fun x r => if x = 0 then jmpK pc off fun t => (if len = 3 then go t r else none) else n3 r
  | .ifCond .ne off => pop1 st fun x r => if ¬ x = 0 then jmpK pc off fun t => (if len = 3 then go t r else none) else n3 r
  | .ifCond .lt off => pop1 st fun x r => if x < 0 then jmpK pc off fun t => (if len = 3 then go t r else none) else n3 r
  | .ifCond .ge off => pop1 st fun x r => if 0 ≤ x then jmpK pc off fun t => (if len = 3 then go t r else none) else n3 r
  | .ifCond .gt off => pop1 st fun x r => if 0 < x then jmpK pc off fun t => (if len = 3 then go t r else none) else n3 r
  | .ifCond .le off => pop1 st fun x r => if x ≤ 0 then jmpK pc off fun t => (if len = 3 then go t r else none) else n3 r
  | .if_icmp .eq off => pop2 st fun x y r => if x = y then jmpK pc off fun t => (if len = 3 then go t r else none) else n3 r
  | .if_icmp .ne off => pop2 st fun x y r => if ¬ x = y then jmpK pc off fun t => (if len = 3 then go t r else none) else n3 r
  | .if_icmp .lt off => pop2 st fun x y r => if x < y then jmpK pc off fun t => (if len = 3 then go t r else none) else n3 r
  | .if_icmp .ge off => pop2 st fun x y r => if y ≤ x then jmpK pc off fun t => (if len = 3 then go t r else none) else n3 r
  | .if_icmp .gt off => pop2 st fun x y r => if y < x then jmpK pc off fun t => (if len = 3 then go t r else none) else n3 r
  | .if_icmp .le off => pop2 st fun x y r => if x ≤ y then jmpK pc off fun t => (if len = 3 then go t r else none) else n3 r
  | .goto off => jmpK pc off fun t => (if len = 3 then go t st else none)
  | .tableswitch dflt lo hi offs => pop1 st fun x r => if x.toInt < lo ∨ hi < x.toInt then jmpK pc dflt fun t => go t r else opK (offs[(x.toInt - lo).toNat]?) fun off => jmpK pc off fun t => go t r
  | .lookupswitch dflt ps => pop1 st fun x r => guK ((ps.toList.zip (ps.toList.drop 1)).all (fun (a, next) => a.1 < next.1)) (jmpK pc (Op.lookupswitch.offset ps.toList dflt x.toInt) fun t => go t r)
  | .ldc i => (match rsC oc i with | some v => n2 (.int v :: st) | none => opK (rsK oc i) fun k => n2 (.ref (160 + k) :: st))
  | .ldc_w i => (match rsC oc i with | some v => n3 (.int v :: st) | none => opK (rsK oc i) fun k => n3 (.ref (160 + k) :: st))
  | .getstatic i => opK (rsS oc i) fun v => n3 (v :: st)
  | .getfield i => popr st fun h r => if oc = 9 then (match lay h with | (6, [b]) => (if i = 9 then n3 (.ref b :: r) else if i = 15 then n3 (.int 0 :: r) else none) | _ => none) else opK (rsF oc i) fun e => opK (slotV e.1 e.2 h M) fun v => n3 (v :: r)
  | .putfield i => pop1 st fun v r => popr r fun h r => opK (rsF oc i) fun e => guK (isInt e.1 e.2 h && (!isZ e.1 e.2 || narB .boolean v)) (if len = 3 then some (.inr (pc + 3, lv, r, mset M h e.2 v)) else none)
  | .iaload => pop1 st fun i r => popr r fun h r => opK (arrV9 sc h M) fun a => guK (inb i a.1) (n1 (.int (a.2 i.toNatClampNeg) :: r))
  | .baload => pop1 st fun i r => popr r fun h r => opK (arrB h) fun a => guK (inb i a.1) (n1 (.int (a.2 i.toNatClampNeg) :: r))
  | .aaload => pop1 st fun i r => popr r fun h r => opK (arrR h) fun l => guK (inb i l.length) (n1 (.ref (l.getD i.toNatClampNeg 0) :: r))
  | .iastore => pop2 st fun i x r => popr r fun h r => opK (arrN h) fun n => guK (inb i n) (if len = 1 then some (.inr (pc + 1, lv, r, mset M h i.toNatClampNeg x)) else none)
  | .arraylength => popr st fun h r => (match arrV9 sc h M with | some a => n1 (.int (Int32.ofNat a.1) :: r) | none => (match arrB h with | some a => n1 (.int (Int32.ofNat a.1) :: r) | none => opK (arrR h) fun l => n1 (.int (Int32.ofNat l.length) :: r)))
  | .invokevirtual i => opK (rsM oc i) fun e => (match e with
      | (0, y, n) => argK n st fun as r => popr r fun h r => opK (mt[y]?) fun q => guK (isCl (ciO q.2.2.2.2.1) h && rk 8 r) (calK (cal y (.ref h :: as) M) fun v M' => if len = 3 then some (.inr (pc + 3, lv, v.toList ++ r, M')) else none)
      | _ => none)
  | .invokestatic i => opK (rsM oc i) fun e => (match e with
      | (1, y, n) => argK n st fun as r => guK (rk 8 r) (calK (cal y as M) fun v M' => if len = 3 then some (.inr (pc + 3, lv, v.toList ++ r, M')) else none)
      | (3, _, _) => pop2 st fun x y r => guK (rk 8 r) (n3 (.int (if x < y then y else x) :: r))
      | (4, _, _) => pop2 st fun x y r => guK (rk 8 r) (n3 (.int (if y < x then y else x) :: r))
      | (5, _, _) => pop2 st fun dp n r => popr r fun d r => pop1 r fun sp r => popr r fun a r => opK (arrN a) fun n0 => opK (arrN d) fun n1' => guK (decide (¬ sp < 0) && decide (¬ dp < 0) && decide (¬ n < 0) && decide (sp.toNatClampNeg + n.toNatClampNeg ≤ n0) && decide (dp.toNatClampNeg + n.toNatClampNeg ≤ n1') && rk 8 r)
          (if len = 3 then some (.inr (pc + 3, lv, r, mrow M d (va_cpy (M a) (M d) sp.toNatClampNeg dp.toNatClampNeg n.toNatClampNeg))) else none)
      | _ => none)
  | .ireturn => (match st with | [.int v] => opK ret fun rt => guK (narB rt v) (if len = 1 then some (.inl (some (.int v), M)) else none) | _ => none)
  | .areturn => (match st with | [.ref h] => guK (decide (ret = some (.object "java/lang/String"))) (if len = 1 then some (.inl (some (.ref h), M)) else none) | _ => none)
  | .return_ => (match st with | [] => guK (decide (ret = none)) (if len = 1 then some (.inl (none, M)) else none) | _ => none)
  | _ => none
def cont (K : Nat → Lv → List Value → Mem → Option Rs) (o : So) : Option Rs := match o with
  | some (.inl r) => some r
  | some (.inr (pc, lv, st, M)) => K pc lv st M
  | none => none
def run (cal : Cal) (sc : Scr) (oc : Nat) (cc : ByteArray) (ret : Option FieldType) : Nat → Nat → Lv → List Value → Mem → Option Rs
  | 0, _, _, _, _ => none
  | n + 1, pc, lv, st, M => match decode cc pc with
    | .ok q => cont (run cal sc oc cc ret n) (stp cal sc oc ret q.1 q.2 pc lv st M)
    | .error _ => none
theorem run_mono {cal : Cal} {sc : Scr} {oc : Nat} {cc : ByteArray} {ret : Option FieldType} : ∀ (n : Nat) (pc : Nat) (lv : Lv) (st : List Value) (M : Mem) (r : Rs), run cal sc oc cc ret n pc lv st M = some r → ∀ k, n ≤ k → run cal sc oc cc ret k pc lv st M = some r := by
  intro n
  induction n with
  | zero => intro pc lv st M r h; cases h
  | succ n ih =>
    intro pc lv st M r h k hk
    obtain ⟨j, rfl⟩ : ∃ j, k = j + 1 := ⟨k - 1, by omega⟩
    rw [run] at h ⊢
    cases hd : decode cc pc with
    | error e => rw [hd] at h; cases h
    | ok q =>
      rw [hd] at h
      dsimp only at h ⊢
      cases hs : stp cal sc oc ret q.1 q.2 pc lv st M with
      | none => rw [hs] at h; cases h
      | some x =>
        rw [hs] at h
        cases x with
        | inl r' => exact h
        | inr c => exact ih _ _ _ _ _ h j (by omega)

noncomputable def lim (cal : Cal) (sc : Scr) (oc : Nat) (cc : ByteArray) (ret : Option FieldType) (pc : Nat) (lv : Lv) (st : List Value) (M : Mem) : Option Rs :=
  @dite (Option Rs) (∃ r, ∃ n, run cal sc oc cc ret n pc lv st M = some r) (Classical.propDecidable _) (fun h => some (Classical.choose h)) (fun _ => none)
theorem lim_of {cal : Cal} {sc : Scr} {oc : Nat} {cc : ByteArray} {ret : Option FieldType} {n pc : Nat} {lv : Lv} {st : List Value} {M : Mem} {r : Rs} (h : run cal sc oc cc ret n pc lv st M = some r) : lim cal sc oc cc ret pc lv st M = some r := by
  have he : ∃ r, ∃ n, run cal sc oc cc ret n pc lv st M = some r := ⟨r, n, h⟩
  unfold lim
  rw [dif_pos he]
  obtain ⟨k, hk⟩ := Classical.choose_spec he
  have h1 := run_mono _ _ _ _ _ _ hk (max n k) (by omega)
  have h2 := run_mono _ _ _ _ _ _ h (max n k) (by omega)
  rw [← h1, h2]
theorem lim_ex {cal : Cal} {sc : Scr} {oc : Nat} {cc : ByteArray} {ret : Option FieldType} {pc : Nat} {lv : Lv} {st : List Value} {M : Mem} {r : Rs} (h : lim cal sc oc cc ret pc lv st M = some r) : ∃ n, run cal sc oc cc ret n pc lv st M = some r := by
  unfold lim at h
  split at h
  · next he =>
    cases h
    exact Classical.choose_spec he
  · cases h
theorem lim_step {cal : Cal} {sc : Scr} {oc : Nat} {cc : ByteArray} {ret : Option FieldType} {pc : Nat} {lv : Lv} {st : List Value} {M : Mem} {ins : Instr} {len : Nat} (hd : decode cc pc = .ok (ins, len)) :
    lim cal sc oc cc ret pc lv st M = cont (lim cal sc oc cc ret) (stp cal sc oc ret ins len pc lv st M) := by
  have key : ∀ n, run cal sc oc cc ret (n + 1) pc lv st M = cont (run cal sc oc cc ret n) (stp cal sc oc ret ins len pc lv st M) := by
    intro n
    rw [run, hd]
  cases hs : stp cal sc oc ret ins len pc lv st M with
  | none =>
    cases hl : lim cal sc oc cc ret pc lv st M with
    | none => rfl
    | some r =>
      obtain ⟨n, hn⟩ := lim_ex hl
      have := run_mono _ _ _ _ _ _ hn (n + 1) (by omega)
      rw [key, hs] at this
      cases this
  | some x =>
    cases x with
    | inl r =>
      refine lim_of (n := 1) ?_
      rw [key, hs]
      rfl
    | inr c =>
      obtain ⟨pc', lv', st', M'⟩ := c
      show _ = lim cal sc oc cc ret pc' lv' st' M'
      cases hl : lim cal sc oc cc ret pc' lv' st' M' with
      | some r =>
        obtain ⟨n, hn⟩ := lim_ex hl
        refine lim_of (n := n + 1) ?_
        rw [key, hs]
        exact hn
      | none =>
        cases hm : lim cal sc oc cc ret pc lv st M with
        | none => rfl
        | some r =>
          obtain ⟨n, hn⟩ := lim_ex hm
          have h1 := run_mono _ _ _ _ _ _ hn (n + 1) (by omega)
          rw [key, hs] at h1
          rw [lim_of (n := n) h1] at hl
          cases hl
/-- locals at the entry -/
def ent (vs : List Value) (nL : Nat) : Lv := vs.map some ++ List.replicate (nL - vs.length) none
def c1s : List Value → Bool
  | [] => true
  | .int _ :: l => c1s l
  | .ref _ :: l => c1s l
  | .null :: l => c1s l
  | _ :: _ => false
noncomputable def call : Nat → Cal
  | 0 => fun _ _ _ => none
  | d + 1 => fun y vs M => opK (mt[y]?) fun q => guK (decide (vs.length ≤ q.2.2.1) && c1s vs) (lim (call d) none q.2.2.2.2.1 q.2.1 q.2.2.2.1 0 (ent vs q.2.2.1) [] M)
theorem call_ent {d y : Nat} {vs : List Value} {M : Mem} {q : mtT} (hq : mt[y]? = some q) (h1 : vs.length ≤ q.2.2.1) (h2 : c1s vs = true) : call (d + 1) y vs M = lim (call d) none q.2.2.2.2.1 q.2.1 q.2.2.2.1 0 (ent vs q.2.2.1) [] M := by
  show opK (mt[y]?) _ = _
  rw [hq]
  show guK (decide (vs.length ≤ q.2.2.1) && c1s vs) _ = _
  rw [h2, decide_eq_true h1]
  rfl
theorem call_of {d y : Nat} {vs : List Value} {M : Mem} {r : Rs} (h : call (d + 1) y vs M = some r) : ∃ q, mt[y]? = some q ∧ vs.length ≤ q.2.2.1 ∧ c1s vs = true ∧ lim (call d) none q.2.2.2.2.1 q.2.1 q.2.2.2.1 0 (ent vs q.2.2.1) [] M = some r := by
  have h : opK (mt[y]?) (fun q => guK (decide (vs.length ≤ q.2.2.1) && c1s vs) (lim (call d) none q.2.2.2.2.1 q.2.1 q.2.2.2.1 0 (ent vs q.2.2.1) [] M)) = some r := h
  cases hq : mt[y]? with
  | none => rw [hq] at h; cases h
  | some q =>
    rw [hq] at h
    have h : guK (decide (vs.length ≤ q.2.2.1) && c1s vs) (lim (call d) none q.2.2.2.2.1 q.2.1 q.2.2.2.1 0 (ent vs q.2.2.1) [] M) = some r := h
    refine ⟨q, rfl, ?_⟩
    cases h2 : c1s vs with
    | false => rw [h2, Bool.and_false] at h; cases h
    | true =>
      by_cases h1 : vs.length ≤ q.2.2.1
      · rw [h2, decide_eq_true h1] at h
        exact ⟨h1, rfl, h⟩
      · rw [decide_eq_false h1] at h; cases h
