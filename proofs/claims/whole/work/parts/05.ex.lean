/-! what one instruction does, told forward -/
section EX
variable {cal : Cal} {sc : Scr} {oc : Nat} {ret : Option FieldType} {pc : Nat} {lv : Lv} {r : List Value} {M : Mem} {K : Nat → Lv → List Value → Mem → Option Rs}
theorem e_jmp {off : Int} {t : Nat} (ht : (pc : Int) + off = (t : Int)) (st : List Value) : cont K (jmpK pc off fun t => (if 3 = 3 then (some (.inr (t, lv, st, M)) : So) else none)) = K t lv st M := by
  unfold jmpK
  rw [ht]
  rfl
theorem e_jmp' {off : Int} {t : Nat} (ht : (pc : Int) + off = (t : Int)) (st : List Value) : cont K (jmpK pc off fun t => (some (.inr (t, lv, st, M)) : So)) = K t lv st M := by
  unfold jmpK
  rw [ht]
  rfl
theorem e_ifeq {off : Int} {t : Nat} {x : Int32} (ht : (pc : Int) + off = (t : Int)) : cont K (stp cal sc oc ret (.ifCond .eq off) 3 pc lv (.int x :: r) M) = if x = 0 then K t lv r M else K (pc + 3) lv r M := by
  show cont K (if x = 0 then jmpK pc off _ else _) = _
  split
  · exact e_jmp ht r
  · rfl
theorem e_ifne {off : Int} {t : Nat} {x : Int32} (ht : (pc : Int) + off = (t : Int)) : cont K (stp cal sc oc ret (.ifCond .ne off) 3 pc lv (.int x :: r) M) = if x = 0 then K (pc + 3) lv r M else K t lv r M := by
  show cont K (if ¬ x = 0 then jmpK pc off _ else _) = _
  by_cases h : x = 0
  · rw [if_neg (by simp [h]), if_pos h]
    rfl
  · rw [if_pos h, if_neg h]
    exact e_jmp ht r
theorem e_iflt {off : Int} {t : Nat} {x : Int32} (ht : (pc : Int) + off = (t : Int)) : cont K (stp cal sc oc ret (.ifCond .lt off) 3 pc lv (.int x :: r) M) = if x < 0 then K t lv r M else K (pc + 3) lv r M := by
  show cont K (if x < 0 then jmpK pc off _ else _) = _
  split
  · exact e_jmp ht r
  · rfl
theorem e_ifge {off : Int} {t : Nat} {x : Int32} (ht : (pc : Int) + off = (t : Int)) : cont K (stp cal sc oc ret (.ifCond .ge off) 3 pc lv (.int x :: r) M) = if 0 ≤ x then K t lv r M else K (pc + 3) lv r M := by
  show cont K (if 0 ≤ x then jmpK pc off _ else _) = _
  split
  · exact e_jmp ht r
  · rfl
theorem e_ifgt {off : Int} {t : Nat} {x : Int32} (ht : (pc : Int) + off = (t : Int)) : cont K (stp cal sc oc ret (.ifCond .gt off) 3 pc lv (.int x :: r) M) = if 0 < x then K t lv r M else K (pc + 3) lv r M := by
  show cont K (if 0 < x then jmpK pc off _ else _) = _
  split
  · exact e_jmp ht r
  · rfl
theorem e_ifle {off : Int} {t : Nat} {x : Int32} (ht : (pc : Int) + off = (t : Int)) : cont K (stp cal sc oc ret (.ifCond .le off) 3 pc lv (.int x :: r) M) = if x ≤ 0 then K t lv r M else K (pc + 3) lv r M := by
  show cont K (if x ≤ 0 then jmpK pc off _ else _) = _
  split
  · exact e_jmp ht r
  · rfl
theorem e_cmpeq {off : Int} {t : Nat} {x y : Int32} (ht : (pc : Int) + off = (t : Int)) : cont K (stp cal sc oc ret (.if_icmp .eq off) 3 pc lv (.int y :: .int x :: r) M) = if x = y then K t lv r M else K (pc + 3) lv r M := by
  show cont K (if x = y then jmpK pc off _ else _) = _
  split
  · exact e_jmp ht r
  · rfl
theorem e_cmpne {off : Int} {t : Nat} {x y : Int32} (ht : (pc : Int) + off = (t : Int)) : cont K (stp cal sc oc ret (.if_icmp .ne off) 3 pc lv (.int y :: .int x :: r) M) = if x = y then K (pc + 3) lv r M else K t lv r M := by
  show cont K (if ¬ x = y then jmpK pc off _ else _) = _
  by_cases h : x = y
  · rw [if_neg (by simp [h]), if_pos h]
    rfl
  · rw [if_pos h, if_neg h]
    exact e_jmp ht r
theorem e_cmplt {off : Int} {t : Nat} {x y : Int32} (ht : (pc : Int) + off = (t : Int)) : cont K (stp cal sc oc ret (.if_icmp .lt off) 3 pc lv (.int y :: .int x :: r) M) = if x < y then K t lv r M else K (pc + 3) lv r M := by
  show cont K (if x < y then jmpK pc off _ else _) = _
  split
  · exact e_jmp ht r
  · rfl
theorem e_cmpge {off : Int} {t : Nat} {x y : Int32} (ht : (pc : Int) + off = (t : Int)) : cont K (stp cal sc oc ret (.if_icmp .ge off) 3 pc lv (.int y :: .int x :: r) M) = if y ≤ x then K t lv r M else K (pc + 3) lv r M := by
  show cont K (if y ≤ x then jmpK pc off _ else _) = _
  split
  · exact e_jmp ht r
  · rfl
theorem e_cmpgt {off : Int} {t : Nat} {x y : Int32} (ht : (pc : Int) + off = (t : Int)) : cont K (stp cal sc oc ret (.if_icmp .gt off) 3 pc lv (.int y :: .int x :: r) M) = if y < x then K t lv r M else K (pc + 3) lv r M := by
  show cont K (if y < x then jmpK pc off _ else _) = _
  split
  · exact e_jmp ht r
  · rfl
theorem e_cmple {off : Int} {t : Nat} {x y : Int32} (ht : (pc : Int) + off = (t : Int)) : cont K (stp cal sc oc ret (.if_icmp .le off) 3 pc lv (.int y :: .int x :: r) M) = if x ≤ y then K t lv r M else K (pc + 3) lv r M := by
  show cont K (if x ≤ y then jmpK pc off _ else _) = _
  split
  · exact e_jmp ht r
  · rfl
theorem e_goto {off : Int} {t : Nat} (ht : (pc : Int) + off = (t : Int)) : cont K (stp cal sc oc ret (.goto off) 3 pc lv r M) = K t lv r M := e_jmp ht r
theorem e_table {dflt lo hi : Int} {offs : Array Int} {len t : Nat} {x : Int32} (ht : (pc : Int) + dflt = (t : Int)) : cont K (stp cal sc oc ret (.tableswitch dflt lo hi offs) len pc lv (.int x :: r) M) = if x.toInt < lo ∨ hi < x.toInt then K t lv r M else opK (offs[(x.toInt - lo).toNat]?) fun off => jmpK pc off fun t => K t lv r M := by
  show cont K (if x.toInt < lo ∨ hi < x.toInt then jmpK pc dflt _ else opK (offs[(x.toInt - lo).toNat]?) _) = _
  split
  · exact e_jmp' ht r
  · cases offs[(x.toInt - lo).toNat]? with
    | none => rfl
    | some off =>
      show cont K (jmpK pc off _) = jmpK pc off _
      unfold jmpK
      split <;> rfl
theorem e_look {dflt : Int} {ps : Array (Int × Int)} {len : Nat} {x : Int32} (hp : (ps.toList.zip (ps.toList.drop 1)).all (fun (a, next) => a.1 < next.1) = true) : cont K (stp cal sc oc ret (.lookupswitch dflt ps) len pc lv (.int x :: r) M) = jmpK pc (Op.lookupswitch.offset ps.toList dflt x.toInt) fun t => K t lv r M := by
  show cont K (guK _ (jmpK pc (Op.lookupswitch.offset ps.toList dflt x.toInt) _)) = _
  unfold guK
  rw [if_pos hp]
  unfold jmpK
  split <;> rfl
theorem e_div {x y : Int32} : cont K (stp cal sc oc ret .idiv 1 pc lv (.int y :: .int x :: r) M) = guK (decide (¬ y = 0)) (K (pc + 1) lv (.int (x / y) :: r) M) := by
  show cont K (guK (decide (¬ y = 0)) _) = _
  cases decide (¬ y = 0) <;> rfl
theorem e_rem {x y : Int32} : cont K (stp cal sc oc ret .irem 1 pc lv (.int y :: .int x :: r) M) = guK (decide (¬ y = 0)) (K (pc + 1) lv (.int (x - x / y * y) :: r) M) := by
  show cont K (guK (decide (¬ y = 0)) _) = _
  cases decide (¬ y = 0) <;> rfl
theorem e_get {i ci k h : Nat} (hoc : ¬ oc = 9) (hr : rsF oc i = some (ci, k)) : cont K (stp cal sc oc ret (.getfield i) 3 pc lv (.ref h :: r) M) = opK (slotV ci k h M) fun v => K (pc + 3) lv (v :: r) M := by
  show cont K (if oc = 9 then _ else opK (rsF oc i) _) = _
  rw [if_neg hoc, hr]
  show cont K (opK (slotV ci k h M) _) = _
  cases slotV ci k h M <;> rfl
theorem e_put {i ci k h : Nat} {v : Int32} (hr : rsF oc i = some (ci, k)) (hz : isZ ci k = false) : cont K (stp cal sc oc ret (.putfield i) 3 pc lv (.int v :: .ref h :: r) M) = guK (isInt ci k h) (K (pc + 3) lv r (mset M h k v)) := by
  show cont K (opK (rsF oc i) _) = _
  rw [hr]
  show cont K (guK (isInt ci k h && (!isZ ci k || narB .boolean v)) _) = _
  rw [hz]
  cases isInt ci k h <;> rfl
theorem e_putz {i ci k h : Nat} {v : Int32} (hr : rsF oc i = some (ci, k)) (hz : isZ ci k = true) : cont K (stp cal sc oc ret (.putfield i) 3 pc lv (.int v :: .ref h :: r) M) = guK (isInt ci k h) (guK (narB .boolean v) (K (pc + 3) lv r (mset M h k v))) := by
  show cont K (opK (rsF oc i) _) = _
  rw [hr]
  show cont K (guK (isInt ci k h && (!isZ ci k || narB .boolean v)) _) = _
  rw [hz]
  cases isInt ci k h <;> cases narB .boolean v <;> rfl
theorem e_iald {i : Int32} {h : Nat} : cont K (stp cal sc oc ret .iaload 1 pc lv (.int i :: .ref h :: r) M) = opK (arrV9 sc h M) fun a => guK (inb i a.1) (K (pc + 1) lv (.int (a.2 i.toNatClampNeg) :: r) M) := by
  show cont K (opK (arrV9 sc h M) _) = _
  cases arrV9 sc h M with
  | none => rfl
  | some a =>
    show cont K (guK (inb i a.1) _) = guK (inb i a.1) _
    cases inb i a.1 <;> rfl
theorem e_bald {i : Int32} {h : Nat} : cont K (stp cal sc oc ret .baload 1 pc lv (.int i :: .ref h :: r) M) = opK (arrB h) fun a => guK (inb i a.1) (K (pc + 1) lv (.int (a.2 i.toNatClampNeg) :: r) M) := by
  show cont K (opK (arrB h) _) = _
  cases arrB h with
  | none => rfl
  | some a =>
    show cont K (guK (inb i a.1) _) = guK (inb i a.1) _
    cases inb i a.1 <;> rfl
theorem e_aald {i : Int32} {h : Nat} : cont K (stp cal sc oc ret .aaload 1 pc lv (.int i :: .ref h :: r) M) = opK (arrR h) fun l => guK (inb i l.length) (K (pc + 1) lv (.ref (l.getD i.toNatClampNeg 0) :: r) M) := by
  show cont K (opK (arrR h) _) = _
  cases arrR h with
  | none => rfl
  | some a =>
    show cont K (guK (inb i a.length) _) = guK (inb i a.length) _
    cases inb i a.length <;> rfl
theorem e_iast {i x : Int32} {h : Nat} : cont K (stp cal sc oc ret .iastore 1 pc lv (.int x :: .int i :: .ref h :: r) M) = opK (arrN h) fun n => guK (inb i n) (K (pc + 1) lv r (mset M h i.toNatClampNeg x)) := by
  show cont K (opK (arrN h) _) = _
  cases arrN h with
  | none => rfl
  | some n =>
    show cont K (guK (inb i n) _) = guK (inb i n) _
    cases inb i n <;> rfl
theorem e_len {h : Nat} {a : Nat × (Nat → Int32)} (ha : arrV9 sc h M = some a) : cont K (stp cal sc oc ret .arraylength 1 pc lv (.ref h :: r) M) = K (pc + 1) lv (.int (Int32.ofNat a.1) :: r) M := by
  show cont K (match arrV9 sc h M with | some a => _ | none => _) = _
  rw [ha]
  rfl
theorem e_virt {i y n h : Nat} {st as : List Value} {q : mtT} (hr : rsM oc i = some (0, y, n)) (hq : mt[y]? = some q) (hn : n ≤ st.length) (ht : (st.take n).reverse = as) (hd : st.drop n = .ref h :: r) : cont K (stp cal sc oc ret (.invokevirtual i) 3 pc lv st M) = guK (isCl (ciO q.2.2.2.2.1) h) (guK (rk 8 r) (calK (cal y (.ref h :: as) M) fun v M' => K (pc + 3) lv (v.toList ++ r) M')) := by
  show cont K (opK (rsM oc i) _) = _
  rw [hr]
  simp only [opK, argK, if_pos hn, ht, hd, popr, hq, if_true]
  cases isCl (ciO q.2.2.2.2.1) h <;> cases rk 8 r <;> cases cal y (.ref h :: as) M <;> rfl
theorem e_stat {i y n : Nat} {st as : List Value} (hr : rsM oc i = some (1, y, n)) (hn : n ≤ st.length) (ht : (st.take n).reverse = as) (hd : st.drop n = r) : cont K (stp cal sc oc ret (.invokestatic i) 3 pc lv st M) = guK (rk 8 r) (calK (cal y as M) fun v M' => K (pc + 3) lv (v.toList ++ r) M') := by
  show cont K (opK (rsM oc i) _) = _
  rw [hr]
  simp only [opK, argK, if_pos hn, ht, hd, if_true]
  cases rk 8 r <;> cases cal y as M <;> rfl
theorem e_max {i a b : Nat} {x y : Int32} (hr : rsM oc i = some (3, a, b)) : cont K (stp cal sc oc ret (.invokestatic i) 3 pc lv (.int y :: .int x :: r) M) = guK (rk 8 r) (K (pc + 3) lv (.int (if x < y then y else x) :: r) M) := by
  show cont K (opK (rsM oc i) _) = _
  rw [hr]
  show cont K (guK (rk 8 r) _) = _
  cases rk 8 r <;> rfl
theorem e_min {i a b : Nat} {x y : Int32} (hr : rsM oc i = some (4, a, b)) : cont K (stp cal sc oc ret (.invokestatic i) 3 pc lv (.int y :: .int x :: r) M) = guK (rk 8 r) (K (pc + 3) lv (.int (if y < x then y else x) :: r) M) := by
  show cont K (opK (rsM oc i) _) = _
  rw [hr]
  show cont K (guK (rk 8 r) _) = _
  cases rk 8 r <;> rfl
/-- copies: what a copy asks -/
def cpy9 (a d : Nat) (sp dp n : Int32) : Bool := match arrN a, arrN d with
  | some n0, some n1 => decide (¬ sp < 0) && decide (¬ dp < 0) && decide (¬ n < 0) && decide (sp.toNatClampNeg + n.toNatClampNeg ≤ n0) && decide (dp.toNatClampNeg + n.toNatClampNeg ≤ n1)
  | _, _ => false
theorem e_copy {i e1 e2 a d : Nat} {sp dp n : Int32} (hr : rsM oc i = some (5, e1, e2)) : cont K (stp cal sc oc ret (.invokestatic i) 3 pc lv (.int n :: .int dp :: .ref d :: .int sp :: .ref a :: r) M) = guK (cpy9 a d sp dp n) (guK (rk 8 r) (K (pc + 3) lv r (mrow M d (va_cpy (M a) (M d) sp.toNatClampNeg dp.toNatClampNeg n.toNatClampNeg)))) := by
  show cont K (opK (rsM oc i) _) = _
  rw [hr]
  show cont K (opK (arrN a) fun n0 => opK (arrN d) fun n1' => _) = _
  unfold cpy9
  cases arrN a with
  | none => rfl
  | some n0 =>
    cases arrN d with
    | none => rfl
    | some n1 =>
      show cont K (guK (decide (¬ sp < 0) && decide (¬ dp < 0) && decide (¬ n < 0) && decide (sp.toNatClampNeg + n.toNatClampNeg ≤ n0) && decide (dp.toNatClampNeg + n.toNatClampNeg ≤ n1) && rk 8 r) _) = _
      dsimp only
      generalize (decide (¬ sp < 0) && decide (¬ dp < 0) && decide (¬ n < 0) && decide (sp.toNatClampNeg + n.toNatClampNeg ≤ n0) && decide (dp.toNatClampNeg + n.toNatClampNeg ≤ n1)) = b
      cases b <;> cases rk 8 r <;> rfl
theorem e_iret {v : Int32} : cont K (stp cal sc oc (some .int) .ireturn 1 pc lv [.int v] M) = some (some (.int v), M) := by
  show cont K (guK (narB .int v) _) = _
  have : narB .int v = true := by unfold narB; exact decide_eq_true rfl
  rw [this]
  rfl
theorem e_zret {v : Int32} {rt : FieldType} : cont K (stp cal sc oc (some rt) .ireturn 1 pc lv [.int v] M) = guK (narB rt v) (some (some (.int v), M)) := by
  show cont K (guK (narB rt v) _) = _
  cases narB rt v <;> rfl
theorem e_aret {h : Nat} : cont K (stp cal sc oc (some (.object "java/lang/String")) .areturn 1 pc lv [.ref h] M) = some (some (.ref h), M) := rfl
theorem e_vret : cont K (stp cal sc oc none .return_ 1 pc lv [] M) = some (none, M) := rfl
end EX
