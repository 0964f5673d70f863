section E2
variable {cal : Cal} {sc : Scr} {oc : Nat} {ret : Option FieldType} {pc : Nat} {lv l : Lv} {st r : List Value} {M : Mem} {K : Nat → Lv → List Value → Mem → Option Rs} {v v0 v1 v2 v3 v4 v5 v6 v7 v8 v9 v10 v11 : Option Value} {x n32 : Int32} {h : Nat} {a1 a2 a3 a4 a5 : Value}
theorem e_ic {n : Int} {w : Int32} (hv : Int32.ofInt n = w) : cont K (stp cal sc oc ret (.iconst n) 1 pc lv st M) = K (pc + 1) lv (.int w :: st) M := by subst hv; rfl
theorem e_bi {n : Int} {w : Int32} (hv : (Int8.ofInt n).toInt32 = w) : cont K (stp cal sc oc ret (.bipush n) 2 pc lv st M) = K (pc + 2) lv (.int w :: st) M := by subst hv; rfl
theorem e_si {n : Int} {w : Int32} (hv : (Int16.ofInt n).toInt32 = w) : cont K (stp cal sc oc ret (.sipush n) 3 pc lv st M) = K (pc + 3) lv (.int w :: st) M := by subst hv; rfl
theorem lvS_0 {α : Type} {f : Lv → Option α} {w : Value} : lvS (v :: l) 0 w f = f (some w :: l) := by
  unfold lvS
  rw [if_pos (by simp)]
  rfl
theorem e_istn0 : cont K (stp cal sc oc ret (.istore_n 0) 1 pc (v :: l) (.int x :: st) M) = K (pc + 1) (some (.int x) :: l) st M := congrArg (cont K) (lvS_0 (f := fun lv' => (some (.inr (pc + 1, lv', st, M)) : So)) (w := .int x))
theorem e_ist0 : cont K (stp cal sc oc ret (.istore 0) 2 pc (v :: l) (.int x :: st) M) = K (pc + 2) (some (.int x) :: l) st M := congrArg (cont K) (lvS_0 (f := fun lv' => (some (.inr (pc + 2, lv', st, M)) : So)) (w := .int x))
theorem e_astn0 : cont K (stp cal sc oc ret (.astore_n 0) 1 pc (v :: l) (.ref h :: st) M) = K (pc + 1) (some (.ref h) :: l) st M := congrArg (cont K) (lvS_0 (f := fun lv' => (some (.inr (pc + 1, lv', st, M)) : So)) (w := .ref h))
theorem e_ast0 : cont K (stp cal sc oc ret (.astore 0) 2 pc (v :: l) (.ref h :: st) M) = K (pc + 2) (some (.ref h) :: l) st M := congrArg (cont K) (lvS_0 (f := fun lv' => (some (.inr (pc + 2, lv', st, M)) : So)) (w := .ref h))
theorem e_inc0 {n : Int} {w : Int32} (hv : Int32.ofInt n = w) : cont K (stp cal sc oc ret (.iinc 0 n) 3 pc (some (.int x) :: l) st M) = K (pc + 3) (some (.int (x + w)) :: l) st M := by
  subst hv
  exact congrArg (cont K) (lvS_0 (f := fun lv' => (some (.inr (pc + 3, lv', st, M)) : So)) (w := .int (x + Int32.ofInt n)))
theorem lvS_1 {α : Type} {f : Lv → Option α} {w : Value} : lvS (v0 :: v :: l) 1 w f = f (v0 :: some w :: l) := by
  unfold lvS
  rw [if_pos (by simp)]
  rfl
theorem e_istn1 : cont K (stp cal sc oc ret (.istore_n 1) 1 pc (v0 :: v :: l) (.int x :: st) M) = K (pc + 1) (v0 :: some (.int x) :: l) st M := congrArg (cont K) (lvS_1 (f := fun lv' => (some (.inr (pc + 1, lv', st, M)) : So)) (w := .int x))
theorem e_ist1 : cont K (stp cal sc oc ret (.istore 1) 2 pc (v0 :: v :: l) (.int x :: st) M) = K (pc + 2) (v0 :: some (.int x) :: l) st M := congrArg (cont K) (lvS_1 (f := fun lv' => (some (.inr (pc + 2, lv', st, M)) : So)) (w := .int x))
theorem e_astn1 : cont K (stp cal sc oc ret (.astore_n 1) 1 pc (v0 :: v :: l) (.ref h :: st) M) = K (pc + 1) (v0 :: some (.ref h) :: l) st M := congrArg (cont K) (lvS_1 (f := fun lv' => (some (.inr (pc + 1, lv', st, M)) : So)) (w := .ref h))
theorem e_ast1 : cont K (stp cal sc oc ret (.astore 1) 2 pc (v0 :: v :: l) (.ref h :: st) M) = K (pc + 2) (v0 :: some (.ref h) :: l) st M := congrArg (cont K) (lvS_1 (f := fun lv' => (some (.inr (pc + 2, lv', st, M)) : So)) (w := .ref h))
theorem e_inc1 {n : Int} {w : Int32} (hv : Int32.ofInt n = w) : cont K (stp cal sc oc ret (.iinc 1 n) 3 pc (v0 :: some (.int x) :: l) st M) = K (pc + 3) (v0 :: some (.int (x + w)) :: l) st M := by
  subst hv
  exact congrArg (cont K) (lvS_1 (f := fun lv' => (some (.inr (pc + 3, lv', st, M)) : So)) (w := .int (x + Int32.ofInt n)))
theorem lvS_2 {α : Type} {f : Lv → Option α} {w : Value} : lvS (v0 :: v1 :: v :: l) 2 w f = f (v0 :: v1 :: some w :: l) := by
  unfold lvS
  rw [if_pos (by simp)]
  rfl
theorem e_istn2 : cont K (stp cal sc oc ret (.istore_n 2) 1 pc (v0 :: v1 :: v :: l) (.int x :: st) M) = K (pc + 1) (v0 :: v1 :: some (.int x) :: l) st M := congrArg (cont K) (lvS_2 (f := fun lv' => (some (.inr (pc + 1, lv', st, M)) : So)) (w := .int x))
theorem e_ist2 : cont K (stp cal sc oc ret (.istore 2) 2 pc (v0 :: v1 :: v :: l) (.int x :: st) M) = K (pc + 2) (v0 :: v1 :: some (.int x) :: l) st M := congrArg (cont K) (lvS_2 (f := fun lv' => (some (.inr (pc + 2, lv', st, M)) : So)) (w := .int x))
theorem e_astn2 : cont K (stp cal sc oc ret (.astore_n 2) 1 pc (v0 :: v1 :: v :: l) (.ref h :: st) M) = K (pc + 1) (v0 :: v1 :: some (.ref h) :: l) st M := congrArg (cont K) (lvS_2 (f := fun lv' => (some (.inr (pc + 1, lv', st, M)) : So)) (w := .ref h))
theorem e_ast2 : cont K (stp cal sc oc ret (.astore 2) 2 pc (v0 :: v1 :: v :: l) (.ref h :: st) M) = K (pc + 2) (v0 :: v1 :: some (.ref h) :: l) st M := congrArg (cont K) (lvS_2 (f := fun lv' => (some (.inr (pc + 2, lv', st, M)) : So)) (w := .ref h))
theorem e_inc2 {n : Int} {w : Int32} (hv : Int32.ofInt n = w) : cont K (stp cal sc oc ret (.iinc 2 n) 3 pc (v0 :: v1 :: some (.int x) :: l) st M) = K (pc + 3) (v0 :: v1 :: some (.int (x + w)) :: l) st M := by
  subst hv
  exact congrArg (cont K) (lvS_2 (f := fun lv' => (some (.inr (pc + 3, lv', st, M)) : So)) (w := .int (x + Int32.ofInt n)))
theorem lvS_3 {α : Type} {f : Lv → Option α} {w : Value} : lvS (v0 :: v1 :: v2 :: v :: l) 3 w f = f (v0 :: v1 :: v2 :: some w :: l) := by
  unfold lvS
  rw [if_pos (by simp)]
  rfl
theorem e_istn3 : cont K (stp cal sc oc ret (.istore_n 3) 1 pc (v0 :: v1 :: v2 :: v :: l) (.int x :: st) M) = K (pc + 1) (v0 :: v1 :: v2 :: some (.int x) :: l) st M := congrArg (cont K) (lvS_3 (f := fun lv' => (some (.inr (pc + 1, lv', st, M)) : So)) (w := .int x))
theorem e_ist3 : cont K (stp cal sc oc ret (.istore 3) 2 pc (v0 :: v1 :: v2 :: v :: l) (.int x :: st) M) = K (pc + 2) (v0 :: v1 :: v2 :: some (.int x) :: l) st M := congrArg (cont K) (lvS_3 (f := fun lv' => (some (.inr (pc + 2, lv', st, M)) : So)) (w := .int x))
theorem e_astn3 : cont K (stp cal sc oc ret (.astore_n 3) 1 pc (v0 :: v1 :: v2 :: v :: l) (.ref h :: st) M) = K (pc + 1) (v0 :: v1 :: v2 :: some (.ref h) :: l) st M := congrArg (cont K) (lvS_3 (f := fun lv' => (some (.inr (pc + 1, lv', st, M)) : So)) (w := .ref h))
theorem e_ast3 : cont K (stp cal sc oc ret (.astore 3) 2 pc (v0 :: v1 :: v2 :: v :: l) (.ref h :: st) M) = K (pc + 2) (v0 :: v1 :: v2 :: some (.ref h) :: l) st M := congrArg (cont K) (lvS_3 (f := fun lv' => (some (.inr (pc + 2, lv', st, M)) : So)) (w := .ref h))
theorem e_inc3 {n : Int} {w : Int32} (hv : Int32.ofInt n = w) : cont K (stp cal sc oc ret (.iinc 3 n) 3 pc (v0 :: v1 :: v2 :: some (.int x) :: l) st M) = K (pc + 3) (v0 :: v1 :: v2 :: some (.int (x + w)) :: l) st M := by
  subst hv
  exact congrArg (cont K) (lvS_3 (f := fun lv' => (some (.inr (pc + 3, lv', st, M)) : So)) (w := .int (x + Int32.ofInt n)))
theorem lvS_4 {α : Type} {f : Lv → Option α} {w : Value} : lvS (v0 :: v1 :: v2 :: v3 :: v :: l) 4 w f = f (v0 :: v1 :: v2 :: v3 :: some w :: l) := by
  unfold lvS
  rw [if_pos (by simp)]
  rfl
theorem e_ist4 : cont K (stp cal sc oc ret (.istore 4) 2 pc (v0 :: v1 :: v2 :: v3 :: v :: l) (.int x :: st) M) = K (pc + 2) (v0 :: v1 :: v2 :: v3 :: some (.int x) :: l) st M := congrArg (cont K) (lvS_4 (f := fun lv' => (some (.inr (pc + 2, lv', st, M)) : So)) (w := .int x))
theorem e_ast4 : cont K (stp cal sc oc ret (.astore 4) 2 pc (v0 :: v1 :: v2 :: v3 :: v :: l) (.ref h :: st) M) = K (pc + 2) (v0 :: v1 :: v2 :: v3 :: some (.ref h) :: l) st M := congrArg (cont K) (lvS_4 (f := fun lv' => (some (.inr (pc + 2, lv', st, M)) : So)) (w := .ref h))
theorem e_inc4 {n : Int} {w : Int32} (hv : Int32.ofInt n = w) : cont K (stp cal sc oc ret (.iinc 4 n) 3 pc (v0 :: v1 :: v2 :: v3 :: some (.int x) :: l) st M) = K (pc + 3) (v0 :: v1 :: v2 :: v3 :: some (.int (x + w)) :: l) st M := by
  subst hv
  exact congrArg (cont K) (lvS_4 (f := fun lv' => (some (.inr (pc + 3, lv', st, M)) : So)) (w := .int (x + Int32.ofInt n)))
theorem lvS_5 {α : Type} {f : Lv → Option α} {w : Value} : lvS (v0 :: v1 :: v2 :: v3 :: v4 :: v :: l) 5 w f = f (v0 :: v1 :: v2 :: v3 :: v4 :: some w :: l) := by
  unfold lvS
  rw [if_pos (by simp)]
  rfl
theorem e_ist5 : cont K (stp cal sc oc ret (.istore 5) 2 pc (v0 :: v1 :: v2 :: v3 :: v4 :: v :: l) (.int x :: st) M) = K (pc + 2) (v0 :: v1 :: v2 :: v3 :: v4 :: some (.int x) :: l) st M := congrArg (cont K) (lvS_5 (f := fun lv' => (some (.inr (pc + 2, lv', st, M)) : So)) (w := .int x))
theorem e_ast5 : cont K (stp cal sc oc ret (.astore 5) 2 pc (v0 :: v1 :: v2 :: v3 :: v4 :: v :: l) (.ref h :: st) M) = K (pc + 2) (v0 :: v1 :: v2 :: v3 :: v4 :: some (.ref h) :: l) st M := congrArg (cont K) (lvS_5 (f := fun lv' => (some (.inr (pc + 2, lv', st, M)) : So)) (w := .ref h))
theorem e_inc5 {n : Int} {w : Int32} (hv : Int32.ofInt n = w) : cont K (stp cal sc oc ret (.iinc 5 n) 3 pc (v0 :: v1 :: v2 :: v3 :: v4 :: some (.int x) :: l) st M) = K (pc + 3) (v0 :: v1 :: v2 :: v3 :: v4 :: some (.int (x + w)) :: l) st M := by
  subst hv
  exact congrArg (cont K) (lvS_5 (f := fun lv' => (some (.inr (pc + 3, lv', st, M)) : So)) (w := .int (x + Int32.ofInt n)))
theorem lvS_6 {α : Type} {f : Lv → Option α} {w : Value} : lvS (v0 :: v1 :: v2 :: v3 :: v4 :: v5 :: v :: l) 6 w f = f (v0 :: v1 :: v2 :: v3 :: v4 :: v5 :: some w :: l) := by
  unfold lvS
  rw [if_pos (by simp)]
  rfl
theorem e_ist6 : cont K (stp cal sc oc ret (.istore 6) 2 pc (v0 :: v1 :: v2 :: v3 :: v4 :: v5 :: v :: l) (.int x :: st) M) = K (pc + 2) (v0 :: v1 :: v2 :: v3 :: v4 :: v5 :: some (.int x) :: l) st M := congrArg (cont K) (lvS_6 (f := fun lv' => (some (.inr (pc + 2, lv', st, M)) : So)) (w := .int x))
theorem e_ast6 : cont K (stp cal sc oc ret (.astore 6) 2 pc (v0 :: v1 :: v2 :: v3 :: v4 :: v5 :: v :: l) (.ref h :: st) M) = K (pc + 2) (v0 :: v1 :: v2 :: v3 :: v4 :: v5 :: some (.ref h) :: l) st M := congrArg (cont K) (lvS_6 (f := fun lv' => (some (.inr (pc + 2, lv', st, M)) : So)) (w := .ref h))
theorem e_inc6 {n : Int} {w : Int32} (hv : Int32.ofInt n = w) : cont K (stp cal sc oc ret (.iinc 6 n) 3 pc (v0 :: v1 :: v2 :: v3 :: v4 :: v5 :: some (.int x) :: l) st M) = K (pc + 3) (v0 :: v1 :: v2 :: v3 :: v4 :: v5 :: some (.int (x + w)) :: l) st M := by
  subst hv
  exact congrArg (cont K) (lvS_6 (f := fun lv' => (some (.inr (pc + 3, lv', st, M)) : So)) (w := .int (x + Int32.ofInt n)))
theorem lvS_7 {α : Type} {f : Lv → Option α} {w : Value} : lvS (v0 :: v1 :: v2 :: v3 :: v4 :: v5 :: v6 :: v :: l) 7 w f = f (v0 :: v1 :: v2 :: v3 :: v4 :: v5 :: v6 :: some w :: l) := by
  unfold lvS
  rw [if_pos (by simp)]
  rfl
theorem e_ist7 : cont K (stp cal sc oc ret (.istore 7) 2 pc (v0 :: v1 :: v2 :: v3 :: v4 :: v5 :: v6 :: v :: l) (.int x :: st) M) = K (pc + 2) (v0 :: v1 :: v2 :: v3 :: v4 :: v5 :: v6 :: some (.int x) :: l) st M := congrArg (cont K) (lvS_7 (f := fun lv' => (some (.inr (pc + 2, lv', st, M)) : So)) (w := .int x))
theorem e_ast7 : cont K (stp cal sc oc ret (.astore 7) 2 pc (v0 :: v1 :: v2 :: v3 :: v4 :: v5 :: v6 :: v :: l) (.ref h :: st) M) = K (pc + 2) (v0 :: v1 :: v2 :: v3 :: v4 :: v5 :: v6 :: some (.ref h) :: l) st M := congrArg (cont K) (lvS_7 (f := fun lv' => (some (.inr (pc + 2, lv', st, M)) : So)) (w := .ref h))
theorem e_inc7 {n : Int} {w : Int32} (hv : Int32.ofInt n = w) : cont K (stp cal sc oc ret (.iinc 7 n) 3 pc (v0 :: v1 :: v2 :: v3 :: v4 :: v5 :: v6 :: some (.int x) :: l) st M) = K (pc + 3) (v0 :: v1 :: v2 :: v3 :: v4 :: v5 :: v6 :: some (.int (x + w)) :: l) st M := by
  subst hv
  exact congrArg (cont K) (lvS_7 (f := fun lv' => (some (.inr (pc + 3, lv', st, M)) : So)) (w := .int (x + Int32.ofInt n)))
theorem lvS_8 {α : Type} {f : Lv → Option α} {w : Value} : lvS (v0 :: v1 :: v2 :: v3 :: v4 :: v5 :: v6 :: v7 :: v :: l) 8 w f = f (v0 :: v1 :: v2 :: v3 :: v4 :: v5 :: v6 :: v7 :: some w :: l) := by
  unfold lvS
  rw [if_pos (by simp)]
  rfl
theorem e_ist8 : cont K (stp cal sc oc ret (.istore 8) 2 pc (v0 :: v1 :: v2 :: v3 :: v4 :: v5 :: v6 :: v7 :: v :: l) (.int x :: st) M) = K (pc + 2) (v0 :: v1 :: v2 :: v3 :: v4 :: v5 :: v6 :: v7 :: some (.int x) :: l) st M := congrArg (cont K) (lvS_8 (f := fun lv' => (some (.inr (pc + 2, lv', st, M)) : So)) (w := .int x))
theorem e_ast8 : cont K (stp cal sc oc ret (.astore 8) 2 pc (v0 :: v1 :: v2 :: v3 :: v4 :: v5 :: v6 :: v7 :: v :: l) (.ref h :: st) M) = K (pc + 2) (v0 :: v1 :: v2 :: v3 :: v4 :: v5 :: v6 :: v7 :: some (.ref h) :: l) st M := congrArg (cont K) (lvS_8 (f := fun lv' => (some (.inr (pc + 2, lv', st, M)) : So)) (w := .ref h))
theorem e_inc8 {n : Int} {w : Int32} (hv : Int32.ofInt n = w) : cont K (stp cal sc oc ret (.iinc 8 n) 3 pc (v0 :: v1 :: v2 :: v3 :: v4 :: v5 :: v6 :: v7 :: some (.int x) :: l) st M) = K (pc + 3) (v0 :: v1 :: v2 :: v3 :: v4 :: v5 :: v6 :: v7 :: some (.int (x + w)) :: l) st M := by
  subst hv
  exact congrArg (cont K) (lvS_8 (f := fun lv' => (some (.inr (pc + 3, lv', st, M)) : So)) (w := .int (x + Int32.ofInt n)))
theorem lvS_9 {α : Type} {f : Lv → Option α} {w : Value} : lvS (v0 :: v1 :: v2 :: v3 :: v4 :: v5 :: v6 :: v7 :: v8 :: v :: l) 9 w f = f (v0 :: v1 :: v2 :: v3 :: v4 :: v5 :: v6 :: v7 :: v8 :: some w :: l) := by
  unfold lvS
  rw [if_pos (by simp)]
  rfl
theorem e_ist9 : cont K (stp cal sc oc ret (.istore 9) 2 pc (v0 :: v1 :: v2 :: v3 :: v4 :: v5 :: v6 :: v7 :: v8 :: v :: l) (.int x :: st) M) = K (pc + 2) (v0 :: v1 :: v2 :: v3 :: v4 :: v5 :: v6 :: v7 :: v8 :: some (.int x) :: l) st M := congrArg (cont K) (lvS_9 (f := fun lv' => (some (.inr (pc + 2, lv', st, M)) : So)) (w := .int x))
theorem e_ast9 : cont K (stp cal sc oc ret (.astore 9) 2 pc (v0 :: v1 :: v2 :: v3 :: v4 :: v5 :: v6 :: v7 :: v8 :: v :: l) (.ref h :: st) M) = K (pc + 2) (v0 :: v1 :: v2 :: v3 :: v4 :: v5 :: v6 :: v7 :: v8 :: some (.ref h) :: l) st M := congrArg (cont K) (lvS_9 (f := fun lv' => (some (.inr (pc + 2, lv', st, M)) : So)) (w := .ref h))
theorem e_inc9 {n : Int} {w : Int32} (hv : Int32.ofInt n = w) : cont K (stp cal sc oc ret (.iinc 9 n) 3 pc (v0 :: v1 :: v2 :: v3 :: v4 :: v5 :: v6 :: v7 :: v8 :: some (.int x) :: l) st M) = K (pc + 3) (v0 :: v1 :: v2 :: v3 :: v4 :: v5 :: v6 :: v7 :: v8 :: some (.int (x + w)) :: l) st M := by
  subst hv
  exact congrArg (cont K) (lvS_9 (f := fun lv' => (some (.inr (pc + 3, lv', st, M)) : So)) (w := .int (x + Int32.ofInt n)))
theorem lvS_10 {α : Type} {f : Lv → Option α} {w : Value} : lvS (v0 :: v1 :: v2 :: v3 :: v4 :: v5 :: v6 :: v7 :: v8 :: v9 :: v :: l) 10 w f = f (v0 :: v1 :: v2 :: v3 :: v4 :: v5 :: v6 :: v7 :: v8 :: v9 :: some w :: l) := by
  unfold lvS
  rw [if_pos (by simp)]
  rfl
theorem e_ist10 : cont K (stp cal sc oc ret (.istore 10) 2 pc (v0 :: v1 :: v2 :: v3 :: v4 :: v5 :: v6 :: v7 :: v8 :: v9 :: v :: l) (.int x :: st) M) = K (pc + 2) (v0 :: v1 :: v2 :: v3 :: v4 :: v5 :: v6 :: v7 :: v8 :: v9 :: some (.int x) :: l) st M := congrArg (cont K) (lvS_10 (f := fun lv' => (some (.inr (pc + 2, lv', st, M)) : So)) (w := .int x))
theorem e_ast10 : cont K (stp cal sc oc ret (.astore 10) 2 pc (v0 :: v1 :: v2 :: v3 :: v4 :: v5 :: v6 :: v7 :: v8 :: v9 :: v :: l) (.ref h :: st) M) = K (pc + 2) (v0 :: v1 :: v2 :: v3 :: v4 :: v5 :: v6 :: v7 :: v8 :: v9 :: some (.ref h) :: l) st M := congrArg (cont K) (lvS_10 (f := fun lv' => (some (.inr (pc + 2, lv', st, M)) : So)) (w := .ref h))
theorem e_inc10 {n : Int} {w : Int32} (hv : Int32.ofInt n = w) : cont K (stp cal sc oc ret (.iinc 10 n) 3 pc (v0 :: v1 :: v2 :: v3 :: v4 :: v5 :: v6 :: v7 :: v8 :: v9 :: some (.int x) :: l) st M) = K (pc + 3) (v0 :: v1 :: v2 :: v3 :: v4 :: v5 :: v6 :: v7 :: v8 :: v9 :: some (.int (x + w)) :: l) st M := by
  subst hv
  exact congrArg (cont K) (lvS_10 (f := fun lv' => (some (.inr (pc + 3, lv', st, M)) : So)) (w := .int (x + Int32.ofInt n)))
theorem lvS_11 {α : Type} {f : Lv → Option α} {w : Value} : lvS (v0 :: v1 :: v2 :: v3 :: v4 :: v5 :: v6 :: v7 :: v8 :: v9 :: v10 :: v :: l) 11 w f = f (v0 :: v1 :: v2 :: v3 :: v4 :: v5 :: v6 :: v7 :: v8 :: v9 :: v10 :: some w :: l) := by
  unfold lvS
  rw [if_pos (by simp)]
  rfl
theorem e_ist11 : cont K (stp cal sc oc ret (.istore 11) 2 pc (v0 :: v1 :: v2 :: v3 :: v4 :: v5 :: v6 :: v7 :: v8 :: v9 :: v10 :: v :: l) (.int x :: st) M) = K (pc + 2) (v0 :: v1 :: v2 :: v3 :: v4 :: v5 :: v6 :: v7 :: v8 :: v9 :: v10 :: some (.int x) :: l) st M := congrArg (cont K) (lvS_11 (f := fun lv' => (some (.inr (pc + 2, lv', st, M)) : So)) (w := .int x))
theorem e_ast11 : cont K (stp cal sc oc ret (.astore 11) 2 pc (v0 :: v1 :: v2 :: v3 :: v4 :: v5 :: v6 :: v7 :: v8 :: v9 :: v10 :: v :: l) (.ref h :: st) M) = K (pc + 2) (v0 :: v1 :: v2 :: v3 :: v4 :: v5 :: v6 :: v7 :: v8 :: v9 :: v10 :: some (.ref h) :: l) st M := congrArg (cont K) (lvS_11 (f := fun lv' => (some (.inr (pc + 2, lv', st, M)) : So)) (w := .ref h))
theorem e_inc11 {n : Int} {w : Int32} (hv : Int32.ofInt n = w) : cont K (stp cal sc oc ret (.iinc 11 n) 3 pc (v0 :: v1 :: v2 :: v3 :: v4 :: v5 :: v6 :: v7 :: v8 :: v9 :: v10 :: some (.int x) :: l) st M) = K (pc + 3) (v0 :: v1 :: v2 :: v3 :: v4 :: v5 :: v6 :: v7 :: v8 :: v9 :: v10 :: some (.int (x + w)) :: l) st M := by
  subst hv
  exact congrArg (cont K) (lvS_11 (f := fun lv' => (some (.inr (pc + 3, lv', st, M)) : So)) (w := .int (x + Int32.ofInt n)))
theorem e_ldc {i : Nat} {w : Int32} (hc : rsC oc i = some w) : cont K (stp cal sc oc ret (.ldc i) 2 pc lv st M) = K (pc + 2) lv (.int w :: st) M := by
  show cont K (match rsC oc i with | some v => _ | none => _) = _
  rw [hc]
  rfl
theorem e_ldcs {i k : Nat} (hc : rsC oc i = none) (hk : rsK oc i = some k) : cont K (stp cal sc oc ret (.ldc i) 2 pc lv st M) = K (pc + 2) lv (.ref (160 + k) :: st) M := by
  show cont K (match rsC oc i with | some v => _ | none => _) = _
  rw [hc]
  show cont K (opK (rsK oc i) _) = _
  rw [hk]
  rfl
theorem e_ldcws {i k : Nat} (hc : rsC oc i = none) (hk : rsK oc i = some k) : cont K (stp cal sc oc ret (.ldc_w i) 3 pc lv st M) = K (pc + 3) lv (.ref (160 + k) :: st) M := by
  show cont K (match rsC oc i with | some v => _ | none => _) = _
  rw [hc]
  show cont K (opK (rsK oc i) _) = _
  rw [hk]
  rfl
theorem e_ldcw {i : Nat} {w : Int32} (hc : rsC oc i = some w) : cont K (stp cal sc oc ret (.ldc_w i) 3 pc lv st M) = K (pc + 3) lv (.int w :: st) M := by
  show cont K (match rsC oc i with | some v => _ | none => _) = _
  rw [hc]
  rfl
theorem e_tab {dflt lo hi : Int} {offs : Array Int} {len t : Nat} (tg : List Nat) (ht : (pc : Int) + dflt = (t : Int)) (hs : hi - lo + 1 = (offs.size : Int)) (hg : offs.toList.map (fun o => (pc : Int) + o) = tg.map (fun t : Nat => (t : Int))) : cont K (stp cal sc oc ret (.tableswitch dflt lo hi offs) len pc lv (.int x :: r) M) = if x.toInt < lo ∨ hi < x.toInt then K t lv r M else K (tg.getD (x.toInt - lo).toNat 0) lv r M := by
  rw [e_table ht]
  split
  · rfl
  · next hn =>
    have hlt : (x.toInt - lo).toNat < offs.size := by omega
    rw [Array.getElem?_eq_getElem hlt]
    show jmpK pc _ _ = _
    have e1 : (offs.toList.map (fun o => (pc : Int) + o))[(x.toInt - lo).toNat]? = some ((pc : Int) + offs[(x.toInt - lo).toNat]) := by
      rw [List.getElem?_map, Array.getElem?_toList, Array.getElem?_eq_getElem hlt]
      rfl
    rw [hg, List.getElem?_map] at e1
    cases hq : tg[(x.toInt - lo).toNat]? with
    | none => rw [hq] at e1; cases e1
    | some q =>
      rw [hq] at e1
      have e2 : (q : Int) = (pc : Int) + offs[(x.toInt - lo).toNat] := Option.some.inj e1
      unfold jmpK
      rw [← e2, List.getD_eq_getElem?_getD, hq]
      rfl
theorem e_virt0 {i y : Nat} {q : mtT} (hr : rsM oc i = some (0, y, 0)) (hq : mt[y]? = some q) : cont K (stp cal sc oc ret (.invokevirtual i) 3 pc lv (.ref h :: r) M) = guK (isCl (ciO q.2.2.2.2.1) h) (guK (rk 8 r) (calK (cal y [.ref h] M) fun v M' => K (pc + 3) lv (v.toList ++ r) M')) := e_virt (as := []) hr hq (by simp) rfl rfl
theorem e_stat0 {i y : Nat} (hr : rsM oc i = some (1, y, 0)) : cont K (stp cal sc oc ret (.invokestatic i) 3 pc lv r M) = guK (rk 8 r) (calK (cal y [] M) fun v M' => K (pc + 3) lv (v.toList ++ r) M') := e_stat (as := []) hr (by simp) rfl rfl
theorem e_virt1 {i y : Nat} {q : mtT} (hr : rsM oc i = some (0, y, 1)) (hq : mt[y]? = some q) : cont K (stp cal sc oc ret (.invokevirtual i) 3 pc lv (a1 :: .ref h :: r) M) = guK (isCl (ciO q.2.2.2.2.1) h) (guK (rk 8 r) (calK (cal y [.ref h, a1] M) fun v M' => K (pc + 3) lv (v.toList ++ r) M')) := e_virt (as := [a1]) hr hq (by simp) rfl rfl
theorem e_stat1 {i y : Nat} (hr : rsM oc i = some (1, y, 1)) : cont K (stp cal sc oc ret (.invokestatic i) 3 pc lv (a1 :: r) M) = guK (rk 8 r) (calK (cal y [a1] M) fun v M' => K (pc + 3) lv (v.toList ++ r) M') := e_stat (as := [a1]) hr (by simp) rfl rfl
theorem e_virt2 {i y : Nat} {q : mtT} (hr : rsM oc i = some (0, y, 2)) (hq : mt[y]? = some q) : cont K (stp cal sc oc ret (.invokevirtual i) 3 pc lv (a2 :: a1 :: .ref h :: r) M) = guK (isCl (ciO q.2.2.2.2.1) h) (guK (rk 8 r) (calK (cal y [.ref h, a1, a2] M) fun v M' => K (pc + 3) lv (v.toList ++ r) M')) := e_virt (as := [a1, a2]) hr hq (by simp) rfl rfl
theorem e_stat2 {i y : Nat} (hr : rsM oc i = some (1, y, 2)) : cont K (stp cal sc oc ret (.invokestatic i) 3 pc lv (a2 :: a1 :: r) M) = guK (rk 8 r) (calK (cal y [a1, a2] M) fun v M' => K (pc + 3) lv (v.toList ++ r) M') := e_stat (as := [a1, a2]) hr (by simp) rfl rfl
theorem e_virt3 {i y : Nat} {q : mtT} (hr : rsM oc i = some (0, y, 3)) (hq : mt[y]? = some q) : cont K (stp cal sc oc ret (.invokevirtual i) 3 pc lv (a3 :: a2 :: a1 :: .ref h :: r) M) = guK (isCl (ciO q.2.2.2.2.1) h) (guK (rk 8 r) (calK (cal y [.ref h, a1, a2, a3] M) fun v M' => K (pc + 3) lv (v.toList ++ r) M')) := e_virt (as := [a1, a2, a3]) hr hq (by simp) rfl rfl
theorem e_stat3 {i y : Nat} (hr : rsM oc i = some (1, y, 3)) : cont K (stp cal sc oc ret (.invokestatic i) 3 pc lv (a3 :: a2 :: a1 :: r) M) = guK (rk 8 r) (calK (cal y [a1, a2, a3] M) fun v M' => K (pc + 3) lv (v.toList ++ r) M') := e_stat (as := [a1, a2, a3]) hr (by simp) rfl rfl
theorem e_virt4 {i y : Nat} {q : mtT} (hr : rsM oc i = some (0, y, 4)) (hq : mt[y]? = some q) : cont K (stp cal sc oc ret (.invokevirtual i) 3 pc lv (a4 :: a3 :: a2 :: a1 :: .ref h :: r) M) = guK (isCl (ciO q.2.2.2.2.1) h) (guK (rk 8 r) (calK (cal y [.ref h, a1, a2, a3, a4] M) fun v M' => K (pc + 3) lv (v.toList ++ r) M')) := e_virt (as := [a1, a2, a3, a4]) hr hq (by simp) rfl rfl
theorem e_stat4 {i y : Nat} (hr : rsM oc i = some (1, y, 4)) : cont K (stp cal sc oc ret (.invokestatic i) 3 pc lv (a4 :: a3 :: a2 :: a1 :: r) M) = guK (rk 8 r) (calK (cal y [a1, a2, a3, a4] M) fun v M' => K (pc + 3) lv (v.toList ++ r) M') := e_stat (as := [a1, a2, a3, a4]) hr (by simp) rfl rfl
theorem e_virt5 {i y : Nat} {q : mtT} (hr : rsM oc i = some (0, y, 5)) (hq : mt[y]? = some q) : cont K (stp cal sc oc ret (.invokevirtual i) 3 pc lv (a5 :: a4 :: a3 :: a2 :: a1 :: .ref h :: r) M) = guK (isCl (ciO q.2.2.2.2.1) h) (guK (rk 8 r) (calK (cal y [.ref h, a1, a2, a3, a4, a5] M) fun v M' => K (pc + 3) lv (v.toList ++ r) M')) := e_virt (as := [a1, a2, a3, a4, a5]) hr hq (by simp) rfl rfl
theorem e_stat5 {i y : Nat} (hr : rsM oc i = some (1, y, 5)) : cont K (stp cal sc oc ret (.invokestatic i) 3 pc lv (a5 :: a4 :: a3 :: a2 :: a1 :: r) M) = guK (rk 8 r) (calK (cal y [a1, a2, a3, a4, a5] M) fun v M' => K (pc + 3) lv (v.toList ++ r) M') := e_stat (as := [a1, a2, a3, a4, a5]) hr (by simp) rfl rfl
end E2
theorem k_b_m2 : (Int8.ofInt (-2)).toInt32 = (-2) := by decide +kernel
theorem k_b_6 : (Int8.ofInt 6).toInt32 = 6 := by decide +kernel
theorem k_b_7 : (Int8.ofInt 7).toInt32 = 7 := by decide +kernel
theorem k_b_8 : (Int8.ofInt 8).toInt32 = 8 := by decide +kernel
theorem k_b_9 : (Int8.ofInt 9).toInt32 = 9 := by decide +kernel
theorem k_b_10 : (Int8.ofInt 10).toInt32 = 10 := by decide +kernel
theorem k_b_11 : (Int8.ofInt 11).toInt32 = 11 := by decide +kernel
theorem k_b_12 : (Int8.ofInt 12).toInt32 = 12 := by decide +kernel
theorem k_b_16 : (Int8.ofInt 16).toInt32 = 16 := by decide +kernel
theorem k_b_18 : (Int8.ofInt 18).toInt32 = 18 := by decide +kernel
theorem k_b_32 : (Int8.ofInt 32).toInt32 = 32 := by decide +kernel
theorem k_b_40 : (Int8.ofInt 40).toInt32 = 40 := by decide +kernel
theorem k_b_48 : (Int8.ofInt 48).toInt32 = 48 := by decide +kernel
theorem k_b_57 : (Int8.ofInt 57).toInt32 = 57 := by decide +kernel
theorem k_b_59 : (Int8.ofInt 59).toInt32 = 59 := by decide +kernel
theorem k_b_60 : (Int8.ofInt 60).toInt32 = 60 := by decide +kernel
theorem k_b_63 : (Int8.ofInt 63).toInt32 = 63 := by decide +kernel
theorem k_b_88 : (Int8.ofInt 88).toInt32 = 88 := by decide +kernel
theorem k_b_96 : (Int8.ofInt 96).toInt32 = 96 := by decide +kernel
theorem k_b_97 : (Int8.ofInt 97).toInt32 = 97 := by decide +kernel
theorem k_b_99 : (Int8.ofInt 99).toInt32 = 99 := by decide +kernel
theorem k_b_104 : (Int8.ofInt 104).toInt32 = 104 := by decide +kernel
theorem k_b_120 : (Int8.ofInt 120).toInt32 = 120 := by decide +kernel
theorem k_b_122 : (Int8.ofInt 122).toInt32 = 122 := by decide +kernel
theorem k_i_m1 : Int32.ofInt (-1) = (-1) := by decide +kernel
theorem k_i_0 : Int32.ofInt 0 = 0 := by decide +kernel
theorem k_i_1 : Int32.ofInt 1 = 1 := by decide +kernel
theorem k_i_2 : Int32.ofInt 2 = 2 := by decide +kernel
theorem k_i_3 : Int32.ofInt 3 = 3 := by decide +kernel
theorem k_i_4 : Int32.ofInt 4 = 4 := by decide +kernel
theorem k_i_5 : Int32.ofInt 5 = 5 := by decide +kernel
theorem k_i_6 : Int32.ofInt 6 = 6 := by decide +kernel
theorem k_s_132 : (Int16.ofInt 132).toInt32 = 132 := by decide +kernel
theorem k_s_255 : (Int16.ofInt 255).toInt32 = 255 := by decide +kernel
theorem k_s_1000 : (Int16.ofInt 1000).toInt32 = 1000 := by decide +kernel
theorem k_s_9999 : (Int16.ofInt 9999).toInt32 = 9999 := by decide +kernel
theorem k_s_12345 : (Int16.ofInt 12345).toInt32 = 12345 := by decide +kernel
theorem rf_0_12 : rsF 0 12 = some (0, 0) := by decide +kernel
theorem rf_0_18 : rsF 0 18 = some (0, 1) := by decide +kernel
theorem rf_0_22 : rsF 0 22 = some (0, 2) := by decide +kernel
theorem rf_0_25 : rsF 0 25 = some (0, 3) := by decide +kernel
theorem rf_0_28 : rsF 0 28 = some (0, 4) := by decide +kernel
theorem rf_0_31 : rsF 0 31 = some (0, 5) := by decide +kernel
theorem rf_0_35 : rsF 0 35 = some (0, 6) := by decide +kernel
theorem rf_0_38 : rsF 0 38 = some (0, 7) := by decide +kernel
theorem rf_0_41 : rsF 0 41 = some (0, 8) := by decide +kernel
theorem rf_0_58 : rsF 0 58 = some (1, 12) := by decide +kernel
theorem rf_0_64 : rsF 0 64 = some (1, 13) := by decide +kernel
theorem rf_0_67 : rsF 0 67 = some (1, 14) := by decide +kernel
theorem rf_1_9 : rsF 1 9 = some (1, 0) := by decide +kernel
theorem rf_1_15 : rsF 1 15 = some (1, 1) := by decide +kernel
theorem rf_1_19 : rsF 1 19 = some (1, 2) := by decide +kernel
theorem rf_1_22 : rsF 1 22 = some (1, 3) := by decide +kernel
theorem rf_1_25 : rsF 1 25 = some (1, 4) := by decide +kernel
theorem rf_1_28 : rsF 1 28 = some (1, 5) := by decide +kernel
theorem rf_1_31 : rsF 1 31 = some (1, 6) := by decide +kernel
theorem rf_1_34 : rsF 1 34 = some (1, 7) := by decide +kernel
theorem rf_1_37 : rsF 1 37 = some (1, 8) := by decide +kernel
theorem rf_1_40 : rsF 1 40 = some (1, 9) := by decide +kernel
theorem rf_1_43 : rsF 1 43 = some (1, 10) := by decide +kernel
theorem rf_1_46 : rsF 1 46 = some (1, 11) := by decide +kernel
theorem rf_1_49 : rsF 1 49 = some (1, 12) := by decide +kernel
theorem rf_1_52 : rsF 1 52 = some (1, 13) := by decide +kernel
theorem rf_1_55 : rsF 1 55 = some (1, 14) := by decide +kernel
theorem rf_3_9 : rsF 3 9 = some (2, 0) := by decide +kernel
theorem rf_3_15 : rsF 3 15 = some (2, 1) := by decide +kernel
theorem rf_3_18 : rsF 3 18 = some (2, 2) := by decide +kernel
theorem rf_4_9 : rsF 4 9 = some (3, 0) := by decide +kernel
theorem rf_4_15 : rsF 4 15 = some (3, 1) := by decide +kernel
theorem rf_4_19 : rsF 4 19 = some (3, 2) := by decide +kernel
theorem rf_4_22 : rsF 4 22 = some (3, 3) := by decide +kernel
theorem rf_4_25 : rsF 4 25 = some (3, 4) := by decide +kernel
theorem rf_4_28 : rsF 4 28 = some (3, 5) := by decide +kernel
theorem rf_4_31 : rsF 4 31 = some (3, 6) := by decide +kernel
theorem rf_4_130 : rsF 4 130 = some (1, 10) := by decide +kernel
theorem rf_4_132 : rsF 4 132 = some (1, 11) := by decide +kernel
theorem rf_5_10 : rsF 5 10 = some (4, 0) := by decide +kernel
theorem rf_5_16 : rsF 5 16 = some (4, 1) := by decide +kernel
theorem rf_5_19 : rsF 5 19 = some (4, 2) := by decide +kernel
theorem rf_5_26 : rsF 5 26 = some (4, 3) := by decide +kernel
theorem rf_5_32 : rsF 5 32 = some (4, 4) := by decide +kernel
theorem rf_5_36 : rsF 5 36 = some (4, 5) := by decide +kernel
theorem rf_5_43 : rsF 5 43 = some (4, 6) := by decide +kernel
theorem rf_5_47 : rsF 5 47 = some (4, 7) := by decide +kernel
theorem rf_5_51 : rsF 5 51 = some (4, 8) := by decide +kernel
theorem rf_5_54 : rsF 5 54 = some (4, 9) := by decide +kernel
theorem rf_5_57 : rsF 5 57 = some (4, 10) := by decide +kernel
theorem rf_5_60 : rsF 5 60 = some (4, 11) := by decide +kernel
theorem rf_5_73 : rsF 5 73 = some (0, 0) := by decide +kernel
theorem rf_5_76 : rsF 5 76 = some (1, 0) := by decide +kernel
theorem rf_5_98 : rsF 5 98 = some (1, 10) := by decide +kernel
theorem rf_5_101 : rsF 5 101 = some (1, 11) := by decide +kernel
theorem rf_5_114 : rsF 5 114 = some (1, 9) := by decide +kernel
theorem rf_5_117 : rsF 5 117 = some (1, 5) := by decide +kernel
theorem rf_5_123 : rsF 5 123 = some (1, 8) := by decide +kernel
theorem rf_5_130 : rsF 5 130 = some (0, 5) := by decide +kernel
theorem rf_5_133 : rsF 5 133 = some (0, 6) := by decide +kernel
theorem rf_5_136 : rsF 5 136 = some (0, 7) := by decide +kernel
theorem rf_5_148 : rsF 5 148 = some (0, 1) := by decide +kernel
theorem rf_5_154 : rsF 5 154 = some (0, 3) := by decide +kernel
theorem rf_5_157 : rsF 5 157 = some (0, 4) := by decide +kernel
theorem rf_5_176 : rsF 5 176 = some (1, 13) := by decide +kernel
theorem rf_5_182 : rsF 5 182 = some (1, 12) := by decide +kernel
theorem rf_5_185 : rsF 5 185 = some (1, 3) := by decide +kernel
theorem rf_5_239 : rsF 5 239 = some (1, 4) := by decide +kernel
theorem rf_5_253 : rsF 5 253 = some (0, 2) := by decide +kernel
theorem rf_5_256 : rsF 5 256 = some (3, 1) := by decide +kernel
theorem rf_5_266 : rsF 5 266 = some (0, 8) := by decide +kernel
theorem rf_5_269 : rsF 5 269 = some (1, 1) := by decide +kernel
theorem rf_5_284 : rsF 5 284 = some (2, 1) := by decide +kernel
theorem rf_5_292 : rsF 5 292 = some (2, 0) := by decide +kernel
theorem rf_5_298 : rsF 5 298 = some (2, 2) := by decide +kernel
theorem rf_6_9 : rsF 6 9 = some (5, 0) := by decide +kernel
theorem rf_6_13 : rsF 6 13 = some (5, 1) := by decide +kernel
theorem rf_6_16 : rsF 6 16 = some (5, 2) := by decide +kernel
theorem rf_6_19 : rsF 6 19 = some (5, 4) := by decide +kernel
theorem rf_6_22 : rsF 6 22 = some (5, 9) := by decide +kernel
theorem rf_6_25 : rsF 6 25 = some (5, 11) := by decide +kernel
theorem rf_6_28 : rsF 6 28 = some (5, 13) := by decide +kernel
theorem rf_6_31 : rsF 6 31 = some (5, 16) := by decide +kernel
theorem rf_6_50 : rsF 6 50 = some (5, 23) := by decide +kernel
theorem rf_6_54 : rsF 6 54 = some (5, 24) := by decide +kernel
theorem rf_6_57 : rsF 6 57 = some (5, 27) := by decide +kernel
theorem rf_6_60 : rsF 6 60 = some (5, 28) := by decide +kernel
theorem rf_6_63 : rsF 6 63 = some (5, 29) := by decide +kernel
theorem rf_6_66 : rsF 6 66 = some (5, 30) := by decide +kernel
theorem rf_6_153 : rsF 6 153 = some (5, 7) := by decide +kernel
theorem rf_6_157 : rsF 6 157 = some (5, 5) := by decide +kernel
theorem rf_6_161 : rsF 6 161 = some (5, 6) := by decide +kernel
theorem rf_6_188 : rsF 6 188 = some (5, 8) := by decide +kernel
theorem rf_6_202 : rsF 6 202 = some (5, 10) := by decide +kernel
theorem rf_6_225 : rsF 6 225 = some (5, 12) := by decide +kernel
theorem rf_6_259 : rsF 6 259 = some (5, 14) := by decide +kernel
theorem rf_6_265 : rsF 6 265 = some (5, 15) := by decide +kernel
theorem rf_6_281 : rsF 6 281 = some (5, 17) := by decide +kernel
theorem rf_6_284 : rsF 6 284 = some (5, 19) := by decide +kernel
theorem rf_6_287 : rsF 6 287 = some (5, 18) := by decide +kernel
theorem rf_6_293 : rsF 6 293 = some (5, 21) := by decide +kernel
theorem rf_6_296 : rsF 6 296 = some (5, 20) := by decide +kernel
theorem rf_6_306 : rsF 6 306 = some (5, 22) := by decide +kernel
theorem rf_6_316 : rsF 6 316 = some (5, 25) := by decide +kernel
theorem rf_6_326 : rsF 6 326 = some (5, 26) := by decide +kernel
theorem rf_6_367 : rsF 6 367 = some (5, 3) := by decide +kernel
theorem rm_0_44 : rsM 0 44 = some (0, 34, 1) := by decide +kernel
theorem rm_0_48 : rsM 0 48 = some (5, 0, 0) := by decide +kernel
theorem rm_0_54 : rsM 0 54 = some (0, 27, 0) := by decide +kernel
theorem rm_0_61 : rsM 0 61 = some (0, 31, 0) := by decide +kernel
theorem rm_0_71 : rsM 0 71 = some (4, 0, 0) := by decide +kernel
theorem rm_0_77 : rsM 0 77 = some (0, 20, 0) := by decide +kernel
theorem rm_1_59 : rsM 1 59 = some (5, 0, 0) := by decide +kernel
theorem rm_1_65 : rsM 1 65 = some (0, 4, 2) := by decide +kernel
theorem rm_1_77 : rsM 1 77 = some (1, 8, 3) := by decide +kernel
theorem rm_1_81 : rsM 1 81 = some (0, 16, 0) := by decide +kernel
theorem rm_1_85 : rsM 1 85 = some (0, 28, 0) := by decide +kernel
theorem rm_1_88 : rsM 1 88 = some (0, 30, 0) := by decide +kernel
theorem rm_1_91 : rsM 1 91 = some (0, 27, 0) := by decide +kernel
theorem rm_1_94 : rsM 1 94 = some (0, 29, 1) := by decide +kernel
theorem rm_1_98 : rsM 1 98 = some (4, 0, 0) := by decide +kernel
theorem rm_1_104 : rsM 1 104 = some (0, 70, 1) := by decide +kernel
theorem rm_2_9 : rsM 2 9 = some (3, 0, 0) := by decide +kernel
theorem rm_4_34 : rsM 4 34 = some (0, 92, 1) := by decide +kernel
theorem rm_4_38 : rsM 4 38 = some (0, 104, 3) := by decide +kernel
theorem rm_4_42 : rsM 4 42 = some (1, 93, 1) := by decide +kernel
theorem rm_4_46 : rsM 4 46 = some (0, 94, 2) := by decide +kernel
theorem rm_4_50 : rsM 4 50 = some (1, 105, 1) := by decide +kernel
theorem rm_4_53 : rsM 4 53 = some (0, 106, 2) := by decide +kernel
theorem rm_4_56 : rsM 4 56 = some (4, 0, 0) := by decide +kernel
theorem rm_4_61 : rsM 4 61 = some (1, 95, 1) := by decide +kernel
theorem rm_4_65 : rsM 4 65 = some (0, 96, 3) := by decide +kernel
theorem rm_4_69 : rsM 4 69 = some (0, 97, 0) := by decide +kernel
theorem rm_4_75 : rsM 4 75 = some (0, 99, 1) := by decide +kernel
theorem rm_4_103 : rsM 4 103 = some (0, 91, 0) := by decide +kernel
theorem rm_4_106 : rsM 4 106 = some (0, 107, 1) := by decide +kernel
theorem rm_4_110 : rsM 4 110 = some (0, 109, 0) := by decide +kernel
theorem rm_4_113 : rsM 4 113 = some (0, 3, 1) := by decide +kernel
theorem rm_4_118 : rsM 4 118 = some (0, 108, 2) := by decide +kernel
theorem rm_4_122 : rsM 4 122 = some (0, 112, 2) := by decide +kernel
theorem rm_4_126 : rsM 4 126 = some (0, 111, 2) := by decide +kernel
theorem rm_4_134 : rsM 4 134 = some (0, 110, 5) := by decide +kernel
theorem rm_4_138 : rsM 4 138 = some (0, 11, 3) := by decide +kernel
theorem rm_4_141 : rsM 4 141 = some (1, 1, 3) := by decide +kernel
theorem rm_5_65 : rsM 5 65 = some (1, 1, 3) := by decide +kernel
theorem rm_5_69 : rsM 5 69 = some (0, 2, 1) := by decide +kernel
theorem rm_5_79 : rsM 5 79 = some (0, 3, 1) := by decide +kernel
theorem rm_5_82 : rsM 5 82 = some (0, 6, 1) := by decide +kernel
theorem rm_5_86 : rsM 5 86 = some (0, 7, 2) := by decide +kernel
theorem rm_5_90 : rsM 5 90 = some (1, 10, 2) := by decide +kernel
theorem rm_5_94 : rsM 5 94 = some (0, 11, 3) := by decide +kernel
theorem rm_5_104 : rsM 5 104 = some (0, 14, 1) := by decide +kernel
theorem rm_5_107 : rsM 5 107 = some (0, 15, 1) := by decide +kernel
theorem rm_5_110 : rsM 5 110 = some (0, 17, 1) := by decide +kernel
theorem rm_5_120 : rsM 5 120 = some (0, 19, 1) := by decide +kernel
theorem rm_5_126 : rsM 5 126 = some (0, 20, 0) := by decide +kernel
theorem rm_5_139 : rsM 5 139 = some (1, 24, 1) := by decide +kernel
theorem rm_5_142 : rsM 5 142 = some (0, 25, 1) := by decide +kernel
theorem rm_5_145 : rsM 5 145 = some (0, 26, 0) := by decide +kernel
theorem rm_5_151 : rsM 5 151 = some (0, 16, 0) := by decide +kernel
theorem rm_5_160 : rsM 5 160 = some (0, 34, 1) := by decide +kernel
theorem rm_5_164 : rsM 5 164 = some (0, 35, 1) := by decide +kernel
theorem rm_5_167 : rsM 5 167 = some (0, 36, 0) := by decide +kernel
theorem rm_5_170 : rsM 5 170 = some (0, 38, 1) := by decide +kernel
theorem rm_5_173 : rsM 5 173 = some (0, 39, 1) := by decide +kernel
theorem rm_5_179 : rsM 5 179 = some (0, 27, 0) := by decide +kernel
theorem rm_5_188 : rsM 5 188 = some (0, 43, 1) := by decide +kernel
theorem rm_5_191 : rsM 5 191 = some (0, 44, 1) := by decide +kernel
theorem rm_5_194 : rsM 5 194 = some (0, 45, 1) := by decide +kernel
theorem rm_5_197 : rsM 5 197 = some (0, 46, 2) := by decide +kernel
theorem rm_5_200 : rsM 5 200 = some (0, 49, 2) := by decide +kernel
theorem rm_5_203 : rsM 5 203 = some (0, 51, 2) := by decide +kernel
theorem rm_5_206 : rsM 5 206 = some (1, 50, 1) := by decide +kernel
theorem rm_5_211 : rsM 5 211 = some (0, 57, 1) := by decide +kernel
theorem rm_5_214 : rsM 5 214 = some (0, 59, 3) := by decide +kernel
theorem rm_5_218 : rsM 5 218 = some (0, 61, 0) := by decide +kernel
theorem rm_5_221 : rsM 5 221 = some (0, 62, 2) := by decide +kernel
theorem rm_5_224 : rsM 5 224 = some (0, 65, 2) := by decide +kernel
theorem rm_5_227 : rsM 5 227 = some (0, 66, 2) := by decide +kernel
theorem rm_5_230 : rsM 5 230 = some (0, 70, 1) := by decide +kernel
theorem rm_5_233 : rsM 5 233 = some (0, 75, 2) := by decide +kernel
theorem rm_5_236 : rsM 5 236 = some (0, 76, 3) := by decide +kernel
theorem rm_5_242 : rsM 5 242 = some (0, 81, 2) := by decide +kernel
theorem rm_5_245 : rsM 5 245 = some (4, 0, 0) := by decide +kernel
theorem rm_5_250 : rsM 5 250 = some (0, 84, 0) := by decide +kernel
theorem rm_5_259 : rsM 5 259 = some (0, 87, 1) := by decide +kernel
theorem rm_5_262 : rsM 5 262 = some (0, 90, 1) := by decide +kernel
theorem rm_5_272 : rsM 5 272 = some (1, 115, 2) := by decide +kernel
theorem rm_5_277 : rsM 5 277 = some (1, 117, 1) := by decide +kernel
theorem rm_5_280 : rsM 5 280 = some (0, 118, 2) := by decide +kernel
theorem rm_5_285 : rsM 5 285 = some (0, 120, 0) := by decide +kernel
theorem rm_5_289 : rsM 5 289 = some (0, 121, 2) := by decide +kernel
theorem rm_5_295 : rsM 5 295 = some (0, 123, 2) := by decide +kernel
theorem rm_5_301 : rsM 5 301 = some (5, 0, 0) := by decide +kernel
theorem rm_5_307 : rsM 5 307 = some (0, 127, 1) := by decide +kernel
theorem rm_5_310 : rsM 5 310 = some (0, 131, 0) := by decide +kernel
theorem rm_5_313 : rsM 5 313 = some (0, 132, 0) := by decide +kernel
theorem rm_5_317 : rsM 5 317 = some (0, 47, 2) := by decide +kernel
theorem rm_5_320 : rsM 5 320 = some (0, 52, 1) := by decide +kernel
theorem rm_5_323 : rsM 5 323 = some (0, 53, 2) := by decide +kernel
theorem rm_5_326 : rsM 5 326 = some (0, 63, 1) := by decide +kernel
theorem rm_5_329 : rsM 5 329 = some (0, 77, 3) := by decide +kernel
theorem rm_5_332 : rsM 5 332 = some (0, 67, 3) := by decide +kernel
theorem rm_5_335 : rsM 5 335 = some (1, 68, 2) := by decide +kernel
theorem rm_5_339 : rsM 5 339 = some (0, 71, 4) := by decide +kernel
theorem rm_5_343 : rsM 5 343 = some (0, 69, 0) := by decide +kernel
theorem rm_6_70 : rsM 6 70 = some (1, 171, 2) := by decide +kernel
theorem rm_6_74 : rsM 6 74 = some (1, 136, 3) := by decide +kernel
theorem rm_6_78 : rsM 6 78 = some (1, 139, 2) := by decide +kernel
theorem rm_6_82 : rsM 6 82 = some (1, 135, 1) := by decide +kernel
theorem rm_6_86 : rsM 6 86 = some (0, 137, 1) := by decide +kernel
theorem rm_6_91 : rsM 6 91 = some (0, 138, 4) := by decide +kernel
theorem rm_6_95 : rsM 6 95 = some (1, 145, 1) := by decide +kernel
theorem rm_6_98 : rsM 6 98 = some (0, 142, 2) := by decide +kernel
theorem rm_6_101 : rsM 6 101 = some (1, 144, 2) := by decide +kernel
theorem rm_6_105 : rsM 6 105 = some (3, 0, 0) := by decide +kernel
theorem rm_6_110 : rsM 6 110 = some (0, 141, 1) := by decide +kernel
theorem rm_6_113 : rsM 6 113 = some (0, 143, 1) := by decide +kernel
theorem rm_6_116 : rsM 6 116 = some (0, 146, 1) := by decide +kernel
theorem rm_6_119 : rsM 6 119 = some (0, 147, 1) := by decide +kernel
theorem rm_6_122 : rsM 6 122 = some (0, 149, 2) := by decide +kernel
theorem rm_6_125 : rsM 6 125 = some (0, 152, 2) := by decide +kernel
theorem rm_6_128 : rsM 6 128 = some (0, 154, 0) := by decide +kernel
theorem rm_6_132 : rsM 6 132 = some (0, 156, 2) := by decide +kernel
theorem rm_6_137 : rsM 6 137 = some (0, 153, 1) := by decide +kernel
theorem rm_6_140 : rsM 6 140 = some (0, 155, 1) := by decide +kernel
theorem rm_6_143 : rsM 6 143 = some (4, 0, 0) := by decide +kernel
theorem rm_6_146 : rsM 6 146 = some (0, 158, 0) := by decide +kernel
theorem rm_6_149 : rsM 6 149 = some (0, 159, 2) := by decide +kernel
theorem rm_6_164 : rsM 6 164 = some (0, 168, 2) := by decide +kernel
theorem rm_6_167 : rsM 6 167 = some (0, 166, 1) := by decide +kernel
theorem rm_6_170 : rsM 6 170 = some (0, 167, 0) := by decide +kernel
theorem rm_6_173 : rsM 6 173 = some (0, 165, 0) := by decide +kernel
theorem rm_6_176 : rsM 6 176 = some (0, 163, 1) := by decide +kernel
theorem rm_6_179 : rsM 6 179 = some (0, 164, 1) := by decide +kernel
theorem rm_6_182 : rsM 6 182 = some (0, 172, 1) := by decide +kernel
theorem rm_6_185 : rsM 6 185 = some (0, 173, 0) := by decide +kernel
theorem rm_6_191 : rsM 6 191 = some (0, 176, 0) := by decide +kernel
theorem rm_6_195 : rsM 6 195 = some (0, 177, 1) := by decide +kernel
theorem rm_6_198 : rsM 6 198 = some (0, 175, 2) := by decide +kernel
theorem rm_6_205 : rsM 6 205 = some (1, 185, 2) := by decide +kernel
theorem rm_6_208 : rsM 6 208 = some (0, 183, 1) := by decide +kernel
theorem rm_6_211 : rsM 6 211 = some (0, 181, 1) := by decide +kernel
theorem rm_6_214 : rsM 6 214 = some (0, 182, 3) := by decide +kernel
theorem rm_6_218 : rsM 6 218 = some (0, 184, 1) := by decide +kernel
theorem rm_6_222 : rsM 6 222 = some (0, 186, 1) := by decide +kernel
theorem rm_6_228 : rsM 6 228 = some (1, 189, 1) := by decide +kernel
theorem rm_6_231 : rsM 6 231 = some (0, 191, 2) := by decide +kernel
theorem rm_6_234 : rsM 6 234 = some (0, 188, 1) := by decide +kernel
theorem rm_6_237 : rsM 6 237 = some (0, 190, 2) := by decide +kernel
theorem rm_6_240 : rsM 6 240 = some (0, 194, 3) := by decide +kernel
theorem rm_6_244 : rsM 6 244 = some (0, 197, 2) := by decide +kernel
theorem rm_6_247 : rsM 6 247 = some (0, 202, 1) := by decide +kernel
theorem rm_6_250 : rsM 6 250 = some (0, 203, 1) := by decide +kernel
theorem rm_6_253 : rsM 6 253 = some (0, 204, 1) := by decide +kernel
theorem rm_6_256 : rsM 6 256 = some (0, 201, 3) := by decide +kernel
theorem rm_6_262 : rsM 6 262 = some (0, 200, 2) := by decide +kernel
theorem rm_6_268 : rsM 6 268 = some (0, 209, 3) := by decide +kernel
theorem rm_6_271 : rsM 6 271 = some (0, 208, 2) := by decide +kernel
theorem rm_6_274 : rsM 6 274 = some (0, 213, 0) := by decide +kernel
theorem rm_6_278 : rsM 6 278 = some (0, 216, 1) := by decide +kernel
theorem rm_6_290 : rsM 6 290 = some (0, 222, 1) := by decide +kernel
theorem rm_6_299 : rsM 6 299 = some (0, 97, 0) := by decide +kernel
theorem rm_6_302 : rsM 6 302 = some (0, 99, 1) := by decide +kernel
theorem rm_6_309 : rsM 6 309 = some (0, 221, 0) := by decide +kernel
theorem rm_6_312 : rsM 6 312 = some (0, 226, 1) := by decide +kernel
theorem rm_6_319 : rsM 6 319 = some (0, 225, 1) := by decide +kernel
theorem rm_6_323 : rsM 6 323 = some (0, 224, 0) := by decide +kernel
theorem rm_6_331 : rsM 6 331 = some (0, 227, 1) := by decide +kernel
theorem rm_6_334 : rsM 6 334 = some (0, 228, 2) := by decide +kernel
theorem rm_6_341 : rsM 6 341 = some (0, 229, 4) := by decide +kernel
theorem rm_6_349 : rsM 6 349 = some (0, 223, 0) := by decide +kernel
theorem rm_6_352 : rsM 6 352 = some (0, 230, 1) := by decide +kernel
theorem rm_6_355 : rsM 6 355 = some (1, 232, 1) := by decide +kernel
theorem rm_6_360 : rsM 6 360 = some (1, 235, 1) := by decide +kernel
theorem rm_6_364 : rsM 6 364 = some (1, 237, 2) := by decide +kernel
theorem rm_7_13 : rsM 7 13 = some (0, 0, 1) := by decide +kernel
theorem rm_7_17 : rsM 7 17 = some (0, 134, 1) := by decide +kernel
theorem rm_7_18 : rsM 7 18 = some (0, 5, 2) := by decide +kernel
theorem rm_7_22 : rsM 7 22 = some (0, 140, 2) := by decide +kernel
theorem rm_7_23 : rsM 7 23 = some (0, 9, 3) := by decide +kernel
theorem rm_7_27 : rsM 7 27 = some (0, 148, 3) := by decide +kernel
theorem rm_7_28 : rsM 7 28 = some (0, 12, 2) := by decide +kernel
theorem rm_7_31 : rsM 7 31 = some (0, 150, 2) := by decide +kernel
theorem rm_7_32 : rsM 7 32 = some (0, 13, 1) := by decide +kernel
theorem rm_7_35 : rsM 7 35 = some (0, 151, 1) := by decide +kernel
theorem rm_7_36 : rsM 7 36 = some (0, 18, 1) := by decide +kernel
theorem rm_7_39 : rsM 7 39 = some (0, 157, 1) := by decide +kernel
theorem rm_7_40 : rsM 7 40 = some (0, 21, 1) := by decide +kernel
theorem rm_7_43 : rsM 7 43 = some (0, 160, 1) := by decide +kernel
theorem rm_7_44 : rsM 7 44 = some (0, 22, 2) := by decide +kernel
theorem rm_7_47 : rsM 7 47 = some (0, 161, 2) := by decide +kernel
theorem rm_7_48 : rsM 7 48 = some (0, 23, 1) := by decide +kernel
theorem rm_7_51 : rsM 7 51 = some (0, 162, 1) := by decide +kernel
theorem rm_7_52 : rsM 7 52 = some (0, 32, 1) := by decide +kernel
theorem rm_7_55 : rsM 7 55 = some (0, 169, 1) := by decide +kernel
theorem rm_7_56 : rsM 7 56 = some (0, 33, 2) := by decide +kernel
theorem rm_7_59 : rsM 7 59 = some (0, 170, 2) := by decide +kernel
theorem rm_7_60 : rsM 7 60 = some (0, 37, 1) := by decide +kernel
theorem rm_7_63 : rsM 7 63 = some (0, 174, 1) := by decide +kernel
theorem rm_7_64 : rsM 7 64 = some (0, 40, 1) := by decide +kernel
theorem rm_7_67 : rsM 7 67 = some (0, 178, 1) := by decide +kernel
theorem rm_7_68 : rsM 7 68 = some (0, 41, 0) := by decide +kernel
theorem rm_7_72 : rsM 7 72 = some (0, 179, 0) := by decide +kernel
theorem rm_7_73 : rsM 7 73 = some (0, 42, 2) := by decide +kernel
theorem rm_7_76 : rsM 7 76 = some (0, 180, 2) := by decide +kernel
theorem rm_7_77 : rsM 7 77 = some (0, 48, 2) := by decide +kernel
theorem rm_7_80 : rsM 7 80 = some (0, 187, 2) := by decide +kernel
theorem rm_7_81 : rsM 7 81 = some (0, 54, 3) := by decide +kernel
theorem rm_7_84 : rsM 7 84 = some (0, 192, 3) := by decide +kernel
theorem rm_7_85 : rsM 7 85 = some (0, 55, 1) := by decide +kernel
theorem rm_7_88 : rsM 7 88 = some (0, 193, 1) := by decide +kernel
theorem rm_7_89 : rsM 7 89 = some (0, 56, 1) := by decide +kernel
theorem rm_7_92 : rsM 7 92 = some (0, 195, 1) := by decide +kernel
theorem rm_7_93 : rsM 7 93 = some (0, 58, 2) := by decide +kernel
theorem rm_7_96 : rsM 7 96 = some (0, 196, 2) := by decide +kernel
theorem rm_7_97 : rsM 7 97 = some (0, 60, 1) := by decide +kernel
theorem rm_7_100 : rsM 7 100 = some (0, 198, 1) := by decide +kernel
theorem rm_7_101 : rsM 7 101 = some (0, 64, 2) := by decide +kernel
theorem rm_7_104 : rsM 7 104 = some (0, 199, 2) := by decide +kernel
theorem rm_7_105 : rsM 7 105 = some (0, 72, 2) := by decide +kernel
theorem rm_7_108 : rsM 7 108 = some (0, 205, 2) := by decide +kernel
theorem rm_7_109 : rsM 7 109 = some (0, 73, 2) := by decide +kernel
theorem rm_7_112 : rsM 7 112 = some (0, 206, 2) := by decide +kernel
theorem rm_7_113 : rsM 7 113 = some (0, 74, 2) := by decide +kernel
theorem rm_7_116 : rsM 7 116 = some (0, 207, 2) := by decide +kernel
theorem rm_7_117 : rsM 7 117 = some (0, 78, 2) := by decide +kernel
theorem rm_7_120 : rsM 7 120 = some (0, 210, 2) := by decide +kernel
theorem rm_7_121 : rsM 7 121 = some (0, 79, 1) := by decide +kernel
theorem rm_7_124 : rsM 7 124 = some (0, 211, 1) := by decide +kernel
theorem rm_7_125 : rsM 7 125 = some (0, 80, 1) := by decide +kernel
theorem rm_7_128 : rsM 7 128 = some (0, 212, 1) := by decide +kernel
theorem rm_7_129 : rsM 7 129 = some (0, 82, 1) := by decide +kernel
theorem rm_7_132 : rsM 7 132 = some (0, 214, 1) := by decide +kernel
theorem rm_7_133 : rsM 7 133 = some (0, 83, 1) := by decide +kernel
theorem rm_7_136 : rsM 7 136 = some (0, 215, 1) := by decide +kernel
theorem rm_7_137 : rsM 7 137 = some (0, 85, 1) := by decide +kernel
theorem rm_7_140 : rsM 7 140 = some (0, 217, 1) := by decide +kernel
theorem rm_7_141 : rsM 7 141 = some (0, 86, 2) := by decide +kernel
theorem rm_7_144 : rsM 7 144 = some (0, 218, 2) := by decide +kernel
theorem rm_7_145 : rsM 7 145 = some (0, 88, 0) := by decide +kernel
theorem rm_7_148 : rsM 7 148 = some (0, 219, 0) := by decide +kernel
theorem rm_7_149 : rsM 7 149 = some (0, 89, 0) := by decide +kernel
theorem rm_7_152 : rsM 7 152 = some (0, 220, 0) := by decide +kernel
theorem rm_7_153 : rsM 7 153 = some (0, 113, 2) := by decide +kernel
theorem rm_7_156 : rsM 7 156 = some (0, 231, 2) := by decide +kernel
theorem rm_7_157 : rsM 7 157 = some (0, 114, 2) := by decide +kernel
theorem rm_7_160 : rsM 7 160 = some (0, 233, 2) := by decide +kernel
theorem rm_7_161 : rsM 7 161 = some (0, 116, 3) := by decide +kernel
theorem rm_7_164 : rsM 7 164 = some (0, 234, 3) := by decide +kernel
theorem rm_7_165 : rsM 7 165 = some (0, 119, 3) := by decide +kernel
theorem rm_7_168 : rsM 7 168 = some (0, 236, 3) := by decide +kernel
theorem rm_7_169 : rsM 7 169 = some (0, 122, 5) := by decide +kernel
theorem rm_7_173 : rsM 7 173 = some (0, 238, 5) := by decide +kernel
theorem rm_7_174 : rsM 7 174 = some (0, 124, 1) := by decide +kernel
theorem rm_7_177 : rsM 7 177 = some (0, 239, 1) := by decide +kernel
theorem rm_7_178 : rsM 7 178 = some (0, 125, 1) := by decide +kernel
theorem rm_7_181 : rsM 7 181 = some (0, 240, 1) := by decide +kernel
theorem rm_7_182 : rsM 7 182 = some (0, 126, 0) := by decide +kernel
theorem rm_7_185 : rsM 7 185 = some (0, 241, 0) := by decide +kernel
theorem rm_7_186 : rsM 7 186 = some (0, 128, 0) := by decide +kernel
theorem rm_7_189 : rsM 7 189 = some (0, 242, 0) := by decide +kernel
theorem rm_7_190 : rsM 7 190 = some (0, 129, 0) := by decide +kernel
theorem rm_7_193 : rsM 7 193 = some (0, 243, 0) := by decide +kernel
theorem rm_7_194 : rsM 7 194 = some (0, 130, 1) := by decide +kernel
theorem rm_7_197 : rsM 7 197 = some (0, 244, 1) := by decide +kernel
theorem rm_7_198 : rsM 7 198 = some (0, 133, 1) := by decide +kernel
theorem rm_7_201 : rsM 7 201 = some (0, 245, 1) := by decide +kernel
theorem rm_9_335 : rsM 9 335 = some (0, 98, 0) := by decide +kernel
theorem rm_9_492 : rsM 9 492 = some (0, 100, 0) := by decide +kernel
theorem rm_9_495 : rsM 9 495 = some (1, 101, 2) := by decide +kernel
theorem rm_9_1059 : rsM 9 1059 = some (1, 103, 3) := by decide +kernel
theorem rm_10_9 : rsM 10 9 = some (1, 102, 2) := by decide +kernel
theorem rc_0_80 : rsC 0 80 = some 1103515245 := by decide +kernel
theorem rc_5_316 : rsC 5 316 = some (-1000001) := by decide +kernel
theorem rc_6_69 : rsC 6 69 = some (-1000001) := by decide +kernel
theorem rc_6_90 : rsC 6 90 = some (-1000002) := by decide +kernel
theorem rc_6_136 : rsC 6 136 = some (-1000005) := by decide +kernel
theorem rc_6_152 : rsC 6 152 = some (-1000004) := by decide +kernel
theorem rc_6_277 : rsC 6 277 = some 1103515245 := by decide +kernel
theorem rc_6_358 : rsC 6 358 = some (-1000006) := by decide +kernel
theorem rc_6_359 : rsC 6 359 = some (-1000003) := by decide +kernel
theorem rc_6_363 : rsC 6 363 = some (-1000007) := by decide +kernel
theorem rc_8_265 : rsC 8 265 = some 1431655765 := by decide +kernel
theorem rc_8_266 : rsC 8 266 = some 858993459 := by decide +kernel
theorem rc_8_267 : rsC 8 267 = some 252645135 := by decide +kernel
theorem rc_4_79 : rsC 4 79 = none := by decide +kernel
theorem rk_4_79 : rsK 4 79 = some 0 := by decide +kernel
theorem rc_4_81 : rsC 4 81 = none := by decide +kernel
theorem rk_4_81 : rsK 4 81 = some 1 := by decide +kernel
theorem rc_4_83 : rsC 4 83 = none := by decide +kernel
theorem rk_4_83 : rsK 4 83 = some 2 := by decide +kernel
theorem rc_4_85 : rsC 4 85 = none := by decide +kernel
theorem rk_4_85 : rsK 4 85 = some 3 := by decide +kernel
theorem rc_4_87 : rsC 4 87 = none := by decide +kernel
theorem rk_4_87 : rsK 4 87 = some 4 := by decide +kernel
theorem rc_4_89 : rsC 4 89 = none := by decide +kernel
theorem rk_4_89 : rsK 4 89 = some 5 := by decide +kernel
theorem rc_4_91 : rsC 4 91 = none := by decide +kernel
theorem rk_4_91 : rsK 4 91 = some 6 := by decide +kernel
theorem rc_4_93 : rsC 4 93 = none := by decide +kernel
theorem rk_4_93 : rsK 4 93 = some 7 := by decide +kernel
theorem rc_4_95 : rsC 4 95 = none := by decide +kernel
theorem rk_4_95 : rsK 4 95 = some 8 := by decide +kernel
theorem rc_4_97 : rsC 4 97 = none := by decide +kernel
theorem rk_4_97 : rsK 4 97 = some 9 := by decide +kernel
theorem rc_4_99 : rsC 4 99 = none := by decide +kernel
theorem rk_4_99 : rsK 4 99 = some 10 := by decide +kernel
theorem rc_4_101 : rsC 4 101 = none := by decide +kernel
theorem rk_4_101 : rsK 4 101 = some 11 := by decide +kernel
theorem rc_6_329 : rsC 6 329 = none := by decide +kernel
theorem rk_6_329 : rsK 6 329 = some 7 := by decide +kernel
theorem rc_6_337 : rsC 6 337 = none := by decide +kernel
theorem rk_6_337 : rsK 6 337 = some 8 := by decide +kernel
theorem rc_6_339 : rsC 6 339 = none := by decide +kernel
theorem rk_6_339 : rsK 6 339 = some 9 := by decide +kernel
theorem rc_6_345 : rsC 6 345 = none := by decide +kernel
theorem rk_6_345 : rsK 6 345 = some 10 := by decide +kernel
theorem rc_6_347 : rsC 6 347 = none := by decide +kernel
theorem rk_6_347 : rsK 6 347 = some 11 := by decide +kernel
theorem mq_0 : mt[0]? = some (yX5_thing, cX5_thing, 2, (some .int), 5, false, 352, 126, 350, 351, 1) := rfl
theorem mq_1 : mt[1]? = some (yX5_within, cX5_within, 3, (some .boolean), 5, true, 355, 126, 354, 0, 3) := rfl
theorem mq_2 : mt[2]? = some (yX5_finding, cX5_finding, 2, (some .int), 5, false, 359, 126, 358, 0, 1) := rfl
theorem mq_3 : mt[3]? = some (yX1_addThing, cX1_addThing, 3, (some .int), 1, false, 364, 128, 363, 1, 1) := rfl
theorem mq_4 : mt[4]? = some (yX1_putAside, cX1_putAside, 3, none, 1, false, 368, 128, 367, 2, 2) := rfl
theorem mq_5 : mt[5]? = some (yX5_of, cX5_of, 3, (some .int), 5, false, 372, 126, 370, 371, 2) := rfl
theorem mq_6 : mt[6]? = some (yX5_isThing, cX5_isThing, 2, (some .boolean), 5, false, 376, 126, 375, 3, 1) := rfl
theorem mq_7 : mt[7]? = some (yX1_told, cX1_told, 3, (some .int), 1, false, 380, 128, 379, 4, 2) := rfl
theorem mq_8 : mt[8]? = some (yX2_left, cX2_left, 3, (some .int), 2, true, 387, 132, 386, 0, 3) := rfl
theorem mq_9 : mt[9]? = some (yX5_change, cX5_change, 5, (some .int), 5, false, 394, 126, 392, 393, 3) := rfl
theorem mq_10 : mt[10]? = some (yX5_isFit, cX5_isFit, 2, (some .boolean), 5, true, 397, 126, 396, 0, 2) := rfl
theorem mq_11 : mt[11]? = some (yX1_alter, cX1_alter, 4, none, 1, false, 401, 128, 400, 5, 3) := rfl
theorem mq_12 : mt[12]? = some (yX5_rule, cX5_rule, 5, (some .int), 5, false, 405, 126, 403, 404, 2) := rfl
theorem mq_13 : mt[13]? = some (yX5_fed, cX5_fed, 2, (some .int), 5, false, 409, 126, 407, 408, 1) := rfl
theorem mq_14 : mt[14]? = some (yX1_isOut, cX1_isOut, 2, (some .boolean), 1, false, 413, 128, 412, 6, 1) := rfl
theorem mq_15 : mt[15]? = some (yX1_hasRoom, cX1_hasRoom, 2, (some .boolean), 1, false, 417, 128, 416, 7, 1) := rfl
theorem mq_16 : mt[16]? = some (yX1_bulkIn, cX1_bulkIn, 3, (some .int), 1, false, 421, 128, 420, 8, 0) := rfl
theorem mq_17 : mt[17]? = some (yX1_swallow, cX1_swallow, 2, none, 1, false, 425, 128, 424, 9, 1) := rfl
theorem mq_18 : mt[18]? = some (yX5_home, cX5_home, 2, (some .int), 5, false, 429, 126, 427, 428, 1) := rfl
theorem mq_19 : mt[19]? = some (yX0_latestWorth, cX0_latestWorth, 3, (some .int), 0, false, 433, 127, 432, 10, 1) := rfl
theorem mq_20 : mt[20]? = some (yX0_eggsKept, cX0_eggsKept, 1, (some .int), 0, false, 437, 127, 436, 11, 0) := rfl
theorem mq_21 : mt[21]? = some (yX5_crop, cX5_crop, 2, (some .int), 5, false, 444, 126, 442, 443, 1) := rfl
theorem mq_22 : mt[22]? = some (yX5_egg, cX5_egg, 3, (some .int), 5, false, 448, 126, 446, 447, 2) := rfl
theorem mq_23 : mt[23]? = some (yX5_days, cX5_days, 4, (some .int), 5, false, 453, 126, 451, 452, 1) := rfl
theorem mq_24 : mt[24]? = some (yX5_isDays, cX5_isDays, 1, (some .boolean), 5, true, 456, 126, 455, 0, 1) := rfl
theorem mq_25 : mt[25]? = some (yX5_isTooLate, cX5_isTooLate, 2, (some .boolean), 5, false, 460, 126, 459, 12, 1) := rfl
theorem mq_26 : mt[26]? = some (yX0_liveDay, cX0_liveDay, 2, (some .int), 0, false, 464, 127, 463, 13, 0) := rfl
theorem mq_27 : mt[27]? = some (yX1_passDay, cX1_passDay, 1, (some .int), 1, false, 468, 128, 467, 14, 0) := rfl
theorem mq_28 : mt[28]? = some (yX1_grow, cX1_grow, 3, none, 1, false, 472, 128, 471, 15, 0) := rfl
theorem mq_29 : mt[29]? = some (yX1_stainsAt, cX1_stainsAt, 2, (some .int), 1, false, 476, 128, 475, 16, 1) := rfl
theorem mq_30 : mt[30]? = some (yX1_layFront, cX1_layFront, 2, none, 1, false, 481, 128, 480, 17, 0) := rfl
theorem mq_31 : mt[31]? = some (yX0_keepEgg, cX0_keepEgg, 1, none, 0, false, 488, 127, 487, 18, 0) := rfl
theorem mq_32 : mt[32]? = some (yX5_now, cX5_now, 3, (some .int), 5, false, 493, 126, 491, 492, 1) := rfl
theorem mq_33 : mt[33]? = some (yX5_ahead, cX5_ahead, 4, (some .int), 5, false, 498, 126, 496, 497, 2) := rfl
theorem mq_34 : mt[34]? = some (yX1_become, cX1_become, 2, none, 1, false, 502, 128, 501, 19, 1) := rfl
theorem mq_35 : mt[35]? = some (yX1_pass, cX1_pass, 4, (some .int), 1, false, 506, 128, 505, 20, 1) := rfl
theorem mq_36 : mt[36]? = some (yX1_stainIn, cX1_stainIn, 3, (some .int), 1, false, 511, 128, 510, 21, 0) := rfl
theorem mq_37 : mt[37]? = some (yX5_when, cX5_when, 4, (some .int), 5, false, 515, 126, 513, 514, 1) := rfl
theorem mq_38 : mt[38]? = some (yX5_unlookable, cX5_unlookable, 2, (some .int), 5, false, 519, 126, 518, 22, 1) := rfl
theorem mq_39 : mt[39]? = some (yX5_daysUntilLaid, cX5_daysUntilLaid, 3, (some .int), 5, false, 523, 126, 522, 23, 1) := rfl
theorem mq_40 : mt[40]? = some (yX5_worth, cX5_worth, 3, (some .int), 5, false, 528, 126, 526, 527, 1) := rfl
theorem mq_41 : mt[41]? = some (yX5_spoils, cX5_spoils, 2, (some .int), 5, false, 532, 126, 530, 531, 0) := rfl
theorem mq_42 : mt[42]? = some (yX5_plan, cX5_plan, 3, (some .int), 5, false, 536, 126, 534, 535, 2) := rfl
theorem mq_43 : mt[43]? = some (yX5_isSet, cX5_isSet, 2, (some .boolean), 5, false, 540, 126, 539, 24, 1) := rfl
theorem mq_44 : mt[44]? = some (yX5_areOut, cX5_areOut, 3, (some .boolean), 5, false, 544, 126, 543, 25, 1) := rfl
theorem mq_45 : mt[45]? = some (yX5_fillRow, cX5_fillRow, 4, (some .int), 5, false, 548, 126, 547, 26, 1) := rfl
theorem mq_46 : mt[46]? = some (yX5_bring, cX5_bring, 5, (some .int), 5, false, 552, 126, 551, 27, 2) := rfl
theorem mq_47 : mt[47]? = some (yX5_passFeedingDay, cX5_passFeedingDay, 3, (some .int), 5, false, 556, 126, 555, 28, 2) := rfl
theorem mq_48 : mt[48]? = some (yX5_best, cX5_best, 4, (some .int), 5, false, 560, 126, 558, 559, 2) := rfl
theorem mq_49 : mt[49]? = some (yX5_unorderable, cX5_unorderable, 3, (some .int), 5, false, 564, 126, 563, 29, 2) := rfl
theorem mq_50 : mt[50]? = some (yJ6_bitCount_0f7a4, cJ6_bitCount_0f7a4, 1, (some .int), 8, true, 567, 135, 566, 0, 1) := rfl
theorem mq_51 : mt[51]? = some (yX5_findBestRow, cX5_findBestRow, 8, (some .int), 5, false, 574, 126, 573, 30, 2) := rfl
theorem mq_52 : mt[52]? = some (yX5_turnRow, cX5_turnRow, 6, (some .boolean), 5, false, 580, 126, 579, 31, 1) := rfl
theorem mq_53 : mt[53]? = some (yX5_swapInRow, cX5_swapInRow, 4, none, 5, false, 584, 126, 583, 32, 2) := rfl
theorem mq_54 : mt[54]? = some (yX5_ith, cX5_ith, 5, (some .int), 5, false, 588, 126, 586, 587, 3) := rfl
theorem mq_55 : mt[55]? = some (yX5_next, cX5_next, 6, (some .int), 5, false, 592, 126, 590, 591, 1) := rfl
theorem mq_56 : mt[56]? = some (yX5_foes, cX5_foes, 3, (some .int), 5, false, 596, 126, 594, 595, 1) := rfl
theorem mq_57 : mt[57]? = some (yX5_worstPair, cX5_worstPair, 8, (some .int), 5, false, 600, 126, 599, 33, 1) := rfl
theorem mq_58 : mt[58]? = some (yX5_kindFor, cX5_kindFor, 7, (some .int), 5, false, 604, 126, 602, 603, 2) := rfl
theorem mq_59 : mt[59]? = some (yX5_worthAs, cX5_worthAs, 5, (some .int), 5, false, 608, 126, 607, 34, 3) := rfl
theorem mq_60 : mt[60]? = some (yX5_rid, cX5_rid, 7, (some .int), 5, false, 612, 126, 610, 611, 1) := rfl
theorem mq_61 : mt[61]? = some (yX1_setInside, cX1_setInside, 3, (some .int), 1, false, 616, 128, 615, 35, 0) := rfl
theorem mq_62 : mt[62]? = some (yX5_bringWithout, cX5_bringWithout, 3, (some .int), 5, false, 620, 126, 619, 36, 2) := rfl
theorem mq_63 : mt[63]? = some (yX1_takeOut, cX1_takeOut, 5, none, 1, false, 624, 128, 623, 37, 1) := rfl
theorem mq_64 : mt[64]? = some (yX5_turns, cX5_turns, 4, (some .int), 5, false, 628, 126, 626, 627, 2) := rfl
theorem mq_65 : mt[65]? = some (yX5_unplayable, cX5_unplayable, 3, (some .int), 5, false, 632, 126, 631, 38, 2) := rfl
theorem mq_66 : mt[66]? = some (yX5_playAll, cX5_playAll, 3, (some .int), 5, false, 636, 126, 635, 39, 2) := rfl
theorem mq_67 : mt[67]? = some (yX5_play, cX5_play, 10, (some .int), 5, false, 640, 126, 639, 40, 3) := rfl
theorem mq_68 : mt[68]? = some (yX5_restOf, cX5_restOf, 4, (some .int), 5, true, 643, 126, 642, 0, 2) := rfl
theorem mq_69 : mt[69]? = some (yX1_laidLead, cX1_laidLead, 1, (some .int), 1, false, 647, 128, 646, 41, 0) := rfl
theorem mq_70 : mt[70]? = some (yX1_isLaidOf, cX1_isLaidOf, 2, (some .boolean), 1, false, 651, 128, 650, 42, 1) := rfl
theorem mq_71 : mt[71]? = some (yX5_move, cX5_move, 7, (some .int), 5, false, 655, 126, 654, 43, 4) := rfl
theorem mq_72 : mt[72]? = some (yX5_first, cX5_first, 4, (some .int), 5, false, 659, 126, 657, 658, 2) := rfl
theorem mq_73 : mt[73]? = some (yX5_share, cX5_share, 6, (some .int), 5, false, 663, 126, 661, 662, 2) := rfl
theorem mq_74 : mt[74]? = some (yX5_fits, cX5_fits, 6, (some .int), 5, false, 668, 126, 666, 667, 2) := rfl
theorem mq_75 : mt[75]? = some (yX5_unfit, cX5_unfit, 3, (some .int), 5, false, 672, 126, 671, 44, 2) := rfl
theorem mq_76 : mt[76]? = some (yX5_rowsFrom, cX5_rowsFrom, 7, (some .int), 5, false, 676, 126, 675, 45, 3) := rfl
theorem mq_77 : mt[77]? = some (yX5_firstWorth, cX5_firstWorth, 6, (some .int), 5, false, 680, 126, 679, 46, 3) := rfl
theorem mq_78 : mt[78]? = some (yX5_may, cX5_may, 6, (some .int), 5, false, 684, 126, 682, 683, 2) := rfl
theorem mq_79 : mt[79]? = some (yX5_laid, cX5_laid, 4, (some .int), 5, false, 688, 126, 686, 687, 1) := rfl
theorem mq_80 : mt[80]? = some (yX5_room, cX5_room, 4, (some .int), 5, false, 692, 126, 690, 691, 1) := rfl
theorem mq_81 : mt[81]? = some (yX5_areAllFed, cX5_areAllFed, 4, (some .boolean), 5, false, 696, 126, 695, 47, 2) := rfl
theorem mq_82 : mt[82]? = some (yX5_starves, cX5_starves, 5, (some .int), 5, false, 700, 126, 698, 699, 1) := rfl
theorem mq_83 : mt[83]? = some (yX5_lent, cX5_lent, 6, (some .int), 5, false, 704, 126, 702, 703, 1) := rfl
theorem mq_84 : mt[84]? = some (yX0_draw, cX0_draw, 1, (some .int), 0, false, 708, 127, 707, 48, 0) := rfl
theorem mq_85 : mt[85]? = some (yX5_seed, cX5_seed, 3, (some .int), 5, false, 713, 126, 711, 712, 1) := rfl
theorem mq_86 : mt[86]? = some (yX5_feed, cX5_feed, 4, (some .int), 5, false, 717, 126, 715, 716, 2) := rfl
theorem mq_87 : mt[87]? = some (yX4_append, cX4_append, 2, none, 4, false, 721, 129, 720, 49, 1) := rfl
theorem mq_88 : mt[88]? = some (yX5_wipe, cX5_wipe, 2, (some .int), 5, false, 725, 126, 723, 724, 0) := rfl
theorem mq_89 : mt[89]? = some (yX5_text, cX5_text, 2, (some .int), 5, false, 729, 126, 727, 728, 0) := rfl
theorem mq_90 : mt[90]? = some (yX4_tellTo, cX4_tellTo, 3, (some .int), 4, false, 733, 129, 732, 50, 1) := rfl
theorem mq_91 : mt[91]? = some (yX4_readTokens, cX4_readTokens, 3, none, 4, false, 737, 129, 736, 51, 0) := rfl
theorem mq_92 : mt[92]? = some (yX4_readToken, cX4_readToken, 3, (some .int), 4, false, 741, 129, 740, 52, 1) := rfl
theorem mq_93 : mt[93]? = some (yX4_isLetter, cX4_isLetter, 1, (some .boolean), 4, true, 744, 129, 743, 0, 1) := rfl
theorem mq_94 : mt[94]? = some (yX4_wordBetween, cX4_wordBetween, 4, (some .int), 4, false, 748, 129, 747, 53, 2) := rfl
theorem mq_95 : mt[95]? = some (yX4_wordOf, cX4_wordOf, 1, (some (.object "java/lang/String")), 4, true, 751, 129, 750, 0, 1) := rfl
theorem mq_96 : mt[96]? = some (yX4_isWord, cX4_isWord, 5, (some .boolean), 4, false, 767, 129, 766, 54, 3) := rfl
theorem mq_97 : mt[97]? = some (yJ0_length_8abf5, cJ0_length_8abf5, 1, (some .int), 9, false, 771, 136, 769, 770, 0) := rfl
theorem mq_98 : mt[98]? = some (yJ0_coder_7d493, cJ0_coder_7d493, 1, (some .byte), 9, false, 775, 136, 773, 774, 0) := rfl
theorem mq_99 : mt[99]? = some (yJ0_charAt_5068e, cJ0_charAt_5068e, 2, (some .char), 9, false, 781, 136, 779, 780, 1) := rfl
theorem mq_100 : mt[100]? = some (yJ0_isLatin1_aae02, cJ0_isLatin1_aae02, 1, (some .boolean), 9, false, 785, 136, 783, 784, 0) := rfl
theorem mq_101 : mt[101]? = some (yJ1_charAt_3b067, cJ1_charAt_3b067, 2, (some .char), 10, true, 788, 137, 787, 0, 2) := rfl
theorem mq_102 : mt[102]? = some (yJ0_checkIndex_df160, cJ0_checkIndex_df160, 2, none, 9, true, 791, 136, 790, 0, 2) := rfl
theorem mq_103 : mt[103]? = some (yJ3_checkIndex_8e157, cJ3_checkIndex_8e157, 3, (some .int), 11, true, 796, 138, 795, 0, 3) := rfl
theorem mq_104 : mt[104]? = some (yX4_addToken, cX4_addToken, 4, none, 4, false, 819, 129, 818, 55, 3) := rfl
theorem mq_105 : mt[105]? = some (yX4_isDigit, cX4_isDigit, 1, (some .boolean), 4, true, 822, 129, 821, 0, 1) := rfl
theorem mq_106 : mt[106]? = some (yX4_numberBetween, cX4_numberBetween, 5, (some .int), 4, false, 826, 129, 825, 56, 2) := rfl
theorem mq_107 : mt[107]? = some (yX4_tellItem, cX4_tellItem, 3, (some .boolean), 4, false, 831, 129, 830, 57, 1) := rfl
theorem mq_108 : mt[108]? = some (yX4_tellThing, cX4_tellThing, 3, (some .boolean), 4, false, 836, 129, 835, 58, 2) := rfl
theorem mq_109 : mt[109]? = some (yX4_step, cX4_step, 1, none, 4, false, 840, 129, 839, 59, 0) := rfl
theorem mq_110 : mt[110]? = some (yX4_tellPart, cX4_tellPart, 6, (some .boolean), 4, false, 844, 129, 843, 60, 5) := rfl
theorem mq_111 : mt[111]? = some (yX4_isNumber, cX4_isNumber, 3, (some .boolean), 4, false, 848, 129, 847, 61, 2) := rfl
theorem mq_112 : mt[112]? = some (yX4_tellRule, cX4_tellRule, 3, (some .boolean), 4, false, 854, 129, 853, 62, 2) := rfl
theorem mq_113 : mt[113]? = some (yX5_hold, cX5_hold, 3, (some .int), 5, false, 859, 126, 857, 858, 2) := rfl
theorem mq_114 : mt[114]? = some (yX5_as, cX5_as, 4, (some .int), 5, false, 863, 126, 861, 862, 2) := rfl
theorem mq_115 : mt[115]? = some (yX2_isUnder, cX2_isUnder, 4, (some .boolean), 2, true, 866, 132, 865, 0, 2) := rfl
theorem mq_116 : mt[116]? = some (yX5_sheet, cX5_sheet, 4, (some .int), 5, false, 872, 126, 870, 871, 3) := rfl
theorem mq_117 : mt[117]? = some (yX5_isSheet, cX5_isSheet, 1, (some .boolean), 5, true, 875, 126, 874, 0, 1) := rfl
theorem mq_118 : mt[118]? = some (yX3_begin, cX3_begin, 4, none, 3, false, 879, 130, 878, 63, 2) := rfl
theorem mq_119 : mt[119]? = some (yX5_write, cX5_write, 4, (some .int), 5, false, 883, 126, 881, 882, 3) := rfl
theorem mq_120 : mt[120]? = some (yX3_isMissing, cX3_isMissing, 1, (some .boolean), 3, false, 887, 130, 886, 64, 0) := rfl
theorem mq_121 : mt[121]? = some (yX3_put, cX3_put, 3, none, 3, false, 891, 130, 890, 65, 2) := rfl
theorem mq_122 : mt[122]? = some (yX5_copy, cX5_copy, 8, (some .int), 5, false, 895, 126, 893, 894, 5) := rfl
theorem mq_123 : mt[123]? = some (yX3_hasPart, cX3_hasPart, 3, (some .boolean), 3, false, 899, 130, 898, 66, 2) := rfl
theorem mq_124 : mt[124]? = some (yX5_load, cX5_load, 4, (some .int), 5, false, 903, 126, 901, 902, 1) := rfl
theorem mq_125 : mt[125]? = some (yX5_judge, cX5_judge, 5, (some .int), 5, false, 907, 126, 905, 906, 1) := rfl
theorem mq_126 : mt[126]? = some (yX5_image, cX5_image, 1, (some .int), 5, false, 911, 126, 909, 910, 0) := rfl
theorem mq_127 : mt[127]? = some (yX0_become, cX0_become, 2, none, 0, false, 915, 127, 914, 67, 1) := rfl
theorem mq_128 : mt[128]? = some (yX5_undo, cX5_undo, 1, (some .int), 5, false, 920, 126, 918, 919, 0) := rfl
theorem mq_129 : mt[129]? = some (yX5_tear, cX5_tear, 2, (some .int), 5, false, 924, 126, 922, 923, 0) := rfl
theorem mq_130 : mt[130]? = some (yX5_count, cX5_count, 2, (some .int), 5, false, 928, 126, 926, 927, 1) := rfl
theorem mq_131 : mt[131]? = some (yX1_worthOfAll, cX1_worthOfAll, 3, (some .int), 1, false, 932, 128, 931, 68, 0) := rfl
theorem mq_132 : mt[132]? = some (yX0_spotsHolding, cX0_spotsHolding, 3, (some .int), 0, false, 936, 127, 935, 69, 0) := rfl
theorem mq_133 : mt[133]? = some (yX5_status, cX5_status, 4, (some .int), 5, false, 940, 126, 938, 939, 1) := rfl
theorem mq_134 : mt[134]? = some (yX6_thing, cX6_thing, 2, (some .int), 6, false, 1053, 131, 1051, 1052, 1) := rfl
theorem mq_135 : mt[135]? = some (yX6_isKind, cX6_isKind, 1, (some .boolean), 6, true, 1056, 131, 1055, 0, 1) := rfl
theorem mq_136 : mt[136]? = some (yX6_within, cX6_within, 3, (some .boolean), 6, true, 1059, 131, 1058, 0, 3) := rfl
theorem mq_137 : mt[137]? = some (yX6_finding, cX6_finding, 2, (some .int), 6, false, 1064, 131, 1063, 70, 1) := rfl
theorem mq_138 : mt[138]? = some (yX6_comes, cX6_comes, 6, (some .int), 6, false, 1069, 131, 1068, 71, 4) := rfl
theorem mq_139 : mt[139]? = some (yX6_at, cX6_at, 2, (some .int), 6, true, 1072, 131, 1071, 0, 2) := rfl
theorem mq_140 : mt[140]? = some (yX6_of, cX6_of, 3, (some .int), 6, false, 1076, 131, 1074, 1075, 2) := rfl
theorem mq_141 : mt[141]? = some (yX6_isThing, cX6_isThing, 2, (some .boolean), 6, false, 1080, 131, 1079, 72, 1) := rfl
theorem mq_142 : mt[142]? = some (yX6_thingIs, cX6_thingIs, 3, (some .int), 6, false, 1084, 131, 1083, 73, 2) := rfl
theorem mq_143 : mt[143]? = some (yX6_takes, cX6_takes, 3, (some .int), 6, false, 1088, 131, 1087, 74, 1) := rfl
theorem mq_144 : mt[144]? = some (yX6_isUnder, cX6_isUnder, 3, (some .boolean), 6, true, 1091, 131, 1090, 0, 2) := rfl
theorem mq_145 : mt[145]? = some (yX6_above, cX6_above, 1, (some .int), 6, true, 1094, 131, 1093, 0, 1) := rfl
theorem mq_146 : mt[146]? = some (yX6_stains, cX6_stains, 2, (some .int), 6, false, 1098, 131, 1097, 75, 1) := rfl
theorem mq_147 : mt[147]? = some (yX6_left, cX6_left, 5, (some .int), 6, false, 1102, 131, 1101, 76, 1) := rfl
theorem mq_148 : mt[148]? = some (yX6_change, cX6_change, 5, (some .int), 6, false, 1107, 131, 1105, 1106, 3) := rfl
theorem mq_149 : mt[149]? = some (yX6_become, cX6_become, 4, (some .int), 6, false, 1111, 131, 1110, 77, 2) := rfl
theorem mq_150 : mt[150]? = some (yX6_rule, cX6_rule, 4, (some .int), 6, false, 1115, 131, 1113, 1114, 2) := rfl
theorem mq_151 : mt[151]? = some (yX6_fed, cX6_fed, 2, (some .int), 6, false, 1119, 131, 1117, 1118, 1) := rfl
theorem mq_152 : mt[152]? = some (yX6_isHow, cX6_isHow, 3, (some .boolean), 6, false, 1123, 131, 1122, 78, 2) := rfl
theorem mq_153 : mt[153]? = some (yX6_hasRoom, cX6_hasRoom, 2, (some .boolean), 6, false, 1128, 131, 1127, 79, 1) := rfl
theorem mq_154 : mt[154]? = some (yX6_bulkIn, cX6_bulkIn, 3, (some .int), 6, false, 1132, 131, 1131, 80, 0) := rfl
theorem mq_155 : mt[155]? = some (yX6_feeds, cX6_feeds, 2, (some .int), 6, false, 1136, 131, 1135, 81, 1) := rfl
theorem mq_156 : mt[156]? = some (yX6_becomesHow, cX6_becomesHow, 3, none, 6, false, 1140, 131, 1139, 82, 2) := rfl
theorem mq_157 : mt[157]? = some (yX6_home, cX6_home, 4, (some .int), 6, false, 1144, 131, 1142, 1143, 1) := rfl
theorem mq_158 : mt[158]? = some (yX6_eggsKept, cX6_eggsKept, 1, (some .int), 6, false, 1148, 131, 1147, 83, 0) := rfl
theorem mq_159 : mt[159]? = some (yX6_eggAt, cX6_eggAt, 3, (some .int), 6, false, 1153, 131, 1152, 84, 2) := rfl
theorem mq_160 : mt[160]? = some (yX6_crop, cX6_crop, 2, (some .int), 6, false, 1157, 131, 1155, 1156, 1) := rfl
theorem mq_161 : mt[161]? = some (yX6_egg, cX6_egg, 3, (some .int), 6, false, 1162, 131, 1160, 1161, 2) := rfl
theorem mq_162 : mt[162]? = some (yX6_days, cX6_days, 2, (some .int), 6, false, 1166, 131, 1164, 1165, 1) := rfl
theorem mq_163 : mt[163]? = some (yX6_isTooLate, cX6_isTooLate, 2, (some .boolean), 6, false, 1170, 131, 1169, 85, 1) := rfl
theorem mq_164 : mt[164]? = some (yX6_daysGo, cX6_daysGo, 4, (some .int), 6, false, 1174, 131, 1173, 86, 1) := rfl
theorem mq_165 : mt[165]? = some (yX6_day, cX6_day, 3, (some .int), 6, false, 1178, 131, 1177, 87, 0) := rfl
theorem mq_166 : mt[166]? = some (yX6_stainsAt, cX6_stainsAt, 2, (some .int), 6, false, 1182, 131, 1181, 88, 1) := rfl
theorem mq_167 : mt[167]? = some (yX6_lays, cX6_lays, 3, none, 6, false, 1186, 131, 1185, 89, 0) := rfl
theorem mq_168 : mt[168]? = some (yX6_leaves, cX6_leaves, 4, none, 6, false, 1190, 131, 1189, 90, 2) := rfl
theorem mq_169 : mt[169]? = some (yX6_now, cX6_now, 2, (some .int), 6, false, 1194, 131, 1192, 1193, 1) := rfl
theorem mq_170 : mt[170]? = some (yX6_ahead, cX6_ahead, 5, (some .int), 6, false, 1198, 131, 1196, 1197, 2) := rfl
theorem mq_171 : mt[171]? = some (yX6_copyRow, cX6_copyRow, 3, none, 6, true, 1201, 131, 1200, 0, 2) := rfl
theorem mq_172 : mt[172]? = some (yX6_putBack, cX6_putBack, 2, (some .int), 6, false, 1205, 131, 1204, 91, 1) := rfl
theorem mq_173 : mt[173]? = some (yX6_stainIn, cX6_stainIn, 3, (some .int), 6, false, 1209, 131, 1208, 92, 0) := rfl
theorem mq_174 : mt[174]? = some (yX6_when, cX6_when, 2, (some .int), 6, false, 1213, 131, 1211, 1212, 1) := rfl
theorem mq_175 : mt[175]? = some (yX6_laidTold, cX6_laidTold, 4, (some .int), 6, false, 1217, 131, 1216, 93, 2) := rfl
theorem mq_176 : mt[176]? = some (yX6_isLate, cX6_isLate, 1, (some .boolean), 6, false, 1221, 131, 1220, 94, 0) := rfl
theorem mq_177 : mt[177]? = some (yX6_tillLaid, cX6_tillLaid, 4, (some .int), 6, false, 1225, 131, 1224, 95, 1) := rfl
theorem mq_178 : mt[178]? = some (yX6_worth, cX6_worth, 2, (some .int), 6, false, 1229, 131, 1227, 1228, 1) := rfl
theorem mq_179 : mt[179]? = some (yX6_spoils, cX6_spoils, 4, (some .int), 6, false, 1233, 131, 1231, 1232, 0) := rfl
theorem mq_180 : mt[180]? = some (yX6_plan, cX6_plan, 4, (some .int), 6, false, 1237, 131, 1235, 1236, 2) := rfl
theorem mq_181 : mt[181]? = some (yX6_isSet, cX6_isSet, 2, (some .boolean), 6, false, 1241, 131, 1240, 96, 1) := rfl
theorem mq_182 : mt[182]? = some (yX6_refuses, cX6_refuses, 4, (some .int), 6, false, 1245, 131, 1244, 97, 3) := rfl
theorem mq_183 : mt[183]? = some (yX6_thingsThat, cX6_thingsThat, 4, (some .int), 6, false, 1249, 131, 1248, 98, 1) := rfl
theorem mq_184 : mt[184]? = some (yX6_mealOf, cX6_mealOf, 3, none, 6, false, 1253, 131, 1252, 99, 1) := rfl
theorem mq_185 : mt[185]? = some (yX6_has, cX6_has, 2, (some .boolean), 6, true, 1256, 131, 1255, 0, 2) := rfl
theorem mq_186 : mt[186]? = some (yX6_brings, cX6_brings, 4, (some .int), 6, false, 1260, 131, 1259, 100, 1) := rfl
theorem mq_187 : mt[187]? = some (yX6_best, cX6_best, 4, (some .int), 6, false, 1264, 131, 1262, 1263, 2) := rfl
theorem mq_188 : mt[188]? = some (yX6_isFew, cX6_isFew, 2, (some .boolean), 6, false, 1268, 131, 1267, 101, 1) := rfl
theorem mq_189 : mt[189]? = some (yX6_bits, cX6_bits, 3, (some .int), 6, true, 1271, 131, 1270, 0, 1) := rfl
theorem mq_190 : mt[190]? = some (yX6_findBest, cX6_findBest, 3, none, 6, false, 1275, 131, 1274, 102, 2) := rfl
theorem mq_191 : mt[191]? = some (yX6_orders, cX6_orders, 5, none, 6, false, 1279, 131, 1278, 103, 2) := rfl
theorem mq_192 : mt[192]? = some (yX6_ith, cX6_ith, 5, (some .int), 6, false, 1283, 131, 1281, 1282, 3) := rfl
theorem mq_193 : mt[193]? = some (yX6_next, cX6_next, 7, (some .int), 6, false, 1287, 131, 1285, 1286, 1) := rfl
theorem mq_194 : mt[194]? = some (yX6_bringsOf, cX6_bringsOf, 4, (some .int), 6, false, 1291, 131, 1290, 104, 3) := rfl
theorem mq_195 : mt[195]? = some (yX6_foes, cX6_foes, 8, (some .int), 6, false, 1295, 131, 1293, 1294, 1) := rfl
theorem mq_196 : mt[196]? = some (yX6_kindFor, cX6_kindFor, 8, (some .int), 6, false, 1299, 131, 1297, 1298, 2) := rfl
theorem mq_197 : mt[197]? = some (yX6_ownEgg, cX6_ownEgg, 7, (some .int), 6, false, 1303, 131, 1302, 105, 2) := rfl
theorem mq_198 : mt[198]? = some (yX6_rid, cX6_rid, 8, (some .int), 6, false, 1307, 131, 1305, 1306, 1) := rfl
theorem mq_199 : mt[199]? = some (yX6_turns, cX6_turns, 4, (some .int), 6, false, 1311, 131, 1309, 1310, 2) := rfl
theorem mq_200 : mt[200]? = some (yX6_refusesTurns, cX6_refusesTurns, 3, (some .int), 6, false, 1315, 131, 1314, 106, 2) := rfl
theorem mq_201 : mt[201]? = some (yX6_turnsFrom, cX6_turnsFrom, 12, (some .int), 6, false, 1319, 131, 1318, 107, 3) := rfl
theorem mq_202 : mt[202]? = some (yX6_save, cX6_save, 3, none, 6, false, 1323, 131, 1322, 108, 1) := rfl
theorem mq_203 : mt[203]? = some (yX6_sharesGo, cX6_sharesGo, 5, (some .int), 6, false, 1327, 131, 1326, 109, 1) := rfl
theorem mq_204 : mt[204]? = some (yX6_restore, cX6_restore, 3, none, 6, false, 1331, 131, 1330, 110, 1) := rfl
theorem mq_205 : mt[205]? = some (yX6_first, cX6_first, 4, (some .int), 6, false, 1335, 131, 1333, 1334, 2) := rfl
theorem mq_206 : mt[206]? = some (yX6_share, cX6_share, 6, (some .int), 6, false, 1339, 131, 1337, 1338, 2) := rfl
theorem mq_207 : mt[207]? = some (yX6_fits, cX6_fits, 4, (some .int), 6, false, 1343, 131, 1341, 1342, 2) := rfl
theorem mq_208 : mt[208]? = some (yX6_findRows, cX6_findRows, 6, (some .int), 6, false, 1347, 131, 1346, 111, 2) := rfl
theorem mq_209 : mt[209]? = some (yX6_firstEgg, cX6_firstEgg, 8, (some .int), 6, false, 1351, 131, 1350, 112, 3) := rfl
theorem mq_210 : mt[210]? = some (yX6_may, cX6_may, 4, (some .int), 6, false, 1355, 131, 1353, 1354, 2) := rfl
theorem mq_211 : mt[211]? = some (yX6_laid, cX6_laid, 4, (some .int), 6, false, 1359, 131, 1357, 1358, 1) := rfl
theorem mq_212 : mt[212]? = some (yX6_room, cX6_room, 4, (some .int), 6, false, 1363, 131, 1361, 1362, 1) := rfl
theorem mq_213 : mt[213]? = some (yX6_areAllFed, cX6_areAllFed, 5, (some .boolean), 6, false, 1367, 131, 1366, 113, 0) := rfl
theorem mq_214 : mt[214]? = some (yX6_starves, cX6_starves, 7, (some .int), 6, false, 1371, 131, 1369, 1370, 1) := rfl
theorem mq_215 : mt[215]? = some (yX6_lent, cX6_lent, 5, (some .int), 6, false, 1375, 131, 1373, 1374, 1) := rfl
theorem mq_216 : mt[216]? = some (yX6_drawn, cX6_drawn, 2, (some .int), 6, false, 1379, 131, 1378, 114, 1) := rfl
theorem mq_217 : mt[217]? = some (yX6_seed, cX6_seed, 2, (some .int), 6, false, 1384, 131, 1382, 1383, 1) := rfl
theorem mq_218 : mt[218]? = some (yX6_feed, cX6_feed, 4, (some .int), 6, false, 1388, 131, 1386, 1387, 2) := rfl
theorem mq_219 : mt[219]? = some (yX6_wipe, cX6_wipe, 2, (some .int), 6, false, 1392, 131, 1390, 1391, 0) := rfl
theorem mq_220 : mt[220]? = some (yX6_text, cX6_text, 3, (some .int), 6, false, 1396, 131, 1394, 1395, 0) := rfl
theorem mq_221 : mt[221]? = some (yX6_next_, cX6_next_, 2, none, 6, false, 1400, 131, 1399, 115, 0) := rfl
theorem mq_222 : mt[222]? = some (yX6_byteAt, cX6_byteAt, 2, (some .int), 6, false, 1404, 131, 1403, 116, 1) := rfl
theorem mq_223 : mt[223]? = some (yX6_readItem, cX6_readItem, 4, none, 6, false, 1408, 131, 1407, 117, 0) := rfl
theorem mq_224 : mt[224]? = some (yX6_kindTold, cX6_kindTold, 3, (some .int), 6, false, 1412, 131, 1411, 118, 0) := rfl
theorem mq_225 : mt[225]? = some (yX6_isWord, cX6_isWord, 4, (some .boolean), 6, false, 1416, 131, 1415, 119, 1) := rfl
theorem mq_226 : mt[226]? = some (yX6_must, cX6_must, 2, none, 6, false, 1422, 131, 1421, 120, 1) := rfl
theorem mq_227 : mt[227]? = some (yX6_isNext, cX6_isNext, 3, (some .boolean), 6, false, 1427, 131, 1426, 121, 1) := rfl
theorem mq_228 : mt[228]? = some (yX6_number, cX6_number, 4, (some .int), 6, false, 1431, 131, 1430, 122, 2) := rfl
theorem mq_229 : mt[229]? = some (yX6_item, cX6_item, 6, none, 6, false, 1437, 131, 1436, 123, 4) := rfl
theorem mq_230 : mt[230]? = some (yX6_isSo, cX6_isSo, 3, (some .int), 6, false, 1443, 131, 1442, 124, 1) := rfl
theorem mq_231 : mt[231]? = some (yX6_hold, cX6_hold, 3, (some .int), 6, false, 1447, 131, 1445, 1446, 2) := rfl
theorem mq_232 : mt[232]? = some (yX6_isSpot, cX6_isSpot, 1, (some .boolean), 6, true, 1450, 131, 1449, 0, 1) := rfl
theorem mq_233 : mt[233]? = some (yX6_as, cX6_as, 4, (some .int), 6, false, 1454, 131, 1452, 1453, 2) := rfl
theorem mq_234 : mt[234]? = some (yX6_sheet, cX6_sheet, 5, (some .int), 6, false, 1460, 131, 1458, 1459, 3) := rfl
theorem mq_235 : mt[235]? = some (yX6_isSheet, cX6_isSheet, 1, (some .boolean), 6, true, 1463, 131, 1462, 0, 1) := rfl
theorem mq_236 : mt[236]? = some (yX6_write, cX6_write, 4, (some .int), 6, false, 1468, 131, 1466, 1467, 3) := rfl
theorem mq_237 : mt[237]? = some (yX6_cutTo, cX6_cutTo, 2, (some .int), 6, true, 1471, 131, 1470, 0, 2) := rfl
theorem mq_238 : mt[238]? = some (yX6_copy, cX6_copy, 7, (some .int), 6, false, 1475, 131, 1473, 1474, 5) := rfl
theorem mq_239 : mt[239]? = some (yX6_load, cX6_load, 3, (some .int), 6, false, 1479, 131, 1477, 1478, 1) := rfl
theorem mq_240 : mt[240]? = some (yX6_judge, cX6_judge, 5, (some .int), 6, false, 1483, 131, 1481, 1482, 1) := rfl
theorem mq_241 : mt[241]? = some (yX6_image, cX6_image, 1, (some .int), 6, false, 1487, 131, 1485, 1486, 0) := rfl
theorem mq_242 : mt[242]? = some (yX6_undo, cX6_undo, 1, (some .int), 6, false, 1491, 131, 1489, 1490, 0) := rfl
theorem mq_243 : mt[243]? = some (yX6_tear, cX6_tear, 2, (some .int), 6, false, 1495, 131, 1493, 1494, 0) := rfl
theorem mq_244 : mt[244]? = some (yX6_count, cX6_count, 4, (some .int), 6, false, 1499, 131, 1497, 1498, 1) := rfl
theorem mq_245 : mt[245]? = some (yX6_status, cX6_status, 2, (some .int), 6, false, 1503, 131, 1501, 1502, 1) := rfl
section EN
variable {d : Nat} {M : Mem} {h h2 h3 : Nat} {x1 x2 x3 x4 x5 x6 : Int32}
theorem nX5_thing : call (d + 1) 0 [.ref h, .int x1] M = lim (call d) none 5 cX5_thing (some .int) 0 [some (.ref h), some (.int x1)] [] M := call_ent mq_0 (Nat.le_of_ble_eq_true rfl) rfl
theorem nX5_within : call (d + 1) 1 [.int x1, .int x2, .int x3] M = lim (call d) none 5 cX5_within (some .boolean) 0 [some (.int x1), some (.int x2), some (.int x3)] [] M := call_ent mq_1 (Nat.le_of_ble_eq_true rfl) rfl
theorem nX5_finding : call (d + 1) 2 [.ref h, .int x1] M = lim (call d) none 5 cX5_finding (some .int) 0 [some (.ref h), some (.int x1)] [] M := call_ent mq_2 (Nat.le_of_ble_eq_true rfl) rfl
theorem nX1_addThing : call (d + 1) 3 [.ref h, .int x1] M = lim (call d) none 1 cX1_addThing (some .int) 0 [some (.ref h), some (.int x1), none] [] M := call_ent mq_3 (Nat.le_of_ble_eq_true rfl) rfl
theorem nX1_putAside : call (d + 1) 4 [.ref h, .int x1, .int x2] M = lim (call d) none 1 cX1_putAside none 0 [some (.ref h), some (.int x1), some (.int x2)] [] M := call_ent mq_4 (Nat.le_of_ble_eq_true rfl) rfl
theorem nX5_of : call (d + 1) 5 [.ref h, .int x1, .int x2] M = lim (call d) none 5 cX5_of (some .int) 0 [some (.ref h), some (.int x1), some (.int x2)] [] M := call_ent mq_5 (Nat.le_of_ble_eq_true rfl) rfl
theorem nX5_isThing : call (d + 1) 6 [.ref h, .int x1] M = lim (call d) none 5 cX5_isThing (some .boolean) 0 [some (.ref h), some (.int x1)] [] M := call_ent mq_6 (Nat.le_of_ble_eq_true rfl) rfl
theorem nX1_told : call (d + 1) 7 [.ref h, .int x1, .int x2] M = lim (call d) none 1 cX1_told (some .int) 0 [some (.ref h), some (.int x1), some (.int x2)] [] M := call_ent mq_7 (Nat.le_of_ble_eq_true rfl) rfl
theorem nX2_left : call (d + 1) 8 [.int x1, .int x2, .int x3] M = lim (call d) none 2 cX2_left (some .int) 0 [some (.int x1), some (.int x2), some (.int x3)] [] M := call_ent mq_8 (Nat.le_of_ble_eq_true rfl) rfl
theorem nX5_change : call (d + 1) 9 [.ref h, .int x1, .int x2, .int x3] M = lim (call d) none 5 cX5_change (some .int) 0 [some (.ref h), some (.int x1), some (.int x2), some (.int x3), none] [] M := call_ent mq_9 (Nat.le_of_ble_eq_true rfl) rfl
theorem nX5_isFit : call (d + 1) 10 [.int x1, .int x2] M = lim (call d) none 5 cX5_isFit (some .boolean) 0 [some (.int x1), some (.int x2)] [] M := call_ent mq_10 (Nat.le_of_ble_eq_true rfl) rfl
theorem nX1_alter : call (d + 1) 11 [.ref h, .int x1, .int x2, .int x3] M = lim (call d) none 1 cX1_alter none 0 [some (.ref h), some (.int x1), some (.int x2), some (.int x3)] [] M := call_ent mq_11 (Nat.le_of_ble_eq_true rfl) rfl
theorem nX5_rule : call (d + 1) 12 [.ref h, .int x1, .int x2] M = lim (call d) none 5 cX5_rule (some .int) 0 [some (.ref h), some (.int x1), some (.int x2), none, none] [] M := call_ent mq_12 (Nat.le_of_ble_eq_true rfl) rfl
theorem nX5_fed : call (d + 1) 13 [.ref h, .int x1] M = lim (call d) none 5 cX5_fed (some .int) 0 [some (.ref h), some (.int x1)] [] M := call_ent mq_13 (Nat.le_of_ble_eq_true rfl) rfl
theorem nX1_isOut : call (d + 1) 14 [.ref h, .int x1] M = lim (call d) none 1 cX1_isOut (some .boolean) 0 [some (.ref h), some (.int x1)] [] M := call_ent mq_14 (Nat.le_of_ble_eq_true rfl) rfl
theorem nX1_hasRoom : call (d + 1) 15 [.ref h, .int x1] M = lim (call d) none 1 cX1_hasRoom (some .boolean) 0 [some (.ref h), some (.int x1)] [] M := call_ent mq_15 (Nat.le_of_ble_eq_true rfl) rfl
theorem nX1_bulkIn : call (d + 1) 16 [.ref h] M = lim (call d) none 1 cX1_bulkIn (some .int) 0 [some (.ref h), none, none] [] M := call_ent mq_16 (Nat.le_of_ble_eq_true rfl) rfl
theorem nX1_swallow : call (d + 1) 17 [.ref h, .int x1] M = lim (call d) none 1 cX1_swallow none 0 [some (.ref h), some (.int x1)] [] M := call_ent mq_17 (Nat.le_of_ble_eq_true rfl) rfl
theorem nX5_home : call (d + 1) 18 [.ref h, .int x1] M = lim (call d) none 5 cX5_home (some .int) 0 [some (.ref h), some (.int x1)] [] M := call_ent mq_18 (Nat.le_of_ble_eq_true rfl) rfl
theorem nX0_latestWorth : call (d + 1) 19 [.ref h, .int x1] M = lim (call d) none 0 cX0_latestWorth (some .int) 0 [some (.ref h), some (.int x1), none] [] M := call_ent mq_19 (Nat.le_of_ble_eq_true rfl) rfl
theorem nX0_eggsKept : call (d + 1) 20 [.ref h] M = lim (call d) none 0 cX0_eggsKept (some .int) 0 [some (.ref h)] [] M := call_ent mq_20 (Nat.le_of_ble_eq_true rfl) rfl
theorem nX5_crop : call (d + 1) 21 [.ref h, .int x1] M = lim (call d) none 5 cX5_crop (some .int) 0 [some (.ref h), some (.int x1)] [] M := call_ent mq_21 (Nat.le_of_ble_eq_true rfl) rfl
theorem nX5_egg : call (d + 1) 22 [.ref h, .int x1, .int x2] M = lim (call d) none 5 cX5_egg (some .int) 0 [some (.ref h), some (.int x1), some (.int x2)] [] M := call_ent mq_22 (Nat.le_of_ble_eq_true rfl) rfl
theorem nX5_days : call (d + 1) 23 [.ref h, .int x1] M = lim (call d) none 5 cX5_days (some .int) 0 [some (.ref h), some (.int x1), none, none] [] M := call_ent mq_23 (Nat.le_of_ble_eq_true rfl) rfl
theorem nX5_isDays : call (d + 1) 24 [.int x1] M = lim (call d) none 5 cX5_isDays (some .boolean) 0 [some (.int x1)] [] M := call_ent mq_24 (Nat.le_of_ble_eq_true rfl) rfl
theorem nX5_isTooLate : call (d + 1) 25 [.ref h, .int x1] M = lim (call d) none 5 cX5_isTooLate (some .boolean) 0 [some (.ref h), some (.int x1)] [] M := call_ent mq_25 (Nat.le_of_ble_eq_true rfl) rfl
theorem nX0_liveDay : call (d + 1) 26 [.ref h] M = lim (call d) none 0 cX0_liveDay (some .int) 0 [some (.ref h), none] [] M := call_ent mq_26 (Nat.le_of_ble_eq_true rfl) rfl
theorem nX1_passDay : call (d + 1) 27 [.ref h] M = lim (call d) none 1 cX1_passDay (some .int) 0 [some (.ref h)] [] M := call_ent mq_27 (Nat.le_of_ble_eq_true rfl) rfl
theorem nX1_grow : call (d + 1) 28 [.ref h] M = lim (call d) none 1 cX1_grow none 0 [some (.ref h), none, none] [] M := call_ent mq_28 (Nat.le_of_ble_eq_true rfl) rfl
theorem nX1_stainsAt : call (d + 1) 29 [.ref h, .int x1] M = lim (call d) none 1 cX1_stainsAt (some .int) 0 [some (.ref h), some (.int x1)] [] M := call_ent mq_29 (Nat.le_of_ble_eq_true rfl) rfl
theorem nX1_layFront : call (d + 1) 30 [.ref h] M = lim (call d) none 1 cX1_layFront none 0 [some (.ref h), none] [] M := call_ent mq_30 (Nat.le_of_ble_eq_true rfl) rfl
theorem nX0_keepEgg : call (d + 1) 31 [.ref h] M = lim (call d) none 0 cX0_keepEgg none 0 [some (.ref h)] [] M := call_ent mq_31 (Nat.le_of_ble_eq_true rfl) rfl
theorem nX5_now : call (d + 1) 32 [.ref h, .int x1] M = lim (call d) none 5 cX5_now (some .int) 0 [some (.ref h), some (.int x1), none] [] M := call_ent mq_32 (Nat.le_of_ble_eq_true rfl) rfl
theorem nX5_ahead : call (d + 1) 33 [.ref h, .int x1, .int x2] M = lim (call d) none 5 cX5_ahead (some .int) 0 [some (.ref h), some (.int x1), some (.int x2), none] [] M := call_ent mq_33 (Nat.le_of_ble_eq_true rfl) rfl
theorem nX1_become : call (d + 1) 34 [.ref h, .ref h2] M = lim (call d) none 1 cX1_become none 0 [some (.ref h), some (.ref h2)] [] M := call_ent mq_34 (Nat.le_of_ble_eq_true rfl) rfl
theorem nX1_pass : call (d + 1) 35 [.ref h, .int x1] M = lim (call d) none 1 cX1_pass (some .int) 0 [some (.ref h), some (.int x1), none, none] [] M := call_ent mq_35 (Nat.le_of_ble_eq_true rfl) rfl
theorem nX1_stainIn : call (d + 1) 36 [.ref h] M = lim (call d) none 1 cX1_stainIn (some .int) 0 [some (.ref h), none, none] [] M := call_ent mq_36 (Nat.le_of_ble_eq_true rfl) rfl
theorem nX5_when : call (d + 1) 37 [.ref h, .int x1] M = lim (call d) none 5 cX5_when (some .int) 0 [some (.ref h), some (.int x1), none, none] [] M := call_ent mq_37 (Nat.le_of_ble_eq_true rfl) rfl
theorem nX5_unlookable : call (d + 1) 38 [.ref h, .int x1] M = lim (call d) none 5 cX5_unlookable (some .int) 0 [some (.ref h), some (.int x1)] [] M := call_ent mq_38 (Nat.le_of_ble_eq_true rfl) rfl
theorem nX5_daysUntilLaid : call (d + 1) 39 [.ref h, .int x1] M = lim (call d) none 5 cX5_daysUntilLaid (some .int) 0 [some (.ref h), some (.int x1), none] [] M := call_ent mq_39 (Nat.le_of_ble_eq_true rfl) rfl
theorem nX5_worth : call (d + 1) 40 [.ref h, .int x1] M = lim (call d) none 5 cX5_worth (some .int) 0 [some (.ref h), some (.int x1), none] [] M := call_ent mq_40 (Nat.le_of_ble_eq_true rfl) rfl
theorem nX5_spoils : call (d + 1) 41 [.ref h] M = lim (call d) none 5 cX5_spoils (some .int) 0 [some (.ref h), none] [] M := call_ent mq_41 (Nat.le_of_ble_eq_true rfl) rfl
theorem nX5_plan : call (d + 1) 42 [.ref h, .int x1, .int x2] M = lim (call d) none 5 cX5_plan (some .int) 0 [some (.ref h), some (.int x1), some (.int x2)] [] M := call_ent mq_42 (Nat.le_of_ble_eq_true rfl) rfl
theorem nX5_isSet : call (d + 1) 43 [.ref h, .int x1] M = lim (call d) none 5 cX5_isSet (some .boolean) 0 [some (.ref h), some (.int x1)] [] M := call_ent mq_43 (Nat.le_of_ble_eq_true rfl) rfl
theorem nX5_areOut : call (d + 1) 44 [.ref h, .int x1] M = lim (call d) none 5 cX5_areOut (some .boolean) 0 [some (.ref h), some (.int x1), none] [] M := call_ent mq_44 (Nat.le_of_ble_eq_true rfl) rfl
theorem nX5_fillRow : call (d + 1) 45 [.ref h, .int x1] M = lim (call d) none 5 cX5_fillRow (some .int) 0 [some (.ref h), some (.int x1), none, none] [] M := call_ent mq_45 (Nat.le_of_ble_eq_true rfl) rfl
theorem nX5_bring : call (d + 1) 46 [.ref h, .int x1, .int x2] M = lim (call d) none 5 cX5_bring (some .int) 0 [some (.ref h), some (.int x1), some (.int x2), none, none] [] M := call_ent mq_46 (Nat.le_of_ble_eq_true rfl) rfl
theorem nX5_passFeedingDay : call (d + 1) 47 [.ref h, .int x1, .int x2] M = lim (call d) none 5 cX5_passFeedingDay (some .int) 0 [some (.ref h), some (.int x1), some (.int x2)] [] M := call_ent mq_47 (Nat.le_of_ble_eq_true rfl) rfl
theorem nX5_best : call (d + 1) 48 [.ref h, .int x1, .int x2] M = lim (call d) none 5 cX5_best (some .int) 0 [some (.ref h), some (.int x1), some (.int x2), none] [] M := call_ent mq_48 (Nat.le_of_ble_eq_true rfl) rfl
theorem nX5_unorderable : call (d + 1) 49 [.ref h, .int x1, .int x2] M = lim (call d) none 5 cX5_unorderable (some .int) 0 [some (.ref h), some (.int x1), some (.int x2)] [] M := call_ent mq_49 (Nat.le_of_ble_eq_true rfl) rfl
theorem nJ6_bitCount_0f7a4 : call (d + 1) 50 [.int x1] M = lim (call d) none 8 cJ6_bitCount_0f7a4 (some .int) 0 [some (.int x1)] [] M := call_ent mq_50 (Nat.le_of_ble_eq_true rfl) rfl
theorem nX5_findBestRow : call (d + 1) 51 [.ref h, .int x1, .int x2] M = lim (call d) none 5 cX5_findBestRow (some .int) 0 [some (.ref h), some (.int x1), some (.int x2), none, none, none, none, none] [] M := call_ent mq_51 (Nat.le_of_ble_eq_true rfl) rfl
theorem nX5_turnRow : call (d + 1) 52 [.ref h, .int x1] M = lim (call d) none 5 cX5_turnRow (some .boolean) 0 [some (.ref h), some (.int x1), none, none, none, none] [] M := call_ent mq_52 (Nat.le_of_ble_eq_true rfl) rfl
theorem nX5_swapInRow : call (d + 1) 53 [.ref h, .int x1, .int x2] M = lim (call d) none 5 cX5_swapInRow none 0 [some (.ref h), some (.int x1), some (.int x2), none] [] M := call_ent mq_53 (Nat.le_of_ble_eq_true rfl) rfl
theorem nX5_ith : call (d + 1) 54 [.ref h, .int x1, .int x2, .int x3] M = lim (call d) none 5 cX5_ith (some .int) 0 [some (.ref h), some (.int x1), some (.int x2), some (.int x3), none] [] M := call_ent mq_54 (Nat.le_of_ble_eq_true rfl) rfl
theorem nX5_next : call (d + 1) 55 [.ref h, .int x1] M = lim (call d) none 5 cX5_next (some .int) 0 [some (.ref h), some (.int x1), none, none, none, none] [] M := call_ent mq_55 (Nat.le_of_ble_eq_true rfl) rfl
theorem nX5_foes : call (d + 1) 56 [.ref h, .int x1] M = lim (call d) none 5 cX5_foes (some .int) 0 [some (.ref h), some (.int x1), none] [] M := call_ent mq_56 (Nat.le_of_ble_eq_true rfl) rfl
theorem nX5_worstPair : call (d + 1) 57 [.ref h, .int x1] M = lim (call d) none 5 cX5_worstPair (some .int) 0 [some (.ref h), some (.int x1), none, none, none, none, none, none] [] M := call_ent mq_57 (Nat.le_of_ble_eq_true rfl) rfl
theorem nX5_kindFor : call (d + 1) 58 [.ref h, .int x1, .int x2] M = lim (call d) none 5 cX5_kindFor (some .int) 0 [some (.ref h), some (.int x1), some (.int x2), none, none, none, none] [] M := call_ent mq_58 (Nat.le_of_ble_eq_true rfl) rfl
theorem nX5_worthAs : call (d + 1) 59 [.ref h, .int x1, .int x2, .int x3] M = lim (call d) none 5 cX5_worthAs (some .int) 0 [some (.ref h), some (.int x1), some (.int x2), some (.int x3), none] [] M := call_ent mq_59 (Nat.le_of_ble_eq_true rfl) rfl
theorem nX5_rid : call (d + 1) 60 [.ref h, .int x1] M = lim (call d) none 5 cX5_rid (some .int) 0 [some (.ref h), some (.int x1), none, none, none, none, none] [] M := call_ent mq_60 (Nat.le_of_ble_eq_true rfl) rfl
theorem nX1_setInside : call (d + 1) 61 [.ref h] M = lim (call d) none 1 cX1_setInside (some .int) 0 [some (.ref h), none, none] [] M := call_ent mq_61 (Nat.le_of_ble_eq_true rfl) rfl
theorem nX5_bringWithout : call (d + 1) 62 [.ref h, .int x1, .int x2] M = lim (call d) none 5 cX5_bringWithout (some .int) 0 [some (.ref h), some (.int x1), some (.int x2)] [] M := call_ent mq_62 (Nat.le_of_ble_eq_true rfl) rfl
theorem nX1_takeOut : call (d + 1) 63 [.ref h, .int x1] M = lim (call d) none 1 cX1_takeOut none 0 [some (.ref h), some (.int x1), none, none, none] [] M := call_ent mq_63 (Nat.le_of_ble_eq_true rfl) rfl
theorem nX5_turns : call (d + 1) 64 [.ref h, .int x1, .int x2] M = lim (call d) none 5 cX5_turns (some .int) 0 [some (.ref h), some (.int x1), some (.int x2), none] [] M := call_ent mq_64 (Nat.le_of_ble_eq_true rfl) rfl
theorem nX5_unplayable : call (d + 1) 65 [.ref h, .int x1, .int x2] M = lim (call d) none 5 cX5_unplayable (some .int) 0 [some (.ref h), some (.int x1), some (.int x2)] [] M := call_ent mq_65 (Nat.le_of_ble_eq_true rfl) rfl
theorem nX5_playAll : call (d + 1) 66 [.ref h, .int x1, .int x2] M = lim (call d) none 5 cX5_playAll (some .int) 0 [some (.ref h), some (.int x1), some (.int x2)] [] M := call_ent mq_66 (Nat.le_of_ble_eq_true rfl) rfl
theorem nX5_play : call (d + 1) 67 [.ref h, .int x1, .int x2, .int x3] M = lim (call d) none 5 cX5_play (some .int) 0 [some (.ref h), some (.int x1), some (.int x2), some (.int x3), none, none, none, none, none, none] [] M := call_ent mq_67 (Nat.le_of_ble_eq_true rfl) rfl
theorem nX5_restOf : call (d + 1) 68 [.ref h, .int x1] M = lim (call d) none 5 cX5_restOf (some .int) 0 [some (.ref h), some (.int x1), none, none] [] M := call_ent mq_68 (Nat.le_of_ble_eq_true rfl) rfl
theorem nX1_laidLead : call (d + 1) 69 [.ref h] M = lim (call d) none 1 cX1_laidLead (some .int) 0 [some (.ref h)] [] M := call_ent mq_69 (Nat.le_of_ble_eq_true rfl) rfl
theorem nX1_isLaidOf : call (d + 1) 70 [.ref h, .int x1] M = lim (call d) none 1 cX1_isLaidOf (some .boolean) 0 [some (.ref h), some (.int x1)] [] M := call_ent mq_70 (Nat.le_of_ble_eq_true rfl) rfl
theorem nX5_move : call (d + 1) 71 [.ref h, .int x1, .int x2, .int x3, .int x4] M = lim (call d) none 5 cX5_move (some .int) 0 [some (.ref h), some (.int x1), some (.int x2), some (.int x3), some (.int x4), none, none] [] M := call_ent mq_71 (Nat.le_of_ble_eq_true rfl) rfl
theorem nX5_first : call (d + 1) 72 [.ref h, .int x1, .int x2] M = lim (call d) none 5 cX5_first (some .int) 0 [some (.ref h), some (.int x1), some (.int x2), none] [] M := call_ent mq_72 (Nat.le_of_ble_eq_true rfl) rfl
theorem nX5_share : call (d + 1) 73 [.ref h, .int x1, .int x2] M = lim (call d) none 5 cX5_share (some .int) 0 [some (.ref h), some (.int x1), some (.int x2), none, none, none] [] M := call_ent mq_73 (Nat.le_of_ble_eq_true rfl) rfl
theorem nX5_fits : call (d + 1) 74 [.ref h, .int x1, .int x2] M = lim (call d) none 5 cX5_fits (some .int) 0 [some (.ref h), some (.int x1), some (.int x2), none, none, none] [] M := call_ent mq_74 (Nat.le_of_ble_eq_true rfl) rfl
theorem nX5_unfit : call (d + 1) 75 [.ref h, .int x1, .int x2] M = lim (call d) none 5 cX5_unfit (some .int) 0 [some (.ref h), some (.int x1), some (.int x2)] [] M := call_ent mq_75 (Nat.le_of_ble_eq_true rfl) rfl
theorem nX5_rowsFrom : call (d + 1) 76 [.ref h, .int x1, .int x2, .int x3] M = lim (call d) none 5 cX5_rowsFrom (some .int) 0 [some (.ref h), some (.int x1), some (.int x2), some (.int x3), none, none, none] [] M := call_ent mq_76 (Nat.le_of_ble_eq_true rfl) rfl
theorem nX5_firstWorth : call (d + 1) 77 [.ref h, .int x1, .int x2, .int x3] M = lim (call d) none 5 cX5_firstWorth (some .int) 0 [some (.ref h), some (.int x1), some (.int x2), some (.int x3), none, none] [] M := call_ent mq_77 (Nat.le_of_ble_eq_true rfl) rfl
theorem nX5_may : call (d + 1) 78 [.ref h, .int x1, .int x2] M = lim (call d) none 5 cX5_may (some .int) 0 [some (.ref h), some (.int x1), some (.int x2), none, none, none] [] M := call_ent mq_78 (Nat.le_of_ble_eq_true rfl) rfl
theorem nX5_laid : call (d + 1) 79 [.ref h, .int x1] M = lim (call d) none 5 cX5_laid (some .int) 0 [some (.ref h), some (.int x1), none, none] [] M := call_ent mq_79 (Nat.le_of_ble_eq_true rfl) rfl
theorem nX5_room : call (d + 1) 80 [.ref h, .int x1] M = lim (call d) none 5 cX5_room (some .int) 0 [some (.ref h), some (.int x1), none, none] [] M := call_ent mq_80 (Nat.le_of_ble_eq_true rfl) rfl
theorem nX5_areAllFed : call (d + 1) 81 [.ref h, .int x1, .int x2] M = lim (call d) none 5 cX5_areAllFed (some .boolean) 0 [some (.ref h), some (.int x1), some (.int x2), none] [] M := call_ent mq_81 (Nat.le_of_ble_eq_true rfl) rfl
theorem nX5_starves : call (d + 1) 82 [.ref h, .int x1] M = lim (call d) none 5 cX5_starves (some .int) 0 [some (.ref h), some (.int x1), none, none, none] [] M := call_ent mq_82 (Nat.le_of_ble_eq_true rfl) rfl
theorem nX5_lent : call (d + 1) 83 [.ref h, .int x1] M = lim (call d) none 5 cX5_lent (some .int) 0 [some (.ref h), some (.int x1), none, none, none, none] [] M := call_ent mq_83 (Nat.le_of_ble_eq_true rfl) rfl
theorem nX0_draw : call (d + 1) 84 [.ref h] M = lim (call d) none 0 cX0_draw (some .int) 0 [some (.ref h)] [] M := call_ent mq_84 (Nat.le_of_ble_eq_true rfl) rfl
theorem nX5_seed : call (d + 1) 85 [.ref h, .int x1] M = lim (call d) none 5 cX5_seed (some .int) 0 [some (.ref h), some (.int x1), none] [] M := call_ent mq_85 (Nat.le_of_ble_eq_true rfl) rfl
theorem nX5_feed : call (d + 1) 86 [.ref h, .int x1, .int x2] M = lim (call d) none 5 cX5_feed (some .int) 0 [some (.ref h), some (.int x1), some (.int x2), none] [] M := call_ent mq_86 (Nat.le_of_ble_eq_true rfl) rfl
theorem nX4_append : call (d + 1) 87 [.ref h, .int x1] M = lim (call d) none 4 cX4_append none 0 [some (.ref h), some (.int x1)] [] M := call_ent mq_87 (Nat.le_of_ble_eq_true rfl) rfl
theorem nX5_wipe : call (d + 1) 88 [.ref h] M = lim (call d) none 5 cX5_wipe (some .int) 0 [some (.ref h), none] [] M := call_ent mq_88 (Nat.le_of_ble_eq_true rfl) rfl
theorem nX5_text : call (d + 1) 89 [.ref h] M = lim (call d) none 5 cX5_text (some .int) 0 [some (.ref h), none] [] M := call_ent mq_89 (Nat.le_of_ble_eq_true rfl) rfl
theorem nX4_tellTo : call (d + 1) 90 [.ref h, .ref h2] M = lim (call d) none 4 cX4_tellTo (some .int) 0 [some (.ref h), some (.ref h2), none] [] M := call_ent mq_90 (Nat.le_of_ble_eq_true rfl) rfl
theorem nX4_readTokens : call (d + 1) 91 [.ref h] M = lim (call d) none 4 cX4_readTokens none 0 [some (.ref h), none, none] [] M := call_ent mq_91 (Nat.le_of_ble_eq_true rfl) rfl
theorem nX4_readToken : call (d + 1) 92 [.ref h, .int x1] M = lim (call d) none 4 cX4_readToken (some .int) 0 [some (.ref h), some (.int x1), none] [] M := call_ent mq_92 (Nat.le_of_ble_eq_true rfl) rfl
theorem nX4_isLetter : call (d + 1) 93 [.int x1] M = lim (call d) none 4 cX4_isLetter (some .boolean) 0 [some (.int x1)] [] M := call_ent mq_93 (Nat.le_of_ble_eq_true rfl) rfl
theorem nX4_wordBetween : call (d + 1) 94 [.ref h, .int x1, .int x2] M = lim (call d) none 4 cX4_wordBetween (some .int) 0 [some (.ref h), some (.int x1), some (.int x2), none] [] M := call_ent mq_94 (Nat.le_of_ble_eq_true rfl) rfl
theorem nX4_wordOf : call (d + 1) 95 [.int x1] M = lim (call d) none 4 cX4_wordOf (some (.object "java/lang/String")) 0 [some (.int x1)] [] M := call_ent mq_95 (Nat.le_of_ble_eq_true rfl) rfl
theorem nX4_isWord : call (d + 1) 96 [.ref h, .ref h2, .int x1, .int x2] M = lim (call d) none 4 cX4_isWord (some .boolean) 0 [some (.ref h), some (.ref h2), some (.int x1), some (.int x2), none] [] M := call_ent mq_96 (Nat.le_of_ble_eq_true rfl) rfl
theorem nJ0_length_8abf5 : call (d + 1) 97 [.ref h] M = lim (call d) none 9 cJ0_length_8abf5 (some .int) 0 [some (.ref h)] [] M := call_ent mq_97 (Nat.le_of_ble_eq_true rfl) rfl
theorem nJ0_coder_7d493 : call (d + 1) 98 [.ref h] M = lim (call d) none 9 cJ0_coder_7d493 (some .byte) 0 [some (.ref h)] [] M := call_ent mq_98 (Nat.le_of_ble_eq_true rfl) rfl
theorem nJ0_charAt_5068e : call (d + 1) 99 [.ref h, .int x1] M = lim (call d) none 9 cJ0_charAt_5068e (some .char) 0 [some (.ref h), some (.int x1)] [] M := call_ent mq_99 (Nat.le_of_ble_eq_true rfl) rfl
theorem nJ0_isLatin1_aae02 : call (d + 1) 100 [.ref h] M = lim (call d) none 9 cJ0_isLatin1_aae02 (some .boolean) 0 [some (.ref h)] [] M := call_ent mq_100 (Nat.le_of_ble_eq_true rfl) rfl
theorem nJ1_charAt_3b067 : call (d + 1) 101 [.ref h, .int x1] M = lim (call d) none 10 cJ1_charAt_3b067 (some .char) 0 [some (.ref h), some (.int x1)] [] M := call_ent mq_101 (Nat.le_of_ble_eq_true rfl) rfl
theorem nJ0_checkIndex_df160 : call (d + 1) 102 [.int x1, .int x2] M = lim (call d) none 9 cJ0_checkIndex_df160 none 0 [some (.int x1), some (.int x2)] [] M := call_ent mq_102 (Nat.le_of_ble_eq_true rfl) rfl
theorem nJ3_checkIndex_8e157 : call (d + 1) 103 [.int x1, .int x2, .null] M = lim (call d) none 11 cJ3_checkIndex_8e157 (some .int) 0 [some (.int x1), some (.int x2), some (.null)] [] M := call_ent mq_103 (Nat.le_of_ble_eq_true rfl) rfl
theorem nX4_addToken : call (d + 1) 104 [.ref h, .int x1, .int x2, .int x3] M = lim (call d) none 4 cX4_addToken none 0 [some (.ref h), some (.int x1), some (.int x2), some (.int x3)] [] M := call_ent mq_104 (Nat.le_of_ble_eq_true rfl) rfl
theorem nX4_isDigit : call (d + 1) 105 [.int x1] M = lim (call d) none 4 cX4_isDigit (some .boolean) 0 [some (.int x1)] [] M := call_ent mq_105 (Nat.le_of_ble_eq_true rfl) rfl
theorem nX4_numberBetween : call (d + 1) 106 [.ref h, .int x1, .int x2] M = lim (call d) none 4 cX4_numberBetween (some .int) 0 [some (.ref h), some (.int x1), some (.int x2), none, none] [] M := call_ent mq_106 (Nat.le_of_ble_eq_true rfl) rfl
theorem nX4_tellItem : call (d + 1) 107 [.ref h, .ref h2] M = lim (call d) none 4 cX4_tellItem (some .boolean) 0 [some (.ref h), some (.ref h2), none] [] M := call_ent mq_107 (Nat.le_of_ble_eq_true rfl) rfl
theorem nX4_tellThing : call (d + 1) 108 [.ref h, .ref h2, .int x1] M = lim (call d) none 4 cX4_tellThing (some .boolean) 0 [some (.ref h), some (.ref h2), some (.int x1)] [] M := call_ent mq_108 (Nat.le_of_ble_eq_true rfl) rfl
theorem nX4_step : call (d + 1) 109 [.ref h] M = lim (call d) none 4 cX4_step none 0 [some (.ref h)] [] M := call_ent mq_109 (Nat.le_of_ble_eq_true rfl) rfl
theorem nX4_tellPart : call (d + 1) 110 [.ref h, .ref h2, .int x1, .int x2, .int x3, .int x4] M = lim (call d) none 4 cX4_tellPart (some .boolean) 0 [some (.ref h), some (.ref h2), some (.int x1), some (.int x2), some (.int x3), some (.int x4)] [] M := call_ent mq_110 (Nat.le_of_ble_eq_true rfl) rfl
theorem nX4_isNumber : call (d + 1) 111 [.ref h, .int x1, .int x2] M = lim (call d) none 4 cX4_isNumber (some .boolean) 0 [some (.ref h), some (.int x1), some (.int x2)] [] M := call_ent mq_111 (Nat.le_of_ble_eq_true rfl) rfl
theorem nX4_tellRule : call (d + 1) 112 [.ref h, .ref h2, .int x1] M = lim (call d) none 4 cX4_tellRule (some .boolean) 0 [some (.ref h), some (.ref h2), some (.int x1)] [] M := call_ent mq_112 (Nat.le_of_ble_eq_true rfl) rfl
theorem nX5_hold : call (d + 1) 113 [.ref h, .int x1, .int x2] M = lim (call d) none 5 cX5_hold (some .int) 0 [some (.ref h), some (.int x1), some (.int x2)] [] M := call_ent mq_113 (Nat.le_of_ble_eq_true rfl) rfl
theorem nX5_as : call (d + 1) 114 [.ref h, .int x1, .int x2] M = lim (call d) none 5 cX5_as (some .int) 0 [some (.ref h), some (.int x1), some (.int x2), none] [] M := call_ent mq_114 (Nat.le_of_ble_eq_true rfl) rfl
theorem nX2_isUnder : call (d + 1) 115 [.int x1, .int x2] M = lim (call d) none 2 cX2_isUnder (some .boolean) 0 [some (.int x1), some (.int x2), none, none] [] M := call_ent mq_115 (Nat.le_of_ble_eq_true rfl) rfl
theorem nX5_sheet : call (d + 1) 116 [.ref h, .int x1, .int x2, .int x3] M = lim (call d) none 5 cX5_sheet (some .int) 0 [some (.ref h), some (.int x1), some (.int x2), some (.int x3)] [] M := call_ent mq_116 (Nat.le_of_ble_eq_true rfl) rfl
theorem nX5_isSheet : call (d + 1) 117 [.int x1] M = lim (call d) none 5 cX5_isSheet (some .boolean) 0 [some (.int x1)] [] M := call_ent mq_117 (Nat.le_of_ble_eq_true rfl) rfl
theorem nX3_begin : call (d + 1) 118 [.ref h, .int x1, .int x2] M = lim (call d) none 3 cX3_begin none 0 [some (.ref h), some (.int x1), some (.int x2), none] [] M := call_ent mq_118 (Nat.le_of_ble_eq_true rfl) rfl
theorem nX5_write : call (d + 1) 119 [.ref h, .int x1, .int x2, .int x3] M = lim (call d) none 5 cX5_write (some .int) 0 [some (.ref h), some (.int x1), some (.int x2), some (.int x3)] [] M := call_ent mq_119 (Nat.le_of_ble_eq_true rfl) rfl
theorem nX3_isMissing : call (d + 1) 120 [.ref h] M = lim (call d) none 3 cX3_isMissing (some .boolean) 0 [some (.ref h)] [] M := call_ent mq_120 (Nat.le_of_ble_eq_true rfl) rfl
theorem nX3_put : call (d + 1) 121 [.ref h, .int x1, .int x2] M = lim (call d) none 3 cX3_put none 0 [some (.ref h), some (.int x1), some (.int x2)] [] M := call_ent mq_121 (Nat.le_of_ble_eq_true rfl) rfl
theorem nX5_copy : call (d + 1) 122 [.ref h, .int x1, .int x2, .int x3, .int x4, .int x5] M = lim (call d) none 5 cX5_copy (some .int) 0 [some (.ref h), some (.int x1), some (.int x2), some (.int x3), some (.int x4), some (.int x5), none, none] [] M := call_ent mq_122 (Nat.le_of_ble_eq_true rfl) rfl
theorem nX3_hasPart : call (d + 1) 123 [.ref h, .int x1, .int x2] M = lim (call d) none 3 cX3_hasPart (some .boolean) 0 [some (.ref h), some (.int x1), some (.int x2)] [] M := call_ent mq_123 (Nat.le_of_ble_eq_true rfl) rfl
theorem nX5_load : call (d + 1) 124 [.ref h, .int x1] M = lim (call d) none 5 cX5_load (some .int) 0 [some (.ref h), some (.int x1), none, none] [] M := call_ent mq_124 (Nat.le_of_ble_eq_true rfl) rfl
theorem nX5_judge : call (d + 1) 125 [.ref h, .int x1] M = lim (call d) none 5 cX5_judge (some .int) 0 [some (.ref h), some (.int x1), none, none, none] [] M := call_ent mq_125 (Nat.le_of_ble_eq_true rfl) rfl
theorem nX5_image : call (d + 1) 126 [.ref h] M = lim (call d) none 5 cX5_image (some .int) 0 [some (.ref h)] [] M := call_ent mq_126 (Nat.le_of_ble_eq_true rfl) rfl
theorem nX0_become : call (d + 1) 127 [.ref h, .ref h2] M = lim (call d) none 0 cX0_become none 0 [some (.ref h), some (.ref h2)] [] M := call_ent mq_127 (Nat.le_of_ble_eq_true rfl) rfl
theorem nX5_undo : call (d + 1) 128 [.ref h] M = lim (call d) none 5 cX5_undo (some .int) 0 [some (.ref h)] [] M := call_ent mq_128 (Nat.le_of_ble_eq_true rfl) rfl
theorem nX5_tear : call (d + 1) 129 [.ref h] M = lim (call d) none 5 cX5_tear (some .int) 0 [some (.ref h), none] [] M := call_ent mq_129 (Nat.le_of_ble_eq_true rfl) rfl
theorem nX5_count : call (d + 1) 130 [.ref h, .int x1] M = lim (call d) none 5 cX5_count (some .int) 0 [some (.ref h), some (.int x1)] [] M := call_ent mq_130 (Nat.le_of_ble_eq_true rfl) rfl
theorem nX1_worthOfAll : call (d + 1) 131 [.ref h] M = lim (call d) none 1 cX1_worthOfAll (some .int) 0 [some (.ref h), none, none] [] M := call_ent mq_131 (Nat.le_of_ble_eq_true rfl) rfl
theorem nX0_spotsHolding : call (d + 1) 132 [.ref h] M = lim (call d) none 0 cX0_spotsHolding (some .int) 0 [some (.ref h), none, none] [] M := call_ent mq_132 (Nat.le_of_ble_eq_true rfl) rfl
theorem nX5_status : call (d + 1) 133 [.ref h, .int x1] M = lim (call d) none 5 cX5_status (some .int) 0 [some (.ref h), some (.int x1), none, none] [] M := call_ent mq_133 (Nat.le_of_ble_eq_true rfl) rfl
theorem nX6_thing : call (d + 1) 134 [.ref h, .int x1] M = lim (call d) none 6 cX6_thing (some .int) 0 [some (.ref h), some (.int x1)] [] M := call_ent mq_134 (Nat.le_of_ble_eq_true rfl) rfl
theorem nX6_isKind : call (d + 1) 135 [.int x1] M = lim (call d) none 6 cX6_isKind (some .boolean) 0 [some (.int x1)] [] M := call_ent mq_135 (Nat.le_of_ble_eq_true rfl) rfl
theorem nX6_within : call (d + 1) 136 [.int x1, .int x2, .int x3] M = lim (call d) none 6 cX6_within (some .boolean) 0 [some (.int x1), some (.int x2), some (.int x3)] [] M := call_ent mq_136 (Nat.le_of_ble_eq_true rfl) rfl
theorem nX6_finding : call (d + 1) 137 [.ref h, .int x1] M = lim (call d) none 6 cX6_finding (some .int) 0 [some (.ref h), some (.int x1)] [] M := call_ent mq_137 (Nat.le_of_ble_eq_true rfl) rfl
theorem nX6_comes : call (d + 1) 138 [.ref h, .int x1, .int x2, .int x3, .int x4] M = lim (call d) none 6 cX6_comes (some .int) 0 [some (.ref h), some (.int x1), some (.int x2), some (.int x3), some (.int x4), none] [] M := call_ent mq_138 (Nat.le_of_ble_eq_true rfl) rfl
theorem nX6_at : call (d + 1) 139 [.int x1, .int x2] M = lim (call d) none 6 cX6_at (some .int) 0 [some (.int x1), some (.int x2)] [] M := call_ent mq_139 (Nat.le_of_ble_eq_true rfl) rfl
theorem nX6_of : call (d + 1) 140 [.ref h, .int x1, .int x2] M = lim (call d) none 6 cX6_of (some .int) 0 [some (.ref h), some (.int x1), some (.int x2)] [] M := call_ent mq_140 (Nat.le_of_ble_eq_true rfl) rfl
theorem nX6_isThing : call (d + 1) 141 [.ref h, .int x1] M = lim (call d) none 6 cX6_isThing (some .boolean) 0 [some (.ref h), some (.int x1)] [] M := call_ent mq_141 (Nat.le_of_ble_eq_true rfl) rfl
theorem nX6_thingIs : call (d + 1) 142 [.ref h, .int x1, .int x2] M = lim (call d) none 6 cX6_thingIs (some .int) 0 [some (.ref h), some (.int x1), some (.int x2)] [] M := call_ent mq_142 (Nat.le_of_ble_eq_true rfl) rfl
theorem nX6_takes : call (d + 1) 143 [.ref h, .int x1] M = lim (call d) none 6 cX6_takes (some .int) 0 [some (.ref h), some (.int x1), none] [] M := call_ent mq_143 (Nat.le_of_ble_eq_true rfl) rfl
theorem nX6_isUnder : call (d + 1) 144 [.int x1, .int x2] M = lim (call d) none 6 cX6_isUnder (some .boolean) 0 [some (.int x1), some (.int x2), none] [] M := call_ent mq_144 (Nat.le_of_ble_eq_true rfl) rfl
theorem nX6_above : call (d + 1) 145 [.int x1] M = lim (call d) none 6 cX6_above (some .int) 0 [some (.int x1)] [] M := call_ent mq_145 (Nat.le_of_ble_eq_true rfl) rfl
theorem nX6_stains : call (d + 1) 146 [.ref h, .int x1] M = lim (call d) none 6 cX6_stains (some .int) 0 [some (.ref h), some (.int x1)] [] M := call_ent mq_146 (Nat.le_of_ble_eq_true rfl) rfl
theorem nX6_left : call (d + 1) 147 [.ref h, .int x1] M = lim (call d) none 6 cX6_left (some .int) 0 [some (.ref h), some (.int x1), none, none, none] [] M := call_ent mq_147 (Nat.le_of_ble_eq_true rfl) rfl
theorem nX6_change : call (d + 1) 148 [.ref h, .int x1, .int x2, .int x3] M = lim (call d) none 6 cX6_change (some .int) 0 [some (.ref h), some (.int x1), some (.int x2), some (.int x3), none] [] M := call_ent mq_148 (Nat.le_of_ble_eq_true rfl) rfl
theorem nX6_become : call (d + 1) 149 [.ref h, .int x1, .int x2] M = lim (call d) none 6 cX6_become (some .int) 0 [some (.ref h), some (.int x1), some (.int x2), none] [] M := call_ent mq_149 (Nat.le_of_ble_eq_true rfl) rfl
theorem nX6_rule : call (d + 1) 150 [.ref h, .int x1, .int x2] M = lim (call d) none 6 cX6_rule (some .int) 0 [some (.ref h), some (.int x1), some (.int x2), none] [] M := call_ent mq_150 (Nat.le_of_ble_eq_true rfl) rfl
theorem nX6_fed : call (d + 1) 151 [.ref h, .int x1] M = lim (call d) none 6 cX6_fed (some .int) 0 [some (.ref h), some (.int x1)] [] M := call_ent mq_151 (Nat.le_of_ble_eq_true rfl) rfl
theorem nX6_isHow : call (d + 1) 152 [.ref h, .int x1, .int x2] M = lim (call d) none 6 cX6_isHow (some .boolean) 0 [some (.ref h), some (.int x1), some (.int x2)] [] M := call_ent mq_152 (Nat.le_of_ble_eq_true rfl) rfl
theorem nX6_hasRoom : call (d + 1) 153 [.ref h, .int x1] M = lim (call d) none 6 cX6_hasRoom (some .boolean) 0 [some (.ref h), some (.int x1)] [] M := call_ent mq_153 (Nat.le_of_ble_eq_true rfl) rfl
theorem nX6_bulkIn : call (d + 1) 154 [.ref h] M = lim (call d) none 6 cX6_bulkIn (some .int) 0 [some (.ref h), none, none] [] M := call_ent mq_154 (Nat.le_of_ble_eq_true rfl) rfl
theorem nX6_feeds : call (d + 1) 155 [.ref h, .int x1] M = lim (call d) none 6 cX6_feeds (some .int) 0 [some (.ref h), some (.int x1)] [] M := call_ent mq_155 (Nat.le_of_ble_eq_true rfl) rfl
theorem nX6_becomesHow : call (d + 1) 156 [.ref h, .int x1, .int x2] M = lim (call d) none 6 cX6_becomesHow none 0 [some (.ref h), some (.int x1), some (.int x2)] [] M := call_ent mq_156 (Nat.le_of_ble_eq_true rfl) rfl
theorem nX6_home : call (d + 1) 157 [.ref h, .int x1] M = lim (call d) none 6 cX6_home (some .int) 0 [some (.ref h), some (.int x1), none, none] [] M := call_ent mq_157 (Nat.le_of_ble_eq_true rfl) rfl
theorem nX6_eggsKept : call (d + 1) 158 [.ref h] M = lim (call d) none 6 cX6_eggsKept (some .int) 0 [some (.ref h)] [] M := call_ent mq_158 (Nat.le_of_ble_eq_true rfl) rfl
theorem nX6_eggAt : call (d + 1) 159 [.ref h, .int x1, .int x2] M = lim (call d) none 6 cX6_eggAt (some .int) 0 [some (.ref h), some (.int x1), some (.int x2)] [] M := call_ent mq_159 (Nat.le_of_ble_eq_true rfl) rfl
theorem nX6_crop : call (d + 1) 160 [.ref h, .int x1] M = lim (call d) none 6 cX6_crop (some .int) 0 [some (.ref h), some (.int x1)] [] M := call_ent mq_160 (Nat.le_of_ble_eq_true rfl) rfl
theorem nX6_egg : call (d + 1) 161 [.ref h, .int x1, .int x2] M = lim (call d) none 6 cX6_egg (some .int) 0 [some (.ref h), some (.int x1), some (.int x2)] [] M := call_ent mq_161 (Nat.le_of_ble_eq_true rfl) rfl
theorem nX6_days : call (d + 1) 162 [.ref h, .int x1] M = lim (call d) none 6 cX6_days (some .int) 0 [some (.ref h), some (.int x1)] [] M := call_ent mq_162 (Nat.le_of_ble_eq_true rfl) rfl
theorem nX6_isTooLate : call (d + 1) 163 [.ref h, .int x1] M = lim (call d) none 6 cX6_isTooLate (some .boolean) 0 [some (.ref h), some (.int x1)] [] M := call_ent mq_163 (Nat.le_of_ble_eq_true rfl) rfl
theorem nX6_daysGo : call (d + 1) 164 [.ref h, .int x1] M = lim (call d) none 6 cX6_daysGo (some .int) 0 [some (.ref h), some (.int x1), none, none] [] M := call_ent mq_164 (Nat.le_of_ble_eq_true rfl) rfl
theorem nX6_day : call (d + 1) 165 [.ref h] M = lim (call d) none 6 cX6_day (some .int) 0 [some (.ref h), none, none] [] M := call_ent mq_165 (Nat.le_of_ble_eq_true rfl) rfl
theorem nX6_stainsAt : call (d + 1) 166 [.ref h, .int x1] M = lim (call d) none 6 cX6_stainsAt (some .int) 0 [some (.ref h), some (.int x1)] [] M := call_ent mq_166 (Nat.le_of_ble_eq_true rfl) rfl
theorem nX6_lays : call (d + 1) 167 [.ref h] M = lim (call d) none 6 cX6_lays none 0 [some (.ref h), none, none] [] M := call_ent mq_167 (Nat.le_of_ble_eq_true rfl) rfl
theorem nX6_leaves : call (d + 1) 168 [.ref h, .int x1, .int x2] M = lim (call d) none 6 cX6_leaves none 0 [some (.ref h), some (.int x1), some (.int x2), none] [] M := call_ent mq_168 (Nat.le_of_ble_eq_true rfl) rfl
theorem nX6_now : call (d + 1) 169 [.ref h, .int x1] M = lim (call d) none 6 cX6_now (some .int) 0 [some (.ref h), some (.int x1)] [] M := call_ent mq_169 (Nat.le_of_ble_eq_true rfl) rfl
theorem nX6_ahead : call (d + 1) 170 [.ref h, .int x1, .int x2] M = lim (call d) none 6 cX6_ahead (some .int) 0 [some (.ref h), some (.int x1), some (.int x2), none, none] [] M := call_ent mq_170 (Nat.le_of_ble_eq_true rfl) rfl
theorem nX6_copyRow : call (d + 1) 171 [.ref h, .ref h2] M = lim (call d) none 6 cX6_copyRow none 0 [some (.ref h), some (.ref h2), none] [] M := call_ent mq_171 (Nat.le_of_ble_eq_true rfl) rfl
theorem nX6_putBack : call (d + 1) 172 [.ref h, .int x1] M = lim (call d) none 6 cX6_putBack (some .int) 0 [some (.ref h), some (.int x1)] [] M := call_ent mq_172 (Nat.le_of_ble_eq_true rfl) rfl
theorem nX6_stainIn : call (d + 1) 173 [.ref h] M = lim (call d) none 6 cX6_stainIn (some .int) 0 [some (.ref h), none, none] [] M := call_ent mq_173 (Nat.le_of_ble_eq_true rfl) rfl
theorem nX6_when : call (d + 1) 174 [.ref h, .int x1] M = lim (call d) none 6 cX6_when (some .int) 0 [some (.ref h), some (.int x1)] [] M := call_ent mq_174 (Nat.le_of_ble_eq_true rfl) rfl
theorem nX6_laidTold : call (d + 1) 175 [.ref h, .int x1, .int x2] M = lim (call d) none 6 cX6_laidTold (some .int) 0 [some (.ref h), some (.int x1), some (.int x2), none] [] M := call_ent mq_175 (Nat.le_of_ble_eq_true rfl) rfl
theorem nX6_isLate : call (d + 1) 176 [.ref h] M = lim (call d) none 6 cX6_isLate (some .boolean) 0 [some (.ref h)] [] M := call_ent mq_176 (Nat.le_of_ble_eq_true rfl) rfl
theorem nX6_tillLaid : call (d + 1) 177 [.ref h, .int x1] M = lim (call d) none 6 cX6_tillLaid (some .int) 0 [some (.ref h), some (.int x1), none, none] [] M := call_ent mq_177 (Nat.le_of_ble_eq_true rfl) rfl
theorem nX6_worth : call (d + 1) 178 [.ref h, .int x1] M = lim (call d) none 6 cX6_worth (some .int) 0 [some (.ref h), some (.int x1)] [] M := call_ent mq_178 (Nat.le_of_ble_eq_true rfl) rfl
theorem nX6_spoils : call (d + 1) 179 [.ref h] M = lim (call d) none 6 cX6_spoils (some .int) 0 [some (.ref h), none, none, none] [] M := call_ent mq_179 (Nat.le_of_ble_eq_true rfl) rfl
theorem nX6_plan : call (d + 1) 180 [.ref h, .int x1, .int x2] M = lim (call d) none 6 cX6_plan (some .int) 0 [some (.ref h), some (.int x1), some (.int x2), none] [] M := call_ent mq_180 (Nat.le_of_ble_eq_true rfl) rfl
theorem nX6_isSet : call (d + 1) 181 [.ref h, .int x1] M = lim (call d) none 6 cX6_isSet (some .boolean) 0 [some (.ref h), some (.int x1)] [] M := call_ent mq_181 (Nat.le_of_ble_eq_true rfl) rfl
theorem nX6_refuses : call (d + 1) 182 [.ref h, .int x1, .int x2, .int x3] M = lim (call d) none 6 cX6_refuses (some .int) 0 [some (.ref h), some (.int x1), some (.int x2), some (.int x3)] [] M := call_ent mq_182 (Nat.le_of_ble_eq_true rfl) rfl
theorem nX6_thingsThat : call (d + 1) 183 [.ref h, .int x1] M = lim (call d) none 6 cX6_thingsThat (some .int) 0 [some (.ref h), some (.int x1), none, none] [] M := call_ent mq_183 (Nat.le_of_ble_eq_true rfl) rfl
theorem nX6_mealOf : call (d + 1) 184 [.ref h, .int x1] M = lim (call d) none 6 cX6_mealOf none 0 [some (.ref h), some (.int x1), none] [] M := call_ent mq_184 (Nat.le_of_ble_eq_true rfl) rfl
theorem nX6_has : call (d + 1) 185 [.int x1, .int x2] M = lim (call d) none 6 cX6_has (some .boolean) 0 [some (.int x1), some (.int x2)] [] M := call_ent mq_185 (Nat.le_of_ble_eq_true rfl) rfl
theorem nX6_brings : call (d + 1) 186 [.ref h, .int x1] M = lim (call d) none 6 cX6_brings (some .int) 0 [some (.ref h), some (.int x1), none, none] [] M := call_ent mq_186 (Nat.le_of_ble_eq_true rfl) rfl
theorem nX6_best : call (d + 1) 187 [.ref h, .int x1, .int x2] M = lim (call d) none 6 cX6_best (some .int) 0 [some (.ref h), some (.int x1), some (.int x2), none] [] M := call_ent mq_187 (Nat.le_of_ble_eq_true rfl) rfl
theorem nX6_isFew : call (d + 1) 188 [.ref h, .int x1] M = lim (call d) none 6 cX6_isFew (some .boolean) 0 [some (.ref h), some (.int x1)] [] M := call_ent mq_188 (Nat.le_of_ble_eq_true rfl) rfl
theorem nX6_bits : call (d + 1) 189 [.int x1] M = lim (call d) none 6 cX6_bits (some .int) 0 [some (.int x1), none, none] [] M := call_ent mq_189 (Nat.le_of_ble_eq_true rfl) rfl
theorem nX6_findBest : call (d + 1) 190 [.ref h, .int x1, .int x2] M = lim (call d) none 6 cX6_findBest none 0 [some (.ref h), some (.int x1), some (.int x2)] [] M := call_ent mq_190 (Nat.le_of_ble_eq_true rfl) rfl
theorem nX6_orders : call (d + 1) 191 [.ref h, .int x1, .int x2] M = lim (call d) none 6 cX6_orders none 0 [some (.ref h), some (.int x1), some (.int x2), none, none] [] M := call_ent mq_191 (Nat.le_of_ble_eq_true rfl) rfl
theorem nX6_ith : call (d + 1) 192 [.ref h, .int x1, .int x2, .int x3] M = lim (call d) none 6 cX6_ith (some .int) 0 [some (.ref h), some (.int x1), some (.int x2), some (.int x3), none] [] M := call_ent mq_192 (Nat.le_of_ble_eq_true rfl) rfl
theorem nX6_next : call (d + 1) 193 [.ref h, .int x1] M = lim (call d) none 6 cX6_next (some .int) 0 [some (.ref h), some (.int x1), none, none, none, none, none] [] M := call_ent mq_193 (Nat.le_of_ble_eq_true rfl) rfl
theorem nX6_bringsOf : call (d + 1) 194 [.ref h, .int x1, .int x2, .int x3] M = lim (call d) none 6 cX6_bringsOf (some .int) 0 [some (.ref h), some (.int x1), some (.int x2), some (.int x3)] [] M := call_ent mq_194 (Nat.le_of_ble_eq_true rfl) rfl
theorem nX6_foes : call (d + 1) 195 [.ref h, .int x1] M = lim (call d) none 6 cX6_foes (some .int) 0 [some (.ref h), some (.int x1), none, none, none, none, none, none] [] M := call_ent mq_195 (Nat.le_of_ble_eq_true rfl) rfl
theorem nX6_kindFor : call (d + 1) 196 [.ref h, .int x1, .int x2] M = lim (call d) none 6 cX6_kindFor (some .int) 0 [some (.ref h), some (.int x1), some (.int x2), none, none, none, none, none] [] M := call_ent mq_196 (Nat.le_of_ble_eq_true rfl) rfl
theorem nX6_ownEgg : call (d + 1) 197 [.ref h, .int x1, .int x2] M = lim (call d) none 6 cX6_ownEgg (some .int) 0 [some (.ref h), some (.int x1), some (.int x2), none, none, none, none] [] M := call_ent mq_197 (Nat.le_of_ble_eq_true rfl) rfl
theorem nX6_rid : call (d + 1) 198 [.ref h, .int x1] M = lim (call d) none 6 cX6_rid (some .int) 0 [some (.ref h), some (.int x1), none, none, none, none, none, none] [] M := call_ent mq_198 (Nat.le_of_ble_eq_true rfl) rfl
theorem nX6_turns : call (d + 1) 199 [.ref h, .int x1, .int x2] M = lim (call d) none 6 cX6_turns (some .int) 0 [some (.ref h), some (.int x1), some (.int x2), none] [] M := call_ent mq_199 (Nat.le_of_ble_eq_true rfl) rfl
theorem nX6_refusesTurns : call (d + 1) 200 [.ref h, .int x1, .int x2] M = lim (call d) none 6 cX6_refusesTurns (some .int) 0 [some (.ref h), some (.int x1), some (.int x2)] [] M := call_ent mq_200 (Nat.le_of_ble_eq_true rfl) rfl
theorem nX6_turnsFrom : call (d + 1) 201 [.ref h, .int x1, .int x2, .int x3] M = lim (call d) none 6 cX6_turnsFrom (some .int) 0 [some (.ref h), some (.int x1), some (.int x2), some (.int x3), none, none, none, none, none, none, none, none] [] M := call_ent mq_201 (Nat.le_of_ble_eq_true rfl) rfl
theorem nX6_save : call (d + 1) 202 [.ref h, .int x1] M = lim (call d) none 6 cX6_save none 0 [some (.ref h), some (.int x1), none] [] M := call_ent mq_202 (Nat.le_of_ble_eq_true rfl) rfl
theorem nX6_sharesGo : call (d + 1) 203 [.ref h, .int x1] M = lim (call d) none 6 cX6_sharesGo (some .int) 0 [some (.ref h), some (.int x1), none, none, none] [] M := call_ent mq_203 (Nat.le_of_ble_eq_true rfl) rfl
theorem nX6_restore : call (d + 1) 204 [.ref h, .int x1] M = lim (call d) none 6 cX6_restore none 0 [some (.ref h), some (.int x1), none] [] M := call_ent mq_204 (Nat.le_of_ble_eq_true rfl) rfl
theorem nX6_first : call (d + 1) 205 [.ref h, .int x1, .int x2] M = lim (call d) none 6 cX6_first (some .int) 0 [some (.ref h), some (.int x1), some (.int x2), none] [] M := call_ent mq_205 (Nat.le_of_ble_eq_true rfl) rfl
theorem nX6_share : call (d + 1) 206 [.ref h, .int x1, .int x2] M = lim (call d) none 6 cX6_share (some .int) 0 [some (.ref h), some (.int x1), some (.int x2), none, none, none] [] M := call_ent mq_206 (Nat.le_of_ble_eq_true rfl) rfl
theorem nX6_fits : call (d + 1) 207 [.ref h, .int x1, .int x2] M = lim (call d) none 6 cX6_fits (some .int) 0 [some (.ref h), some (.int x1), some (.int x2), none] [] M := call_ent mq_207 (Nat.le_of_ble_eq_true rfl) rfl
theorem nX6_findRows : call (d + 1) 208 [.ref h, .int x1, .int x2] M = lim (call d) none 6 cX6_findRows (some .int) 0 [some (.ref h), some (.int x1), some (.int x2), none, none, none] [] M := call_ent mq_208 (Nat.le_of_ble_eq_true rfl) rfl
theorem nX6_firstEgg : call (d + 1) 209 [.ref h, .int x1, .int x2, .int x3] M = lim (call d) none 6 cX6_firstEgg (some .int) 0 [some (.ref h), some (.int x1), some (.int x2), some (.int x3), none, none, none, none] [] M := call_ent mq_209 (Nat.le_of_ble_eq_true rfl) rfl
theorem nX6_may : call (d + 1) 210 [.ref h, .int x1, .int x2] M = lim (call d) none 6 cX6_may (some .int) 0 [some (.ref h), some (.int x1), some (.int x2), none] [] M := call_ent mq_210 (Nat.le_of_ble_eq_true rfl) rfl
theorem nX6_laid : call (d + 1) 211 [.ref h, .int x1] M = lim (call d) none 6 cX6_laid (some .int) 0 [some (.ref h), some (.int x1), none, none] [] M := call_ent mq_211 (Nat.le_of_ble_eq_true rfl) rfl
theorem nX6_room : call (d + 1) 212 [.ref h, .int x1] M = lim (call d) none 6 cX6_room (some .int) 0 [some (.ref h), some (.int x1), none, none] [] M := call_ent mq_212 (Nat.le_of_ble_eq_true rfl) rfl
theorem nX6_areAllFed : call (d + 1) 213 [.ref h] M = lim (call d) none 6 cX6_areAllFed (some .boolean) 0 [some (.ref h), none, none, none, none] [] M := call_ent mq_213 (Nat.le_of_ble_eq_true rfl) rfl
theorem nX6_starves : call (d + 1) 214 [.ref h, .int x1] M = lim (call d) none 6 cX6_starves (some .int) 0 [some (.ref h), some (.int x1), none, none, none, none, none] [] M := call_ent mq_214 (Nat.le_of_ble_eq_true rfl) rfl
theorem nX6_lent : call (d + 1) 215 [.ref h, .int x1] M = lim (call d) none 6 cX6_lent (some .int) 0 [some (.ref h), some (.int x1), none, none, none] [] M := call_ent mq_215 (Nat.le_of_ble_eq_true rfl) rfl
theorem nX6_drawn : call (d + 1) 216 [.ref h, .int x1] M = lim (call d) none 6 cX6_drawn (some .int) 0 [some (.ref h), some (.int x1)] [] M := call_ent mq_216 (Nat.le_of_ble_eq_true rfl) rfl
theorem nX6_seed : call (d + 1) 217 [.ref h, .int x1] M = lim (call d) none 6 cX6_seed (some .int) 0 [some (.ref h), some (.int x1)] [] M := call_ent mq_217 (Nat.le_of_ble_eq_true rfl) rfl
theorem nX6_feed : call (d + 1) 218 [.ref h, .int x1, .int x2] M = lim (call d) none 6 cX6_feed (some .int) 0 [some (.ref h), some (.int x1), some (.int x2), none] [] M := call_ent mq_218 (Nat.le_of_ble_eq_true rfl) rfl
theorem nX6_wipe : call (d + 1) 219 [.ref h] M = lim (call d) none 6 cX6_wipe (some .int) 0 [some (.ref h), none] [] M := call_ent mq_219 (Nat.le_of_ble_eq_true rfl) rfl
theorem nX6_text : call (d + 1) 220 [.ref h] M = lim (call d) none 6 cX6_text (some .int) 0 [some (.ref h), none, none] [] M := call_ent mq_220 (Nat.le_of_ble_eq_true rfl) rfl
theorem nX6_next_ : call (d + 1) 221 [.ref h] M = lim (call d) none 6 cX6_next_ none 0 [some (.ref h), none] [] M := call_ent mq_221 (Nat.le_of_ble_eq_true rfl) rfl
theorem nX6_byteAt : call (d + 1) 222 [.ref h, .int x1] M = lim (call d) none 6 cX6_byteAt (some .int) 0 [some (.ref h), some (.int x1)] [] M := call_ent mq_222 (Nat.le_of_ble_eq_true rfl) rfl
theorem nX6_readItem : call (d + 1) 223 [.ref h] M = lim (call d) none 6 cX6_readItem none 0 [some (.ref h), none, none, none] [] M := call_ent mq_223 (Nat.le_of_ble_eq_true rfl) rfl
theorem nX6_kindTold : call (d + 1) 224 [.ref h] M = lim (call d) none 6 cX6_kindTold (some .int) 0 [some (.ref h), none, none] [] M := call_ent mq_224 (Nat.le_of_ble_eq_true rfl) rfl
theorem nX6_isWord : call (d + 1) 225 [.ref h, .ref h2] M = lim (call d) none 6 cX6_isWord (some .boolean) 0 [some (.ref h), some (.ref h2), none, none] [] M := call_ent mq_225 (Nat.le_of_ble_eq_true rfl) rfl
theorem nX6_must : call (d + 1) 226 [.ref h, .int x1] M = lim (call d) none 6 cX6_must none 0 [some (.ref h), some (.int x1)] [] M := call_ent mq_226 (Nat.le_of_ble_eq_true rfl) rfl
theorem nX6_isNext : call (d + 1) 227 [.ref h, .ref h2] M = lim (call d) none 6 cX6_isNext (some .boolean) 0 [some (.ref h), some (.ref h2), none] [] M := call_ent mq_227 (Nat.le_of_ble_eq_true rfl) rfl
theorem nX6_number : call (d + 1) 228 [.ref h, .int x1, .int x2] M = lim (call d) none 6 cX6_number (some .int) 0 [some (.ref h), some (.int x1), some (.int x2), none] [] M := call_ent mq_228 (Nat.le_of_ble_eq_true rfl) rfl
theorem nX6_item : call (d + 1) 229 [.ref h, .int x1, .int x2, .int x3, .int x4] M = lim (call d) none 6 cX6_item none 0 [some (.ref h), some (.int x1), some (.int x2), some (.int x3), some (.int x4), none] [] M := call_ent mq_229 (Nat.le_of_ble_eq_true rfl) rfl
theorem nX6_isSo : call (d + 1) 230 [.ref h, .int x1] M = lim (call d) none 6 cX6_isSo (some .int) 0 [some (.ref h), some (.int x1), none] [] M := call_ent mq_230 (Nat.le_of_ble_eq_true rfl) rfl
theorem nX6_hold : call (d + 1) 231 [.ref h, .int x1, .int x2] M = lim (call d) none 6 cX6_hold (some .int) 0 [some (.ref h), some (.int x1), some (.int x2)] [] M := call_ent mq_231 (Nat.le_of_ble_eq_true rfl) rfl
theorem nX6_isSpot : call (d + 1) 232 [.int x1] M = lim (call d) none 6 cX6_isSpot (some .boolean) 0 [some (.int x1)] [] M := call_ent mq_232 (Nat.le_of_ble_eq_true rfl) rfl
theorem nX6_as : call (d + 1) 233 [.ref h, .int x1, .int x2] M = lim (call d) none 6 cX6_as (some .int) 0 [some (.ref h), some (.int x1), some (.int x2), none] [] M := call_ent mq_233 (Nat.le_of_ble_eq_true rfl) rfl
theorem nX6_sheet : call (d + 1) 234 [.ref h, .int x1, .int x2, .int x3] M = lim (call d) none 6 cX6_sheet (some .int) 0 [some (.ref h), some (.int x1), some (.int x2), some (.int x3), none] [] M := call_ent mq_234 (Nat.le_of_ble_eq_true rfl) rfl
theorem nX6_isSheet : call (d + 1) 235 [.int x1] M = lim (call d) none 6 cX6_isSheet (some .boolean) 0 [some (.int x1)] [] M := call_ent mq_235 (Nat.le_of_ble_eq_true rfl) rfl
theorem nX6_write : call (d + 1) 236 [.ref h, .int x1, .int x2, .int x3] M = lim (call d) none 6 cX6_write (some .int) 0 [some (.ref h), some (.int x1), some (.int x2), some (.int x3)] [] M := call_ent mq_236 (Nat.le_of_ble_eq_true rfl) rfl
theorem nX6_cutTo : call (d + 1) 237 [.int x1, .int x2] M = lim (call d) none 6 cX6_cutTo (some .int) 0 [some (.int x1), some (.int x2)] [] M := call_ent mq_237 (Nat.le_of_ble_eq_true rfl) rfl
theorem nX6_copy : call (d + 1) 238 [.ref h, .int x1, .int x2, .int x3, .int x4, .int x5] M = lim (call d) none 6 cX6_copy (some .int) 0 [some (.ref h), some (.int x1), some (.int x2), some (.int x3), some (.int x4), some (.int x5), none] [] M := call_ent mq_238 (Nat.le_of_ble_eq_true rfl) rfl
theorem nX6_load : call (d + 1) 239 [.ref h, .int x1] M = lim (call d) none 6 cX6_load (some .int) 0 [some (.ref h), some (.int x1), none] [] M := call_ent mq_239 (Nat.le_of_ble_eq_true rfl) rfl
theorem nX6_judge : call (d + 1) 240 [.ref h, .int x1] M = lim (call d) none 6 cX6_judge (some .int) 0 [some (.ref h), some (.int x1), none, none, none] [] M := call_ent mq_240 (Nat.le_of_ble_eq_true rfl) rfl
theorem nX6_image : call (d + 1) 241 [.ref h] M = lim (call d) none 6 cX6_image (some .int) 0 [some (.ref h)] [] M := call_ent mq_241 (Nat.le_of_ble_eq_true rfl) rfl
theorem nX6_undo : call (d + 1) 242 [.ref h] M = lim (call d) none 6 cX6_undo (some .int) 0 [some (.ref h)] [] M := call_ent mq_242 (Nat.le_of_ble_eq_true rfl) rfl
theorem nX6_tear : call (d + 1) 243 [.ref h] M = lim (call d) none 6 cX6_tear (some .int) 0 [some (.ref h), none] [] M := call_ent mq_243 (Nat.le_of_ble_eq_true rfl) rfl
theorem nX6_count : call (d + 1) 244 [.ref h, .int x1] M = lim (call d) none 6 cX6_count (some .int) 0 [some (.ref h), some (.int x1), none, none] [] M := call_ent mq_244 (Nat.le_of_ble_eq_true rfl) rfl
theorem nX6_status : call (d + 1) 245 [.ref h, .int x1] M = lim (call d) none 6 cX6_status (some .int) 0 [some (.ref h), some (.int x1)] [] M := call_ent mq_245 (Nat.le_of_ble_eq_true rfl) rfl
end EN
