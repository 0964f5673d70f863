/-! the start's world is the little machine's -/
def GA (h5 h6 b : Nat) (u5 u6 st ad av : Nat → Nat) : Nat → Nat := fun k => ([h5, u5 34, u5 45, u5 46, u5 47, u5 33, u5 44, u5 28, 0, 0, u5 1, u5 2, u5 3, u5 4, u5 5, u5 6, u5 7, u5 8, u5 9, 0, u5 15, u5 16, u5 17, u5 18, u5 19, u5 20, u5 21, u5 22, u5 23, 0, u5 35, u5 36, u5 37, u5 38, u5 39, u5 40, u5 41, u5 42, u5 43, 0, u5 56, u5 57, u5 58, u5 59, u5 60, u5 61, u5 62, u5 63, u5 64, 0, u5 65, u5 66, u5 67, u5 68, u5 69, u5 70, u5 71, u5 72, u5 73, 0, u5 74, u5 75, u5 76, u5 77, u5 78, u5 79, u5 80, u5 81, u5 82, 0, u5 83, u5 84, u5 85, u5 86, u5 87, u5 88, u5 89, u5 90, u5 91, 0, u5 92, u5 93, u5 94, u5 95, u5 96, u5 97, u5 98, u5 99, u5 100, 0, 0, u5 29, u5 30, u5 31, u5 32, 0, 0, 0, 0, 0, u5 0, u5 10, u5 11, u5 12, u5 13, 0, 0, 0, 0, 0, u5 14, u5 24, u5 25, u5 26, u5 27, 0, 0, 0, 0, 0, u5 48, u5 49, u5 50, u5 51, u5 52, u5 53, u5 54, u5 55, 0, 0, h6, u6 0, u6 1, u6 2, u6 3, u6 4, u6 5, u6 6, u6 7, u6 8, u6 9, u6 10, u6 11, u6 12, u6 13, 0, 0, 0, 0, 0, st 0, st 1, st 2, 0, 0, 0, 0, 0, 0, 0, ad 0, ad 1, ad 2, ad 3, ad 4, ad 5, ad 6, ad 7, ad 8, ad 9, ad 10, ad 11, 0, 0, 0, 0, 0, 0, 0, 0, av 0, av 1, av 2, av 3, av 4, av 5, av 6, av 7, av 8, av 9, av 10, av 11, 0, 0, 0, 0, 0, 0, b] : List Nat).getD k 0
def GG (D : va_G) (iA iB iC iD : ClassId) (nl : Value) (h5 h6 b : Nat) (u5 u6 st ad av : Nat → Nat) : GT := (D, GA h5 h6 b u5 u6 st ad av, fun i => match i with | 0 => iA | 1 => iB | 2 => iC | _ => iD, nl)
section WD
variable {D : va_G} {iA iB iC iD : ClassId} {nl : Value} {h5 h6 b : Nat} {u5 u6 st ad av : Nat → Nat}
theorem rf_e5 : (va_up (va_up (va_up (va_up (fun _ => none) 0 (some (u5 48))) 1 (some (u5 50))) 2 (some (u5 52))) 3 (some (u5 54))) = refsOf (GG D iA iB iC iD nl h5 h6 b u5 u6 st ad av) [120, 122, 124, 126] := by
  funext i
  rcases i with _ | _ | _ | _ | i
  all_goals rfl
theorem rf_e6 : (va_up (va_up (va_up (va_up (va_up (fun _ => none) 0 (some (u5 56))) 1 (some (u5 65))) 2 (some (u5 74))) 3 (some (u5 83))) 4 (some (u5 92))) = refsOf (GG D iA iB iC iD nl h5 h6 b u5 u6 st ad av) [40, 50, 60, 70, 80] := by
  funext i
  rcases i with _ | _ | _ | _ | _ | i
  all_goals rfl
theorem rf_e139 : (va_up (va_up (va_up (va_up (va_up (va_up (va_up (fun _ => none) 0 (some (ad 0))) 1 (some (ad 1))) 2 (some (ad 2))) 3 (some (ad 3))) 4 (some (ad 4))) 5 (some (ad 5))) 6 (some (ad 6))) = refsOf (GG D iA iB iC iD nl h5 h6 b u5 u6 st ad av) [160, 161, 162, 163, 164, 165, 166] := by
  funext i
  rcases i with _ | _ | _ | _ | _ | _ | _ | i
  all_goals rfl
theorem now0_e : (upd (upd (upd (upd (upd (upd (upd (upd (upd (upd (upd (upd (upd (fun _ => 0) 1 12) 2 2) 7 1) 8 (-1)) 9 (-1)) 10 (-1)) 11 (-1)) 12 (-1)) 13 (-1)) 14 (-1)) 15 (-1)) 16 (-1)) 17 (-1)) = now0 := by
  funext j
  rcases Nat.lt_or_ge j 18 with h | h
  · rcases (show j = 0 ∨ j = 1 ∨ j = 2 ∨ j = 3 ∨ j = 4 ∨ j = 5 ∨ j = 6 ∨ j = 7 ∨ j = 8 ∨ j = 9 ∨ j = 10 ∨ j = 11 ∨ j = 12 ∨ j = 13 ∨ j = 14 ∨ j = 15 ∨ j = 16 ∨ j = 17 by omega) with rfl | rfl | rfl | rfl | rfl | rfl | rfl | rfl | rfl | rfl | rfl | rfl | rfl | rfl | rfl | rfl | rfl | rfl <;> rfl
  · unfold now0
    rw [upd_ne (by omega), upd_ne (by omega), upd_ne (by omega), upd_ne (by omega), upd_ne (by omega), upd_ne (by omega), upd_ne (by omega), upd_ne (by omega), upd_ne (by omega), upd_ne (by omega), upd_ne (by omega), upd_ne (by omega), upd_ne (by omega), if_neg (by omega), if_neg (by omega), if_neg (by omega), if_neg (by omega)]
set_option maxRecDepth 100000 in
set_option maxHeartbeats 16000000 in
theorem wd_all : wdX5 iA iB iC h5 u5 ++ wdX6 iA iD ad h6 u6 = [(h5, .inr (4, [.ref (u5 0), .ref (u5 14), .int 0, .ref (u5 28), .ref (u5 33), .ref (u5 34), .ref (u5 35), .ref (u5 44), .ref (u5 45), .ref (u5 46), .ref (u5 47), .int (-1)])), (u5 0, .inr (0, [.ref (u5 1), .int 0, .int 1, .int 0, .int 0, .ref (u5 10), .ref (u5 11), .ref (u5 12), .ref (u5 13)])), (u5 1, .inr (1, [.int 0, .ref (u5 2), .ref (u5 3), .ref (u5 4), .ref (u5 5), .ref (u5 6), .ref (u5 7), .ref (u5 8), .ref (u5 9), .int 0, .int 12, .int 2, .int (-1), .int 0, .int 0])), (u5 2, .inl (iA, 10, .inl (fun _ => 0))), (u5 3, .inl (iA, 10, .inl (fun _ => 0))), (u5 4, .inl (iA, 10, .inl (fun _ => 0))), (u5 5, .inl (iA, 10, .inl (fun _ => 0))), (u5 6, .inl (iA, 10, .inl (fun _ => 0))), (u5 7, .inl (iA, 10, .inl (fun _ => 0))), (u5 8, .inl (iA, 10, .inl (fun _ => 0))), (u5 9, .inl (iA, 8, .inl (fun _ => 0))), (u5 10, .inl (iA, 12, .inl (fun _ => 0))), (u5 11, .inl (iA, 12, .inl (fun _ => 0))), (u5 12, .inl (iA, 12, .inl (fun _ => 0))), (u5 13, .inl (iA, 10, .inl (spF 10))), (u5 14, .inr (0, [.ref (u5 15), .int 0, .int 1, .int 0, .int 0, .ref (u5 24), .ref (u5 25), .ref (u5 26), .ref (u5 27)])), (u5 15, .inr (1, [.int 0, .ref (u5 16), .ref (u5 17), .ref (u5 18), .ref (u5 19), .ref (u5 20), .ref (u5 21), .ref (u5 22), .ref (u5 23), .int 0, .int 12, .int 2, .int (-1), .int 0, .int 0])), (u5 16, .inl (iA, 10, .inl (fun _ => 0))), (u5 17, .inl (iA, 10, .inl (fun _ => 0))), (u5 18, .inl (iA, 10, .inl (fun _ => 0))), (u5 19, .inl (iA, 10, .inl (fun _ => 0))), (u5 20, .inl (iA, 10, .inl (fun _ => 0))), (u5 21, .inl (iA, 10, .inl (fun _ => 0))), (u5 22, .inl (iA, 10, .inl (fun _ => 0))), (u5 23, .inl (iA, 8, .inl (fun _ => 0))), (u5 24, .inl (iA, 12, .inl (fun _ => 0))), (u5 25, .inl (iA, 12, .inl (fun _ => 0))), (u5 26, .inl (iA, 12, .inl (fun _ => 0))), (u5 27, .inl (iA, 10, .inl (spF 10))), (u5 28, .inr (3, [.ref (u5 29), .int 0, .ref (u5 30), .ref (u5 31), .ref (u5 32), .int 0, .int 0])), (u5 29, .inl (iA, 120, .inl (fun _ => 0))), (u5 30, .inl (iA, 121, .inl (fun _ => 0))), (u5 31, .inl (iA, 121, .inl (fun _ => 0))), (u5 32, .inl (iA, 121, .inl (fun _ => 0))), (u5 33, .inl (iB, 4, .inr (.inr (.inr (.inr (refsOf (GG D iA iB iC iD nl h5 h6 b u5 u6 st ad av) [120, 122, 124, 126])))))), (u5 34, .inl (iA, 7, .inl (fun _ => 0))), (u5 35, .inr (1, [.int 0, .ref (u5 36), .ref (u5 37), .ref (u5 38), .ref (u5 39), .ref (u5 40), .ref (u5 41), .ref (u5 42), .ref (u5 43), .int 0, .int 12, .int 2, .int (-1), .int 0, .int 0])), (u5 36, .inl (iA, 10, .inl (fun _ => 0))), (u5 37, .inl (iA, 10, .inl (fun _ => 0))), (u5 38, .inl (iA, 10, .inl (fun _ => 0))), (u5 39, .inl (iA, 10, .inl (fun _ => 0))), (u5 40, .inl (iA, 10, .inl (fun _ => 0))), (u5 41, .inl (iA, 10, .inl (fun _ => 0))), (u5 42, .inl (iA, 10, .inl (fun _ => 0))), (u5 43, .inl (iA, 8, .inl (fun _ => 0))), (u5 44, .inl (iC, 5, .inr (.inr (.inr (.inr (refsOf (GG D iA iB iC iD nl h5 h6 b u5 u6 st ad av) [40, 50, 60, 70, 80])))))), (u5 45, .inl (iA, 10, .inl (fun _ => 0))), (u5 46, .inl (iA, 5, .inl (fun _ => 0))), (u5 47, .inl (iA, 10, .inl (fun _ => 0))), (u5 48, .inr (2, [.int 0, .int 0, .ref (u5 49)])), (u5 49, .inl (iA, 40, .inl (fun _ => 0))), (u5 50, .inr (2, [.int 0, .int 0, .ref (u5 51)])), (u5 51, .inl (iA, 40, .inl (fun _ => 0))), (u5 52, .inr (2, [.int 0, .int 0, .ref (u5 53)])), (u5 53, .inl (iA, 40, .inl (fun _ => 0))), (u5 54, .inr (2, [.int 0, .int 0, .ref (u5 55)])), (u5 55, .inl (iA, 40, .inl (fun _ => 0))), (u5 56, .inr (1, [.int 0, .ref (u5 57), .ref (u5 58), .ref (u5 59), .ref (u5 60), .ref (u5 61), .ref (u5 62), .ref (u5 63), .ref (u5 64), .int 0, .int 12, .int 2, .int (-1), .int 0, .int 0])), (u5 57, .inl (iA, 10, .inl (fun _ => 0))), (u5 58, .inl (iA, 10, .inl (fun _ => 0))), (u5 59, .inl (iA, 10, .inl (fun _ => 0))), (u5 60, .inl (iA, 10, .inl (fun _ => 0))), (u5 61, .inl (iA, 10, .inl (fun _ => 0))), (u5 62, .inl (iA, 10, .inl (fun _ => 0))), (u5 63, .inl (iA, 10, .inl (fun _ => 0))), (u5 64, .inl (iA, 8, .inl (fun _ => 0))), (u5 65, .inr (1, [.int 0, .ref (u5 66), .ref (u5 67), .ref (u5 68), .ref (u5 69), .ref (u5 70), .ref (u5 71), .ref (u5 72), .ref (u5 73), .int 0, .int 12, .int 2, .int (-1), .int 0, .int 0])), (u5 66, .inl (iA, 10, .inl (fun _ => 0))), (u5 67, .inl (iA, 10, .inl (fun _ => 0))), (u5 68, .inl (iA, 10, .inl (fun _ => 0))), (u5 69, .inl (iA, 10, .inl (fun _ => 0))), (u5 70, .inl (iA, 10, .inl (fun _ => 0))), (u5 71, .inl (iA, 10, .inl (fun _ => 0))), (u5 72, .inl (iA, 10, .inl (fun _ => 0))), (u5 73, .inl (iA, 8, .inl (fun _ => 0))), (u5 74, .inr (1, [.int 0, .ref (u5 75), .ref (u5 76), .ref (u5 77), .ref (u5 78), .ref (u5 79), .ref (u5 80), .ref (u5 81), .ref (u5 82), .int 0, .int 12, .int 2, .int (-1), .int 0, .int 0])), (u5 75, .inl (iA, 10, .inl (fun _ => 0))), (u5 76, .inl (iA, 10, .inl (fun _ => 0))), (u5 77, .inl (iA, 10, .inl (fun _ => 0))), (u5 78, .inl (iA, 10, .inl (fun _ => 0))), (u5 79, .inl (iA, 10, .inl (fun _ => 0))), (u5 80, .inl (iA, 10, .inl (fun _ => 0))), (u5 81, .inl (iA, 10, .inl (fun _ => 0))), (u5 82, .inl (iA, 8, .inl (fun _ => 0))), (u5 83, .inr (1, [.int 0, .ref (u5 84), .ref (u5 85), .ref (u5 86), .ref (u5 87), .ref (u5 88), .ref (u5 89), .ref (u5 90), .ref (u5 91), .int 0, .int 12, .int 2, .int (-1), .int 0, .int 0])), (u5 84, .inl (iA, 10, .inl (fun _ => 0))), (u5 85, .inl (iA, 10, .inl (fun _ => 0))), (u5 86, .inl (iA, 10, .inl (fun _ => 0))), (u5 87, .inl (iA, 10, .inl (fun _ => 0))), (u5 88, .inl (iA, 10, .inl (fun _ => 0))), (u5 89, .inl (iA, 10, .inl (fun _ => 0))), (u5 90, .inl (iA, 10, .inl (fun _ => 0))), (u5 91, .inl (iA, 8, .inl (fun _ => 0))), (u5 92, .inr (1, [.int 0, .ref (u5 93), .ref (u5 94), .ref (u5 95), .ref (u5 96), .ref (u5 97), .ref (u5 98), .ref (u5 99), .ref (u5 100), .int 0, .int 12, .int 2, .int (-1), .int 0, .int 0])), (u5 93, .inl (iA, 10, .inl (fun _ => 0))), (u5 94, .inl (iA, 10, .inl (fun _ => 0))), (u5 95, .inl (iA, 10, .inl (fun _ => 0))), (u5 96, .inl (iA, 10, .inl (fun _ => 0))), (u5 97, .inl (iA, 10, .inl (fun _ => 0))), (u5 98, .inl (iA, 10, .inl (fun _ => 0))), (u5 99, .inl (iA, 10, .inl (fun _ => 0))), (u5 100, .inl (iA, 8, .inl (fun _ => 0))), (h6, .inr (5, [.ref (u6 0), .ref (u6 1), .ref (u6 2), .int 0, .ref (u6 3), .int 0, .int 0, .int 0, .int 0, .ref (u6 4), .int 0, .ref (u6 5), .int 0, .ref (u6 6), .int 0, .int 0, .ref (u6 7), .int 0, .int 0, .int 0, .int 0, .int 0, .int 0, .ref (u6 8), .ref (u6 9), .int 0, .int 0, .ref (u6 10), .ref (u6 11), .ref (u6 12), .ref (u6 13)])), (u6 0, .inl (iA, 132, .inl now0)), (u6 1, .inl (iA, 132, .inl (fun _ => 0))), (u6 2, .inl (iA, 132, .inl (fun _ => 0))), (u6 3, .inl (iA, 8, .inl (fun _ => 0))), (u6 4, .inl (iA, 10, .inl (fun _ => 0))), (u6 5, .inl (iA, 5, .inl (fun _ => 0))), (u6 6, .inl (iA, 660, .inl (fun _ => 0))), (u6 7, .inl (iA, 120, .inl (fun _ => 0))), (u6 8, .inl (iD, 7, .inr (.inr (.inr (.inr (refsOf (GG D iA iB iC iD nl h5 h6 b u5 u6 st ad av) [160, 161, 162, 163, 164, 165, 166])))))), (u6 9, .inl (iA, 480, .inl (fun _ => 0))), (u6 10, .inl (iA, 4, .inl (fun _ => 0))), (u6 11, .inl (iA, 4, .inl (fun _ => 0))), (u6 12, .inl (iA, 160, .inl (fun _ => 0))), (u6 13, .inl (iA, 40, .inl (fun _ => 0)))] := by
  rw [← rf_e5, ← rf_e6, ← rf_e139, ← now0_e]
  rfl
theorem ly_0 : lay 0 = (1, [4, 101, 111, 0, 8, 6, 2, 31, 7, 3, 4, 5, 0]) := by decide +kernel
theorem ga_0 : (GG D iA iB iC iD nl h5 h6 b u5 u6 st ad av).2.1 0 = h5 := rfl
theorem ce_0 : cellOf (GG D iA iB iC iD nl h5 h6 b u5 u6 st ad av) M0 0 = .inr (4, [.ref (u5 0), .ref (u5 14), .int 0, .ref (u5 28), .ref (u5 33), .ref (u5 34), .ref (u5 35), .ref (u5 44), .ref (u5 45), .ref (u5 46), .ref (u5 47), .int (-1)]) := by
  unfold cellOf
  rw [ly_0]
  simp only [fsOf, List.mapIdx_cons, List.mapIdx_nil]
  rfl
theorem ly_1 : lay 1 = (0, [7]) := by decide +kernel
theorem ga_1 : (GG D iA iB iC iD nl h5 h6 b u5 u6 st ad av).2.1 1 = u5 34 := rfl
theorem ce_1 : cellOf (GG D iA iB iC iD nl h5 h6 b u5 u6 st ad av) M0 1 = .inl (iA, 7, .inl (fun _ => 0)) := by
  unfold cellOf
  rw [ly_1]
  rfl
theorem ly_2 : lay 2 = (0, [10]) := by decide +kernel
theorem ga_2 : (GG D iA iB iC iD nl h5 h6 b u5 u6 st ad av).2.1 2 = u5 45 := rfl
theorem ce_2 : cellOf (GG D iA iB iC iD nl h5 h6 b u5 u6 st ad av) M0 2 = .inl (iA, 10, .inl (fun _ => 0)) := by
  unfold cellOf
  rw [ly_2]
  rfl
theorem ly_3 : lay 3 = (0, [5]) := by decide +kernel
theorem ga_3 : (GG D iA iB iC iD nl h5 h6 b u5 u6 st ad av).2.1 3 = u5 46 := rfl
theorem ce_3 : cellOf (GG D iA iB iC iD nl h5 h6 b u5 u6 st ad av) M0 3 = .inl (iA, 5, .inl (fun _ => 0)) := by
  unfold cellOf
  rw [ly_3]
  rfl
theorem ly_4 : lay 4 = (0, [10]) := by decide +kernel
theorem ga_4 : (GG D iA iB iC iD nl h5 h6 b u5 u6 st ad av).2.1 4 = u5 47 := rfl
theorem ce_4 : cellOf (GG D iA iB iC iD nl h5 h6 b u5 u6 st ad av) M0 4 = .inl (iA, 10, .inl (fun _ => 0)) := by
  unfold cellOf
  rw [ly_4]
  rfl
theorem ly_5 : lay 5 = (2, [120, 122, 124, 126]) := by decide +kernel
theorem ga_5 : (GG D iA iB iC iD nl h5 h6 b u5 u6 st ad av).2.1 5 = u5 33 := rfl
theorem ce_5 : cellOf (GG D iA iB iC iD nl h5 h6 b u5 u6 st ad av) M0 5 = .inl (iB, 4, .inr (.inr (.inr (.inr (refsOf (GG D iA iB iC iD nl h5 h6 b u5 u6 st ad av) [120, 122, 124, 126]))))) := by
  unfold cellOf
  rw [ly_5]
  rfl
theorem ly_6 : lay 6 = (3, [40, 50, 60, 70, 80]) := by decide +kernel
theorem ga_6 : (GG D iA iB iC iD nl h5 h6 b u5 u6 st ad av).2.1 6 = u5 44 := rfl
theorem ce_6 : cellOf (GG D iA iB iC iD nl h5 h6 b u5 u6 st ad av) M0 6 = .inl (iC, 5, .inr (.inr (.inr (.inr (refsOf (GG D iA iB iC iD nl h5 h6 b u5 u6 st ad av) [40, 50, 60, 70, 80]))))) := by
  unfold cellOf
  rw [ly_6]
  rfl
theorem ly_7 : lay 7 = (1, [3, 92, 0, 93, 94, 95, 0, 0]) := by decide +kernel
theorem ga_7 : (GG D iA iB iC iD nl h5 h6 b u5 u6 st ad av).2.1 7 = u5 28 := rfl
theorem ce_7 : cellOf (GG D iA iB iC iD nl h5 h6 b u5 u6 st ad av) M0 7 = .inr (3, [.ref (u5 29), .int 0, .ref (u5 30), .ref (u5 31), .ref (u5 32), .int 0, .int 0]) := by
  unfold cellOf
  rw [ly_7]
  simp only [fsOf, List.mapIdx_cons, List.mapIdx_nil]
  rfl
theorem ly_10 : lay 10 = (1, [1, 0, 12, 13, 14, 15, 16, 17, 18, 19, 0, 0, 0, 0, 0, 0]) := by decide +kernel
theorem ga_10 : (GG D iA iB iC iD nl h5 h6 b u5 u6 st ad av).2.1 10 = u5 1 := rfl
theorem ce_10 : cellOf (GG D iA iB iC iD nl h5 h6 b u5 u6 st ad av) M0 10 = .inr (1, [.int 0, .ref (u5 2), .ref (u5 3), .ref (u5 4), .ref (u5 5), .ref (u5 6), .ref (u5 7), .ref (u5 8), .ref (u5 9), .int 0, .int 12, .int 2, .int (-1), .int 0, .int 0]) := by
  unfold cellOf
  rw [ly_10]
  simp only [fsOf, List.mapIdx_cons, List.mapIdx_nil]
  rfl
theorem ly_11 : lay 11 = (0, [10]) := by decide +kernel
theorem ga_11 : (GG D iA iB iC iD nl h5 h6 b u5 u6 st ad av).2.1 11 = u5 2 := rfl
theorem ce_11 : cellOf (GG D iA iB iC iD nl h5 h6 b u5 u6 st ad av) M0 11 = .inl (iA, 10, .inl (fun _ => 0)) := by
  unfold cellOf
  rw [ly_11]
  rfl
theorem ly_12 : lay 12 = (0, [10]) := by decide +kernel
theorem ga_12 : (GG D iA iB iC iD nl h5 h6 b u5 u6 st ad av).2.1 12 = u5 3 := rfl
theorem ce_12 : cellOf (GG D iA iB iC iD nl h5 h6 b u5 u6 st ad av) M0 12 = .inl (iA, 10, .inl (fun _ => 0)) := by
  unfold cellOf
  rw [ly_12]
  rfl
theorem ly_13 : lay 13 = (0, [10]) := by decide +kernel
theorem ga_13 : (GG D iA iB iC iD nl h5 h6 b u5 u6 st ad av).2.1 13 = u5 4 := rfl
theorem ce_13 : cellOf (GG D iA iB iC iD nl h5 h6 b u5 u6 st ad av) M0 13 = .inl (iA, 10, .inl (fun _ => 0)) := by
  unfold cellOf
  rw [ly_13]
  rfl
theorem ly_14 : lay 14 = (0, [10]) := by decide +kernel
theorem ga_14 : (GG D iA iB iC iD nl h5 h6 b u5 u6 st ad av).2.1 14 = u5 5 := rfl
theorem ce_14 : cellOf (GG D iA iB iC iD nl h5 h6 b u5 u6 st ad av) M0 14 = .inl (iA, 10, .inl (fun _ => 0)) := by
  unfold cellOf
  rw [ly_14]
  rfl
theorem ly_15 : lay 15 = (0, [10]) := by decide +kernel
theorem ga_15 : (GG D iA iB iC iD nl h5 h6 b u5 u6 st ad av).2.1 15 = u5 6 := rfl
theorem ce_15 : cellOf (GG D iA iB iC iD nl h5 h6 b u5 u6 st ad av) M0 15 = .inl (iA, 10, .inl (fun _ => 0)) := by
  unfold cellOf
  rw [ly_15]
  rfl
theorem ly_16 : lay 16 = (0, [10]) := by decide +kernel
theorem ga_16 : (GG D iA iB iC iD nl h5 h6 b u5 u6 st ad av).2.1 16 = u5 7 := rfl
theorem ce_16 : cellOf (GG D iA iB iC iD nl h5 h6 b u5 u6 st ad av) M0 16 = .inl (iA, 10, .inl (fun _ => 0)) := by
  unfold cellOf
  rw [ly_16]
  rfl
theorem ly_17 : lay 17 = (0, [10]) := by decide +kernel
theorem ga_17 : (GG D iA iB iC iD nl h5 h6 b u5 u6 st ad av).2.1 17 = u5 8 := rfl
theorem ce_17 : cellOf (GG D iA iB iC iD nl h5 h6 b u5 u6 st ad av) M0 17 = .inl (iA, 10, .inl (fun _ => 0)) := by
  unfold cellOf
  rw [ly_17]
  rfl
theorem ly_18 : lay 18 = (0, [8]) := by decide +kernel
theorem ga_18 : (GG D iA iB iC iD nl h5 h6 b u5 u6 st ad av).2.1 18 = u5 9 := rfl
theorem ce_18 : cellOf (GG D iA iB iC iD nl h5 h6 b u5 u6 st ad av) M0 18 = .inl (iA, 8, .inl (fun _ => 0)) := by
  unfold cellOf
  rw [ly_18]
  rfl
theorem ly_20 : lay 20 = (1, [1, 0, 22, 23, 24, 25, 26, 27, 28, 29, 0, 0, 0, 0, 0, 0]) := by decide +kernel
theorem ga_20 : (GG D iA iB iC iD nl h5 h6 b u5 u6 st ad av).2.1 20 = u5 15 := rfl
theorem ce_20 : cellOf (GG D iA iB iC iD nl h5 h6 b u5 u6 st ad av) M0 20 = .inr (1, [.int 0, .ref (u5 16), .ref (u5 17), .ref (u5 18), .ref (u5 19), .ref (u5 20), .ref (u5 21), .ref (u5 22), .ref (u5 23), .int 0, .int 12, .int 2, .int (-1), .int 0, .int 0]) := by
  unfold cellOf
  rw [ly_20]
  simp only [fsOf, List.mapIdx_cons, List.mapIdx_nil]
  rfl
theorem ly_21 : lay 21 = (0, [10]) := by decide +kernel
theorem ga_21 : (GG D iA iB iC iD nl h5 h6 b u5 u6 st ad av).2.1 21 = u5 16 := rfl
theorem ce_21 : cellOf (GG D iA iB iC iD nl h5 h6 b u5 u6 st ad av) M0 21 = .inl (iA, 10, .inl (fun _ => 0)) := by
  unfold cellOf
  rw [ly_21]
  rfl
theorem ly_22 : lay 22 = (0, [10]) := by decide +kernel
theorem ga_22 : (GG D iA iB iC iD nl h5 h6 b u5 u6 st ad av).2.1 22 = u5 17 := rfl
theorem ce_22 : cellOf (GG D iA iB iC iD nl h5 h6 b u5 u6 st ad av) M0 22 = .inl (iA, 10, .inl (fun _ => 0)) := by
  unfold cellOf
  rw [ly_22]
  rfl
theorem ly_23 : lay 23 = (0, [10]) := by decide +kernel
theorem ga_23 : (GG D iA iB iC iD nl h5 h6 b u5 u6 st ad av).2.1 23 = u5 18 := rfl
theorem ce_23 : cellOf (GG D iA iB iC iD nl h5 h6 b u5 u6 st ad av) M0 23 = .inl (iA, 10, .inl (fun _ => 0)) := by
  unfold cellOf
  rw [ly_23]
  rfl
theorem ly_24 : lay 24 = (0, [10]) := by decide +kernel
theorem ga_24 : (GG D iA iB iC iD nl h5 h6 b u5 u6 st ad av).2.1 24 = u5 19 := rfl
theorem ce_24 : cellOf (GG D iA iB iC iD nl h5 h6 b u5 u6 st ad av) M0 24 = .inl (iA, 10, .inl (fun _ => 0)) := by
  unfold cellOf
  rw [ly_24]
  rfl
theorem ly_25 : lay 25 = (0, [10]) := by decide +kernel
theorem ga_25 : (GG D iA iB iC iD nl h5 h6 b u5 u6 st ad av).2.1 25 = u5 20 := rfl
theorem ce_25 : cellOf (GG D iA iB iC iD nl h5 h6 b u5 u6 st ad av) M0 25 = .inl (iA, 10, .inl (fun _ => 0)) := by
  unfold cellOf
  rw [ly_25]
  rfl
theorem ly_26 : lay 26 = (0, [10]) := by decide +kernel
theorem ga_26 : (GG D iA iB iC iD nl h5 h6 b u5 u6 st ad av).2.1 26 = u5 21 := rfl
theorem ce_26 : cellOf (GG D iA iB iC iD nl h5 h6 b u5 u6 st ad av) M0 26 = .inl (iA, 10, .inl (fun _ => 0)) := by
  unfold cellOf
  rw [ly_26]
  rfl
theorem ly_27 : lay 27 = (0, [10]) := by decide +kernel
theorem ga_27 : (GG D iA iB iC iD nl h5 h6 b u5 u6 st ad av).2.1 27 = u5 22 := rfl
theorem ce_27 : cellOf (GG D iA iB iC iD nl h5 h6 b u5 u6 st ad av) M0 27 = .inl (iA, 10, .inl (fun _ => 0)) := by
  unfold cellOf
  rw [ly_27]
  rfl
theorem ly_28 : lay 28 = (0, [8]) := by decide +kernel
theorem ga_28 : (GG D iA iB iC iD nl h5 h6 b u5 u6 st ad av).2.1 28 = u5 23 := rfl
theorem ce_28 : cellOf (GG D iA iB iC iD nl h5 h6 b u5 u6 st ad av) M0 28 = .inl (iA, 8, .inl (fun _ => 0)) := by
  unfold cellOf
  rw [ly_28]
  rfl
theorem ly_30 : lay 30 = (1, [1, 0, 32, 33, 34, 35, 36, 37, 38, 39, 0, 0, 0, 0, 0, 0]) := by decide +kernel
theorem ga_30 : (GG D iA iB iC iD nl h5 h6 b u5 u6 st ad av).2.1 30 = u5 35 := rfl
theorem ce_30 : cellOf (GG D iA iB iC iD nl h5 h6 b u5 u6 st ad av) M0 30 = .inr (1, [.int 0, .ref (u5 36), .ref (u5 37), .ref (u5 38), .ref (u5 39), .ref (u5 40), .ref (u5 41), .ref (u5 42), .ref (u5 43), .int 0, .int 12, .int 2, .int (-1), .int 0, .int 0]) := by
  unfold cellOf
  rw [ly_30]
  simp only [fsOf, List.mapIdx_cons, List.mapIdx_nil]
  rfl
theorem ly_31 : lay 31 = (0, [10]) := by decide +kernel
theorem ga_31 : (GG D iA iB iC iD nl h5 h6 b u5 u6 st ad av).2.1 31 = u5 36 := rfl
theorem ce_31 : cellOf (GG D iA iB iC iD nl h5 h6 b u5 u6 st ad av) M0 31 = .inl (iA, 10, .inl (fun _ => 0)) := by
  unfold cellOf
  rw [ly_31]
  rfl
theorem ly_32 : lay 32 = (0, [10]) := by decide +kernel
theorem ga_32 : (GG D iA iB iC iD nl h5 h6 b u5 u6 st ad av).2.1 32 = u5 37 := rfl
theorem ce_32 : cellOf (GG D iA iB iC iD nl h5 h6 b u5 u6 st ad av) M0 32 = .inl (iA, 10, .inl (fun _ => 0)) := by
  unfold cellOf
  rw [ly_32]
  rfl
theorem ly_33 : lay 33 = (0, [10]) := by decide +kernel
theorem ga_33 : (GG D iA iB iC iD nl h5 h6 b u5 u6 st ad av).2.1 33 = u5 38 := rfl
theorem ce_33 : cellOf (GG D iA iB iC iD nl h5 h6 b u5 u6 st ad av) M0 33 = .inl (iA, 10, .inl (fun _ => 0)) := by
  unfold cellOf
  rw [ly_33]
  rfl
theorem ly_34 : lay 34 = (0, [10]) := by decide +kernel
theorem ga_34 : (GG D iA iB iC iD nl h5 h6 b u5 u6 st ad av).2.1 34 = u5 39 := rfl
theorem ce_34 : cellOf (GG D iA iB iC iD nl h5 h6 b u5 u6 st ad av) M0 34 = .inl (iA, 10, .inl (fun _ => 0)) := by
  unfold cellOf
  rw [ly_34]
  rfl
theorem ly_35 : lay 35 = (0, [10]) := by decide +kernel
theorem ga_35 : (GG D iA iB iC iD nl h5 h6 b u5 u6 st ad av).2.1 35 = u5 40 := rfl
theorem ce_35 : cellOf (GG D iA iB iC iD nl h5 h6 b u5 u6 st ad av) M0 35 = .inl (iA, 10, .inl (fun _ => 0)) := by
  unfold cellOf
  rw [ly_35]
  rfl
theorem ly_36 : lay 36 = (0, [10]) := by decide +kernel
theorem ga_36 : (GG D iA iB iC iD nl h5 h6 b u5 u6 st ad av).2.1 36 = u5 41 := rfl
theorem ce_36 : cellOf (GG D iA iB iC iD nl h5 h6 b u5 u6 st ad av) M0 36 = .inl (iA, 10, .inl (fun _ => 0)) := by
  unfold cellOf
  rw [ly_36]
  rfl
theorem ly_37 : lay 37 = (0, [10]) := by decide +kernel
theorem ga_37 : (GG D iA iB iC iD nl h5 h6 b u5 u6 st ad av).2.1 37 = u5 42 := rfl
theorem ce_37 : cellOf (GG D iA iB iC iD nl h5 h6 b u5 u6 st ad av) M0 37 = .inl (iA, 10, .inl (fun _ => 0)) := by
  unfold cellOf
  rw [ly_37]
  rfl
theorem ly_38 : lay 38 = (0, [8]) := by decide +kernel
theorem ga_38 : (GG D iA iB iC iD nl h5 h6 b u5 u6 st ad av).2.1 38 = u5 43 := rfl
theorem ce_38 : cellOf (GG D iA iB iC iD nl h5 h6 b u5 u6 st ad av) M0 38 = .inl (iA, 8, .inl (fun _ => 0)) := by
  unfold cellOf
  rw [ly_38]
  rfl
theorem ly_40 : lay 40 = (1, [1, 0, 42, 43, 44, 45, 46, 47, 48, 49, 0, 0, 0, 0, 0, 0]) := by decide +kernel
theorem ga_40 : (GG D iA iB iC iD nl h5 h6 b u5 u6 st ad av).2.1 40 = u5 56 := rfl
theorem ce_40 : cellOf (GG D iA iB iC iD nl h5 h6 b u5 u6 st ad av) M0 40 = .inr (1, [.int 0, .ref (u5 57), .ref (u5 58), .ref (u5 59), .ref (u5 60), .ref (u5 61), .ref (u5 62), .ref (u5 63), .ref (u5 64), .int 0, .int 12, .int 2, .int (-1), .int 0, .int 0]) := by
  unfold cellOf
  rw [ly_40]
  simp only [fsOf, List.mapIdx_cons, List.mapIdx_nil]
  rfl
theorem ly_41 : lay 41 = (0, [10]) := by decide +kernel
theorem ga_41 : (GG D iA iB iC iD nl h5 h6 b u5 u6 st ad av).2.1 41 = u5 57 := rfl
theorem ce_41 : cellOf (GG D iA iB iC iD nl h5 h6 b u5 u6 st ad av) M0 41 = .inl (iA, 10, .inl (fun _ => 0)) := by
  unfold cellOf
  rw [ly_41]
  rfl
theorem ly_42 : lay 42 = (0, [10]) := by decide +kernel
theorem ga_42 : (GG D iA iB iC iD nl h5 h6 b u5 u6 st ad av).2.1 42 = u5 58 := rfl
theorem ce_42 : cellOf (GG D iA iB iC iD nl h5 h6 b u5 u6 st ad av) M0 42 = .inl (iA, 10, .inl (fun _ => 0)) := by
  unfold cellOf
  rw [ly_42]
  rfl
theorem ly_43 : lay 43 = (0, [10]) := by decide +kernel
theorem ga_43 : (GG D iA iB iC iD nl h5 h6 b u5 u6 st ad av).2.1 43 = u5 59 := rfl
theorem ce_43 : cellOf (GG D iA iB iC iD nl h5 h6 b u5 u6 st ad av) M0 43 = .inl (iA, 10, .inl (fun _ => 0)) := by
  unfold cellOf
  rw [ly_43]
  rfl
theorem ly_44 : lay 44 = (0, [10]) := by decide +kernel
theorem ga_44 : (GG D iA iB iC iD nl h5 h6 b u5 u6 st ad av).2.1 44 = u5 60 := rfl
theorem ce_44 : cellOf (GG D iA iB iC iD nl h5 h6 b u5 u6 st ad av) M0 44 = .inl (iA, 10, .inl (fun _ => 0)) := by
  unfold cellOf
  rw [ly_44]
  rfl
theorem ly_45 : lay 45 = (0, [10]) := by decide +kernel
theorem ga_45 : (GG D iA iB iC iD nl h5 h6 b u5 u6 st ad av).2.1 45 = u5 61 := rfl
theorem ce_45 : cellOf (GG D iA iB iC iD nl h5 h6 b u5 u6 st ad av) M0 45 = .inl (iA, 10, .inl (fun _ => 0)) := by
  unfold cellOf
  rw [ly_45]
  rfl
theorem ly_46 : lay 46 = (0, [10]) := by decide +kernel
theorem ga_46 : (GG D iA iB iC iD nl h5 h6 b u5 u6 st ad av).2.1 46 = u5 62 := rfl
theorem ce_46 : cellOf (GG D iA iB iC iD nl h5 h6 b u5 u6 st ad av) M0 46 = .inl (iA, 10, .inl (fun _ => 0)) := by
  unfold cellOf
  rw [ly_46]
  rfl
theorem ly_47 : lay 47 = (0, [10]) := by decide +kernel
theorem ga_47 : (GG D iA iB iC iD nl h5 h6 b u5 u6 st ad av).2.1 47 = u5 63 := rfl
theorem ce_47 : cellOf (GG D iA iB iC iD nl h5 h6 b u5 u6 st ad av) M0 47 = .inl (iA, 10, .inl (fun _ => 0)) := by
  unfold cellOf
  rw [ly_47]
  rfl
theorem ly_48 : lay 48 = (0, [8]) := by decide +kernel
theorem ga_48 : (GG D iA iB iC iD nl h5 h6 b u5 u6 st ad av).2.1 48 = u5 64 := rfl
theorem ce_48 : cellOf (GG D iA iB iC iD nl h5 h6 b u5 u6 st ad av) M0 48 = .inl (iA, 8, .inl (fun _ => 0)) := by
  unfold cellOf
  rw [ly_48]
  rfl
theorem ly_50 : lay 50 = (1, [1, 0, 52, 53, 54, 55, 56, 57, 58, 59, 0, 0, 0, 0, 0, 0]) := by decide +kernel
theorem ga_50 : (GG D iA iB iC iD nl h5 h6 b u5 u6 st ad av).2.1 50 = u5 65 := rfl
theorem ce_50 : cellOf (GG D iA iB iC iD nl h5 h6 b u5 u6 st ad av) M0 50 = .inr (1, [.int 0, .ref (u5 66), .ref (u5 67), .ref (u5 68), .ref (u5 69), .ref (u5 70), .ref (u5 71), .ref (u5 72), .ref (u5 73), .int 0, .int 12, .int 2, .int (-1), .int 0, .int 0]) := by
  unfold cellOf
  rw [ly_50]
  simp only [fsOf, List.mapIdx_cons, List.mapIdx_nil]
  rfl
theorem ly_51 : lay 51 = (0, [10]) := by decide +kernel
theorem ga_51 : (GG D iA iB iC iD nl h5 h6 b u5 u6 st ad av).2.1 51 = u5 66 := rfl
theorem ce_51 : cellOf (GG D iA iB iC iD nl h5 h6 b u5 u6 st ad av) M0 51 = .inl (iA, 10, .inl (fun _ => 0)) := by
  unfold cellOf
  rw [ly_51]
  rfl
theorem ly_52 : lay 52 = (0, [10]) := by decide +kernel
theorem ga_52 : (GG D iA iB iC iD nl h5 h6 b u5 u6 st ad av).2.1 52 = u5 67 := rfl
theorem ce_52 : cellOf (GG D iA iB iC iD nl h5 h6 b u5 u6 st ad av) M0 52 = .inl (iA, 10, .inl (fun _ => 0)) := by
  unfold cellOf
  rw [ly_52]
  rfl
theorem ly_53 : lay 53 = (0, [10]) := by decide +kernel
theorem ga_53 : (GG D iA iB iC iD nl h5 h6 b u5 u6 st ad av).2.1 53 = u5 68 := rfl
theorem ce_53 : cellOf (GG D iA iB iC iD nl h5 h6 b u5 u6 st ad av) M0 53 = .inl (iA, 10, .inl (fun _ => 0)) := by
  unfold cellOf
  rw [ly_53]
  rfl
theorem ly_54 : lay 54 = (0, [10]) := by decide +kernel
theorem ga_54 : (GG D iA iB iC iD nl h5 h6 b u5 u6 st ad av).2.1 54 = u5 69 := rfl
theorem ce_54 : cellOf (GG D iA iB iC iD nl h5 h6 b u5 u6 st ad av) M0 54 = .inl (iA, 10, .inl (fun _ => 0)) := by
  unfold cellOf
  rw [ly_54]
  rfl
theorem ly_55 : lay 55 = (0, [10]) := by decide +kernel
theorem ga_55 : (GG D iA iB iC iD nl h5 h6 b u5 u6 st ad av).2.1 55 = u5 70 := rfl
theorem ce_55 : cellOf (GG D iA iB iC iD nl h5 h6 b u5 u6 st ad av) M0 55 = .inl (iA, 10, .inl (fun _ => 0)) := by
  unfold cellOf
  rw [ly_55]
  rfl
theorem ly_56 : lay 56 = (0, [10]) := by decide +kernel
theorem ga_56 : (GG D iA iB iC iD nl h5 h6 b u5 u6 st ad av).2.1 56 = u5 71 := rfl
theorem ce_56 : cellOf (GG D iA iB iC iD nl h5 h6 b u5 u6 st ad av) M0 56 = .inl (iA, 10, .inl (fun _ => 0)) := by
  unfold cellOf
  rw [ly_56]
  rfl
theorem ly_57 : lay 57 = (0, [10]) := by decide +kernel
theorem ga_57 : (GG D iA iB iC iD nl h5 h6 b u5 u6 st ad av).2.1 57 = u5 72 := rfl
theorem ce_57 : cellOf (GG D iA iB iC iD nl h5 h6 b u5 u6 st ad av) M0 57 = .inl (iA, 10, .inl (fun _ => 0)) := by
  unfold cellOf
  rw [ly_57]
  rfl
theorem ly_58 : lay 58 = (0, [8]) := by decide +kernel
theorem ga_58 : (GG D iA iB iC iD nl h5 h6 b u5 u6 st ad av).2.1 58 = u5 73 := rfl
theorem ce_58 : cellOf (GG D iA iB iC iD nl h5 h6 b u5 u6 st ad av) M0 58 = .inl (iA, 8, .inl (fun _ => 0)) := by
  unfold cellOf
  rw [ly_58]
  rfl
theorem ly_60 : lay 60 = (1, [1, 0, 62, 63, 64, 65, 66, 67, 68, 69, 0, 0, 0, 0, 0, 0]) := by decide +kernel
theorem ga_60 : (GG D iA iB iC iD nl h5 h6 b u5 u6 st ad av).2.1 60 = u5 74 := rfl
theorem ce_60 : cellOf (GG D iA iB iC iD nl h5 h6 b u5 u6 st ad av) M0 60 = .inr (1, [.int 0, .ref (u5 75), .ref (u5 76), .ref (u5 77), .ref (u5 78), .ref (u5 79), .ref (u5 80), .ref (u5 81), .ref (u5 82), .int 0, .int 12, .int 2, .int (-1), .int 0, .int 0]) := by
  unfold cellOf
  rw [ly_60]
  simp only [fsOf, List.mapIdx_cons, List.mapIdx_nil]
  rfl
theorem ly_61 : lay 61 = (0, [10]) := by decide +kernel
theorem ga_61 : (GG D iA iB iC iD nl h5 h6 b u5 u6 st ad av).2.1 61 = u5 75 := rfl
theorem ce_61 : cellOf (GG D iA iB iC iD nl h5 h6 b u5 u6 st ad av) M0 61 = .inl (iA, 10, .inl (fun _ => 0)) := by
  unfold cellOf
  rw [ly_61]
  rfl
theorem ly_62 : lay 62 = (0, [10]) := by decide +kernel
theorem ga_62 : (GG D iA iB iC iD nl h5 h6 b u5 u6 st ad av).2.1 62 = u5 76 := rfl
theorem ce_62 : cellOf (GG D iA iB iC iD nl h5 h6 b u5 u6 st ad av) M0 62 = .inl (iA, 10, .inl (fun _ => 0)) := by
  unfold cellOf
  rw [ly_62]
  rfl
theorem ly_63 : lay 63 = (0, [10]) := by decide +kernel
theorem ga_63 : (GG D iA iB iC iD nl h5 h6 b u5 u6 st ad av).2.1 63 = u5 77 := rfl
theorem ce_63 : cellOf (GG D iA iB iC iD nl h5 h6 b u5 u6 st ad av) M0 63 = .inl (iA, 10, .inl (fun _ => 0)) := by
  unfold cellOf
  rw [ly_63]
  rfl
theorem ly_64 : lay 64 = (0, [10]) := by decide +kernel
theorem ga_64 : (GG D iA iB iC iD nl h5 h6 b u5 u6 st ad av).2.1 64 = u5 78 := rfl
theorem ce_64 : cellOf (GG D iA iB iC iD nl h5 h6 b u5 u6 st ad av) M0 64 = .inl (iA, 10, .inl (fun _ => 0)) := by
  unfold cellOf
  rw [ly_64]
  rfl
theorem ly_65 : lay 65 = (0, [10]) := by decide +kernel
theorem ga_65 : (GG D iA iB iC iD nl h5 h6 b u5 u6 st ad av).2.1 65 = u5 79 := rfl
theorem ce_65 : cellOf (GG D iA iB iC iD nl h5 h6 b u5 u6 st ad av) M0 65 = .inl (iA, 10, .inl (fun _ => 0)) := by
  unfold cellOf
  rw [ly_65]
  rfl
theorem ly_66 : lay 66 = (0, [10]) := by decide +kernel
theorem ga_66 : (GG D iA iB iC iD nl h5 h6 b u5 u6 st ad av).2.1 66 = u5 80 := rfl
theorem ce_66 : cellOf (GG D iA iB iC iD nl h5 h6 b u5 u6 st ad av) M0 66 = .inl (iA, 10, .inl (fun _ => 0)) := by
  unfold cellOf
  rw [ly_66]
  rfl
theorem ly_67 : lay 67 = (0, [10]) := by decide +kernel
theorem ga_67 : (GG D iA iB iC iD nl h5 h6 b u5 u6 st ad av).2.1 67 = u5 81 := rfl
theorem ce_67 : cellOf (GG D iA iB iC iD nl h5 h6 b u5 u6 st ad av) M0 67 = .inl (iA, 10, .inl (fun _ => 0)) := by
  unfold cellOf
  rw [ly_67]
  rfl
theorem ly_68 : lay 68 = (0, [8]) := by decide +kernel
theorem ga_68 : (GG D iA iB iC iD nl h5 h6 b u5 u6 st ad av).2.1 68 = u5 82 := rfl
theorem ce_68 : cellOf (GG D iA iB iC iD nl h5 h6 b u5 u6 st ad av) M0 68 = .inl (iA, 8, .inl (fun _ => 0)) := by
  unfold cellOf
  rw [ly_68]
  rfl
theorem ly_70 : lay 70 = (1, [1, 0, 72, 73, 74, 75, 76, 77, 78, 79, 0, 0, 0, 0, 0, 0]) := by decide +kernel
theorem ga_70 : (GG D iA iB iC iD nl h5 h6 b u5 u6 st ad av).2.1 70 = u5 83 := rfl
theorem ce_70 : cellOf (GG D iA iB iC iD nl h5 h6 b u5 u6 st ad av) M0 70 = .inr (1, [.int 0, .ref (u5 84), .ref (u5 85), .ref (u5 86), .ref (u5 87), .ref (u5 88), .ref (u5 89), .ref (u5 90), .ref (u5 91), .int 0, .int 12, .int 2, .int (-1), .int 0, .int 0]) := by
  unfold cellOf
  rw [ly_70]
  simp only [fsOf, List.mapIdx_cons, List.mapIdx_nil]
  rfl
theorem ly_71 : lay 71 = (0, [10]) := by decide +kernel
theorem ga_71 : (GG D iA iB iC iD nl h5 h6 b u5 u6 st ad av).2.1 71 = u5 84 := rfl
theorem ce_71 : cellOf (GG D iA iB iC iD nl h5 h6 b u5 u6 st ad av) M0 71 = .inl (iA, 10, .inl (fun _ => 0)) := by
  unfold cellOf
  rw [ly_71]
  rfl
theorem ly_72 : lay 72 = (0, [10]) := by decide +kernel
theorem ga_72 : (GG D iA iB iC iD nl h5 h6 b u5 u6 st ad av).2.1 72 = u5 85 := rfl
theorem ce_72 : cellOf (GG D iA iB iC iD nl h5 h6 b u5 u6 st ad av) M0 72 = .inl (iA, 10, .inl (fun _ => 0)) := by
  unfold cellOf
  rw [ly_72]
  rfl
theorem ly_73 : lay 73 = (0, [10]) := by decide +kernel
theorem ga_73 : (GG D iA iB iC iD nl h5 h6 b u5 u6 st ad av).2.1 73 = u5 86 := rfl
theorem ce_73 : cellOf (GG D iA iB iC iD nl h5 h6 b u5 u6 st ad av) M0 73 = .inl (iA, 10, .inl (fun _ => 0)) := by
  unfold cellOf
  rw [ly_73]
  rfl
theorem ly_74 : lay 74 = (0, [10]) := by decide +kernel
theorem ga_74 : (GG D iA iB iC iD nl h5 h6 b u5 u6 st ad av).2.1 74 = u5 87 := rfl
theorem ce_74 : cellOf (GG D iA iB iC iD nl h5 h6 b u5 u6 st ad av) M0 74 = .inl (iA, 10, .inl (fun _ => 0)) := by
  unfold cellOf
  rw [ly_74]
  rfl
theorem ly_75 : lay 75 = (0, [10]) := by decide +kernel
theorem ga_75 : (GG D iA iB iC iD nl h5 h6 b u5 u6 st ad av).2.1 75 = u5 88 := rfl
theorem ce_75 : cellOf (GG D iA iB iC iD nl h5 h6 b u5 u6 st ad av) M0 75 = .inl (iA, 10, .inl (fun _ => 0)) := by
  unfold cellOf
  rw [ly_75]
  rfl
theorem ly_76 : lay 76 = (0, [10]) := by decide +kernel
theorem ga_76 : (GG D iA iB iC iD nl h5 h6 b u5 u6 st ad av).2.1 76 = u5 89 := rfl
theorem ce_76 : cellOf (GG D iA iB iC iD nl h5 h6 b u5 u6 st ad av) M0 76 = .inl (iA, 10, .inl (fun _ => 0)) := by
  unfold cellOf
  rw [ly_76]
  rfl
theorem ly_77 : lay 77 = (0, [10]) := by decide +kernel
theorem ga_77 : (GG D iA iB iC iD nl h5 h6 b u5 u6 st ad av).2.1 77 = u5 90 := rfl
theorem ce_77 : cellOf (GG D iA iB iC iD nl h5 h6 b u5 u6 st ad av) M0 77 = .inl (iA, 10, .inl (fun _ => 0)) := by
  unfold cellOf
  rw [ly_77]
  rfl
theorem ly_78 : lay 78 = (0, [8]) := by decide +kernel
theorem ga_78 : (GG D iA iB iC iD nl h5 h6 b u5 u6 st ad av).2.1 78 = u5 91 := rfl
theorem ce_78 : cellOf (GG D iA iB iC iD nl h5 h6 b u5 u6 st ad av) M0 78 = .inl (iA, 8, .inl (fun _ => 0)) := by
  unfold cellOf
  rw [ly_78]
  rfl
theorem ly_80 : lay 80 = (1, [1, 0, 82, 83, 84, 85, 86, 87, 88, 89, 0, 0, 0, 0, 0, 0]) := by decide +kernel
theorem ga_80 : (GG D iA iB iC iD nl h5 h6 b u5 u6 st ad av).2.1 80 = u5 92 := rfl
theorem ce_80 : cellOf (GG D iA iB iC iD nl h5 h6 b u5 u6 st ad av) M0 80 = .inr (1, [.int 0, .ref (u5 93), .ref (u5 94), .ref (u5 95), .ref (u5 96), .ref (u5 97), .ref (u5 98), .ref (u5 99), .ref (u5 100), .int 0, .int 12, .int 2, .int (-1), .int 0, .int 0]) := by
  unfold cellOf
  rw [ly_80]
  simp only [fsOf, List.mapIdx_cons, List.mapIdx_nil]
  rfl
theorem ly_81 : lay 81 = (0, [10]) := by decide +kernel
theorem ga_81 : (GG D iA iB iC iD nl h5 h6 b u5 u6 st ad av).2.1 81 = u5 93 := rfl
theorem ce_81 : cellOf (GG D iA iB iC iD nl h5 h6 b u5 u6 st ad av) M0 81 = .inl (iA, 10, .inl (fun _ => 0)) := by
  unfold cellOf
  rw [ly_81]
  rfl
theorem ly_82 : lay 82 = (0, [10]) := by decide +kernel
theorem ga_82 : (GG D iA iB iC iD nl h5 h6 b u5 u6 st ad av).2.1 82 = u5 94 := rfl
theorem ce_82 : cellOf (GG D iA iB iC iD nl h5 h6 b u5 u6 st ad av) M0 82 = .inl (iA, 10, .inl (fun _ => 0)) := by
  unfold cellOf
  rw [ly_82]
  rfl
theorem ly_83 : lay 83 = (0, [10]) := by decide +kernel
theorem ga_83 : (GG D iA iB iC iD nl h5 h6 b u5 u6 st ad av).2.1 83 = u5 95 := rfl
theorem ce_83 : cellOf (GG D iA iB iC iD nl h5 h6 b u5 u6 st ad av) M0 83 = .inl (iA, 10, .inl (fun _ => 0)) := by
  unfold cellOf
  rw [ly_83]
  rfl
theorem ly_84 : lay 84 = (0, [10]) := by decide +kernel
theorem ga_84 : (GG D iA iB iC iD nl h5 h6 b u5 u6 st ad av).2.1 84 = u5 96 := rfl
theorem ce_84 : cellOf (GG D iA iB iC iD nl h5 h6 b u5 u6 st ad av) M0 84 = .inl (iA, 10, .inl (fun _ => 0)) := by
  unfold cellOf
  rw [ly_84]
  rfl
theorem ly_85 : lay 85 = (0, [10]) := by decide +kernel
theorem ga_85 : (GG D iA iB iC iD nl h5 h6 b u5 u6 st ad av).2.1 85 = u5 97 := rfl
theorem ce_85 : cellOf (GG D iA iB iC iD nl h5 h6 b u5 u6 st ad av) M0 85 = .inl (iA, 10, .inl (fun _ => 0)) := by
  unfold cellOf
  rw [ly_85]
  rfl
theorem ly_86 : lay 86 = (0, [10]) := by decide +kernel
theorem ga_86 : (GG D iA iB iC iD nl h5 h6 b u5 u6 st ad av).2.1 86 = u5 98 := rfl
theorem ce_86 : cellOf (GG D iA iB iC iD nl h5 h6 b u5 u6 st ad av) M0 86 = .inl (iA, 10, .inl (fun _ => 0)) := by
  unfold cellOf
  rw [ly_86]
  rfl
theorem ly_87 : lay 87 = (0, [10]) := by decide +kernel
theorem ga_87 : (GG D iA iB iC iD nl h5 h6 b u5 u6 st ad av).2.1 87 = u5 99 := rfl
theorem ce_87 : cellOf (GG D iA iB iC iD nl h5 h6 b u5 u6 st ad av) M0 87 = .inl (iA, 10, .inl (fun _ => 0)) := by
  unfold cellOf
  rw [ly_87]
  rfl
theorem ly_88 : lay 88 = (0, [8]) := by decide +kernel
theorem ga_88 : (GG D iA iB iC iD nl h5 h6 b u5 u6 st ad av).2.1 88 = u5 100 := rfl
theorem ce_88 : cellOf (GG D iA iB iC iD nl h5 h6 b u5 u6 st ad av) M0 88 = .inl (iA, 8, .inl (fun _ => 0)) := by
  unfold cellOf
  rw [ly_88]
  rfl
theorem ly_91 : lay 91 = (0, [120]) := by decide +kernel
theorem ga_91 : (GG D iA iB iC iD nl h5 h6 b u5 u6 st ad av).2.1 91 = u5 29 := rfl
theorem ce_91 : cellOf (GG D iA iB iC iD nl h5 h6 b u5 u6 st ad av) M0 91 = .inl (iA, 120, .inl (fun _ => 0)) := by
  unfold cellOf
  rw [ly_91]
  rfl
theorem ly_92 : lay 92 = (0, [121]) := by decide +kernel
theorem ga_92 : (GG D iA iB iC iD nl h5 h6 b u5 u6 st ad av).2.1 92 = u5 30 := rfl
theorem ce_92 : cellOf (GG D iA iB iC iD nl h5 h6 b u5 u6 st ad av) M0 92 = .inl (iA, 121, .inl (fun _ => 0)) := by
  unfold cellOf
  rw [ly_92]
  rfl
theorem ly_93 : lay 93 = (0, [121]) := by decide +kernel
theorem ga_93 : (GG D iA iB iC iD nl h5 h6 b u5 u6 st ad av).2.1 93 = u5 31 := rfl
theorem ce_93 : cellOf (GG D iA iB iC iD nl h5 h6 b u5 u6 st ad av) M0 93 = .inl (iA, 121, .inl (fun _ => 0)) := by
  unfold cellOf
  rw [ly_93]
  rfl
theorem ly_94 : lay 94 = (0, [121]) := by decide +kernel
theorem ga_94 : (GG D iA iB iC iD nl h5 h6 b u5 u6 st ad av).2.1 94 = u5 32 := rfl
theorem ce_94 : cellOf (GG D iA iB iC iD nl h5 h6 b u5 u6 st ad av) M0 94 = .inl (iA, 121, .inl (fun _ => 0)) := by
  unfold cellOf
  rw [ly_94]
  rfl
theorem ly_100 : lay 100 = (1, [0, 11, 0, 0, 0, 0, 102, 103, 104, 105]) := by decide +kernel
theorem ga_100 : (GG D iA iB iC iD nl h5 h6 b u5 u6 st ad av).2.1 100 = u5 0 := rfl
theorem ce_100 : cellOf (GG D iA iB iC iD nl h5 h6 b u5 u6 st ad av) M0 100 = .inr (0, [.ref (u5 1), .int 0, .int 1, .int 0, .int 0, .ref (u5 10), .ref (u5 11), .ref (u5 12), .ref (u5 13)]) := by
  unfold cellOf
  rw [ly_100]
  simp only [fsOf, List.mapIdx_cons, List.mapIdx_nil]
  rfl
theorem ly_101 : lay 101 = (0, [12]) := by decide +kernel
theorem ga_101 : (GG D iA iB iC iD nl h5 h6 b u5 u6 st ad av).2.1 101 = u5 10 := rfl
theorem ce_101 : cellOf (GG D iA iB iC iD nl h5 h6 b u5 u6 st ad av) M0 101 = .inl (iA, 12, .inl (fun _ => 0)) := by
  unfold cellOf
  rw [ly_101]
  rfl
theorem ly_102 : lay 102 = (0, [12]) := by decide +kernel
theorem ga_102 : (GG D iA iB iC iD nl h5 h6 b u5 u6 st ad av).2.1 102 = u5 11 := rfl
theorem ce_102 : cellOf (GG D iA iB iC iD nl h5 h6 b u5 u6 st ad av) M0 102 = .inl (iA, 12, .inl (fun _ => 0)) := by
  unfold cellOf
  rw [ly_102]
  rfl
theorem ly_103 : lay 103 = (0, [12]) := by decide +kernel
theorem ga_103 : (GG D iA iB iC iD nl h5 h6 b u5 u6 st ad av).2.1 103 = u5 12 := rfl
theorem ce_103 : cellOf (GG D iA iB iC iD nl h5 h6 b u5 u6 st ad av) M0 103 = .inl (iA, 12, .inl (fun _ => 0)) := by
  unfold cellOf
  rw [ly_103]
  rfl
theorem ly_104 : lay 104 = (0, [10]) := by decide +kernel
theorem ga_104 : (GG D iA iB iC iD nl h5 h6 b u5 u6 st ad av).2.1 104 = u5 13 := rfl
theorem ce_104 : cellOf (GG D iA iB iC iD nl h5 h6 b u5 u6 st ad av) M0 104 = .inl (iA, 10, .inl (spF 10)) := by
  unfold cellOf
  rw [ly_104]
  rfl
theorem ly_110 : lay 110 = (1, [0, 21, 0, 0, 0, 0, 112, 113, 114, 115]) := by decide +kernel
theorem ga_110 : (GG D iA iB iC iD nl h5 h6 b u5 u6 st ad av).2.1 110 = u5 14 := rfl
theorem ce_110 : cellOf (GG D iA iB iC iD nl h5 h6 b u5 u6 st ad av) M0 110 = .inr (0, [.ref (u5 15), .int 0, .int 1, .int 0, .int 0, .ref (u5 24), .ref (u5 25), .ref (u5 26), .ref (u5 27)]) := by
  unfold cellOf
  rw [ly_110]
  simp only [fsOf, List.mapIdx_cons, List.mapIdx_nil]
  rfl
theorem ly_111 : lay 111 = (0, [12]) := by decide +kernel
theorem ga_111 : (GG D iA iB iC iD nl h5 h6 b u5 u6 st ad av).2.1 111 = u5 24 := rfl
theorem ce_111 : cellOf (GG D iA iB iC iD nl h5 h6 b u5 u6 st ad av) M0 111 = .inl (iA, 12, .inl (fun _ => 0)) := by
  unfold cellOf
  rw [ly_111]
  rfl
theorem ly_112 : lay 112 = (0, [12]) := by decide +kernel
theorem ga_112 : (GG D iA iB iC iD nl h5 h6 b u5 u6 st ad av).2.1 112 = u5 25 := rfl
theorem ce_112 : cellOf (GG D iA iB iC iD nl h5 h6 b u5 u6 st ad av) M0 112 = .inl (iA, 12, .inl (fun _ => 0)) := by
  unfold cellOf
  rw [ly_112]
  rfl
theorem ly_113 : lay 113 = (0, [12]) := by decide +kernel
theorem ga_113 : (GG D iA iB iC iD nl h5 h6 b u5 u6 st ad av).2.1 113 = u5 26 := rfl
theorem ce_113 : cellOf (GG D iA iB iC iD nl h5 h6 b u5 u6 st ad av) M0 113 = .inl (iA, 12, .inl (fun _ => 0)) := by
  unfold cellOf
  rw [ly_113]
  rfl
theorem ly_114 : lay 114 = (0, [10]) := by decide +kernel
theorem ga_114 : (GG D iA iB iC iD nl h5 h6 b u5 u6 st ad av).2.1 114 = u5 27 := rfl
theorem ce_114 : cellOf (GG D iA iB iC iD nl h5 h6 b u5 u6 st ad av) M0 114 = .inl (iA, 10, .inl (spF 10)) := by
  unfold cellOf
  rw [ly_114]
  rfl
theorem ly_120 : lay 120 = (1, [2, 0, 0, 122]) := by decide +kernel
theorem ga_120 : (GG D iA iB iC iD nl h5 h6 b u5 u6 st ad av).2.1 120 = u5 48 := rfl
theorem ce_120 : cellOf (GG D iA iB iC iD nl h5 h6 b u5 u6 st ad av) M0 120 = .inr (2, [.int 0, .int 0, .ref (u5 49)]) := by
  unfold cellOf
  rw [ly_120]
  simp only [fsOf, List.mapIdx_cons, List.mapIdx_nil]
  rfl
theorem ly_121 : lay 121 = (0, [40]) := by decide +kernel
theorem ga_121 : (GG D iA iB iC iD nl h5 h6 b u5 u6 st ad av).2.1 121 = u5 49 := rfl
theorem ce_121 : cellOf (GG D iA iB iC iD nl h5 h6 b u5 u6 st ad av) M0 121 = .inl (iA, 40, .inl (fun _ => 0)) := by
  unfold cellOf
  rw [ly_121]
  rfl
theorem ly_122 : lay 122 = (1, [2, 0, 0, 124]) := by decide +kernel
theorem ga_122 : (GG D iA iB iC iD nl h5 h6 b u5 u6 st ad av).2.1 122 = u5 50 := rfl
theorem ce_122 : cellOf (GG D iA iB iC iD nl h5 h6 b u5 u6 st ad av) M0 122 = .inr (2, [.int 0, .int 0, .ref (u5 51)]) := by
  unfold cellOf
  rw [ly_122]
  simp only [fsOf, List.mapIdx_cons, List.mapIdx_nil]
  rfl
theorem ly_123 : lay 123 = (0, [40]) := by decide +kernel
theorem ga_123 : (GG D iA iB iC iD nl h5 h6 b u5 u6 st ad av).2.1 123 = u5 51 := rfl
theorem ce_123 : cellOf (GG D iA iB iC iD nl h5 h6 b u5 u6 st ad av) M0 123 = .inl (iA, 40, .inl (fun _ => 0)) := by
  unfold cellOf
  rw [ly_123]
  rfl
theorem ly_124 : lay 124 = (1, [2, 0, 0, 126]) := by decide +kernel
theorem ga_124 : (GG D iA iB iC iD nl h5 h6 b u5 u6 st ad av).2.1 124 = u5 52 := rfl
theorem ce_124 : cellOf (GG D iA iB iC iD nl h5 h6 b u5 u6 st ad av) M0 124 = .inr (2, [.int 0, .int 0, .ref (u5 53)]) := by
  unfold cellOf
  rw [ly_124]
  simp only [fsOf, List.mapIdx_cons, List.mapIdx_nil]
  rfl
theorem ly_125 : lay 125 = (0, [40]) := by decide +kernel
theorem ga_125 : (GG D iA iB iC iD nl h5 h6 b u5 u6 st ad av).2.1 125 = u5 53 := rfl
theorem ce_125 : cellOf (GG D iA iB iC iD nl h5 h6 b u5 u6 st ad av) M0 125 = .inl (iA, 40, .inl (fun _ => 0)) := by
  unfold cellOf
  rw [ly_125]
  rfl
theorem ly_126 : lay 126 = (1, [2, 0, 0, 128]) := by decide +kernel
theorem ga_126 : (GG D iA iB iC iD nl h5 h6 b u5 u6 st ad av).2.1 126 = u5 54 := rfl
theorem ce_126 : cellOf (GG D iA iB iC iD nl h5 h6 b u5 u6 st ad av) M0 126 = .inr (2, [.int 0, .int 0, .ref (u5 55)]) := by
  unfold cellOf
  rw [ly_126]
  simp only [fsOf, List.mapIdx_cons, List.mapIdx_nil]
  rfl
theorem ly_127 : lay 127 = (0, [40]) := by decide +kernel
theorem ga_127 : (GG D iA iB iC iD nl h5 h6 b u5 u6 st ad av).2.1 127 = u5 55 := rfl
theorem ce_127 : cellOf (GG D iA iB iC iD nl h5 h6 b u5 u6 st ad av) M0 127 = .inl (iA, 40, .inl (fun _ => 0)) := by
  unfold cellOf
  rw [ly_127]
  rfl
theorem ly_130 : lay 130 = (1, [5, 132, 133, 134, 0, 135, 0, 0, 0, 0, 136, 0, 137, 0, 138, 0, 0, 139, 0, 0, 0, 0, 0, 0, 140, 141, 0, 0, 142, 143, 144, 145]) := by decide +kernel
theorem ga_130 : (GG D iA iB iC iD nl h5 h6 b u5 u6 st ad av).2.1 130 = h6 := rfl
theorem ce_130 : cellOf (GG D iA iB iC iD nl h5 h6 b u5 u6 st ad av) M0 130 = .inr (5, [.ref (u6 0), .ref (u6 1), .ref (u6 2), .int 0, .ref (u6 3), .int 0, .int 0, .int 0, .int 0, .ref (u6 4), .int 0, .ref (u6 5), .int 0, .ref (u6 6), .int 0, .int 0, .ref (u6 7), .int 0, .int 0, .int 0, .int 0, .int 0, .int 0, .ref (u6 8), .ref (u6 9), .int 0, .int 0, .ref (u6 10), .ref (u6 11), .ref (u6 12), .ref (u6 13)]) := by
  unfold cellOf
  rw [ly_130]
  simp only [fsOf, List.mapIdx_cons, List.mapIdx_nil]
  rfl
theorem ly_131 : lay 131 = (0, [132]) := by decide +kernel
theorem ga_131 : (GG D iA iB iC iD nl h5 h6 b u5 u6 st ad av).2.1 131 = u6 0 := rfl
theorem ce_131 : cellOf (GG D iA iB iC iD nl h5 h6 b u5 u6 st ad av) M0 131 = .inl (iA, 132, .inl now0) := by
  unfold cellOf
  rw [ly_131]
  rfl
theorem ly_132 : lay 132 = (0, [132]) := by decide +kernel
theorem ga_132 : (GG D iA iB iC iD nl h5 h6 b u5 u6 st ad av).2.1 132 = u6 1 := rfl
theorem ce_132 : cellOf (GG D iA iB iC iD nl h5 h6 b u5 u6 st ad av) M0 132 = .inl (iA, 132, .inl (fun _ => 0)) := by
  unfold cellOf
  rw [ly_132]
  rfl
theorem ly_133 : lay 133 = (0, [132]) := by decide +kernel
theorem ga_133 : (GG D iA iB iC iD nl h5 h6 b u5 u6 st ad av).2.1 133 = u6 2 := rfl
theorem ce_133 : cellOf (GG D iA iB iC iD nl h5 h6 b u5 u6 st ad av) M0 133 = .inl (iA, 132, .inl (fun _ => 0)) := by
  unfold cellOf
  rw [ly_133]
  rfl
theorem ly_134 : lay 134 = (0, [8]) := by decide +kernel
theorem ga_134 : (GG D iA iB iC iD nl h5 h6 b u5 u6 st ad av).2.1 134 = u6 3 := rfl
theorem ce_134 : cellOf (GG D iA iB iC iD nl h5 h6 b u5 u6 st ad av) M0 134 = .inl (iA, 8, .inl (fun _ => 0)) := by
  unfold cellOf
  rw [ly_134]
  rfl
theorem ly_135 : lay 135 = (0, [10]) := by decide +kernel
theorem ga_135 : (GG D iA iB iC iD nl h5 h6 b u5 u6 st ad av).2.1 135 = u6 4 := rfl
theorem ce_135 : cellOf (GG D iA iB iC iD nl h5 h6 b u5 u6 st ad av) M0 135 = .inl (iA, 10, .inl (fun _ => 0)) := by
  unfold cellOf
  rw [ly_135]
  rfl
theorem ly_136 : lay 136 = (0, [5]) := by decide +kernel
theorem ga_136 : (GG D iA iB iC iD nl h5 h6 b u5 u6 st ad av).2.1 136 = u6 5 := rfl
theorem ce_136 : cellOf (GG D iA iB iC iD nl h5 h6 b u5 u6 st ad av) M0 136 = .inl (iA, 5, .inl (fun _ => 0)) := by
  unfold cellOf
  rw [ly_136]
  rfl
theorem ly_137 : lay 137 = (0, [660]) := by decide +kernel
theorem ga_137 : (GG D iA iB iC iD nl h5 h6 b u5 u6 st ad av).2.1 137 = u6 6 := rfl
theorem ce_137 : cellOf (GG D iA iB iC iD nl h5 h6 b u5 u6 st ad av) M0 137 = .inl (iA, 660, .inl (fun _ => 0)) := by
  unfold cellOf
  rw [ly_137]
  rfl
theorem ly_138 : lay 138 = (0, [120]) := by decide +kernel
theorem ga_138 : (GG D iA iB iC iD nl h5 h6 b u5 u6 st ad av).2.1 138 = u6 7 := rfl
theorem ce_138 : cellOf (GG D iA iB iC iD nl h5 h6 b u5 u6 st ad av) M0 138 = .inl (iA, 120, .inl (fun _ => 0)) := by
  unfold cellOf
  rw [ly_138]
  rfl
theorem ly_139 : lay 139 = (4, [160, 161, 162, 163, 164, 165, 166]) := by decide +kernel
theorem ga_139 : (GG D iA iB iC iD nl h5 h6 b u5 u6 st ad av).2.1 139 = u6 8 := rfl
theorem ce_139 : cellOf (GG D iA iB iC iD nl h5 h6 b u5 u6 st ad av) M0 139 = .inl (iD, 7, .inr (.inr (.inr (.inr (refsOf (GG D iA iB iC iD nl h5 h6 b u5 u6 st ad av) [160, 161, 162, 163, 164, 165, 166]))))) := by
  unfold cellOf
  rw [ly_139]
  rfl
theorem ly_140 : lay 140 = (0, [480]) := by decide +kernel
theorem ga_140 : (GG D iA iB iC iD nl h5 h6 b u5 u6 st ad av).2.1 140 = u6 9 := rfl
theorem ce_140 : cellOf (GG D iA iB iC iD nl h5 h6 b u5 u6 st ad av) M0 140 = .inl (iA, 480, .inl (fun _ => 0)) := by
  unfold cellOf
  rw [ly_140]
  rfl
theorem ly_141 : lay 141 = (0, [4]) := by decide +kernel
theorem ga_141 : (GG D iA iB iC iD nl h5 h6 b u5 u6 st ad av).2.1 141 = u6 10 := rfl
theorem ce_141 : cellOf (GG D iA iB iC iD nl h5 h6 b u5 u6 st ad av) M0 141 = .inl (iA, 4, .inl (fun _ => 0)) := by
  unfold cellOf
  rw [ly_141]
  rfl
theorem ly_142 : lay 142 = (0, [4]) := by decide +kernel
theorem ga_142 : (GG D iA iB iC iD nl h5 h6 b u5 u6 st ad av).2.1 142 = u6 11 := rfl
theorem ce_142 : cellOf (GG D iA iB iC iD nl h5 h6 b u5 u6 st ad av) M0 142 = .inl (iA, 4, .inl (fun _ => 0)) := by
  unfold cellOf
  rw [ly_142]
  rfl
theorem ly_143 : lay 143 = (0, [160]) := by decide +kernel
theorem ga_143 : (GG D iA iB iC iD nl h5 h6 b u5 u6 st ad av).2.1 143 = u6 12 := rfl
theorem ce_143 : cellOf (GG D iA iB iC iD nl h5 h6 b u5 u6 st ad av) M0 143 = .inl (iA, 160, .inl (fun _ => 0)) := by
  unfold cellOf
  rw [ly_143]
  rfl
theorem ly_144 : lay 144 = (0, [40]) := by decide +kernel
theorem ga_144 : (GG D iA iB iC iD nl h5 h6 b u5 u6 st ad av).2.1 144 = u6 13 := rfl
theorem ce_144 : cellOf (GG D iA iB iC iD nl h5 h6 b u5 u6 st ad av) M0 144 = .inl (iA, 40, .inl (fun _ => 0)) := by
  unfold cellOf
  rw [ly_144]
  rfl
set_option maxRecDepth 100000 in
set_option maxHeartbeats 16000000 in
theorem wd_ws : wsO (GG D iA iB iC iD nl h5 h6 b u5 u6 st ad av) M0 = [(h5, .inr (4, [.ref (u5 0), .ref (u5 14), .int 0, .ref (u5 28), .ref (u5 33), .ref (u5 34), .ref (u5 35), .ref (u5 44), .ref (u5 45), .ref (u5 46), .ref (u5 47), .int (-1)])), (u5 34, .inl (iA, 7, .inl (fun _ => 0))), (u5 45, .inl (iA, 10, .inl (fun _ => 0))), (u5 46, .inl (iA, 5, .inl (fun _ => 0))), (u5 47, .inl (iA, 10, .inl (fun _ => 0))), (u5 33, .inl (iB, 4, .inr (.inr (.inr (.inr (refsOf (GG D iA iB iC iD nl h5 h6 b u5 u6 st ad av) [120, 122, 124, 126])))))), (u5 44, .inl (iC, 5, .inr (.inr (.inr (.inr (refsOf (GG D iA iB iC iD nl h5 h6 b u5 u6 st ad av) [40, 50, 60, 70, 80])))))), (u5 28, .inr (3, [.ref (u5 29), .int 0, .ref (u5 30), .ref (u5 31), .ref (u5 32), .int 0, .int 0])), (u5 1, .inr (1, [.int 0, .ref (u5 2), .ref (u5 3), .ref (u5 4), .ref (u5 5), .ref (u5 6), .ref (u5 7), .ref (u5 8), .ref (u5 9), .int 0, .int 12, .int 2, .int (-1), .int 0, .int 0])), (u5 2, .inl (iA, 10, .inl (fun _ => 0))), (u5 3, .inl (iA, 10, .inl (fun _ => 0))), (u5 4, .inl (iA, 10, .inl (fun _ => 0))), (u5 5, .inl (iA, 10, .inl (fun _ => 0))), (u5 6, .inl (iA, 10, .inl (fun _ => 0))), (u5 7, .inl (iA, 10, .inl (fun _ => 0))), (u5 8, .inl (iA, 10, .inl (fun _ => 0))), (u5 9, .inl (iA, 8, .inl (fun _ => 0))), (u5 15, .inr (1, [.int 0, .ref (u5 16), .ref (u5 17), .ref (u5 18), .ref (u5 19), .ref (u5 20), .ref (u5 21), .ref (u5 22), .ref (u5 23), .int 0, .int 12, .int 2, .int (-1), .int 0, .int 0])), (u5 16, .inl (iA, 10, .inl (fun _ => 0))), (u5 17, .inl (iA, 10, .inl (fun _ => 0))), (u5 18, .inl (iA, 10, .inl (fun _ => 0))), (u5 19, .inl (iA, 10, .inl (fun _ => 0))), (u5 20, .inl (iA, 10, .inl (fun _ => 0))), (u5 21, .inl (iA, 10, .inl (fun _ => 0))), (u5 22, .inl (iA, 10, .inl (fun _ => 0))), (u5 23, .inl (iA, 8, .inl (fun _ => 0))), (u5 35, .inr (1, [.int 0, .ref (u5 36), .ref (u5 37), .ref (u5 38), .ref (u5 39), .ref (u5 40), .ref (u5 41), .ref (u5 42), .ref (u5 43), .int 0, .int 12, .int 2, .int (-1), .int 0, .int 0])), (u5 36, .inl (iA, 10, .inl (fun _ => 0))), (u5 37, .inl (iA, 10, .inl (fun _ => 0))), (u5 38, .inl (iA, 10, .inl (fun _ => 0))), (u5 39, .inl (iA, 10, .inl (fun _ => 0))), (u5 40, .inl (iA, 10, .inl (fun _ => 0))), (u5 41, .inl (iA, 10, .inl (fun _ => 0))), (u5 42, .inl (iA, 10, .inl (fun _ => 0))), (u5 43, .inl (iA, 8, .inl (fun _ => 0))), (u5 56, .inr (1, [.int 0, .ref (u5 57), .ref (u5 58), .ref (u5 59), .ref (u5 60), .ref (u5 61), .ref (u5 62), .ref (u5 63), .ref (u5 64), .int 0, .int 12, .int 2, .int (-1), .int 0, .int 0])), (u5 57, .inl (iA, 10, .inl (fun _ => 0))), (u5 58, .inl (iA, 10, .inl (fun _ => 0))), (u5 59, .inl (iA, 10, .inl (fun _ => 0))), (u5 60, .inl (iA, 10, .inl (fun _ => 0))), (u5 61, .inl (iA, 10, .inl (fun _ => 0))), (u5 62, .inl (iA, 10, .inl (fun _ => 0))), (u5 63, .inl (iA, 10, .inl (fun _ => 0))), (u5 64, .inl (iA, 8, .inl (fun _ => 0))), (u5 65, .inr (1, [.int 0, .ref (u5 66), .ref (u5 67), .ref (u5 68), .ref (u5 69), .ref (u5 70), .ref (u5 71), .ref (u5 72), .ref (u5 73), .int 0, .int 12, .int 2, .int (-1), .int 0, .int 0])), (u5 66, .inl (iA, 10, .inl (fun _ => 0))), (u5 67, .inl (iA, 10, .inl (fun _ => 0))), (u5 68, .inl (iA, 10, .inl (fun _ => 0))), (u5 69, .inl (iA, 10, .inl (fun _ => 0))), (u5 70, .inl (iA, 10, .inl (fun _ => 0))), (u5 71, .inl (iA, 10, .inl (fun _ => 0))), (u5 72, .inl (iA, 10, .inl (fun _ => 0))), (u5 73, .inl (iA, 8, .inl (fun _ => 0))), (u5 74, .inr (1, [.int 0, .ref (u5 75), .ref (u5 76), .ref (u5 77), .ref (u5 78), .ref (u5 79), .ref (u5 80), .ref (u5 81), .ref (u5 82), .int 0, .int 12, .int 2, .int (-1), .int 0, .int 0])), (u5 75, .inl (iA, 10, .inl (fun _ => 0))), (u5 76, .inl (iA, 10, .inl (fun _ => 0))), (u5 77, .inl (iA, 10, .inl (fun _ => 0))), (u5 78, .inl (iA, 10, .inl (fun _ => 0))), (u5 79, .inl (iA, 10, .inl (fun _ => 0))), (u5 80, .inl (iA, 10, .inl (fun _ => 0))), (u5 81, .inl (iA, 10, .inl (fun _ => 0))), (u5 82, .inl (iA, 8, .inl (fun _ => 0))), (u5 83, .inr (1, [.int 0, .ref (u5 84), .ref (u5 85), .ref (u5 86), .ref (u5 87), .ref (u5 88), .ref (u5 89), .ref (u5 90), .ref (u5 91), .int 0, .int 12, .int 2, .int (-1), .int 0, .int 0])), (u5 84, .inl (iA, 10, .inl (fun _ => 0))), (u5 85, .inl (iA, 10, .inl (fun _ => 0))), (u5 86, .inl (iA, 10, .inl (fun _ => 0))), (u5 87, .inl (iA, 10, .inl (fun _ => 0))), (u5 88, .inl (iA, 10, .inl (fun _ => 0))), (u5 89, .inl (iA, 10, .inl (fun _ => 0))), (u5 90, .inl (iA, 10, .inl (fun _ => 0))), (u5 91, .inl (iA, 8, .inl (fun _ => 0))), (u5 92, .inr (1, [.int 0, .ref (u5 93), .ref (u5 94), .ref (u5 95), .ref (u5 96), .ref (u5 97), .ref (u5 98), .ref (u5 99), .ref (u5 100), .int 0, .int 12, .int 2, .int (-1), .int 0, .int 0])), (u5 93, .inl (iA, 10, .inl (fun _ => 0))), (u5 94, .inl (iA, 10, .inl (fun _ => 0))), (u5 95, .inl (iA, 10, .inl (fun _ => 0))), (u5 96, .inl (iA, 10, .inl (fun _ => 0))), (u5 97, .inl (iA, 10, .inl (fun _ => 0))), (u5 98, .inl (iA, 10, .inl (fun _ => 0))), (u5 99, .inl (iA, 10, .inl (fun _ => 0))), (u5 100, .inl (iA, 8, .inl (fun _ => 0))), (u5 29, .inl (iA, 120, .inl (fun _ => 0))), (u5 30, .inl (iA, 121, .inl (fun _ => 0))), (u5 31, .inl (iA, 121, .inl (fun _ => 0))), (u5 32, .inl (iA, 121, .inl (fun _ => 0))), (u5 0, .inr (0, [.ref (u5 1), .int 0, .int 1, .int 0, .int 0, .ref (u5 10), .ref (u5 11), .ref (u5 12), .ref (u5 13)])), (u5 10, .inl (iA, 12, .inl (fun _ => 0))), (u5 11, .inl (iA, 12, .inl (fun _ => 0))), (u5 12, .inl (iA, 12, .inl (fun _ => 0))), (u5 13, .inl (iA, 10, .inl (spF 10))), (u5 14, .inr (0, [.ref (u5 15), .int 0, .int 1, .int 0, .int 0, .ref (u5 24), .ref (u5 25), .ref (u5 26), .ref (u5 27)])), (u5 24, .inl (iA, 12, .inl (fun _ => 0))), (u5 25, .inl (iA, 12, .inl (fun _ => 0))), (u5 26, .inl (iA, 12, .inl (fun _ => 0))), (u5 27, .inl (iA, 10, .inl (spF 10))), (u5 48, .inr (2, [.int 0, .int 0, .ref (u5 49)])), (u5 49, .inl (iA, 40, .inl (fun _ => 0))), (u5 50, .inr (2, [.int 0, .int 0, .ref (u5 51)])), (u5 51, .inl (iA, 40, .inl (fun _ => 0))), (u5 52, .inr (2, [.int 0, .int 0, .ref (u5 53)])), (u5 53, .inl (iA, 40, .inl (fun _ => 0))), (u5 54, .inr (2, [.int 0, .int 0, .ref (u5 55)])), (u5 55, .inl (iA, 40, .inl (fun _ => 0))), (h6, .inr (5, [.ref (u6 0), .ref (u6 1), .ref (u6 2), .int 0, .ref (u6 3), .int 0, .int 0, .int 0, .int 0, .ref (u6 4), .int 0, .ref (u6 5), .int 0, .ref (u6 6), .int 0, .int 0, .ref (u6 7), .int 0, .int 0, .int 0, .int 0, .int 0, .int 0, .ref (u6 8), .ref (u6 9), .int 0, .int 0, .ref (u6 10), .ref (u6 11), .ref (u6 12), .ref (u6 13)])), (u6 0, .inl (iA, 132, .inl now0)), (u6 1, .inl (iA, 132, .inl (fun _ => 0))), (u6 2, .inl (iA, 132, .inl (fun _ => 0))), (u6 3, .inl (iA, 8, .inl (fun _ => 0))), (u6 4, .inl (iA, 10, .inl (fun _ => 0))), (u6 5, .inl (iA, 5, .inl (fun _ => 0))), (u6 6, .inl (iA, 660, .inl (fun _ => 0))), (u6 7, .inl (iA, 120, .inl (fun _ => 0))), (u6 8, .inl (iD, 7, .inr (.inr (.inr (.inr (refsOf (GG D iA iB iC iD nl h5 h6 b u5 u6 st ad av) [160, 161, 162, 163, 164, 165, 166])))))), (u6 9, .inl (iA, 480, .inl (fun _ => 0))), (u6 10, .inl (iA, 4, .inl (fun _ => 0))), (u6 11, .inl (iA, 4, .inl (fun _ => 0))), (u6 12, .inl (iA, 160, .inl (fun _ => 0))), (u6 13, .inl (iA, 40, .inl (fun _ => 0)))] := by
  unfold wsO hsL
  simp only [List.map_cons, List.map_nil, ga_0, ce_0, ga_1, ce_1, ga_2, ce_2, ga_3, ce_3, ga_4, ce_4, ga_5, ce_5, ga_6, ce_6, ga_7, ce_7, ga_10, ce_10, ga_11, ce_11, ga_12, ce_12, ga_13, ce_13, ga_14, ce_14, ga_15, ce_15, ga_16, ce_16, ga_17, ce_17, ga_18, ce_18, ga_20, ce_20, ga_21, ce_21, ga_22, ce_22, ga_23, ce_23, ga_24, ce_24, ga_25, ce_25, ga_26, ce_26, ga_27, ce_27, ga_28, ce_28, ga_30, ce_30, ga_31, ce_31, ga_32, ce_32, ga_33, ce_33, ga_34, ce_34, ga_35, ce_35, ga_36, ce_36, ga_37, ce_37, ga_38, ce_38, ga_40, ce_40, ga_41, ce_41, ga_42, ce_42, ga_43, ce_43, ga_44, ce_44, ga_45, ce_45, ga_46, ce_46, ga_47, ce_47, ga_48, ce_48, ga_50, ce_50, ga_51, ce_51, ga_52, ce_52, ga_53, ce_53, ga_54, ce_54, ga_55, ce_55, ga_56, ce_56, ga_57, ce_57, ga_58, ce_58, ga_60, ce_60, ga_61, ce_61, ga_62, ce_62, ga_63, ce_63, ga_64, ce_64, ga_65, ce_65, ga_66, ce_66, ga_67, ce_67, ga_68, ce_68, ga_70, ce_70, ga_71, ce_71, ga_72, ce_72, ga_73, ce_73, ga_74, ce_74, ga_75, ce_75, ga_76, ce_76, ga_77, ce_77, ga_78, ce_78, ga_80, ce_80, ga_81, ce_81, ga_82, ce_82, ga_83, ce_83, ga_84, ce_84, ga_85, ce_85, ga_86, ce_86, ga_87, ce_87, ga_88, ce_88, ga_91, ce_91, ga_92, ce_92, ga_93, ce_93, ga_94, ce_94, ga_100, ce_100, ga_101, ce_101, ga_102, ce_102, ga_103, ce_103, ga_104, ce_104, ga_110, ce_110, ga_111, ce_111, ga_112, ce_112, ga_113, ce_113, ga_114, ce_114, ga_120, ce_120, ga_121, ce_121, ga_122, ce_122, ga_123, ce_123, ga_124, ce_124, ga_125, ce_125, ga_126, ce_126, ga_127, ce_127, ga_130, ce_130, ga_131, ce_131, ga_132, ce_132, ga_133, ce_133, ga_134, ce_134, ga_135, ce_135, ga_136, ce_136, ga_137, ce_137, ga_138, ce_138, ga_139, ce_139, ga_140, ce_140, ga_141, ce_141, ga_142, ce_142, ga_143, ce_143, ga_144, ce_144]
set_option maxRecDepth 100000 in
set_option maxHeartbeats 16000000 in
theorem wd_P {H : Heap} (hP : va_P D cls6 (wdX5 iA iB iC h5 u5 ++ wdX6 iA iD ad h6 u6) H) : va_P D cls6 (wsO (GG D iA iB iC iD nl h5 h6 b u5 u6 st ad av) M0) H := by
  rw [wd_all (D := D) (nl := nl) (b := b) (st := st) (av := av)] at hP
  rw [wd_ws]
  exact hP.sub [0, 35, 46, 47, 48, 34, 45, 29, 2, 3, 4, 5, 6, 7, 8, 9, 10, 16, 17, 18, 19, 20, 21, 22, 23, 24, 36, 37, 38, 39, 40, 41, 42, 43, 44, 57, 58, 59, 60, 61, 62, 63, 64, 65, 66, 67, 68, 69, 70, 71, 72, 73, 74, 75, 76, 77, 78, 79, 80, 81, 82, 83, 84, 85, 86, 87, 88, 89, 90, 91, 92, 93, 94, 95, 96, 97, 98, 99, 100, 101, 30, 31, 32, 33, 1, 11, 12, 13, 14, 15, 25, 26, 27, 28, 49, 50, 51, 52, 53, 54, 55, 56, 102, 103, 104, 105, 106, 107, 108, 109, 110, 111, 112, 113, 114, 115, 116] rfl
set_option maxRecDepth 100000 in
set_option maxHeartbeats 16000000 in
theorem wd_D {A : Nat → Prop} (hD : va_D A (wdX5 iA iB iC h5 u5 ++ wdX6 iA iD ad h6 u6)) : va_D A (wsO (GG D iA iB iC iD nl h5 h6 b u5 u6 st ad av) M0) := by
  rw [wd_all (D := D) (nl := nl) (b := b) (st := st) (av := av)] at hD
  rw [wd_ws]
  exact hD.sub [0, 35, 46, 47, 48, 34, 45, 29, 2, 3, 4, 5, 6, 7, 8, 9, 10, 16, 17, 18, 19, 20, 21, 22, 23, 24, 36, 37, 38, 39, 40, 41, 42, 43, 44, 57, 58, 59, 60, 61, 62, 63, 64, 65, 66, 67, 68, 69, 70, 71, 72, 73, 74, 75, 76, 77, 78, 79, 80, 81, 82, 83, 84, 85, 86, 87, 88, 89, 90, 91, 92, 93, 94, 95, 96, 97, 98, 99, 100, 101, 30, 31, 32, 33, 1, 11, 12, 13, 14, 15, 25, 26, 27, 28, 49, 50, 51, 52, 53, 54, 55, 56, 102, 103, 104, 105, 106, 107, 108, 109, 110, 111, 112, 113, 114, 115, 116] (by decide) rfl
end WD
theorem GI_of {G : GT} {A : Nat → Prop} {M : Mem} (hD : va_D A (wsO G M)) (hn : G.2.2.2 = .null ∨ ∃ t, G.2.2.2 = .ref t) : GInj G := by
  refine ⟨fun i j hi hj h => ?_, hn⟩
  obtain ⟨a, ha⟩ := List.mem_iff_getElem?.mp hi
  obtain ⟨c, hc⟩ := List.mem_iff_getElem?.mp hj
  have h1 : (wsO G M)[a]? = some (G.2.1 i, cellOf G M i) := by unfold wsO; rw [List.getElem?_map, ha]; rfl
  have h2 : (wsO G M)[c]? = some (G.2.1 j, cellOf G M j) := by unfold wsO; rw [List.getElem?_map, hc]; rfl
  have := hD.1 a c _ _ h1 h2 h
  subst this
  rw [ha] at hc
  exact Option.some.inj hc