def dsc : List (String × Nat) := [("()B", 0), ("()I", 0), ("()V", 0), ("()Z", 0), ("(I)C", 1), ("(I)I", 1), ("(I)Ljava/lang/String;", 1), ("(I)V", 1), ("(I)Z", 1), ("(II)I", 2), ("(II)V", 2), ("(II)Z", 2), ("(III)I", 3), ("(III)V", 3), ("(III)Z", 3), ("(IIII)I", 4), ("(IIII)V", 4), ("(IIIII)I", 5), ("(IILjava/util/function/BiFunction;)I", 3), ("(IZ)I", 2), ("(LFedHen$Farm;)V", 1), ("(LFedHen$Hen;)I", 1), ("(LFedHen$Hen;)V", 1), ("(LFedHen$Hen;)Z", 1), ("(LFedHen$Hen;I)I", 2), ("(LFedHen$Hen;I)Z", 2), ("(LFedHen$Hen;IIII)Z", 5), ("(LFedHen$Hen;Z)Z", 2), ("(Ljava/lang/String;)Z", 1), ("(Ljava/lang/String;II)Z", 3), ("(Z)V", 1), ("(ZII)I", 3), ("([BI)C", 2), ("([I[I)V", 2)]
set_option maxRecDepth 100000 in
theorem dsc_ok : dsc.all (fun p => decide ((parseMethodDescriptor p.1).map (fun d => d.parameters.length) = some p.2)) = true := by decide +kernel
theorem pl_0 : plainName (ocN 0) = true := by decide +kernel
theorem pl_1 : plainName (ocN 1) = true := by decide +kernel
theorem pl_2 : plainName (ocN 2) = true := by decide +kernel
theorem pl_3 : plainName (ocN 3) = true := by decide +kernel
theorem pl_4 : plainName (ocN 4) = true := by decide +kernel
theorem pl_5 : plainName (ocN 5) = true := by decide +kernel
theorem pl_6 : plainName (ocN 6) = true := by decide +kernel
theorem pl_7 : plainName (ocN 7) = true := by decide +kernel
theorem pl_8 : plainName (ocN 8) = true := by decide +kernel
theorem pl_9 : plainName (ocN 9) = true := by decide +kernel
theorem pl_10 : plainName (ocN 10) = true := by decide +kernel
theorem pl_11 : plainName (ocN 11) = true := by decide +kernel
theorem oc_ne : ∀ k, k < 12 → ocN k ≠ "java/lang/invoke/MethodHandle" ∧ ocN k ≠ "java/lang/invoke/VarHandle" := by decide +kernel
theorem oc_pl : ∀ k, k < 12 → plainName (ocN k) = true
  | 0, _ => pl_0
  | 1, _ => pl_1
  | 2, _ => pl_2
  | 3, _ => pl_3
  | 4, _ => pl_4
  | 5, _ => pl_5
  | 6, _ => pl_6
  | 7, _ => pl_7
  | 8, _ => pl_8
  | 9, _ => pl_9
  | 10, _ => pl_10
  | 11, _ => pl_11
  | n + 12, h => absurd h (by omega)
def okY (q : mtT) : Bool := decide (q.2.2.2.2.1 < 12) && decide (q.1.cls = ocN q.2.2.2.2.1) && decide (lw_tbl[q.2.2.2.2.2.2.2.1]? = some (.initialized q.1.cls)) &&
  decide (lw_tbl[q.2.2.2.2.2.2.2.2.1]? = some (if q.2.2.2.2.2.1 = true then .static q.1 else .instanceMethod q.1)) && (q.2.2.2.2.2.1 || decide (lw_tbl[q.2.2.2.2.2.2.2.2.2.1]? = some (.selects q.1.cls q.1 q.1))) && decide ((q.1.desc, q.2.2.2.2.2.2.2.2.2.2) ∈ dsc) && decide (q.2.2.1 ≤ 12)
set_option maxRecDepth 100000 in
theorem mt_ok_0 : mt_0.all okY = true := by decide +kernel
set_option maxRecDepth 100000 in
theorem mt_ok_1 : mt_1.all okY = true := by decide +kernel
set_option maxRecDepth 100000 in
theorem mt_ok_2 : mt_2.all okY = true := by decide +kernel
set_option maxRecDepth 100000 in
theorem mt_ok_3 : mt_3.all okY = true := by decide +kernel
set_option maxRecDepth 100000 in
theorem mt_ok_4 : mt_4.all okY = true := by decide +kernel
set_option maxRecDepth 100000 in
theorem mt_ok_5 : mt_5.all okY = true := by decide +kernel
set_option maxRecDepth 100000 in
theorem mt_ok_6 : mt_6.all okY = true := by decide +kernel
set_option maxRecDepth 100000 in
theorem mt_ok_7 : mt_7.all okY = true := by decide +kernel
set_option maxRecDepth 100000 in
theorem mt_ok_8 : mt_8.all okY = true := by decide +kernel
set_option maxRecDepth 100000 in
theorem mt_ok_9 : mt_9.all okY = true := by decide +kernel
theorem all_app {α : Type} {p : α → Bool} {a b : List α} (h1 : a.all p = true) (h2 : b.all p = true) : (a ++ b).all p = true := by rw [List.all_append, h1, h2]; rfl
theorem mt_ok : mt.all okY = true := all_app mt_ok_0 (all_app mt_ok_1 (all_app mt_ok_2 (all_app mt_ok_3 (all_app mt_ok_4 (all_app mt_ok_5 (all_app mt_ok_6 (all_app mt_ok_7 (all_app mt_ok_8 (mt_ok_9)))))))))
