section SR
variable {cal : Cal} {sc : Scr} {lv : Lv} {st : List Value} {M : Mem} {ret : Option FieldType} {x y z w u : Int32} {h h2 : Nat} {v v0 v1 v2 v3 v4 v5 v6 v7 v8 v9 v10 v11 : Option Value} {l : Lv} {a1 a2 a3 a4 a5 : Value}
theorem sX0_become_0 : lim cal sc 0 cX0_become ret 0 (some (.ref h) :: l) st M = lim cal sc 0 cX0_become ret 1 (some (.ref h) :: l) (.ref h :: st) M := lim_step dX0_become_0
theorem sX0_become_1 : lim cal sc 0 cX0_become ret 1 lv (.ref h :: st) M = opK (slotV 0 0 h M) fun q => lim cal sc 0 cX0_become ret 4 lv (q :: st) M := (lim_step dX0_become_1).trans (e_get (by decide) rf_0_12)
theorem sX0_become_4 : lim cal sc 0 cX0_become ret 4 (v0 :: some (.ref h) :: l) st M = lim cal sc 0 cX0_become ret 5 (v0 :: some (.ref h) :: l) (.ref h :: st) M := lim_step dX0_become_4
theorem sX0_become_5 : lim cal sc 0 cX0_become ret 5 lv (.ref h :: st) M = opK (slotV 0 0 h M) fun q => lim cal sc 0 cX0_become ret 8 lv (q :: st) M := (lim_step dX0_become_5).trans (e_get (by decide) rf_0_12)
theorem sX0_become_8 : lim cal sc 0 cX0_become ret 8 lv (a1 :: .ref h :: st) M = guK (isCl 1 h) (guK (rk 8 st) (calK (cal 34 [.ref h, a1] M) fun q M' => lim cal sc 0 cX0_become ret 11 lv (q.toList ++ st) M')) := (lim_step dX0_become_8).trans (e_virt1 rm_0_44 mq_34)
theorem sX0_become_11 : lim cal sc 0 cX0_become ret 11 (some (.ref h) :: l) st M = lim cal sc 0 cX0_become ret 12 (some (.ref h) :: l) (.ref h :: st) M := lim_step dX0_become_11
theorem sX0_become_12 : lim cal sc 0 cX0_become ret 12 (v0 :: some (.ref h) :: l) st M = lim cal sc 0 cX0_become ret 13 (v0 :: some (.ref h) :: l) (.ref h :: st) M := lim_step dX0_become_12
theorem sX0_become_13 : lim cal sc 0 cX0_become ret 13 lv (.ref h :: st) M = opK (slotV 0 1 h M) fun q => lim cal sc 0 cX0_become ret 16 lv (q :: st) M := (lim_step dX0_become_13).trans (e_get (by decide) rf_0_18)
theorem sX0_become_16 : lim cal sc 0 cX0_become ret 16 lv (.int x :: .ref h :: st) M = guK (isInt 0 1 h) (lim cal sc 0 cX0_become ret 19 lv st (mset M h 1 x)) := (lim_step dX0_become_16).trans (e_put rf_0_18 rfl)
theorem sX0_become_19 : lim cal sc 0 cX0_become ret 19 (some (.ref h) :: l) st M = lim cal sc 0 cX0_become ret 20 (some (.ref h) :: l) (.ref h :: st) M := lim_step dX0_become_19
theorem sX0_become_20 : lim cal sc 0 cX0_become ret 20 (v0 :: some (.ref h) :: l) st M = lim cal sc 0 cX0_become ret 21 (v0 :: some (.ref h) :: l) (.ref h :: st) M := lim_step dX0_become_20
theorem sX0_become_21 : lim cal sc 0 cX0_become ret 21 lv (.ref h :: st) M = opK (slotV 0 2 h M) fun q => lim cal sc 0 cX0_become ret 24 lv (q :: st) M := (lim_step dX0_become_21).trans (e_get (by decide) rf_0_22)
theorem sX0_become_24 : lim cal sc 0 cX0_become ret 24 lv (.int x :: .ref h :: st) M = guK (isInt 0 2 h) (lim cal sc 0 cX0_become ret 27 lv st (mset M h 2 x)) := (lim_step dX0_become_24).trans (e_put rf_0_22 rfl)
theorem sX0_become_27 : lim cal sc 0 cX0_become ret 27 (some (.ref h) :: l) st M = lim cal sc 0 cX0_become ret 28 (some (.ref h) :: l) (.ref h :: st) M := lim_step dX0_become_27
theorem sX0_become_28 : lim cal sc 0 cX0_become ret 28 (v0 :: some (.ref h) :: l) st M = lim cal sc 0 cX0_become ret 29 (v0 :: some (.ref h) :: l) (.ref h :: st) M := lim_step dX0_become_28
theorem sX0_become_29 : lim cal sc 0 cX0_become ret 29 lv (.ref h :: st) M = opK (slotV 0 3 h M) fun q => lim cal sc 0 cX0_become ret 32 lv (q :: st) M := (lim_step dX0_become_29).trans (e_get (by decide) rf_0_25)
theorem sX0_become_32 : lim cal sc 0 cX0_become ret 32 lv (.int x :: .ref h :: st) M = guK (isInt 0 3 h) (lim cal sc 0 cX0_become ret 35 lv st (mset M h 3 x)) := (lim_step dX0_become_32).trans (e_put rf_0_25 rfl)
theorem sX0_become_35 : lim cal sc 0 cX0_become ret 35 (some (.ref h) :: l) st M = lim cal sc 0 cX0_become ret 36 (some (.ref h) :: l) (.ref h :: st) M := lim_step dX0_become_35
theorem sX0_become_36 : lim cal sc 0 cX0_become ret 36 (v0 :: some (.ref h) :: l) st M = lim cal sc 0 cX0_become ret 37 (v0 :: some (.ref h) :: l) (.ref h :: st) M := lim_step dX0_become_36
theorem sX0_become_37 : lim cal sc 0 cX0_become ret 37 lv (.ref h :: st) M = opK (slotV 0 4 h M) fun q => lim cal sc 0 cX0_become ret 40 lv (q :: st) M := (lim_step dX0_become_37).trans (e_get (by decide) rf_0_28)
theorem sX0_become_40 : lim cal sc 0 cX0_become ret 40 lv (.int x :: .ref h :: st) M = guK (isInt 0 4 h) (lim cal sc 0 cX0_become ret 43 lv st (mset M h 4 x)) := (lim_step dX0_become_40).trans (e_put rf_0_28 rfl)
theorem sX0_become_43 : lim cal sc 0 cX0_become ret 43 (v0 :: some (.ref h) :: l) st M = lim cal sc 0 cX0_become ret 44 (v0 :: some (.ref h) :: l) (.ref h :: st) M := lim_step dX0_become_43
theorem sX0_become_44 : lim cal sc 0 cX0_become ret 44 lv (.ref h :: st) M = opK (slotV 0 5 h M) fun q => lim cal sc 0 cX0_become ret 47 lv (q :: st) M := (lim_step dX0_become_44).trans (e_get (by decide) rf_0_31)
theorem sX0_become_47 : lim cal sc 0 cX0_become ret 47 lv st M = lim cal sc 0 cX0_become ret 48 lv (.int 0 :: st) M := (lim_step dX0_become_47).trans (e_ic k_i_0)
theorem sX0_become_48 : lim cal sc 0 cX0_become ret 48 (some (.ref h) :: l) st M = lim cal sc 0 cX0_become ret 49 (some (.ref h) :: l) (.ref h :: st) M := lim_step dX0_become_48
theorem sX0_become_49 : lim cal sc 0 cX0_become ret 49 lv (.ref h :: st) M = opK (slotV 0 5 h M) fun q => lim cal sc 0 cX0_become ret 52 lv (q :: st) M := (lim_step dX0_become_49).trans (e_get (by decide) rf_0_31)
theorem sX0_become_52 : lim cal sc 0 cX0_become ret 52 lv st M = lim cal sc 0 cX0_become ret 53 lv (.int 0 :: st) M := (lim_step dX0_become_52).trans (e_ic k_i_0)
theorem sX0_become_53 : lim cal sc 0 cX0_become ret 53 lv st M = lim cal sc 0 cX0_become ret 55 lv (.int 12 :: st) M := (lim_step dX0_become_53).trans (e_bi k_b_12)
theorem sX0_become_55 : lim cal sc 0 cX0_become ret 55 lv (.int z :: .int y :: .ref h2 :: .int x :: .ref h :: st) M = guK (cpy9 h h2 x y z) (guK (rk 8 st) (lim cal sc 0 cX0_become ret 58 lv st (mrow M h2 (va_cpy (M h) (M h2) x.toNatClampNeg y.toNatClampNeg z.toNatClampNeg)))) := (lim_step dX0_become_55).trans (e_copy rm_0_48)
theorem sX0_become_58 : lim cal sc 0 cX0_become ret 58 (v0 :: some (.ref h) :: l) st M = lim cal sc 0 cX0_become ret 59 (v0 :: some (.ref h) :: l) (.ref h :: st) M := lim_step dX0_become_58
theorem sX0_become_59 : lim cal sc 0 cX0_become ret 59 lv (.ref h :: st) M = opK (slotV 0 6 h M) fun q => lim cal sc 0 cX0_become ret 62 lv (q :: st) M := (lim_step dX0_become_59).trans (e_get (by decide) rf_0_35)
theorem sX0_become_62 : lim cal sc 0 cX0_become ret 62 lv st M = lim cal sc 0 cX0_become ret 63 lv (.int 0 :: st) M := (lim_step dX0_become_62).trans (e_ic k_i_0)
theorem sX0_become_63 : lim cal sc 0 cX0_become ret 63 (some (.ref h) :: l) st M = lim cal sc 0 cX0_become ret 64 (some (.ref h) :: l) (.ref h :: st) M := lim_step dX0_become_63
theorem sX0_become_64 : lim cal sc 0 cX0_become ret 64 lv (.ref h :: st) M = opK (slotV 0 6 h M) fun q => lim cal sc 0 cX0_become ret 67 lv (q :: st) M := (lim_step dX0_become_64).trans (e_get (by decide) rf_0_35)
theorem sX0_become_67 : lim cal sc 0 cX0_become ret 67 lv st M = lim cal sc 0 cX0_become ret 68 lv (.int 0 :: st) M := (lim_step dX0_become_67).trans (e_ic k_i_0)
theorem sX0_become_68 : lim cal sc 0 cX0_become ret 68 lv st M = lim cal sc 0 cX0_become ret 70 lv (.int 12 :: st) M := (lim_step dX0_become_68).trans (e_bi k_b_12)
theorem sX0_become_70 : lim cal sc 0 cX0_become ret 70 lv (.int z :: .int y :: .ref h2 :: .int x :: .ref h :: st) M = guK (cpy9 h h2 x y z) (guK (rk 8 st) (lim cal sc 0 cX0_become ret 73 lv st (mrow M h2 (va_cpy (M h) (M h2) x.toNatClampNeg y.toNatClampNeg z.toNatClampNeg)))) := (lim_step dX0_become_70).trans (e_copy rm_0_48)
theorem sX0_become_73 : lim cal sc 0 cX0_become ret 73 (v0 :: some (.ref h) :: l) st M = lim cal sc 0 cX0_become ret 74 (v0 :: some (.ref h) :: l) (.ref h :: st) M := lim_step dX0_become_73
theorem sX0_become_74 : lim cal sc 0 cX0_become ret 74 lv (.ref h :: st) M = opK (slotV 0 7 h M) fun q => lim cal sc 0 cX0_become ret 77 lv (q :: st) M := (lim_step dX0_become_74).trans (e_get (by decide) rf_0_38)
theorem sX0_become_77 : lim cal sc 0 cX0_become ret 77 lv st M = lim cal sc 0 cX0_become ret 78 lv (.int 0 :: st) M := (lim_step dX0_become_77).trans (e_ic k_i_0)
theorem sX0_become_78 : lim cal sc 0 cX0_become ret 78 (some (.ref h) :: l) st M = lim cal sc 0 cX0_become ret 79 (some (.ref h) :: l) (.ref h :: st) M := lim_step dX0_become_78
theorem sX0_become_79 : lim cal sc 0 cX0_become ret 79 lv (.ref h :: st) M = opK (slotV 0 7 h M) fun q => lim cal sc 0 cX0_become ret 82 lv (q :: st) M := (lim_step dX0_become_79).trans (e_get (by decide) rf_0_38)
theorem sX0_become_82 : lim cal sc 0 cX0_become ret 82 lv st M = lim cal sc 0 cX0_become ret 83 lv (.int 0 :: st) M := (lim_step dX0_become_82).trans (e_ic k_i_0)
theorem sX0_become_83 : lim cal sc 0 cX0_become ret 83 lv st M = lim cal sc 0 cX0_become ret 85 lv (.int 12 :: st) M := (lim_step dX0_become_83).trans (e_bi k_b_12)
theorem sX0_become_85 : lim cal sc 0 cX0_become ret 85 lv (.int z :: .int y :: .ref h2 :: .int x :: .ref h :: st) M = guK (cpy9 h h2 x y z) (guK (rk 8 st) (lim cal sc 0 cX0_become ret 88 lv st (mrow M h2 (va_cpy (M h) (M h2) x.toNatClampNeg y.toNatClampNeg z.toNatClampNeg)))) := (lim_step dX0_become_85).trans (e_copy rm_0_48)
theorem sX0_become_88 : lim cal sc 0 cX0_become ret 88 (v0 :: some (.ref h) :: l) st M = lim cal sc 0 cX0_become ret 89 (v0 :: some (.ref h) :: l) (.ref h :: st) M := lim_step dX0_become_88
theorem sX0_become_89 : lim cal sc 0 cX0_become ret 89 lv (.ref h :: st) M = opK (slotV 0 8 h M) fun q => lim cal sc 0 cX0_become ret 92 lv (q :: st) M := (lim_step dX0_become_89).trans (e_get (by decide) rf_0_41)
theorem sX0_become_92 : lim cal sc 0 cX0_become ret 92 lv st M = lim cal sc 0 cX0_become ret 93 lv (.int 0 :: st) M := (lim_step dX0_become_92).trans (e_ic k_i_0)
theorem sX0_become_93 : lim cal sc 0 cX0_become ret 93 (some (.ref h) :: l) st M = lim cal sc 0 cX0_become ret 94 (some (.ref h) :: l) (.ref h :: st) M := lim_step dX0_become_93
theorem sX0_become_94 : lim cal sc 0 cX0_become ret 94 lv (.ref h :: st) M = opK (slotV 0 8 h M) fun q => lim cal sc 0 cX0_become ret 97 lv (q :: st) M := (lim_step dX0_become_94).trans (e_get (by decide) rf_0_41)
theorem sX0_become_97 : lim cal sc 0 cX0_become ret 97 lv st M = lim cal sc 0 cX0_become ret 98 lv (.int 0 :: st) M := (lim_step dX0_become_97).trans (e_ic k_i_0)
theorem sX0_become_98 : lim cal sc 0 cX0_become ret 98 lv st M = lim cal sc 0 cX0_become ret 100 lv (.int 10 :: st) M := (lim_step dX0_become_98).trans (e_bi k_b_10)
theorem sX0_become_100 : lim cal sc 0 cX0_become ret 100 lv (.int z :: .int y :: .ref h2 :: .int x :: .ref h :: st) M = guK (cpy9 h h2 x y z) (guK (rk 8 st) (lim cal sc 0 cX0_become ret 103 lv st (mrow M h2 (va_cpy (M h) (M h2) x.toNatClampNeg y.toNatClampNeg z.toNatClampNeg)))) := (lim_step dX0_become_100).trans (e_copy rm_0_48)
theorem sX0_become_103 : lim cal sc 0 cX0_become none 103 lv [] M = some (none, M) := (lim_step dX0_become_103).trans (e_vret)
theorem sX0_liveDay_0 : lim cal sc 0 cX0_liveDay ret 0 (some (.ref h) :: l) st M = lim cal sc 0 cX0_liveDay ret 1 (some (.ref h) :: l) (.ref h :: st) M := lim_step dX0_liveDay_0
theorem sX0_liveDay_1 : lim cal sc 0 cX0_liveDay ret 1 lv (.ref h :: st) M = opK (slotV 0 0 h M) fun q => lim cal sc 0 cX0_liveDay ret 4 lv (q :: st) M := (lim_step dX0_liveDay_1).trans (e_get (by decide) rf_0_12)
theorem sX0_liveDay_4 : lim cal sc 0 cX0_liveDay ret 4 lv (.ref h :: st) M = guK (isCl 1 h) (guK (rk 8 st) (calK (cal 27 [.ref h] M) fun q M' => lim cal sc 0 cX0_liveDay ret 7 lv (q.toList ++ st) M')) := (lim_step dX0_liveDay_4).trans (e_virt0 rm_0_54 mq_27)
theorem sX0_liveDay_7 : lim cal sc 0 cX0_liveDay ret 7 (v0 :: v :: l) (.int x :: st) M = lim cal sc 0 cX0_liveDay ret 8 (v0 :: some (.int x) :: l) st M := (lim_step dX0_liveDay_7).trans (e_istn1)
theorem sX0_liveDay_8 : lim cal sc 0 cX0_liveDay ret 8 (some (.ref h) :: l) st M = lim cal sc 0 cX0_liveDay ret 9 (some (.ref h) :: l) (.ref h :: st) M := lim_step dX0_liveDay_8
theorem sX0_liveDay_9 : lim cal sc 0 cX0_liveDay ret 9 lv (.ref h :: st) M = opK (slotV 0 0 h M) fun q => lim cal sc 0 cX0_liveDay ret 12 lv (q :: st) M := (lim_step dX0_liveDay_9).trans (e_get (by decide) rf_0_12)
theorem sX0_liveDay_12 : lim cal sc 0 cX0_liveDay ret 12 lv (.ref h :: st) M = opK (slotV 1 12 h M) fun q => lim cal sc 0 cX0_liveDay ret 15 lv (q :: st) M := (lim_step dX0_liveDay_12).trans (e_get (by decide) rf_0_58)
theorem sX0_liveDay_15 : lim cal sc 0 cX0_liveDay ret 15 lv (.int x :: st) M = if x < 0 then lim cal sc 0 cX0_liveDay ret 22 lv st M else lim cal sc 0 cX0_liveDay ret 18 lv st M := (lim_step dX0_liveDay_15).trans (e_iflt (t := 22) (by decide))
theorem sX0_liveDay_18 : lim cal sc 0 cX0_liveDay ret 18 (some (.ref h) :: l) st M = lim cal sc 0 cX0_liveDay ret 19 (some (.ref h) :: l) (.ref h :: st) M := lim_step dX0_liveDay_18
theorem sX0_liveDay_19 : lim cal sc 0 cX0_liveDay ret 19 lv (.ref h :: st) M = guK (isCl 0 h) (guK (rk 8 st) (calK (cal 31 [.ref h] M) fun q M' => lim cal sc 0 cX0_liveDay ret 22 lv (q.toList ++ st) M')) := (lim_step dX0_liveDay_19).trans (e_virt0 rm_0_61 mq_31)
theorem sX0_liveDay_22 : lim cal sc 0 cX0_liveDay ret 22 (some (.ref h) :: l) st M = lim cal sc 0 cX0_liveDay ret 23 (some (.ref h) :: l) (.ref h :: st) M := lim_step dX0_liveDay_22
theorem sX0_liveDay_23 : lim cal sc 0 cX0_liveDay ret 23 lv (.ref h :: st) M = lim cal sc 0 cX0_liveDay ret 24 lv (.ref h :: .ref h :: st) M := lim_step dX0_liveDay_23
theorem sX0_liveDay_23_i : lim cal sc 0 cX0_liveDay ret 23 lv (.int x :: st) M = lim cal sc 0 cX0_liveDay ret 24 lv (.int x :: .int x :: st) M := lim_step dX0_liveDay_23
theorem sX0_liveDay_24 : lim cal sc 0 cX0_liveDay ret 24 lv (.ref h :: st) M = opK (slotV 0 1 h M) fun q => lim cal sc 0 cX0_liveDay ret 27 lv (q :: st) M := (lim_step dX0_liveDay_24).trans (e_get (by decide) rf_0_18)
theorem sX0_liveDay_27 : lim cal sc 0 cX0_liveDay ret 27 lv st M = lim cal sc 0 cX0_liveDay ret 28 lv (.int 1 :: st) M := (lim_step dX0_liveDay_27).trans (e_ic k_i_1)
theorem sX0_liveDay_28 : lim cal sc 0 cX0_liveDay ret 28 lv (.int y :: .int x :: st) M = lim cal sc 0 cX0_liveDay ret 29 lv (.int (x + y) :: st) M := lim_step dX0_liveDay_28
theorem sX0_liveDay_29 : lim cal sc 0 cX0_liveDay ret 29 lv (.int x :: .ref h :: st) M = guK (isInt 0 1 h) (lim cal sc 0 cX0_liveDay ret 32 lv st (mset M h 1 x)) := (lim_step dX0_liveDay_29).trans (e_put rf_0_18 rfl)
theorem sX0_liveDay_32 : lim cal sc 0 cX0_liveDay ret 32 (v0 :: some (.int x) :: l) st M = lim cal sc 0 cX0_liveDay ret 33 (v0 :: some (.int x) :: l) (.int x :: st) M := lim_step dX0_liveDay_32
theorem sX0_liveDay_33 : lim cal sc 0 cX0_liveDay (some .int) 33 lv [.int x] M = some (some (.int x), M) := (lim_step dX0_liveDay_33).trans (e_iret)
theorem sX0_keepEgg_0 : lim cal sc 0 cX0_keepEgg ret 0 (some (.ref h) :: l) st M = lim cal sc 0 cX0_keepEgg ret 1 (some (.ref h) :: l) (.ref h :: st) M := lim_step dX0_keepEgg_0
theorem sX0_keepEgg_1 : lim cal sc 0 cX0_keepEgg ret 1 lv (.ref h :: st) M = opK (slotV 0 5 h M) fun q => lim cal sc 0 cX0_keepEgg ret 4 lv (q :: st) M := (lim_step dX0_keepEgg_1).trans (e_get (by decide) rf_0_31)
theorem sX0_keepEgg_4 : lim cal sc 0 cX0_keepEgg ret 4 lv st M = lim cal sc 0 cX0_keepEgg ret 5 lv (.int 0 :: st) M := (lim_step dX0_keepEgg_4).trans (e_ic k_i_0)
theorem sX0_keepEgg_5 : lim cal sc 0 cX0_keepEgg ret 5 (some (.ref h) :: l) st M = lim cal sc 0 cX0_keepEgg ret 6 (some (.ref h) :: l) (.ref h :: st) M := lim_step dX0_keepEgg_5
theorem sX0_keepEgg_6 : lim cal sc 0 cX0_keepEgg ret 6 lv (.ref h :: st) M = opK (slotV 0 5 h M) fun q => lim cal sc 0 cX0_keepEgg ret 9 lv (q :: st) M := (lim_step dX0_keepEgg_6).trans (e_get (by decide) rf_0_31)
theorem sX0_keepEgg_9 : lim cal sc 0 cX0_keepEgg ret 9 lv st M = lim cal sc 0 cX0_keepEgg ret 10 lv (.int 1 :: st) M := (lim_step dX0_keepEgg_9).trans (e_ic k_i_1)
theorem sX0_keepEgg_10 : lim cal sc 0 cX0_keepEgg ret 10 lv st M = lim cal sc 0 cX0_keepEgg ret 12 lv (.int 11 :: st) M := (lim_step dX0_keepEgg_10).trans (e_bi k_b_11)
theorem sX0_keepEgg_12 : lim cal sc 0 cX0_keepEgg ret 12 lv (.int z :: .int y :: .ref h2 :: .int x :: .ref h :: st) M = guK (cpy9 h h2 x y z) (guK (rk 8 st) (lim cal sc 0 cX0_keepEgg ret 15 lv st (mrow M h2 (va_cpy (M h) (M h2) x.toNatClampNeg y.toNatClampNeg z.toNatClampNeg)))) := (lim_step dX0_keepEgg_12).trans (e_copy rm_0_48)
theorem sX0_keepEgg_15 : lim cal sc 0 cX0_keepEgg ret 15 (some (.ref h) :: l) st M = lim cal sc 0 cX0_keepEgg ret 16 (some (.ref h) :: l) (.ref h :: st) M := lim_step dX0_keepEgg_15
theorem sX0_keepEgg_16 : lim cal sc 0 cX0_keepEgg ret 16 lv (.ref h :: st) M = opK (slotV 0 6 h M) fun q => lim cal sc 0 cX0_keepEgg ret 19 lv (q :: st) M := (lim_step dX0_keepEgg_16).trans (e_get (by decide) rf_0_35)
theorem sX0_keepEgg_19 : lim cal sc 0 cX0_keepEgg ret 19 lv st M = lim cal sc 0 cX0_keepEgg ret 20 lv (.int 0 :: st) M := (lim_step dX0_keepEgg_19).trans (e_ic k_i_0)
theorem sX0_keepEgg_20 : lim cal sc 0 cX0_keepEgg ret 20 (some (.ref h) :: l) st M = lim cal sc 0 cX0_keepEgg ret 21 (some (.ref h) :: l) (.ref h :: st) M := lim_step dX0_keepEgg_20
theorem sX0_keepEgg_21 : lim cal sc 0 cX0_keepEgg ret 21 lv (.ref h :: st) M = opK (slotV 0 6 h M) fun q => lim cal sc 0 cX0_keepEgg ret 24 lv (q :: st) M := (lim_step dX0_keepEgg_21).trans (e_get (by decide) rf_0_35)
theorem sX0_keepEgg_24 : lim cal sc 0 cX0_keepEgg ret 24 lv st M = lim cal sc 0 cX0_keepEgg ret 25 lv (.int 1 :: st) M := (lim_step dX0_keepEgg_24).trans (e_ic k_i_1)
theorem sX0_keepEgg_25 : lim cal sc 0 cX0_keepEgg ret 25 lv st M = lim cal sc 0 cX0_keepEgg ret 27 lv (.int 11 :: st) M := (lim_step dX0_keepEgg_25).trans (e_bi k_b_11)
theorem sX0_keepEgg_27 : lim cal sc 0 cX0_keepEgg ret 27 lv (.int z :: .int y :: .ref h2 :: .int x :: .ref h :: st) M = guK (cpy9 h h2 x y z) (guK (rk 8 st) (lim cal sc 0 cX0_keepEgg ret 30 lv st (mrow M h2 (va_cpy (M h) (M h2) x.toNatClampNeg y.toNatClampNeg z.toNatClampNeg)))) := (lim_step dX0_keepEgg_27).trans (e_copy rm_0_48)
theorem sX0_keepEgg_30 : lim cal sc 0 cX0_keepEgg ret 30 (some (.ref h) :: l) st M = lim cal sc 0 cX0_keepEgg ret 31 (some (.ref h) :: l) (.ref h :: st) M := lim_step dX0_keepEgg_30
theorem sX0_keepEgg_31 : lim cal sc 0 cX0_keepEgg ret 31 lv (.ref h :: st) M = opK (slotV 0 7 h M) fun q => lim cal sc 0 cX0_keepEgg ret 34 lv (q :: st) M := (lim_step dX0_keepEgg_31).trans (e_get (by decide) rf_0_38)
theorem sX0_keepEgg_34 : lim cal sc 0 cX0_keepEgg ret 34 lv st M = lim cal sc 0 cX0_keepEgg ret 35 lv (.int 0 :: st) M := (lim_step dX0_keepEgg_34).trans (e_ic k_i_0)
theorem sX0_keepEgg_35 : lim cal sc 0 cX0_keepEgg ret 35 (some (.ref h) :: l) st M = lim cal sc 0 cX0_keepEgg ret 36 (some (.ref h) :: l) (.ref h :: st) M := lim_step dX0_keepEgg_35
theorem sX0_keepEgg_36 : lim cal sc 0 cX0_keepEgg ret 36 lv (.ref h :: st) M = opK (slotV 0 7 h M) fun q => lim cal sc 0 cX0_keepEgg ret 39 lv (q :: st) M := (lim_step dX0_keepEgg_36).trans (e_get (by decide) rf_0_38)
theorem sX0_keepEgg_39 : lim cal sc 0 cX0_keepEgg ret 39 lv st M = lim cal sc 0 cX0_keepEgg ret 40 lv (.int 1 :: st) M := (lim_step dX0_keepEgg_39).trans (e_ic k_i_1)
theorem sX0_keepEgg_40 : lim cal sc 0 cX0_keepEgg ret 40 lv st M = lim cal sc 0 cX0_keepEgg ret 42 lv (.int 11 :: st) M := (lim_step dX0_keepEgg_40).trans (e_bi k_b_11)
theorem sX0_keepEgg_42 : lim cal sc 0 cX0_keepEgg ret 42 lv (.int z :: .int y :: .ref h2 :: .int x :: .ref h :: st) M = guK (cpy9 h h2 x y z) (guK (rk 8 st) (lim cal sc 0 cX0_keepEgg ret 45 lv st (mrow M h2 (va_cpy (M h) (M h2) x.toNatClampNeg y.toNatClampNeg z.toNatClampNeg)))) := (lim_step dX0_keepEgg_42).trans (e_copy rm_0_48)
theorem sX0_keepEgg_45 : lim cal sc 0 cX0_keepEgg ret 45 (some (.ref h) :: l) st M = lim cal sc 0 cX0_keepEgg ret 46 (some (.ref h) :: l) (.ref h :: st) M := lim_step dX0_keepEgg_45
theorem sX0_keepEgg_46 : lim cal sc 0 cX0_keepEgg ret 46 lv (.ref h :: st) M = opK (slotV 0 5 h M) fun q => lim cal sc 0 cX0_keepEgg ret 49 lv (q :: st) M := (lim_step dX0_keepEgg_46).trans (e_get (by decide) rf_0_31)
theorem sX0_keepEgg_49 : lim cal sc 0 cX0_keepEgg ret 49 lv st M = lim cal sc 0 cX0_keepEgg ret 50 lv (.int 0 :: st) M := (lim_step dX0_keepEgg_49).trans (e_ic k_i_0)
theorem sX0_keepEgg_50 : lim cal sc 0 cX0_keepEgg ret 50 (some (.ref h) :: l) st M = lim cal sc 0 cX0_keepEgg ret 51 (some (.ref h) :: l) (.ref h :: st) M := lim_step dX0_keepEgg_50
theorem sX0_keepEgg_51 : lim cal sc 0 cX0_keepEgg ret 51 lv (.ref h :: st) M = opK (slotV 0 0 h M) fun q => lim cal sc 0 cX0_keepEgg ret 54 lv (q :: st) M := (lim_step dX0_keepEgg_51).trans (e_get (by decide) rf_0_12)
theorem sX0_keepEgg_54 : lim cal sc 0 cX0_keepEgg ret 54 lv (.ref h :: st) M = opK (slotV 1 12 h M) fun q => lim cal sc 0 cX0_keepEgg ret 57 lv (q :: st) M := (lim_step dX0_keepEgg_54).trans (e_get (by decide) rf_0_58)
theorem sX0_keepEgg_57 : lim cal sc 0 cX0_keepEgg ret 57 lv (.int y :: .int x :: .ref h :: st) M = opK (arrN h) fun q => guK (inb x q) (lim cal sc 0 cX0_keepEgg ret 58 lv st (mset M h x.toNatClampNeg y)) := (lim_step dX0_keepEgg_57).trans (e_iast)
theorem sX0_keepEgg_58 : lim cal sc 0 cX0_keepEgg ret 58 (some (.ref h) :: l) st M = lim cal sc 0 cX0_keepEgg ret 59 (some (.ref h) :: l) (.ref h :: st) M := lim_step dX0_keepEgg_58
theorem sX0_keepEgg_59 : lim cal sc 0 cX0_keepEgg ret 59 lv (.ref h :: st) M = opK (slotV 0 6 h M) fun q => lim cal sc 0 cX0_keepEgg ret 62 lv (q :: st) M := (lim_step dX0_keepEgg_59).trans (e_get (by decide) rf_0_35)
theorem sX0_keepEgg_62 : lim cal sc 0 cX0_keepEgg ret 62 lv st M = lim cal sc 0 cX0_keepEgg ret 63 lv (.int 0 :: st) M := (lim_step dX0_keepEgg_62).trans (e_ic k_i_0)
theorem sX0_keepEgg_63 : lim cal sc 0 cX0_keepEgg ret 63 (some (.ref h) :: l) st M = lim cal sc 0 cX0_keepEgg ret 64 (some (.ref h) :: l) (.ref h :: st) M := lim_step dX0_keepEgg_63
theorem sX0_keepEgg_64 : lim cal sc 0 cX0_keepEgg ret 64 lv (.ref h :: st) M = opK (slotV 0 0 h M) fun q => lim cal sc 0 cX0_keepEgg ret 67 lv (q :: st) M := (lim_step dX0_keepEgg_64).trans (e_get (by decide) rf_0_12)
theorem sX0_keepEgg_67 : lim cal sc 0 cX0_keepEgg ret 67 lv (.ref h :: st) M = opK (slotV 1 13 h M) fun q => lim cal sc 0 cX0_keepEgg ret 70 lv (q :: st) M := (lim_step dX0_keepEgg_67).trans (e_get (by decide) rf_0_64)
theorem sX0_keepEgg_70 : lim cal sc 0 cX0_keepEgg ret 70 lv (.int y :: .int x :: .ref h :: st) M = opK (arrN h) fun q => guK (inb x q) (lim cal sc 0 cX0_keepEgg ret 71 lv st (mset M h x.toNatClampNeg y)) := (lim_step dX0_keepEgg_70).trans (e_iast)
theorem sX0_keepEgg_71 : lim cal sc 0 cX0_keepEgg ret 71 (some (.ref h) :: l) st M = lim cal sc 0 cX0_keepEgg ret 72 (some (.ref h) :: l) (.ref h :: st) M := lim_step dX0_keepEgg_71
theorem sX0_keepEgg_72 : lim cal sc 0 cX0_keepEgg ret 72 lv (.ref h :: st) M = opK (slotV 0 7 h M) fun q => lim cal sc 0 cX0_keepEgg ret 75 lv (q :: st) M := (lim_step dX0_keepEgg_72).trans (e_get (by decide) rf_0_38)
theorem sX0_keepEgg_75 : lim cal sc 0 cX0_keepEgg ret 75 lv st M = lim cal sc 0 cX0_keepEgg ret 76 lv (.int 0 :: st) M := (lim_step dX0_keepEgg_75).trans (e_ic k_i_0)
theorem sX0_keepEgg_76 : lim cal sc 0 cX0_keepEgg ret 76 (some (.ref h) :: l) st M = lim cal sc 0 cX0_keepEgg ret 77 (some (.ref h) :: l) (.ref h :: st) M := lim_step dX0_keepEgg_76
theorem sX0_keepEgg_77 : lim cal sc 0 cX0_keepEgg ret 77 lv (.ref h :: st) M = opK (slotV 0 1 h M) fun q => lim cal sc 0 cX0_keepEgg ret 80 lv (q :: st) M := (lim_step dX0_keepEgg_77).trans (e_get (by decide) rf_0_18)
theorem sX0_keepEgg_80 : lim cal sc 0 cX0_keepEgg ret 80 lv (.int y :: .int x :: .ref h :: st) M = opK (arrN h) fun q => guK (inb x q) (lim cal sc 0 cX0_keepEgg ret 81 lv st (mset M h x.toNatClampNeg y)) := (lim_step dX0_keepEgg_80).trans (e_iast)
theorem sX0_keepEgg_81 : lim cal sc 0 cX0_keepEgg ret 81 (some (.ref h) :: l) st M = lim cal sc 0 cX0_keepEgg ret 82 (some (.ref h) :: l) (.ref h :: st) M := lim_step dX0_keepEgg_81
theorem sX0_keepEgg_82 : lim cal sc 0 cX0_keepEgg ret 82 lv (.ref h :: st) M = lim cal sc 0 cX0_keepEgg ret 83 lv (.ref h :: .ref h :: st) M := lim_step dX0_keepEgg_82
theorem sX0_keepEgg_82_i : lim cal sc 0 cX0_keepEgg ret 82 lv (.int x :: st) M = lim cal sc 0 cX0_keepEgg ret 83 lv (.int x :: .int x :: st) M := lim_step dX0_keepEgg_82
theorem sX0_keepEgg_83 : lim cal sc 0 cX0_keepEgg ret 83 lv (.ref h :: st) M = opK (slotV 0 3 h M) fun q => lim cal sc 0 cX0_keepEgg ret 86 lv (q :: st) M := (lim_step dX0_keepEgg_83).trans (e_get (by decide) rf_0_25)
theorem sX0_keepEgg_86 : lim cal sc 0 cX0_keepEgg ret 86 lv st M = lim cal sc 0 cX0_keepEgg ret 87 lv (.int 1 :: st) M := (lim_step dX0_keepEgg_86).trans (e_ic k_i_1)
theorem sX0_keepEgg_87 : lim cal sc 0 cX0_keepEgg ret 87 lv (.int y :: .int x :: st) M = lim cal sc 0 cX0_keepEgg ret 88 lv (.int (x + y) :: st) M := lim_step dX0_keepEgg_87
theorem sX0_keepEgg_88 : lim cal sc 0 cX0_keepEgg ret 88 lv (.int x :: .ref h :: st) M = guK (isInt 0 3 h) (lim cal sc 0 cX0_keepEgg ret 91 lv st (mset M h 3 x)) := (lim_step dX0_keepEgg_88).trans (e_put rf_0_25 rfl)
theorem sX0_keepEgg_91 : lim cal sc 0 cX0_keepEgg ret 91 (some (.ref h) :: l) st M = lim cal sc 0 cX0_keepEgg ret 92 (some (.ref h) :: l) (.ref h :: st) M := lim_step dX0_keepEgg_91
theorem sX0_keepEgg_92 : lim cal sc 0 cX0_keepEgg ret 92 lv (.ref h :: st) M = opK (slotV 0 0 h M) fun q => lim cal sc 0 cX0_keepEgg ret 95 lv (q :: st) M := (lim_step dX0_keepEgg_92).trans (e_get (by decide) rf_0_12)
theorem sX0_keepEgg_95 : lim cal sc 0 cX0_keepEgg ret 95 lv (.ref h :: st) M = opK (slotV 1 14 h M) fun q => lim cal sc 0 cX0_keepEgg ret 98 lv (q :: st) M := (lim_step dX0_keepEgg_95).trans (e_get (by decide) rf_0_67)
theorem sX0_keepEgg_98 : lim cal sc 0 cX0_keepEgg ret 98 lv (.int x :: st) M = if x = 0 then lim cal sc 0 cX0_keepEgg ret 111 lv st M else lim cal sc 0 cX0_keepEgg ret 101 lv st M := (lim_step dX0_keepEgg_98).trans (e_ifeq (t := 111) (by decide))
theorem sX0_keepEgg_101 : lim cal sc 0 cX0_keepEgg ret 101 (some (.ref h) :: l) st M = lim cal sc 0 cX0_keepEgg ret 102 (some (.ref h) :: l) (.ref h :: st) M := lim_step dX0_keepEgg_101
theorem sX0_keepEgg_102 : lim cal sc 0 cX0_keepEgg ret 102 lv (.ref h :: st) M = lim cal sc 0 cX0_keepEgg ret 103 lv (.ref h :: .ref h :: st) M := lim_step dX0_keepEgg_102
theorem sX0_keepEgg_102_i : lim cal sc 0 cX0_keepEgg ret 102 lv (.int x :: st) M = lim cal sc 0 cX0_keepEgg ret 103 lv (.int x :: .int x :: st) M := lim_step dX0_keepEgg_102
theorem sX0_keepEgg_103 : lim cal sc 0 cX0_keepEgg ret 103 lv (.ref h :: st) M = opK (slotV 0 4 h M) fun q => lim cal sc 0 cX0_keepEgg ret 106 lv (q :: st) M := (lim_step dX0_keepEgg_103).trans (e_get (by decide) rf_0_28)
theorem sX0_keepEgg_106 : lim cal sc 0 cX0_keepEgg ret 106 lv st M = lim cal sc 0 cX0_keepEgg ret 107 lv (.int 1 :: st) M := (lim_step dX0_keepEgg_106).trans (e_ic k_i_1)
theorem sX0_keepEgg_107 : lim cal sc 0 cX0_keepEgg ret 107 lv (.int y :: .int x :: st) M = lim cal sc 0 cX0_keepEgg ret 108 lv (.int (x + y) :: st) M := lim_step dX0_keepEgg_107
theorem sX0_keepEgg_108 : lim cal sc 0 cX0_keepEgg ret 108 lv (.int x :: .ref h :: st) M = guK (isInt 0 4 h) (lim cal sc 0 cX0_keepEgg ret 111 lv st (mset M h 4 x)) := (lim_step dX0_keepEgg_108).trans (e_put rf_0_28 rfl)
theorem sX0_keepEgg_111 : lim cal sc 0 cX0_keepEgg none 111 lv [] M = some (none, M) := (lim_step dX0_keepEgg_111).trans (e_vret)
theorem sX0_eggsKept_0 : lim cal sc 0 cX0_eggsKept ret 0 (some (.ref h) :: l) st M = lim cal sc 0 cX0_eggsKept ret 1 (some (.ref h) :: l) (.ref h :: st) M := lim_step dX0_eggsKept_0
theorem sX0_eggsKept_1 : lim cal sc 0 cX0_eggsKept ret 1 lv (.ref h :: st) M = opK (slotV 0 3 h M) fun q => lim cal sc 0 cX0_eggsKept ret 4 lv (q :: st) M := (lim_step dX0_eggsKept_1).trans (e_get (by decide) rf_0_25)
theorem sX0_eggsKept_4 : lim cal sc 0 cX0_eggsKept ret 4 lv st M = lim cal sc 0 cX0_eggsKept ret 6 lv (.int 12 :: st) M := (lim_step dX0_eggsKept_4).trans (e_bi k_b_12)
theorem sX0_eggsKept_6 : lim cal sc 0 cX0_eggsKept ret 6 lv (.int y :: .int x :: st) M = guK (rk 8 st) (lim cal sc 0 cX0_eggsKept ret 9 lv (.int (if y < x then y else x) :: st) M) := (lim_step dX0_eggsKept_6).trans (e_min rm_0_71)
theorem sX0_eggsKept_9 : lim cal sc 0 cX0_eggsKept (some .int) 9 lv [.int x] M = some (some (.int x), M) := (lim_step dX0_eggsKept_9).trans (e_iret)
theorem sX0_latestWorth_0 : lim cal sc 0 cX0_latestWorth ret 0 lv st M = lim cal sc 0 cX0_latestWorth ret 1 lv (.int 0 :: st) M := (lim_step dX0_latestWorth_0).trans (e_ic k_i_0)
theorem sX0_latestWorth_1 : lim cal sc 0 cX0_latestWorth ret 1 (v0 :: v1 :: v :: l) (.int x :: st) M = lim cal sc 0 cX0_latestWorth ret 2 (v0 :: v1 :: some (.int x) :: l) st M := (lim_step dX0_latestWorth_1).trans (e_istn2)
theorem sX0_latestWorth_2 : lim cal sc 0 cX0_latestWorth ret 2 (v0 :: v1 :: some (.int x) :: l) st M = lim cal sc 0 cX0_latestWorth ret 3 (v0 :: v1 :: some (.int x) :: l) (.int x :: st) M := lim_step dX0_latestWorth_2
theorem sX0_latestWorth_3 : lim cal sc 0 cX0_latestWorth ret 3 (some (.ref h) :: l) st M = lim cal sc 0 cX0_latestWorth ret 4 (some (.ref h) :: l) (.ref h :: st) M := lim_step dX0_latestWorth_3
theorem sX0_latestWorth_4 : lim cal sc 0 cX0_latestWorth ret 4 lv (.ref h :: st) M = guK (isCl 0 h) (guK (rk 8 st) (calK (cal 20 [.ref h] M) fun q M' => lim cal sc 0 cX0_latestWorth ret 7 lv (q.toList ++ st) M')) := (lim_step dX0_latestWorth_4).trans (e_virt0 rm_0_77 mq_20)
theorem sX0_latestWorth_7 : lim cal sc 0 cX0_latestWorth ret 7 lv (.int y :: .int x :: st) M = if y ≤ x then lim cal sc 0 cX0_latestWorth ret 33 lv st M else lim cal sc 0 cX0_latestWorth ret 10 lv st M := (lim_step dX0_latestWorth_7).trans (e_cmpge (t := 33) (by decide))
theorem sX0_latestWorth_10 : lim cal sc 0 cX0_latestWorth ret 10 (some (.ref h) :: l) st M = lim cal sc 0 cX0_latestWorth ret 11 (some (.ref h) :: l) (.ref h :: st) M := lim_step dX0_latestWorth_10
theorem sX0_latestWorth_11 : lim cal sc 0 cX0_latestWorth ret 11 lv (.ref h :: st) M = opK (slotV 0 5 h M) fun q => lim cal sc 0 cX0_latestWorth ret 14 lv (q :: st) M := (lim_step dX0_latestWorth_11).trans (e_get (by decide) rf_0_31)
theorem sX0_latestWorth_14 : lim cal sc 0 cX0_latestWorth ret 14 (v0 :: v1 :: some (.int x) :: l) st M = lim cal sc 0 cX0_latestWorth ret 15 (v0 :: v1 :: some (.int x) :: l) (.int x :: st) M := lim_step dX0_latestWorth_14
theorem sX0_latestWorth_15 : lim cal sc 0 cX0_latestWorth ret 15 lv (.int x :: .ref h :: st) M = opK (arrV9 sc h M) fun q => guK (inb x q.1) (lim cal sc 0 cX0_latestWorth ret 16 lv (.int (q.2 x.toNatClampNeg) :: st) M) := (lim_step dX0_latestWorth_15).trans (e_iald)
theorem sX0_latestWorth_16 : lim cal sc 0 cX0_latestWorth ret 16 (v0 :: some (.int x) :: l) st M = lim cal sc 0 cX0_latestWorth ret 17 (v0 :: some (.int x) :: l) (.int x :: st) M := lim_step dX0_latestWorth_16
theorem sX0_latestWorth_17 : lim cal sc 0 cX0_latestWorth ret 17 lv (.int y :: .int x :: st) M = if x = y then lim cal sc 0 cX0_latestWorth ret 20 lv st M else lim cal sc 0 cX0_latestWorth ret 27 lv st M := (lim_step dX0_latestWorth_17).trans (e_cmpne (t := 27) (by decide))
theorem sX0_latestWorth_20 : lim cal sc 0 cX0_latestWorth ret 20 (some (.ref h) :: l) st M = lim cal sc 0 cX0_latestWorth ret 21 (some (.ref h) :: l) (.ref h :: st) M := lim_step dX0_latestWorth_20
theorem sX0_latestWorth_21 : lim cal sc 0 cX0_latestWorth ret 21 lv (.ref h :: st) M = opK (slotV 0 6 h M) fun q => lim cal sc 0 cX0_latestWorth ret 24 lv (q :: st) M := (lim_step dX0_latestWorth_21).trans (e_get (by decide) rf_0_35)
theorem sX0_latestWorth_24 : lim cal sc 0 cX0_latestWorth ret 24 (v0 :: v1 :: some (.int x) :: l) st M = lim cal sc 0 cX0_latestWorth ret 25 (v0 :: v1 :: some (.int x) :: l) (.int x :: st) M := lim_step dX0_latestWorth_24
theorem sX0_latestWorth_25 : lim cal sc 0 cX0_latestWorth ret 25 lv (.int x :: .ref h :: st) M = opK (arrV9 sc h M) fun q => guK (inb x q.1) (lim cal sc 0 cX0_latestWorth ret 26 lv (.int (q.2 x.toNatClampNeg) :: st) M) := (lim_step dX0_latestWorth_25).trans (e_iald)
theorem sX0_latestWorth_26 : lim cal sc 0 cX0_latestWorth (some .int) 26 lv [.int x] M = some (some (.int x), M) := (lim_step dX0_latestWorth_26).trans (e_iret)
theorem sX0_latestWorth_27 : lim cal sc 0 cX0_latestWorth ret 27 (v0 :: v1 :: some (.int x) :: l) st M = lim cal sc 0 cX0_latestWorth ret 30 (v0 :: v1 :: some (.int (x + 1)) :: l) st M := (lim_step dX0_latestWorth_27).trans (e_inc2 k_i_1)
theorem sX0_latestWorth_30 : lim cal sc 0 cX0_latestWorth ret 30 lv st M = lim cal sc 0 cX0_latestWorth ret 2 lv st M := (lim_step dX0_latestWorth_30).trans (e_goto (t := 2) (by decide))
theorem sX0_latestWorth_33 : lim cal sc 0 cX0_latestWorth ret 33 lv st M = lim cal sc 0 cX0_latestWorth ret 34 lv (.int (-1) :: st) M := (lim_step dX0_latestWorth_33).trans (e_ic k_i_m1)
theorem sX0_latestWorth_34 : lim cal sc 0 cX0_latestWorth (some .int) 34 lv [.int x] M = some (some (.int x), M) := (lim_step dX0_latestWorth_34).trans (e_iret)
theorem sX0_draw_0 : lim cal sc 0 cX0_draw ret 0 (some (.ref h) :: l) st M = lim cal sc 0 cX0_draw ret 1 (some (.ref h) :: l) (.ref h :: st) M := lim_step dX0_draw_0
theorem sX0_draw_1 : lim cal sc 0 cX0_draw ret 1 (some (.ref h) :: l) st M = lim cal sc 0 cX0_draw ret 2 (some (.ref h) :: l) (.ref h :: st) M := lim_step dX0_draw_1
theorem sX0_draw_2 : lim cal sc 0 cX0_draw ret 2 lv (.ref h :: st) M = opK (slotV 0 2 h M) fun q => lim cal sc 0 cX0_draw ret 5 lv (q :: st) M := (lim_step dX0_draw_2).trans (e_get (by decide) rf_0_22)
theorem sX0_draw_5 : lim cal sc 0 cX0_draw ret 5 lv st M = lim cal sc 0 cX0_draw ret 7 lv (.int 1103515245 :: st) M := (lim_step dX0_draw_5).trans (e_ldc rc_0_80)
theorem sX0_draw_7 : lim cal sc 0 cX0_draw ret 7 lv (.int y :: .int x :: st) M = lim cal sc 0 cX0_draw ret 8 lv (.int (x * y) :: st) M := lim_step dX0_draw_7
theorem sX0_draw_8 : lim cal sc 0 cX0_draw ret 8 lv st M = lim cal sc 0 cX0_draw ret 11 lv (.int 12345 :: st) M := (lim_step dX0_draw_8).trans (e_si k_s_12345)
theorem sX0_draw_11 : lim cal sc 0 cX0_draw ret 11 lv (.int y :: .int x :: st) M = lim cal sc 0 cX0_draw ret 12 lv (.int (x + y) :: st) M := lim_step dX0_draw_11
theorem sX0_draw_12 : lim cal sc 0 cX0_draw ret 12 lv (.int x :: .ref h :: st) M = guK (isInt 0 2 h) (lim cal sc 0 cX0_draw ret 15 lv st (mset M h 2 x)) := (lim_step dX0_draw_12).trans (e_put rf_0_22 rfl)
theorem sX0_draw_15 : lim cal sc 0 cX0_draw ret 15 (some (.ref h) :: l) st M = lim cal sc 0 cX0_draw ret 16 (some (.ref h) :: l) (.ref h :: st) M := lim_step dX0_draw_15
theorem sX0_draw_16 : lim cal sc 0 cX0_draw ret 16 lv (.ref h :: st) M = opK (slotV 0 2 h M) fun q => lim cal sc 0 cX0_draw ret 19 lv (q :: st) M := (lim_step dX0_draw_16).trans (e_get (by decide) rf_0_22)
theorem sX0_draw_19 : lim cal sc 0 cX0_draw ret 19 lv st M = lim cal sc 0 cX0_draw ret 21 lv (.int 8 :: st) M := (lim_step dX0_draw_19).trans (e_bi k_b_8)
theorem sX0_draw_21 : lim cal sc 0 cX0_draw ret 21 lv (.int y :: .int x :: st) M = lim cal sc 0 cX0_draw ret 22 lv (.int (x.toUInt32 >>> (y.toUInt32 &&& Int32.toUInt32 31)).toInt32 :: st) M := lim_step dX0_draw_21
theorem sX0_draw_22 : lim cal sc 0 cX0_draw (some .int) 22 lv [.int x] M = some (some (.int x), M) := (lim_step dX0_draw_22).trans (e_iret)
theorem sX0_spotsHolding_0 : lim cal sc 0 cX0_spotsHolding ret 0 lv st M = lim cal sc 0 cX0_spotsHolding ret 1 lv (.int 0 :: st) M := (lim_step dX0_spotsHolding_0).trans (e_ic k_i_0)
theorem sX0_spotsHolding_1 : lim cal sc 0 cX0_spotsHolding ret 1 (v0 :: v :: l) (.int x :: st) M = lim cal sc 0 cX0_spotsHolding ret 2 (v0 :: some (.int x) :: l) st M := (lim_step dX0_spotsHolding_1).trans (e_istn1)
theorem sX0_spotsHolding_2 : lim cal sc 0 cX0_spotsHolding ret 2 lv st M = lim cal sc 0 cX0_spotsHolding ret 3 lv (.int 0 :: st) M := (lim_step dX0_spotsHolding_2).trans (e_ic k_i_0)
theorem sX0_spotsHolding_3 : lim cal sc 0 cX0_spotsHolding ret 3 (v0 :: v1 :: v :: l) (.int x :: st) M = lim cal sc 0 cX0_spotsHolding ret 4 (v0 :: v1 :: some (.int x) :: l) st M := (lim_step dX0_spotsHolding_3).trans (e_istn2)
theorem sX0_spotsHolding_4 : lim cal sc 0 cX0_spotsHolding ret 4 (v0 :: v1 :: some (.int x) :: l) st M = lim cal sc 0 cX0_spotsHolding ret 5 (v0 :: v1 :: some (.int x) :: l) (.int x :: st) M := lim_step dX0_spotsHolding_4
theorem sX0_spotsHolding_5 : lim cal sc 0 cX0_spotsHolding ret 5 lv st M = lim cal sc 0 cX0_spotsHolding ret 7 lv (.int 10 :: st) M := (lim_step dX0_spotsHolding_5).trans (e_bi k_b_10)
theorem sX0_spotsHolding_7 : lim cal sc 0 cX0_spotsHolding ret 7 lv (.int y :: .int x :: st) M = if y ≤ x then lim cal sc 0 cX0_spotsHolding ret 28 lv st M else lim cal sc 0 cX0_spotsHolding ret 10 lv st M := (lim_step dX0_spotsHolding_7).trans (e_cmpge (t := 28) (by decide))
theorem sX0_spotsHolding_10 : lim cal sc 0 cX0_spotsHolding ret 10 (some (.ref h) :: l) st M = lim cal sc 0 cX0_spotsHolding ret 11 (some (.ref h) :: l) (.ref h :: st) M := lim_step dX0_spotsHolding_10
theorem sX0_spotsHolding_11 : lim cal sc 0 cX0_spotsHolding ret 11 lv (.ref h :: st) M = opK (slotV 0 8 h M) fun q => lim cal sc 0 cX0_spotsHolding ret 14 lv (q :: st) M := (lim_step dX0_spotsHolding_11).trans (e_get (by decide) rf_0_41)
theorem sX0_spotsHolding_14 : lim cal sc 0 cX0_spotsHolding ret 14 (v0 :: v1 :: some (.int x) :: l) st M = lim cal sc 0 cX0_spotsHolding ret 15 (v0 :: v1 :: some (.int x) :: l) (.int x :: st) M := lim_step dX0_spotsHolding_14
theorem sX0_spotsHolding_15 : lim cal sc 0 cX0_spotsHolding ret 15 lv (.int x :: .ref h :: st) M = opK (arrV9 sc h M) fun q => guK (inb x q.1) (lim cal sc 0 cX0_spotsHolding ret 16 lv (.int (q.2 x.toNatClampNeg) :: st) M) := (lim_step dX0_spotsHolding_15).trans (e_iald)
theorem sX0_spotsHolding_16 : lim cal sc 0 cX0_spotsHolding ret 16 lv (.int x :: st) M = if x < 0 then lim cal sc 0 cX0_spotsHolding ret 22 lv st M else lim cal sc 0 cX0_spotsHolding ret 19 lv st M := (lim_step dX0_spotsHolding_16).trans (e_iflt (t := 22) (by decide))
theorem sX0_spotsHolding_19 : lim cal sc 0 cX0_spotsHolding ret 19 (v0 :: some (.int x) :: l) st M = lim cal sc 0 cX0_spotsHolding ret 22 (v0 :: some (.int (x + 1)) :: l) st M := (lim_step dX0_spotsHolding_19).trans (e_inc1 k_i_1)
theorem sX0_spotsHolding_22 : lim cal sc 0 cX0_spotsHolding ret 22 (v0 :: v1 :: some (.int x) :: l) st M = lim cal sc 0 cX0_spotsHolding ret 25 (v0 :: v1 :: some (.int (x + 1)) :: l) st M := (lim_step dX0_spotsHolding_22).trans (e_inc2 k_i_1)
theorem sX0_spotsHolding_25 : lim cal sc 0 cX0_spotsHolding ret 25 lv st M = lim cal sc 0 cX0_spotsHolding ret 4 lv st M := (lim_step dX0_spotsHolding_25).trans (e_goto (t := 4) (by decide))
theorem sX0_spotsHolding_28 : lim cal sc 0 cX0_spotsHolding ret 28 (v0 :: some (.int x) :: l) st M = lim cal sc 0 cX0_spotsHolding ret 29 (v0 :: some (.int x) :: l) (.int x :: st) M := lim_step dX0_spotsHolding_28
theorem sX0_spotsHolding_29 : lim cal sc 0 cX0_spotsHolding (some .int) 29 lv [.int x] M = some (some (.int x), M) := (lim_step dX0_spotsHolding_29).trans (e_iret)
theorem sX1_become_0 : lim cal sc 1 cX1_become ret 0 (some (.ref h) :: l) st M = lim cal sc 1 cX1_become ret 1 (some (.ref h) :: l) (.ref h :: st) M := lim_step dX1_become_0
theorem sX1_become_1 : lim cal sc 1 cX1_become ret 1 (v0 :: some (.ref h) :: l) st M = lim cal sc 1 cX1_become ret 2 (v0 :: some (.ref h) :: l) (.ref h :: st) M := lim_step dX1_become_1
theorem sX1_become_2 : lim cal sc 1 cX1_become ret 2 lv (.ref h :: st) M = opK (slotV 1 0 h M) fun q => lim cal sc 1 cX1_become ret 5 lv (q :: st) M := (lim_step dX1_become_2).trans (e_get (by decide) rf_1_9)
theorem sX1_become_5 : lim cal sc 1 cX1_become ret 5 lv (.int x :: .ref h :: st) M = guK (isInt 1 0 h) (lim cal sc 1 cX1_become ret 8 lv st (mset M h 0 x)) := (lim_step dX1_become_5).trans (e_put rf_1_9 rfl)
theorem sX1_become_8 : lim cal sc 1 cX1_become ret 8 (v0 :: some (.ref h) :: l) st M = lim cal sc 1 cX1_become ret 9 (v0 :: some (.ref h) :: l) (.ref h :: st) M := lim_step dX1_become_8
theorem sX1_become_9 : lim cal sc 1 cX1_become ret 9 lv (.ref h :: st) M = opK (slotV 1 1 h M) fun q => lim cal sc 1 cX1_become ret 12 lv (q :: st) M := (lim_step dX1_become_9).trans (e_get (by decide) rf_1_15)
theorem sX1_become_12 : lim cal sc 1 cX1_become ret 12 lv st M = lim cal sc 1 cX1_become ret 13 lv (.int 0 :: st) M := (lim_step dX1_become_12).trans (e_ic k_i_0)
theorem sX1_become_13 : lim cal sc 1 cX1_become ret 13 (some (.ref h) :: l) st M = lim cal sc 1 cX1_become ret 14 (some (.ref h) :: l) (.ref h :: st) M := lim_step dX1_become_13
theorem sX1_become_14 : lim cal sc 1 cX1_become ret 14 lv (.ref h :: st) M = opK (slotV 1 1 h M) fun q => lim cal sc 1 cX1_become ret 17 lv (q :: st) M := (lim_step dX1_become_14).trans (e_get (by decide) rf_1_15)
theorem sX1_become_17 : lim cal sc 1 cX1_become ret 17 lv st M = lim cal sc 1 cX1_become ret 18 lv (.int 0 :: st) M := (lim_step dX1_become_17).trans (e_ic k_i_0)
theorem sX1_become_18 : lim cal sc 1 cX1_become ret 18 lv st M = lim cal sc 1 cX1_become ret 20 lv (.int 10 :: st) M := (lim_step dX1_become_18).trans (e_bi k_b_10)
theorem sX1_become_20 : lim cal sc 1 cX1_become ret 20 lv (.int z :: .int y :: .ref h2 :: .int x :: .ref h :: st) M = guK (cpy9 h h2 x y z) (guK (rk 8 st) (lim cal sc 1 cX1_become ret 23 lv st (mrow M h2 (va_cpy (M h) (M h2) x.toNatClampNeg y.toNatClampNeg z.toNatClampNeg)))) := (lim_step dX1_become_20).trans (e_copy rm_1_59)
theorem sX1_become_23 : lim cal sc 1 cX1_become ret 23 (v0 :: some (.ref h) :: l) st M = lim cal sc 1 cX1_become ret 24 (v0 :: some (.ref h) :: l) (.ref h :: st) M := lim_step dX1_become_23
theorem sX1_become_24 : lim cal sc 1 cX1_become ret 24 lv (.ref h :: st) M = opK (slotV 1 2 h M) fun q => lim cal sc 1 cX1_become ret 27 lv (q :: st) M := (lim_step dX1_become_24).trans (e_get (by decide) rf_1_19)
theorem sX1_become_27 : lim cal sc 1 cX1_become ret 27 lv st M = lim cal sc 1 cX1_become ret 28 lv (.int 0 :: st) M := (lim_step dX1_become_27).trans (e_ic k_i_0)
theorem sX1_become_28 : lim cal sc 1 cX1_become ret 28 (some (.ref h) :: l) st M = lim cal sc 1 cX1_become ret 29 (some (.ref h) :: l) (.ref h :: st) M := lim_step dX1_become_28
theorem sX1_become_29 : lim cal sc 1 cX1_become ret 29 lv (.ref h :: st) M = opK (slotV 1 2 h M) fun q => lim cal sc 1 cX1_become ret 32 lv (q :: st) M := (lim_step dX1_become_29).trans (e_get (by decide) rf_1_19)
theorem sX1_become_32 : lim cal sc 1 cX1_become ret 32 lv st M = lim cal sc 1 cX1_become ret 33 lv (.int 0 :: st) M := (lim_step dX1_become_32).trans (e_ic k_i_0)
theorem sX1_become_33 : lim cal sc 1 cX1_become ret 33 lv st M = lim cal sc 1 cX1_become ret 35 lv (.int 10 :: st) M := (lim_step dX1_become_33).trans (e_bi k_b_10)
theorem sX1_become_35 : lim cal sc 1 cX1_become ret 35 lv (.int z :: .int y :: .ref h2 :: .int x :: .ref h :: st) M = guK (cpy9 h h2 x y z) (guK (rk 8 st) (lim cal sc 1 cX1_become ret 38 lv st (mrow M h2 (va_cpy (M h) (M h2) x.toNatClampNeg y.toNatClampNeg z.toNatClampNeg)))) := (lim_step dX1_become_35).trans (e_copy rm_1_59)
theorem sX1_become_38 : lim cal sc 1 cX1_become ret 38 (v0 :: some (.ref h) :: l) st M = lim cal sc 1 cX1_become ret 39 (v0 :: some (.ref h) :: l) (.ref h :: st) M := lim_step dX1_become_38
theorem sX1_become_39 : lim cal sc 1 cX1_become ret 39 lv (.ref h :: st) M = opK (slotV 1 3 h M) fun q => lim cal sc 1 cX1_become ret 42 lv (q :: st) M := (lim_step dX1_become_39).trans (e_get (by decide) rf_1_22)
theorem sX1_become_42 : lim cal sc 1 cX1_become ret 42 lv st M = lim cal sc 1 cX1_become ret 43 lv (.int 0 :: st) M := (lim_step dX1_become_42).trans (e_ic k_i_0)
theorem sX1_become_43 : lim cal sc 1 cX1_become ret 43 (some (.ref h) :: l) st M = lim cal sc 1 cX1_become ret 44 (some (.ref h) :: l) (.ref h :: st) M := lim_step dX1_become_43
theorem sX1_become_44 : lim cal sc 1 cX1_become ret 44 lv (.ref h :: st) M = opK (slotV 1 3 h M) fun q => lim cal sc 1 cX1_become ret 47 lv (q :: st) M := (lim_step dX1_become_44).trans (e_get (by decide) rf_1_22)
theorem sX1_become_47 : lim cal sc 1 cX1_become ret 47 lv st M = lim cal sc 1 cX1_become ret 48 lv (.int 0 :: st) M := (lim_step dX1_become_47).trans (e_ic k_i_0)
theorem sX1_become_48 : lim cal sc 1 cX1_become ret 48 lv st M = lim cal sc 1 cX1_become ret 50 lv (.int 10 :: st) M := (lim_step dX1_become_48).trans (e_bi k_b_10)
theorem sX1_become_50 : lim cal sc 1 cX1_become ret 50 lv (.int z :: .int y :: .ref h2 :: .int x :: .ref h :: st) M = guK (cpy9 h h2 x y z) (guK (rk 8 st) (lim cal sc 1 cX1_become ret 53 lv st (mrow M h2 (va_cpy (M h) (M h2) x.toNatClampNeg y.toNatClampNeg z.toNatClampNeg)))) := (lim_step dX1_become_50).trans (e_copy rm_1_59)
theorem sX1_become_53 : lim cal sc 1 cX1_become ret 53 (v0 :: some (.ref h) :: l) st M = lim cal sc 1 cX1_become ret 54 (v0 :: some (.ref h) :: l) (.ref h :: st) M := lim_step dX1_become_53
theorem sX1_become_54 : lim cal sc 1 cX1_become ret 54 lv (.ref h :: st) M = opK (slotV 1 4 h M) fun q => lim cal sc 1 cX1_become ret 57 lv (q :: st) M := (lim_step dX1_become_54).trans (e_get (by decide) rf_1_25)
theorem sX1_become_57 : lim cal sc 1 cX1_become ret 57 lv st M = lim cal sc 1 cX1_become ret 58 lv (.int 0 :: st) M := (lim_step dX1_become_57).trans (e_ic k_i_0)
theorem sX1_become_58 : lim cal sc 1 cX1_become ret 58 (some (.ref h) :: l) st M = lim cal sc 1 cX1_become ret 59 (some (.ref h) :: l) (.ref h :: st) M := lim_step dX1_become_58
theorem sX1_become_59 : lim cal sc 1 cX1_become ret 59 lv (.ref h :: st) M = opK (slotV 1 4 h M) fun q => lim cal sc 1 cX1_become ret 62 lv (q :: st) M := (lim_step dX1_become_59).trans (e_get (by decide) rf_1_25)
theorem sX1_become_62 : lim cal sc 1 cX1_become ret 62 lv st M = lim cal sc 1 cX1_become ret 63 lv (.int 0 :: st) M := (lim_step dX1_become_62).trans (e_ic k_i_0)
theorem sX1_become_63 : lim cal sc 1 cX1_become ret 63 lv st M = lim cal sc 1 cX1_become ret 65 lv (.int 10 :: st) M := (lim_step dX1_become_63).trans (e_bi k_b_10)
theorem sX1_become_65 : lim cal sc 1 cX1_become ret 65 lv (.int z :: .int y :: .ref h2 :: .int x :: .ref h :: st) M = guK (cpy9 h h2 x y z) (guK (rk 8 st) (lim cal sc 1 cX1_become ret 68 lv st (mrow M h2 (va_cpy (M h) (M h2) x.toNatClampNeg y.toNatClampNeg z.toNatClampNeg)))) := (lim_step dX1_become_65).trans (e_copy rm_1_59)
theorem sX1_become_68 : lim cal sc 1 cX1_become ret 68 (v0 :: some (.ref h) :: l) st M = lim cal sc 1 cX1_become ret 69 (v0 :: some (.ref h) :: l) (.ref h :: st) M := lim_step dX1_become_68
theorem sX1_become_69 : lim cal sc 1 cX1_become ret 69 lv (.ref h :: st) M = opK (slotV 1 5 h M) fun q => lim cal sc 1 cX1_become ret 72 lv (q :: st) M := (lim_step dX1_become_69).trans (e_get (by decide) rf_1_28)
theorem sX1_become_72 : lim cal sc 1 cX1_become ret 72 lv st M = lim cal sc 1 cX1_become ret 73 lv (.int 0 :: st) M := (lim_step dX1_become_72).trans (e_ic k_i_0)
theorem sX1_become_73 : lim cal sc 1 cX1_become ret 73 (some (.ref h) :: l) st M = lim cal sc 1 cX1_become ret 74 (some (.ref h) :: l) (.ref h :: st) M := lim_step dX1_become_73
theorem sX1_become_74 : lim cal sc 1 cX1_become ret 74 lv (.ref h :: st) M = opK (slotV 1 5 h M) fun q => lim cal sc 1 cX1_become ret 77 lv (q :: st) M := (lim_step dX1_become_74).trans (e_get (by decide) rf_1_28)
theorem sX1_become_77 : lim cal sc 1 cX1_become ret 77 lv st M = lim cal sc 1 cX1_become ret 78 lv (.int 0 :: st) M := (lim_step dX1_become_77).trans (e_ic k_i_0)
theorem sX1_become_78 : lim cal sc 1 cX1_become ret 78 lv st M = lim cal sc 1 cX1_become ret 80 lv (.int 10 :: st) M := (lim_step dX1_become_78).trans (e_bi k_b_10)
theorem sX1_become_80 : lim cal sc 1 cX1_become ret 80 lv (.int z :: .int y :: .ref h2 :: .int x :: .ref h :: st) M = guK (cpy9 h h2 x y z) (guK (rk 8 st) (lim cal sc 1 cX1_become ret 83 lv st (mrow M h2 (va_cpy (M h) (M h2) x.toNatClampNeg y.toNatClampNeg z.toNatClampNeg)))) := (lim_step dX1_become_80).trans (e_copy rm_1_59)
theorem sX1_become_83 : lim cal sc 1 cX1_become ret 83 (v0 :: some (.ref h) :: l) st M = lim cal sc 1 cX1_become ret 84 (v0 :: some (.ref h) :: l) (.ref h :: st) M := lim_step dX1_become_83
theorem sX1_become_84 : lim cal sc 1 cX1_become ret 84 lv (.ref h :: st) M = opK (slotV 1 6 h M) fun q => lim cal sc 1 cX1_become ret 87 lv (q :: st) M := (lim_step dX1_become_84).trans (e_get (by decide) rf_1_31)
theorem sX1_become_87 : lim cal sc 1 cX1_become ret 87 lv st M = lim cal sc 1 cX1_become ret 88 lv (.int 0 :: st) M := (lim_step dX1_become_87).trans (e_ic k_i_0)
theorem sX1_become_88 : lim cal sc 1 cX1_become ret 88 (some (.ref h) :: l) st M = lim cal sc 1 cX1_become ret 89 (some (.ref h) :: l) (.ref h :: st) M := lim_step dX1_become_88
theorem sX1_become_89 : lim cal sc 1 cX1_become ret 89 lv (.ref h :: st) M = opK (slotV 1 6 h M) fun q => lim cal sc 1 cX1_become ret 92 lv (q :: st) M := (lim_step dX1_become_89).trans (e_get (by decide) rf_1_31)
theorem sX1_become_92 : lim cal sc 1 cX1_become ret 92 lv st M = lim cal sc 1 cX1_become ret 93 lv (.int 0 :: st) M := (lim_step dX1_become_92).trans (e_ic k_i_0)
theorem sX1_become_93 : lim cal sc 1 cX1_become ret 93 lv st M = lim cal sc 1 cX1_become ret 95 lv (.int 10 :: st) M := (lim_step dX1_become_93).trans (e_bi k_b_10)
theorem sX1_become_95 : lim cal sc 1 cX1_become ret 95 lv (.int z :: .int y :: .ref h2 :: .int x :: .ref h :: st) M = guK (cpy9 h h2 x y z) (guK (rk 8 st) (lim cal sc 1 cX1_become ret 98 lv st (mrow M h2 (va_cpy (M h) (M h2) x.toNatClampNeg y.toNatClampNeg z.toNatClampNeg)))) := (lim_step dX1_become_95).trans (e_copy rm_1_59)
theorem sX1_become_98 : lim cal sc 1 cX1_become ret 98 (v0 :: some (.ref h) :: l) st M = lim cal sc 1 cX1_become ret 99 (v0 :: some (.ref h) :: l) (.ref h :: st) M := lim_step dX1_become_98
theorem sX1_become_99 : lim cal sc 1 cX1_become ret 99 lv (.ref h :: st) M = opK (slotV 1 7 h M) fun q => lim cal sc 1 cX1_become ret 102 lv (q :: st) M := (lim_step dX1_become_99).trans (e_get (by decide) rf_1_34)
theorem sX1_become_102 : lim cal sc 1 cX1_become ret 102 lv st M = lim cal sc 1 cX1_become ret 103 lv (.int 0 :: st) M := (lim_step dX1_become_102).trans (e_ic k_i_0)
theorem sX1_become_103 : lim cal sc 1 cX1_become ret 103 (some (.ref h) :: l) st M = lim cal sc 1 cX1_become ret 104 (some (.ref h) :: l) (.ref h :: st) M := lim_step dX1_become_103
theorem sX1_become_104 : lim cal sc 1 cX1_become ret 104 lv (.ref h :: st) M = opK (slotV 1 7 h M) fun q => lim cal sc 1 cX1_become ret 107 lv (q :: st) M := (lim_step dX1_become_104).trans (e_get (by decide) rf_1_34)
theorem sX1_become_107 : lim cal sc 1 cX1_become ret 107 lv st M = lim cal sc 1 cX1_become ret 108 lv (.int 0 :: st) M := (lim_step dX1_become_107).trans (e_ic k_i_0)
theorem sX1_become_108 : lim cal sc 1 cX1_become ret 108 lv st M = lim cal sc 1 cX1_become ret 110 lv (.int 10 :: st) M := (lim_step dX1_become_108).trans (e_bi k_b_10)
theorem sX1_become_110 : lim cal sc 1 cX1_become ret 110 lv (.int z :: .int y :: .ref h2 :: .int x :: .ref h :: st) M = guK (cpy9 h h2 x y z) (guK (rk 8 st) (lim cal sc 1 cX1_become ret 113 lv st (mrow M h2 (va_cpy (M h) (M h2) x.toNatClampNeg y.toNatClampNeg z.toNatClampNeg)))) := (lim_step dX1_become_110).trans (e_copy rm_1_59)
theorem sX1_become_113 : lim cal sc 1 cX1_become ret 113 (v0 :: some (.ref h) :: l) st M = lim cal sc 1 cX1_become ret 114 (v0 :: some (.ref h) :: l) (.ref h :: st) M := lim_step dX1_become_113
theorem sX1_become_114 : lim cal sc 1 cX1_become ret 114 lv (.ref h :: st) M = opK (slotV 1 8 h M) fun q => lim cal sc 1 cX1_become ret 117 lv (q :: st) M := (lim_step dX1_become_114).trans (e_get (by decide) rf_1_37)
theorem sX1_become_117 : lim cal sc 1 cX1_become ret 117 lv st M = lim cal sc 1 cX1_become ret 118 lv (.int 0 :: st) M := (lim_step dX1_become_117).trans (e_ic k_i_0)
theorem sX1_become_118 : lim cal sc 1 cX1_become ret 118 (some (.ref h) :: l) st M = lim cal sc 1 cX1_become ret 119 (some (.ref h) :: l) (.ref h :: st) M := lim_step dX1_become_118
theorem sX1_become_119 : lim cal sc 1 cX1_become ret 119 lv (.ref h :: st) M = opK (slotV 1 8 h M) fun q => lim cal sc 1 cX1_become ret 122 lv (q :: st) M := (lim_step dX1_become_119).trans (e_get (by decide) rf_1_37)
theorem sX1_become_122 : lim cal sc 1 cX1_become ret 122 lv st M = lim cal sc 1 cX1_become ret 123 lv (.int 0 :: st) M := (lim_step dX1_become_122).trans (e_ic k_i_0)
theorem sX1_become_123 : lim cal sc 1 cX1_become ret 123 lv st M = lim cal sc 1 cX1_become ret 125 lv (.int 8 :: st) M := (lim_step dX1_become_123).trans (e_bi k_b_8)
theorem sX1_become_125 : lim cal sc 1 cX1_become ret 125 lv (.int z :: .int y :: .ref h2 :: .int x :: .ref h :: st) M = guK (cpy9 h h2 x y z) (guK (rk 8 st) (lim cal sc 1 cX1_become ret 128 lv st (mrow M h2 (va_cpy (M h) (M h2) x.toNatClampNeg y.toNatClampNeg z.toNatClampNeg)))) := (lim_step dX1_become_125).trans (e_copy rm_1_59)
theorem sX1_become_128 : lim cal sc 1 cX1_become ret 128 (some (.ref h) :: l) st M = lim cal sc 1 cX1_become ret 129 (some (.ref h) :: l) (.ref h :: st) M := lim_step dX1_become_128
theorem sX1_become_129 : lim cal sc 1 cX1_become ret 129 (v0 :: some (.ref h) :: l) st M = lim cal sc 1 cX1_become ret 130 (v0 :: some (.ref h) :: l) (.ref h :: st) M := lim_step dX1_become_129
theorem sX1_become_130 : lim cal sc 1 cX1_become ret 130 lv (.ref h :: st) M = opK (slotV 1 9 h M) fun q => lim cal sc 1 cX1_become ret 133 lv (q :: st) M := (lim_step dX1_become_130).trans (e_get (by decide) rf_1_40)
theorem sX1_become_133 : lim cal sc 1 cX1_become ret 133 lv (.int x :: .ref h :: st) M = guK (isInt 1 9 h) (lim cal sc 1 cX1_become ret 136 lv st (mset M h 9 x)) := (lim_step dX1_become_133).trans (e_put rf_1_40 rfl)
theorem sX1_become_136 : lim cal sc 1 cX1_become ret 136 (some (.ref h) :: l) st M = lim cal sc 1 cX1_become ret 137 (some (.ref h) :: l) (.ref h :: st) M := lim_step dX1_become_136
theorem sX1_become_137 : lim cal sc 1 cX1_become ret 137 (v0 :: some (.ref h) :: l) st M = lim cal sc 1 cX1_become ret 138 (v0 :: some (.ref h) :: l) (.ref h :: st) M := lim_step dX1_become_137
theorem sX1_become_138 : lim cal sc 1 cX1_become ret 138 lv (.ref h :: st) M = opK (slotV 1 10 h M) fun q => lim cal sc 1 cX1_become ret 141 lv (q :: st) M := (lim_step dX1_become_138).trans (e_get (by decide) rf_1_43)
theorem sX1_become_141 : lim cal sc 1 cX1_become ret 141 lv (.int x :: .ref h :: st) M = guK (isInt 1 10 h) (lim cal sc 1 cX1_become ret 144 lv st (mset M h 10 x)) := (lim_step dX1_become_141).trans (e_put rf_1_43 rfl)
theorem sX1_become_144 : lim cal sc 1 cX1_become ret 144 (some (.ref h) :: l) st M = lim cal sc 1 cX1_become ret 145 (some (.ref h) :: l) (.ref h :: st) M := lim_step dX1_become_144
theorem sX1_become_145 : lim cal sc 1 cX1_become ret 145 (v0 :: some (.ref h) :: l) st M = lim cal sc 1 cX1_become ret 146 (v0 :: some (.ref h) :: l) (.ref h :: st) M := lim_step dX1_become_145
theorem sX1_become_146 : lim cal sc 1 cX1_become ret 146 lv (.ref h :: st) M = opK (slotV 1 11 h M) fun q => lim cal sc 1 cX1_become ret 149 lv (q :: st) M := (lim_step dX1_become_146).trans (e_get (by decide) rf_1_46)
theorem sX1_become_149 : lim cal sc 1 cX1_become ret 149 lv (.int x :: .ref h :: st) M = guK (isInt 1 11 h) (lim cal sc 1 cX1_become ret 152 lv st (mset M h 11 x)) := (lim_step dX1_become_149).trans (e_put rf_1_46 rfl)
theorem sX1_become_152 : lim cal sc 1 cX1_become none 152 lv [] M = some (none, M) := (lim_step dX1_become_152).trans (e_vret)
theorem sX1_addThing_0 : lim cal sc 1 cX1_addThing ret 0 (some (.ref h) :: l) st M = lim cal sc 1 cX1_addThing ret 1 (some (.ref h) :: l) (.ref h :: st) M := lim_step dX1_addThing_0
theorem sX1_addThing_1 : lim cal sc 1 cX1_addThing ret 1 lv (.ref h :: st) M = opK (slotV 1 0 h M) fun q => lim cal sc 1 cX1_addThing ret 4 lv (q :: st) M := (lim_step dX1_addThing_1).trans (e_get (by decide) rf_1_9)
theorem sX1_addThing_4 : lim cal sc 1 cX1_addThing ret 4 lv st M = lim cal sc 1 cX1_addThing ret 6 lv (.int 10 :: st) M := (lim_step dX1_addThing_4).trans (e_bi k_b_10)
theorem sX1_addThing_6 : lim cal sc 1 cX1_addThing ret 6 lv (.int y :: .int x :: st) M = if x < y then lim cal sc 1 cX1_addThing ret 11 lv st M else lim cal sc 1 cX1_addThing ret 9 lv st M := (lim_step dX1_addThing_6).trans (e_cmplt (t := 11) (by decide))
theorem sX1_addThing_9 : lim cal sc 1 cX1_addThing ret 9 lv st M = lim cal sc 1 cX1_addThing ret 10 lv (.int (-1) :: st) M := (lim_step dX1_addThing_9).trans (e_ic k_i_m1)
theorem sX1_addThing_10 : lim cal sc 1 cX1_addThing (some .int) 10 lv [.int x] M = some (some (.int x), M) := (lim_step dX1_addThing_10).trans (e_iret)
theorem sX1_addThing_11 : lim cal sc 1 cX1_addThing ret 11 (some (.ref h) :: l) st M = lim cal sc 1 cX1_addThing ret 12 (some (.ref h) :: l) (.ref h :: st) M := lim_step dX1_addThing_11
theorem sX1_addThing_12 : lim cal sc 1 cX1_addThing ret 12 lv (.ref h :: st) M = opK (slotV 1 0 h M) fun q => lim cal sc 1 cX1_addThing ret 15 lv (q :: st) M := (lim_step dX1_addThing_12).trans (e_get (by decide) rf_1_9)
theorem sX1_addThing_15 : lim cal sc 1 cX1_addThing ret 15 (v0 :: v1 :: v :: l) (.int x :: st) M = lim cal sc 1 cX1_addThing ret 16 (v0 :: v1 :: some (.int x) :: l) st M := (lim_step dX1_addThing_15).trans (e_istn2)
theorem sX1_addThing_16 : lim cal sc 1 cX1_addThing ret 16 (some (.ref h) :: l) st M = lim cal sc 1 cX1_addThing ret 17 (some (.ref h) :: l) (.ref h :: st) M := lim_step dX1_addThing_16
theorem sX1_addThing_17 : lim cal sc 1 cX1_addThing ret 17 lv (.ref h :: st) M = opK (slotV 1 1 h M) fun q => lim cal sc 1 cX1_addThing ret 20 lv (q :: st) M := (lim_step dX1_addThing_17).trans (e_get (by decide) rf_1_15)
theorem sX1_addThing_20 : lim cal sc 1 cX1_addThing ret 20 (v0 :: v1 :: some (.int x) :: l) st M = lim cal sc 1 cX1_addThing ret 21 (v0 :: v1 :: some (.int x) :: l) (.int x :: st) M := lim_step dX1_addThing_20
theorem sX1_addThing_21 : lim cal sc 1 cX1_addThing ret 21 (v0 :: some (.int x) :: l) st M = lim cal sc 1 cX1_addThing ret 22 (v0 :: some (.int x) :: l) (.int x :: st) M := lim_step dX1_addThing_21
theorem sX1_addThing_22 : lim cal sc 1 cX1_addThing ret 22 lv (.int y :: .int x :: .ref h :: st) M = opK (arrN h) fun q => guK (inb x q) (lim cal sc 1 cX1_addThing ret 23 lv st (mset M h x.toNatClampNeg y)) := (lim_step dX1_addThing_22).trans (e_iast)
theorem sX1_addThing_23 : lim cal sc 1 cX1_addThing ret 23 (some (.ref h) :: l) st M = lim cal sc 1 cX1_addThing ret 24 (some (.ref h) :: l) (.ref h :: st) M := lim_step dX1_addThing_23
theorem sX1_addThing_24 : lim cal sc 1 cX1_addThing ret 24 lv (.ref h :: st) M = opK (slotV 1 2 h M) fun q => lim cal sc 1 cX1_addThing ret 27 lv (q :: st) M := (lim_step dX1_addThing_24).trans (e_get (by decide) rf_1_19)
theorem sX1_addThing_27 : lim cal sc 1 cX1_addThing ret 27 (v0 :: v1 :: some (.int x) :: l) st M = lim cal sc 1 cX1_addThing ret 28 (v0 :: v1 :: some (.int x) :: l) (.int x :: st) M := lim_step dX1_addThing_27
theorem sX1_addThing_28 : lim cal sc 1 cX1_addThing ret 28 lv st M = lim cal sc 1 cX1_addThing ret 29 lv (.int 2 :: st) M := (lim_step dX1_addThing_28).trans (e_ic k_i_2)
theorem sX1_addThing_29 : lim cal sc 1 cX1_addThing ret 29 lv (.int y :: .int x :: .ref h :: st) M = opK (arrN h) fun q => guK (inb x q) (lim cal sc 1 cX1_addThing ret 30 lv st (mset M h x.toNatClampNeg y)) := (lim_step dX1_addThing_29).trans (e_iast)
theorem sX1_addThing_30 : lim cal sc 1 cX1_addThing ret 30 (some (.ref h) :: l) st M = lim cal sc 1 cX1_addThing ret 31 (some (.ref h) :: l) (.ref h :: st) M := lim_step dX1_addThing_30
theorem sX1_addThing_31 : lim cal sc 1 cX1_addThing ret 31 lv (.ref h :: st) M = opK (slotV 1 3 h M) fun q => lim cal sc 1 cX1_addThing ret 34 lv (q :: st) M := (lim_step dX1_addThing_31).trans (e_get (by decide) rf_1_22)
theorem sX1_addThing_34 : lim cal sc 1 cX1_addThing ret 34 (v0 :: v1 :: some (.int x) :: l) st M = lim cal sc 1 cX1_addThing ret 35 (v0 :: v1 :: some (.int x) :: l) (.int x :: st) M := lim_step dX1_addThing_34
theorem sX1_addThing_35 : lim cal sc 1 cX1_addThing ret 35 lv st M = lim cal sc 1 cX1_addThing ret 37 lv (.int 10 :: st) M := (lim_step dX1_addThing_35).trans (e_bi k_b_10)
theorem sX1_addThing_37 : lim cal sc 1 cX1_addThing ret 37 lv (.int y :: .int x :: .ref h :: st) M = opK (arrN h) fun q => guK (inb x q) (lim cal sc 1 cX1_addThing ret 38 lv st (mset M h x.toNatClampNeg y)) := (lim_step dX1_addThing_37).trans (e_iast)
theorem sX1_addThing_38 : lim cal sc 1 cX1_addThing ret 38 (some (.ref h) :: l) st M = lim cal sc 1 cX1_addThing ret 39 (some (.ref h) :: l) (.ref h :: st) M := lim_step dX1_addThing_38
theorem sX1_addThing_39 : lim cal sc 1 cX1_addThing ret 39 lv (.ref h :: st) M = opK (slotV 1 4 h M) fun q => lim cal sc 1 cX1_addThing ret 42 lv (q :: st) M := (lim_step dX1_addThing_39).trans (e_get (by decide) rf_1_25)
theorem sX1_addThing_42 : lim cal sc 1 cX1_addThing ret 42 (v0 :: v1 :: some (.int x) :: l) st M = lim cal sc 1 cX1_addThing ret 43 (v0 :: v1 :: some (.int x) :: l) (.int x :: st) M := lim_step dX1_addThing_42
theorem sX1_addThing_43 : lim cal sc 1 cX1_addThing ret 43 lv st M = lim cal sc 1 cX1_addThing ret 44 lv (.int 0 :: st) M := (lim_step dX1_addThing_43).trans (e_ic k_i_0)
theorem sX1_addThing_44 : lim cal sc 1 cX1_addThing ret 44 lv (.int y :: .int x :: .ref h :: st) M = opK (arrN h) fun q => guK (inb x q) (lim cal sc 1 cX1_addThing ret 45 lv st (mset M h x.toNatClampNeg y)) := (lim_step dX1_addThing_44).trans (e_iast)
theorem sX1_addThing_45 : lim cal sc 1 cX1_addThing ret 45 (some (.ref h) :: l) st M = lim cal sc 1 cX1_addThing ret 46 (some (.ref h) :: l) (.ref h :: st) M := lim_step dX1_addThing_45
theorem sX1_addThing_46 : lim cal sc 1 cX1_addThing ret 46 (v0 :: v1 :: some (.int x) :: l) st M = lim cal sc 1 cX1_addThing ret 47 (v0 :: v1 :: some (.int x) :: l) (.int x :: st) M := lim_step dX1_addThing_46
theorem sX1_addThing_47 : lim cal sc 1 cX1_addThing ret 47 lv st M = lim cal sc 1 cX1_addThing ret 48 lv (.int 0 :: st) M := (lim_step dX1_addThing_47).trans (e_ic k_i_0)
theorem sX1_addThing_48 : lim cal sc 1 cX1_addThing ret 48 lv (a2 :: a1 :: .ref h :: st) M = guK (isCl 1 h) (guK (rk 8 st) (calK (cal 4 [.ref h, a1, a2] M) fun q M' => lim cal sc 1 cX1_addThing ret 51 lv (q.toList ++ st) M')) := (lim_step dX1_addThing_48).trans (e_virt2 rm_1_65 mq_4)
theorem sX1_addThing_51 : lim cal sc 1 cX1_addThing ret 51 (some (.ref h) :: l) st M = lim cal sc 1 cX1_addThing ret 52 (some (.ref h) :: l) (.ref h :: st) M := lim_step dX1_addThing_51
theorem sX1_addThing_52 : lim cal sc 1 cX1_addThing ret 52 lv (.ref h :: st) M = lim cal sc 1 cX1_addThing ret 53 lv (.ref h :: .ref h :: st) M := lim_step dX1_addThing_52
theorem sX1_addThing_52_i : lim cal sc 1 cX1_addThing ret 52 lv (.int x :: st) M = lim cal sc 1 cX1_addThing ret 53 lv (.int x :: .int x :: st) M := lim_step dX1_addThing_52
theorem sX1_addThing_53 : lim cal sc 1 cX1_addThing ret 53 lv (.ref h :: st) M = opK (slotV 1 0 h M) fun q => lim cal sc 1 cX1_addThing ret 56 lv (q :: st) M := (lim_step dX1_addThing_53).trans (e_get (by decide) rf_1_9)
theorem sX1_addThing_56 : lim cal sc 1 cX1_addThing ret 56 lv st M = lim cal sc 1 cX1_addThing ret 57 lv (.int 1 :: st) M := (lim_step dX1_addThing_56).trans (e_ic k_i_1)
theorem sX1_addThing_57 : lim cal sc 1 cX1_addThing ret 57 lv (.int y :: .int x :: st) M = lim cal sc 1 cX1_addThing ret 58 lv (.int (x + y) :: st) M := lim_step dX1_addThing_57
theorem sX1_addThing_58 : lim cal sc 1 cX1_addThing ret 58 lv (.int x :: .ref h :: st) M = guK (isInt 1 0 h) (lim cal sc 1 cX1_addThing ret 61 lv st (mset M h 0 x)) := (lim_step dX1_addThing_58).trans (e_put rf_1_9 rfl)
theorem sX1_addThing_61 : lim cal sc 1 cX1_addThing ret 61 (v0 :: v1 :: some (.int x) :: l) st M = lim cal sc 1 cX1_addThing ret 62 (v0 :: v1 :: some (.int x) :: l) (.int x :: st) M := lim_step dX1_addThing_61
theorem sX1_addThing_62 : lim cal sc 1 cX1_addThing (some .int) 62 lv [.int x] M = some (some (.int x), M) := (lim_step dX1_addThing_62).trans (e_iret)
theorem sX1_putAside_0 : lim cal sc 1 cX1_putAside ret 0 (some (.ref h) :: l) st M = lim cal sc 1 cX1_putAside ret 1 (some (.ref h) :: l) (.ref h :: st) M := lim_step dX1_putAside_0
theorem sX1_putAside_1 : lim cal sc 1 cX1_putAside ret 1 lv (.ref h :: st) M = opK (slotV 1 5 h M) fun q => lim cal sc 1 cX1_putAside ret 4 lv (q :: st) M := (lim_step dX1_putAside_1).trans (e_get (by decide) rf_1_28)
theorem sX1_putAside_4 : lim cal sc 1 cX1_putAside ret 4 (v0 :: some (.int x) :: l) st M = lim cal sc 1 cX1_putAside ret 5 (v0 :: some (.int x) :: l) (.int x :: st) M := lim_step dX1_putAside_4
theorem sX1_putAside_5 : lim cal sc 1 cX1_putAside ret 5 (v0 :: v1 :: some (.int x) :: l) st M = lim cal sc 1 cX1_putAside ret 6 (v0 :: v1 :: some (.int x) :: l) (.int x :: st) M := lim_step dX1_putAside_5
theorem sX1_putAside_6 : lim cal sc 1 cX1_putAside ret 6 lv (.int y :: .int x :: .ref h :: st) M = opK (arrN h) fun q => guK (inb x q) (lim cal sc 1 cX1_putAside ret 7 lv st (mset M h x.toNatClampNeg y)) := (lim_step dX1_putAside_6).trans (e_iast)
theorem sX1_putAside_7 : lim cal sc 1 cX1_putAside ret 7 (some (.ref h) :: l) st M = lim cal sc 1 cX1_putAside ret 8 (some (.ref h) :: l) (.ref h :: st) M := lim_step dX1_putAside_7
theorem sX1_putAside_8 : lim cal sc 1 cX1_putAside ret 8 lv (.ref h :: st) M = opK (slotV 1 6 h M) fun q => lim cal sc 1 cX1_putAside ret 11 lv (q :: st) M := (lim_step dX1_putAside_8).trans (e_get (by decide) rf_1_31)
theorem sX1_putAside_11 : lim cal sc 1 cX1_putAside ret 11 (v0 :: some (.int x) :: l) st M = lim cal sc 1 cX1_putAside ret 12 (v0 :: some (.int x) :: l) (.int x :: st) M := lim_step dX1_putAside_11
theorem sX1_putAside_12 : lim cal sc 1 cX1_putAside ret 12 lv st M = lim cal sc 1 cX1_putAside ret 13 lv (.int 0 :: st) M := (lim_step dX1_putAside_12).trans (e_ic k_i_0)
theorem sX1_putAside_13 : lim cal sc 1 cX1_putAside ret 13 lv (.int y :: .int x :: .ref h :: st) M = opK (arrN h) fun q => guK (inb x q) (lim cal sc 1 cX1_putAside ret 14 lv st (mset M h x.toNatClampNeg y)) := (lim_step dX1_putAside_13).trans (e_iast)
theorem sX1_putAside_14 : lim cal sc 1 cX1_putAside ret 14 (some (.ref h) :: l) st M = lim cal sc 1 cX1_putAside ret 15 (some (.ref h) :: l) (.ref h :: st) M := lim_step dX1_putAside_14
theorem sX1_putAside_15 : lim cal sc 1 cX1_putAside ret 15 lv (.ref h :: st) M = opK (slotV 1 7 h M) fun q => lim cal sc 1 cX1_putAside ret 18 lv (q :: st) M := (lim_step dX1_putAside_15).trans (e_get (by decide) rf_1_34)
theorem sX1_putAside_18 : lim cal sc 1 cX1_putAside ret 18 (v0 :: some (.int x) :: l) st M = lim cal sc 1 cX1_putAside ret 19 (v0 :: some (.int x) :: l) (.int x :: st) M := lim_step dX1_putAside_18
theorem sX1_putAside_19 : lim cal sc 1 cX1_putAside ret 19 lv st M = lim cal sc 1 cX1_putAside ret 20 lv (.int 0 :: st) M := (lim_step dX1_putAside_19).trans (e_ic k_i_0)
theorem sX1_putAside_20 : lim cal sc 1 cX1_putAside ret 20 lv (.int y :: .int x :: .ref h :: st) M = opK (arrN h) fun q => guK (inb x q) (lim cal sc 1 cX1_putAside ret 21 lv st (mset M h x.toNatClampNeg y)) := (lim_step dX1_putAside_20).trans (e_iast)
theorem sX1_putAside_21 : lim cal sc 1 cX1_putAside none 21 lv [] M = some (none, M) := (lim_step dX1_putAside_21).trans (e_vret)
theorem sX1_told_0 : lim cal sc 1 cX1_told ret 0 (v0 :: v1 :: some (.int x) :: l) st M = lim cal sc 1 cX1_told ret 1 (v0 :: v1 :: some (.int x) :: l) (.int x :: st) M := lim_step dX1_told_0
theorem sX1_told_1 : lim cal sc 1 cX1_told ret 1 lv (.int x :: st) M = if x.toInt < 0 ∨ 8 < x.toInt then lim cal sc 1 cX1_told ret 123 lv st M else lim cal sc 1 cX1_told ret ([52, 59, 66, 73, 80, 87, 94, 101, 112].getD (x.toInt - 0).toNat 0) lv st M := (lim_step dX1_told_1).trans (e_tab [52, 59, 66, 73, 80, 87, 94, 101, 112] (by decide) (by decide) (by decide))
theorem sX1_told_52 : lim cal sc 1 cX1_told ret 52 (some (.ref h) :: l) st M = lim cal sc 1 cX1_told ret 53 (some (.ref h) :: l) (.ref h :: st) M := lim_step dX1_told_52
theorem sX1_told_53 : lim cal sc 1 cX1_told ret 53 lv (.ref h :: st) M = opK (slotV 1 1 h M) fun q => lim cal sc 1 cX1_told ret 56 lv (q :: st) M := (lim_step dX1_told_53).trans (e_get (by decide) rf_1_15)
theorem sX1_told_56 : lim cal sc 1 cX1_told ret 56 (v0 :: some (.int x) :: l) st M = lim cal sc 1 cX1_told ret 57 (v0 :: some (.int x) :: l) (.int x :: st) M := lim_step dX1_told_56
theorem sX1_told_57 : lim cal sc 1 cX1_told ret 57 lv (.int x :: .ref h :: st) M = opK (arrV9 sc h M) fun q => guK (inb x q.1) (lim cal sc 1 cX1_told ret 58 lv (.int (q.2 x.toNatClampNeg) :: st) M) := (lim_step dX1_told_57).trans (e_iald)
theorem sX1_told_58 : lim cal sc 1 cX1_told (some .int) 58 lv [.int x] M = some (some (.int x), M) := (lim_step dX1_told_58).trans (e_iret)
theorem sX1_told_59 : lim cal sc 1 cX1_told ret 59 (some (.ref h) :: l) st M = lim cal sc 1 cX1_told ret 60 (some (.ref h) :: l) (.ref h :: st) M := lim_step dX1_told_59
theorem sX1_told_60 : lim cal sc 1 cX1_told ret 60 lv (.ref h :: st) M = opK (slotV 1 2 h M) fun q => lim cal sc 1 cX1_told ret 63 lv (q :: st) M := (lim_step dX1_told_60).trans (e_get (by decide) rf_1_19)
theorem sX1_told_63 : lim cal sc 1 cX1_told ret 63 (v0 :: some (.int x) :: l) st M = lim cal sc 1 cX1_told ret 64 (v0 :: some (.int x) :: l) (.int x :: st) M := lim_step dX1_told_63
theorem sX1_told_64 : lim cal sc 1 cX1_told ret 64 lv (.int x :: .ref h :: st) M = opK (arrV9 sc h M) fun q => guK (inb x q.1) (lim cal sc 1 cX1_told ret 65 lv (.int (q.2 x.toNatClampNeg) :: st) M) := (lim_step dX1_told_64).trans (e_iald)
theorem sX1_told_65 : lim cal sc 1 cX1_told (some .int) 65 lv [.int x] M = some (some (.int x), M) := (lim_step dX1_told_65).trans (e_iret)
theorem sX1_told_66 : lim cal sc 1 cX1_told ret 66 (some (.ref h) :: l) st M = lim cal sc 1 cX1_told ret 67 (some (.ref h) :: l) (.ref h :: st) M := lim_step dX1_told_66
theorem sX1_told_67 : lim cal sc 1 cX1_told ret 67 lv (.ref h :: st) M = opK (slotV 1 3 h M) fun q => lim cal sc 1 cX1_told ret 70 lv (q :: st) M := (lim_step dX1_told_67).trans (e_get (by decide) rf_1_22)
theorem sX1_told_70 : lim cal sc 1 cX1_told ret 70 (v0 :: some (.int x) :: l) st M = lim cal sc 1 cX1_told ret 71 (v0 :: some (.int x) :: l) (.int x :: st) M := lim_step dX1_told_70
theorem sX1_told_71 : lim cal sc 1 cX1_told ret 71 lv (.int x :: .ref h :: st) M = opK (arrV9 sc h M) fun q => guK (inb x q.1) (lim cal sc 1 cX1_told ret 72 lv (.int (q.2 x.toNatClampNeg) :: st) M) := (lim_step dX1_told_71).trans (e_iald)
theorem sX1_told_72 : lim cal sc 1 cX1_told (some .int) 72 lv [.int x] M = some (some (.int x), M) := (lim_step dX1_told_72).trans (e_iret)
theorem sX1_told_73 : lim cal sc 1 cX1_told ret 73 (some (.ref h) :: l) st M = lim cal sc 1 cX1_told ret 74 (some (.ref h) :: l) (.ref h :: st) M := lim_step dX1_told_73
theorem sX1_told_74 : lim cal sc 1 cX1_told ret 74 lv (.ref h :: st) M = opK (slotV 1 4 h M) fun q => lim cal sc 1 cX1_told ret 77 lv (q :: st) M := (lim_step dX1_told_74).trans (e_get (by decide) rf_1_25)
theorem sX1_told_77 : lim cal sc 1 cX1_told ret 77 (v0 :: some (.int x) :: l) st M = lim cal sc 1 cX1_told ret 78 (v0 :: some (.int x) :: l) (.int x :: st) M := lim_step dX1_told_77
theorem sX1_told_78 : lim cal sc 1 cX1_told ret 78 lv (.int x :: .ref h :: st) M = opK (arrV9 sc h M) fun q => guK (inb x q.1) (lim cal sc 1 cX1_told ret 79 lv (.int (q.2 x.toNatClampNeg) :: st) M) := (lim_step dX1_told_78).trans (e_iald)
theorem sX1_told_79 : lim cal sc 1 cX1_told (some .int) 79 lv [.int x] M = some (some (.int x), M) := (lim_step dX1_told_79).trans (e_iret)
theorem sX1_told_80 : lim cal sc 1 cX1_told ret 80 (some (.ref h) :: l) st M = lim cal sc 1 cX1_told ret 81 (some (.ref h) :: l) (.ref h :: st) M := lim_step dX1_told_80
theorem sX1_told_81 : lim cal sc 1 cX1_told ret 81 lv (.ref h :: st) M = opK (slotV 1 5 h M) fun q => lim cal sc 1 cX1_told ret 84 lv (q :: st) M := (lim_step dX1_told_81).trans (e_get (by decide) rf_1_28)
theorem sX1_told_84 : lim cal sc 1 cX1_told ret 84 (v0 :: some (.int x) :: l) st M = lim cal sc 1 cX1_told ret 85 (v0 :: some (.int x) :: l) (.int x :: st) M := lim_step dX1_told_84
theorem sX1_told_85 : lim cal sc 1 cX1_told ret 85 lv (.int x :: .ref h :: st) M = opK (arrV9 sc h M) fun q => guK (inb x q.1) (lim cal sc 1 cX1_told ret 86 lv (.int (q.2 x.toNatClampNeg) :: st) M) := (lim_step dX1_told_85).trans (e_iald)
theorem sX1_told_86 : lim cal sc 1 cX1_told (some .int) 86 lv [.int x] M = some (some (.int x), M) := (lim_step dX1_told_86).trans (e_iret)
theorem sX1_told_87 : lim cal sc 1 cX1_told ret 87 (some (.ref h) :: l) st M = lim cal sc 1 cX1_told ret 88 (some (.ref h) :: l) (.ref h :: st) M := lim_step dX1_told_87
theorem sX1_told_88 : lim cal sc 1 cX1_told ret 88 lv (.ref h :: st) M = opK (slotV 1 6 h M) fun q => lim cal sc 1 cX1_told ret 91 lv (q :: st) M := (lim_step dX1_told_88).trans (e_get (by decide) rf_1_31)
theorem sX1_told_91 : lim cal sc 1 cX1_told ret 91 (v0 :: some (.int x) :: l) st M = lim cal sc 1 cX1_told ret 92 (v0 :: some (.int x) :: l) (.int x :: st) M := lim_step dX1_told_91
theorem sX1_told_92 : lim cal sc 1 cX1_told ret 92 lv (.int x :: .ref h :: st) M = opK (arrV9 sc h M) fun q => guK (inb x q.1) (lim cal sc 1 cX1_told ret 93 lv (.int (q.2 x.toNatClampNeg) :: st) M) := (lim_step dX1_told_92).trans (e_iald)
theorem sX1_told_93 : lim cal sc 1 cX1_told (some .int) 93 lv [.int x] M = some (some (.int x), M) := (lim_step dX1_told_93).trans (e_iret)
theorem sX1_told_94 : lim cal sc 1 cX1_told ret 94 (some (.ref h) :: l) st M = lim cal sc 1 cX1_told ret 95 (some (.ref h) :: l) (.ref h :: st) M := lim_step dX1_told_94
theorem sX1_told_95 : lim cal sc 1 cX1_told ret 95 lv (.ref h :: st) M = opK (slotV 1 7 h M) fun q => lim cal sc 1 cX1_told ret 98 lv (q :: st) M := (lim_step dX1_told_95).trans (e_get (by decide) rf_1_34)
theorem sX1_told_98 : lim cal sc 1 cX1_told ret 98 (v0 :: some (.int x) :: l) st M = lim cal sc 1 cX1_told ret 99 (v0 :: some (.int x) :: l) (.int x :: st) M := lim_step dX1_told_98
theorem sX1_told_99 : lim cal sc 1 cX1_told ret 99 lv (.int x :: .ref h :: st) M = opK (arrV9 sc h M) fun q => guK (inb x q.1) (lim cal sc 1 cX1_told ret 100 lv (.int (q.2 x.toNatClampNeg) :: st) M) := (lim_step dX1_told_99).trans (e_iald)
theorem sX1_told_100 : lim cal sc 1 cX1_told (some .int) 100 lv [.int x] M = some (some (.int x), M) := (lim_step dX1_told_100).trans (e_iret)
theorem sX1_told_101 : lim cal sc 1 cX1_told ret 101 lv st M = lim cal sc 1 cX1_told ret 104 lv (.ref 150 :: st) M := lim_step dX1_told_101
theorem sX1_told_104 : lim cal sc 1 cX1_told ret 104 (some (.ref h) :: l) st M = lim cal sc 1 cX1_told ret 105 (some (.ref h) :: l) (.ref h :: st) M := lim_step dX1_told_104
theorem sX1_told_105 : lim cal sc 1 cX1_told ret 105 lv (.ref h :: st) M = opK (slotV 1 1 h M) fun q => lim cal sc 1 cX1_told ret 108 lv (q :: st) M := (lim_step dX1_told_105).trans (e_get (by decide) rf_1_15)
theorem sX1_told_108 : lim cal sc 1 cX1_told ret 108 (v0 :: some (.int x) :: l) st M = lim cal sc 1 cX1_told ret 109 (v0 :: some (.int x) :: l) (.int x :: st) M := lim_step dX1_told_108
theorem sX1_told_109 : lim cal sc 1 cX1_told ret 109 lv (.int x :: .ref h :: st) M = opK (arrV9 sc h M) fun q => guK (inb x q.1) (lim cal sc 1 cX1_told ret 110 lv (.int (q.2 x.toNatClampNeg) :: st) M) := (lim_step dX1_told_109).trans (e_iald)
theorem sX1_told_110 : lim cal sc 1 cX1_told ret 110 lv (.int x :: .ref h :: st) M = opK (arrV9 sc h M) fun q => guK (inb x q.1) (lim cal sc 1 cX1_told ret 111 lv (.int (q.2 x.toNatClampNeg) :: st) M) := (lim_step dX1_told_110).trans (e_iald)
theorem sX1_told_111 : lim cal sc 1 cX1_told (some .int) 111 lv [.int x] M = some (some (.int x), M) := (lim_step dX1_told_111).trans (e_iret)
theorem sX1_told_112 : lim cal sc 1 cX1_told ret 112 lv st M = lim cal sc 1 cX1_told ret 115 lv (.ref 151 :: st) M := lim_step dX1_told_112
theorem sX1_told_115 : lim cal sc 1 cX1_told ret 115 (some (.ref h) :: l) st M = lim cal sc 1 cX1_told ret 116 (some (.ref h) :: l) (.ref h :: st) M := lim_step dX1_told_115
theorem sX1_told_116 : lim cal sc 1 cX1_told ret 116 lv (.ref h :: st) M = opK (slotV 1 1 h M) fun q => lim cal sc 1 cX1_told ret 119 lv (q :: st) M := (lim_step dX1_told_116).trans (e_get (by decide) rf_1_15)
theorem sX1_told_119 : lim cal sc 1 cX1_told ret 119 (v0 :: some (.int x) :: l) st M = lim cal sc 1 cX1_told ret 120 (v0 :: some (.int x) :: l) (.int x :: st) M := lim_step dX1_told_119
theorem sX1_told_120 : lim cal sc 1 cX1_told ret 120 lv (.int x :: .ref h :: st) M = opK (arrV9 sc h M) fun q => guK (inb x q.1) (lim cal sc 1 cX1_told ret 121 lv (.int (q.2 x.toNatClampNeg) :: st) M) := (lim_step dX1_told_120).trans (e_iald)
theorem sX1_told_121 : lim cal sc 1 cX1_told ret 121 lv (.int x :: .ref h :: st) M = opK (arrV9 sc h M) fun q => guK (inb x q.1) (lim cal sc 1 cX1_told ret 122 lv (.int (q.2 x.toNatClampNeg) :: st) M) := (lim_step dX1_told_121).trans (e_iald)
theorem sX1_told_122 : lim cal sc 1 cX1_told (some .int) 122 lv [.int x] M = some (some (.int x), M) := (lim_step dX1_told_122).trans (e_iret)
theorem sX1_told_123 : lim cal sc 1 cX1_told ret 123 (some (.ref h) :: l) st M = lim cal sc 1 cX1_told ret 124 (some (.ref h) :: l) (.ref h :: st) M := lim_step dX1_told_123
theorem sX1_told_124 : lim cal sc 1 cX1_told ret 124 lv (.ref h :: st) M = opK (slotV 1 1 h M) fun q => lim cal sc 1 cX1_told ret 127 lv (q :: st) M := (lim_step dX1_told_124).trans (e_get (by decide) rf_1_15)
theorem sX1_told_127 : lim cal sc 1 cX1_told ret 127 (v0 :: some (.int x) :: l) st M = lim cal sc 1 cX1_told ret 128 (v0 :: some (.int x) :: l) (.int x :: st) M := lim_step dX1_told_127
theorem sX1_told_128 : lim cal sc 1 cX1_told ret 128 lv (.int x :: .ref h :: st) M = opK (arrV9 sc h M) fun q => guK (inb x q.1) (lim cal sc 1 cX1_told ret 129 lv (.int (q.2 x.toNatClampNeg) :: st) M) := (lim_step dX1_told_128).trans (e_iald)
theorem sX1_told_129 : lim cal sc 1 cX1_told ret 129 (some (.ref h) :: l) st M = lim cal sc 1 cX1_told ret 130 (some (.ref h) :: l) (.ref h :: st) M := lim_step dX1_told_129
theorem sX1_told_130 : lim cal sc 1 cX1_told ret 130 lv (.ref h :: st) M = opK (slotV 1 3 h M) fun q => lim cal sc 1 cX1_told ret 133 lv (q :: st) M := (lim_step dX1_told_130).trans (e_get (by decide) rf_1_22)
theorem sX1_told_133 : lim cal sc 1 cX1_told ret 133 (v0 :: some (.int x) :: l) st M = lim cal sc 1 cX1_told ret 134 (v0 :: some (.int x) :: l) (.int x :: st) M := lim_step dX1_told_133
theorem sX1_told_134 : lim cal sc 1 cX1_told ret 134 lv (.int x :: .ref h :: st) M = opK (arrV9 sc h M) fun q => guK (inb x q.1) (lim cal sc 1 cX1_told ret 135 lv (.int (q.2 x.toNatClampNeg) :: st) M) := (lim_step dX1_told_134).trans (e_iald)
theorem sX1_told_135 : lim cal sc 1 cX1_told ret 135 (some (.ref h) :: l) st M = lim cal sc 1 cX1_told ret 136 (some (.ref h) :: l) (.ref h :: st) M := lim_step dX1_told_135
theorem sX1_told_136 : lim cal sc 1 cX1_told ret 136 lv (.ref h :: st) M = opK (slotV 1 7 h M) fun q => lim cal sc 1 cX1_told ret 139 lv (q :: st) M := (lim_step dX1_told_136).trans (e_get (by decide) rf_1_34)
theorem sX1_told_139 : lim cal sc 1 cX1_told ret 139 (v0 :: some (.int x) :: l) st M = lim cal sc 1 cX1_told ret 140 (v0 :: some (.int x) :: l) (.int x :: st) M := lim_step dX1_told_139
theorem sX1_told_140 : lim cal sc 1 cX1_told ret 140 lv (.int x :: .ref h :: st) M = opK (arrV9 sc h M) fun q => guK (inb x q.1) (lim cal sc 1 cX1_told ret 141 lv (.int (q.2 x.toNatClampNeg) :: st) M) := (lim_step dX1_told_140).trans (e_iald)
theorem sX1_told_141 : lim cal sc 1 cX1_told ret 141 lv (a3 :: a2 :: a1 :: st) M = guK (rk 8 st) (calK (cal 8 [a1, a2, a3] M) fun q M' => lim cal sc 1 cX1_told ret 144 lv (q.toList ++ st) M') := (lim_step dX1_told_141).trans (e_stat3 rm_1_77)
theorem sX1_told_144 : lim cal sc 1 cX1_told (some .int) 144 lv [.int x] M = some (some (.int x), M) := (lim_step dX1_told_144).trans (e_iret)
theorem sX1_alter_0 : lim cal sc 1 cX1_alter ret 0 (v0 :: v1 :: some (.int x) :: l) st M = lim cal sc 1 cX1_alter ret 1 (v0 :: v1 :: some (.int x) :: l) (.int x :: st) M := lim_step dX1_alter_0
theorem sX1_alter_1 : lim cal sc 1 cX1_alter ret 1 lv (.int x :: st) M = if x.toInt < 0 ∨ 3 < x.toInt then lim cal sc 1 cX1_alter ret 72 lv st M else lim cal sc 1 cX1_alter ret ([32, 42, 52, 62].getD (x.toInt - 0).toNat 0) lv st M := (lim_step dX1_alter_1).trans (e_tab [32, 42, 52, 62] (by decide) (by decide) (by decide))
theorem sX1_alter_32 : lim cal sc 1 cX1_alter ret 32 (some (.ref h) :: l) st M = lim cal sc 1 cX1_alter ret 33 (some (.ref h) :: l) (.ref h :: st) M := lim_step dX1_alter_32
theorem sX1_alter_33 : lim cal sc 1 cX1_alter ret 33 lv (.ref h :: st) M = opK (slotV 1 1 h M) fun q => lim cal sc 1 cX1_alter ret 36 lv (q :: st) M := (lim_step dX1_alter_33).trans (e_get (by decide) rf_1_15)
theorem sX1_alter_36 : lim cal sc 1 cX1_alter ret 36 (v0 :: some (.int x) :: l) st M = lim cal sc 1 cX1_alter ret 37 (v0 :: some (.int x) :: l) (.int x :: st) M := lim_step dX1_alter_36
theorem sX1_alter_37 : lim cal sc 1 cX1_alter ret 37 (v0 :: v1 :: v2 :: some (.int x) :: l) st M = lim cal sc 1 cX1_alter ret 38 (v0 :: v1 :: v2 :: some (.int x) :: l) (.int x :: st) M := lim_step dX1_alter_37
theorem sX1_alter_38 : lim cal sc 1 cX1_alter ret 38 lv (.int y :: .int x :: .ref h :: st) M = opK (arrN h) fun q => guK (inb x q) (lim cal sc 1 cX1_alter ret 39 lv st (mset M h x.toNatClampNeg y)) := (lim_step dX1_alter_38).trans (e_iast)
theorem sX1_alter_39 : lim cal sc 1 cX1_alter ret 39 lv st M = lim cal sc 1 cX1_alter ret 72 lv st M := (lim_step dX1_alter_39).trans (e_goto (t := 72) (by decide))
theorem sX1_alter_42 : lim cal sc 1 cX1_alter ret 42 (some (.ref h) :: l) st M = lim cal sc 1 cX1_alter ret 43 (some (.ref h) :: l) (.ref h :: st) M := lim_step dX1_alter_42
theorem sX1_alter_43 : lim cal sc 1 cX1_alter ret 43 lv (.ref h :: st) M = opK (slotV 1 2 h M) fun q => lim cal sc 1 cX1_alter ret 46 lv (q :: st) M := (lim_step dX1_alter_43).trans (e_get (by decide) rf_1_19)
theorem sX1_alter_46 : lim cal sc 1 cX1_alter ret 46 (v0 :: some (.int x) :: l) st M = lim cal sc 1 cX1_alter ret 47 (v0 :: some (.int x) :: l) (.int x :: st) M := lim_step dX1_alter_46
theorem sX1_alter_47 : lim cal sc 1 cX1_alter ret 47 (v0 :: v1 :: v2 :: some (.int x) :: l) st M = lim cal sc 1 cX1_alter ret 48 (v0 :: v1 :: v2 :: some (.int x) :: l) (.int x :: st) M := lim_step dX1_alter_47
theorem sX1_alter_48 : lim cal sc 1 cX1_alter ret 48 lv (.int y :: .int x :: .ref h :: st) M = opK (arrN h) fun q => guK (inb x q) (lim cal sc 1 cX1_alter ret 49 lv st (mset M h x.toNatClampNeg y)) := (lim_step dX1_alter_48).trans (e_iast)
theorem sX1_alter_49 : lim cal sc 1 cX1_alter ret 49 lv st M = lim cal sc 1 cX1_alter ret 72 lv st M := (lim_step dX1_alter_49).trans (e_goto (t := 72) (by decide))
theorem sX1_alter_52 : lim cal sc 1 cX1_alter ret 52 (some (.ref h) :: l) st M = lim cal sc 1 cX1_alter ret 53 (some (.ref h) :: l) (.ref h :: st) M := lim_step dX1_alter_52
theorem sX1_alter_53 : lim cal sc 1 cX1_alter ret 53 lv (.ref h :: st) M = opK (slotV 1 3 h M) fun q => lim cal sc 1 cX1_alter ret 56 lv (q :: st) M := (lim_step dX1_alter_53).trans (e_get (by decide) rf_1_22)
theorem sX1_alter_56 : lim cal sc 1 cX1_alter ret 56 (v0 :: some (.int x) :: l) st M = lim cal sc 1 cX1_alter ret 57 (v0 :: some (.int x) :: l) (.int x :: st) M := lim_step dX1_alter_56
theorem sX1_alter_57 : lim cal sc 1 cX1_alter ret 57 (v0 :: v1 :: v2 :: some (.int x) :: l) st M = lim cal sc 1 cX1_alter ret 58 (v0 :: v1 :: v2 :: some (.int x) :: l) (.int x :: st) M := lim_step dX1_alter_57
theorem sX1_alter_58 : lim cal sc 1 cX1_alter ret 58 lv (.int y :: .int x :: .ref h :: st) M = opK (arrN h) fun q => guK (inb x q) (lim cal sc 1 cX1_alter ret 59 lv st (mset M h x.toNatClampNeg y)) := (lim_step dX1_alter_58).trans (e_iast)
theorem sX1_alter_59 : lim cal sc 1 cX1_alter ret 59 lv st M = lim cal sc 1 cX1_alter ret 72 lv st M := (lim_step dX1_alter_59).trans (e_goto (t := 72) (by decide))
theorem sX1_alter_62 : lim cal sc 1 cX1_alter ret 62 (some (.ref h) :: l) st M = lim cal sc 1 cX1_alter ret 63 (some (.ref h) :: l) (.ref h :: st) M := lim_step dX1_alter_62
theorem sX1_alter_63 : lim cal sc 1 cX1_alter ret 63 lv (.ref h :: st) M = opK (slotV 1 4 h M) fun q => lim cal sc 1 cX1_alter ret 66 lv (q :: st) M := (lim_step dX1_alter_63).trans (e_get (by decide) rf_1_25)
theorem sX1_alter_66 : lim cal sc 1 cX1_alter ret 66 (v0 :: some (.int x) :: l) st M = lim cal sc 1 cX1_alter ret 67 (v0 :: some (.int x) :: l) (.int x :: st) M := lim_step dX1_alter_66
theorem sX1_alter_67 : lim cal sc 1 cX1_alter ret 67 (v0 :: v1 :: v2 :: some (.int x) :: l) st M = lim cal sc 1 cX1_alter ret 68 (v0 :: v1 :: v2 :: some (.int x) :: l) (.int x :: st) M := lim_step dX1_alter_67
theorem sX1_alter_68 : lim cal sc 1 cX1_alter ret 68 lv (.int y :: .int x :: .ref h :: st) M = opK (arrN h) fun q => guK (inb x q) (lim cal sc 1 cX1_alter ret 69 lv st (mset M h x.toNatClampNeg y)) := (lim_step dX1_alter_68).trans (e_iast)
theorem sX1_alter_69 : lim cal sc 1 cX1_alter ret 69 lv st M = lim cal sc 1 cX1_alter ret 72 lv st M := (lim_step dX1_alter_69).trans (e_goto (t := 72) (by decide))
theorem sX1_alter_72 : lim cal sc 1 cX1_alter none 72 lv [] M = some (none, M) := (lim_step dX1_alter_72).trans (e_vret)
theorem sX1_isOut_0 : lim cal sc 1 cX1_isOut ret 0 (some (.ref h) :: l) st M = lim cal sc 1 cX1_isOut ret 1 (some (.ref h) :: l) (.ref h :: st) M := lim_step dX1_isOut_0
theorem sX1_isOut_1 : lim cal sc 1 cX1_isOut ret 1 lv (.ref h :: st) M = opK (slotV 1 5 h M) fun q => lim cal sc 1 cX1_isOut ret 4 lv (q :: st) M := (lim_step dX1_isOut_1).trans (e_get (by decide) rf_1_28)
theorem sX1_isOut_4 : lim cal sc 1 cX1_isOut ret 4 (v0 :: some (.int x) :: l) st M = lim cal sc 1 cX1_isOut ret 5 (v0 :: some (.int x) :: l) (.int x :: st) M := lim_step dX1_isOut_4
theorem sX1_isOut_5 : lim cal sc 1 cX1_isOut ret 5 lv (.int x :: .ref h :: st) M = opK (arrV9 sc h M) fun q => guK (inb x q.1) (lim cal sc 1 cX1_isOut ret 6 lv (.int (q.2 x.toNatClampNeg) :: st) M) := (lim_step dX1_isOut_5).trans (e_iald)
theorem sX1_isOut_6 : lim cal sc 1 cX1_isOut ret 6 lv (.int x :: st) M = if x = 0 then lim cal sc 1 cX1_isOut ret 9 lv st M else lim cal sc 1 cX1_isOut ret 13 lv st M := (lim_step dX1_isOut_6).trans (e_ifne (t := 13) (by decide))
theorem sX1_isOut_9 : lim cal sc 1 cX1_isOut ret 9 lv st M = lim cal sc 1 cX1_isOut ret 10 lv (.int 1 :: st) M := (lim_step dX1_isOut_9).trans (e_ic k_i_1)
theorem sX1_isOut_10 : lim cal sc 1 cX1_isOut ret 10 lv st M = lim cal sc 1 cX1_isOut ret 14 lv st M := (lim_step dX1_isOut_10).trans (e_goto (t := 14) (by decide))
theorem sX1_isOut_13 : lim cal sc 1 cX1_isOut ret 13 lv st M = lim cal sc 1 cX1_isOut ret 14 lv (.int 0 :: st) M := (lim_step dX1_isOut_13).trans (e_ic k_i_0)
theorem sX1_isOut_14 : lim cal sc 1 cX1_isOut (some .boolean) 14 lv [.int x] M = guK (narB .boolean x) (some (some (.int x), M)) := (lim_step dX1_isOut_14).trans (e_zret)
theorem sX1_hasRoom_0 : lim cal sc 1 cX1_hasRoom ret 0 (some (.ref h) :: l) st M = lim cal sc 1 cX1_hasRoom ret 1 (some (.ref h) :: l) (.ref h :: st) M := lim_step dX1_hasRoom_0
theorem sX1_hasRoom_1 : lim cal sc 1 cX1_hasRoom ret 1 lv (.ref h :: st) M = opK (slotV 1 9 h M) fun q => lim cal sc 1 cX1_hasRoom ret 4 lv (q :: st) M := (lim_step dX1_hasRoom_1).trans (e_get (by decide) rf_1_40)
theorem sX1_hasRoom_4 : lim cal sc 1 cX1_hasRoom ret 4 lv st M = lim cal sc 1 cX1_hasRoom ret 6 lv (.int 8 :: st) M := (lim_step dX1_hasRoom_4).trans (e_bi k_b_8)
theorem sX1_hasRoom_6 : lim cal sc 1 cX1_hasRoom ret 6 lv (.int y :: .int x :: st) M = if y ≤ x then lim cal sc 1 cX1_hasRoom ret 31 lv st M else lim cal sc 1 cX1_hasRoom ret 9 lv st M := (lim_step dX1_hasRoom_6).trans (e_cmpge (t := 31) (by decide))
theorem sX1_hasRoom_9 : lim cal sc 1 cX1_hasRoom ret 9 (some (.ref h) :: l) st M = lim cal sc 1 cX1_hasRoom ret 10 (some (.ref h) :: l) (.ref h :: st) M := lim_step dX1_hasRoom_9
theorem sX1_hasRoom_10 : lim cal sc 1 cX1_hasRoom ret 10 lv (.ref h :: st) M = guK (isCl 1 h) (guK (rk 8 st) (calK (cal 16 [.ref h] M) fun q M' => lim cal sc 1 cX1_hasRoom ret 13 lv (q.toList ++ st) M')) := (lim_step dX1_hasRoom_10).trans (e_virt0 rm_1_81 mq_16)
theorem sX1_hasRoom_13 : lim cal sc 1 cX1_hasRoom ret 13 (some (.ref h) :: l) st M = lim cal sc 1 cX1_hasRoom ret 14 (some (.ref h) :: l) (.ref h :: st) M := lim_step dX1_hasRoom_13
theorem sX1_hasRoom_14 : lim cal sc 1 cX1_hasRoom ret 14 lv (.ref h :: st) M = opK (slotV 1 2 h M) fun q => lim cal sc 1 cX1_hasRoom ret 17 lv (q :: st) M := (lim_step dX1_hasRoom_14).trans (e_get (by decide) rf_1_19)
theorem sX1_hasRoom_17 : lim cal sc 1 cX1_hasRoom ret 17 (v0 :: some (.int x) :: l) st M = lim cal sc 1 cX1_hasRoom ret 18 (v0 :: some (.int x) :: l) (.int x :: st) M := lim_step dX1_hasRoom_17
theorem sX1_hasRoom_18 : lim cal sc 1 cX1_hasRoom ret 18 lv (.int x :: .ref h :: st) M = opK (arrV9 sc h M) fun q => guK (inb x q.1) (lim cal sc 1 cX1_hasRoom ret 19 lv (.int (q.2 x.toNatClampNeg) :: st) M) := (lim_step dX1_hasRoom_18).trans (e_iald)
theorem sX1_hasRoom_19 : lim cal sc 1 cX1_hasRoom ret 19 lv (.int y :: .int x :: st) M = lim cal sc 1 cX1_hasRoom ret 20 lv (.int (x + y) :: st) M := lim_step dX1_hasRoom_19
theorem sX1_hasRoom_20 : lim cal sc 1 cX1_hasRoom ret 20 (some (.ref h) :: l) st M = lim cal sc 1 cX1_hasRoom ret 21 (some (.ref h) :: l) (.ref h :: st) M := lim_step dX1_hasRoom_20
theorem sX1_hasRoom_21 : lim cal sc 1 cX1_hasRoom ret 21 lv (.ref h :: st) M = opK (slotV 1 10 h M) fun q => lim cal sc 1 cX1_hasRoom ret 24 lv (q :: st) M := (lim_step dX1_hasRoom_21).trans (e_get (by decide) rf_1_43)
theorem sX1_hasRoom_24 : lim cal sc 1 cX1_hasRoom ret 24 lv (.int y :: .int x :: st) M = if y < x then lim cal sc 1 cX1_hasRoom ret 31 lv st M else lim cal sc 1 cX1_hasRoom ret 27 lv st M := (lim_step dX1_hasRoom_24).trans (e_cmpgt (t := 31) (by decide))
theorem sX1_hasRoom_27 : lim cal sc 1 cX1_hasRoom ret 27 lv st M = lim cal sc 1 cX1_hasRoom ret 28 lv (.int 1 :: st) M := (lim_step dX1_hasRoom_27).trans (e_ic k_i_1)
theorem sX1_hasRoom_28 : lim cal sc 1 cX1_hasRoom ret 28 lv st M = lim cal sc 1 cX1_hasRoom ret 32 lv st M := (lim_step dX1_hasRoom_28).trans (e_goto (t := 32) (by decide))
theorem sX1_hasRoom_31 : lim cal sc 1 cX1_hasRoom ret 31 lv st M = lim cal sc 1 cX1_hasRoom ret 32 lv (.int 0 :: st) M := (lim_step dX1_hasRoom_31).trans (e_ic k_i_0)
theorem sX1_hasRoom_32 : lim cal sc 1 cX1_hasRoom (some .boolean) 32 lv [.int x] M = guK (narB .boolean x) (some (some (.int x), M)) := (lim_step dX1_hasRoom_32).trans (e_zret)
theorem sX1_swallow_0 : lim cal sc 1 cX1_swallow ret 0 (some (.ref h) :: l) st M = lim cal sc 1 cX1_swallow ret 1 (some (.ref h) :: l) (.ref h :: st) M := lim_step dX1_swallow_0
theorem sX1_swallow_1 : lim cal sc 1 cX1_swallow ret 1 lv (.ref h :: st) M = opK (slotV 1 9 h M) fun q => lim cal sc 1 cX1_swallow ret 4 lv (q :: st) M := (lim_step dX1_swallow_1).trans (e_get (by decide) rf_1_40)
theorem sX1_swallow_4 : lim cal sc 1 cX1_swallow ret 4 lv st M = lim cal sc 1 cX1_swallow ret 6 lv (.int 8 :: st) M := (lim_step dX1_swallow_4).trans (e_bi k_b_8)
theorem sX1_swallow_6 : lim cal sc 1 cX1_swallow ret 6 lv (.int y :: .int x :: st) M = if x < y then lim cal sc 1 cX1_swallow ret 10 lv st M else lim cal sc 1 cX1_swallow ret 9 lv st M := (lim_step dX1_swallow_6).trans (e_cmplt (t := 10) (by decide))
theorem sX1_swallow_9 : lim cal sc 1 cX1_swallow none 9 lv [] M = some (none, M) := (lim_step dX1_swallow_9).trans (e_vret)
theorem sX1_swallow_10 : lim cal sc 1 cX1_swallow ret 10 (some (.ref h) :: l) st M = lim cal sc 1 cX1_swallow ret 11 (some (.ref h) :: l) (.ref h :: st) M := lim_step dX1_swallow_10
theorem sX1_swallow_11 : lim cal sc 1 cX1_swallow ret 11 lv (.ref h :: st) M = opK (slotV 1 8 h M) fun q => lim cal sc 1 cX1_swallow ret 14 lv (q :: st) M := (lim_step dX1_swallow_11).trans (e_get (by decide) rf_1_37)
theorem sX1_swallow_14 : lim cal sc 1 cX1_swallow ret 14 (some (.ref h) :: l) st M = lim cal sc 1 cX1_swallow ret 15 (some (.ref h) :: l) (.ref h :: st) M := lim_step dX1_swallow_14
theorem sX1_swallow_15 : lim cal sc 1 cX1_swallow ret 15 lv (.ref h :: st) M = opK (slotV 1 9 h M) fun q => lim cal sc 1 cX1_swallow ret 18 lv (q :: st) M := (lim_step dX1_swallow_15).trans (e_get (by decide) rf_1_40)
theorem sX1_swallow_18 : lim cal sc 1 cX1_swallow ret 18 (v0 :: some (.int x) :: l) st M = lim cal sc 1 cX1_swallow ret 19 (v0 :: some (.int x) :: l) (.int x :: st) M := lim_step dX1_swallow_18
theorem sX1_swallow_19 : lim cal sc 1 cX1_swallow ret 19 lv (.int y :: .int x :: .ref h :: st) M = opK (arrN h) fun q => guK (inb x q) (lim cal sc 1 cX1_swallow ret 20 lv st (mset M h x.toNatClampNeg y)) := (lim_step dX1_swallow_19).trans (e_iast)
theorem sX1_swallow_20 : lim cal sc 1 cX1_swallow ret 20 (some (.ref h) :: l) st M = lim cal sc 1 cX1_swallow ret 21 (some (.ref h) :: l) (.ref h :: st) M := lim_step dX1_swallow_20
theorem sX1_swallow_21 : lim cal sc 1 cX1_swallow ret 21 lv (.ref h :: st) M = lim cal sc 1 cX1_swallow ret 22 lv (.ref h :: .ref h :: st) M := lim_step dX1_swallow_21
theorem sX1_swallow_21_i : lim cal sc 1 cX1_swallow ret 21 lv (.int x :: st) M = lim cal sc 1 cX1_swallow ret 22 lv (.int x :: .int x :: st) M := lim_step dX1_swallow_21
theorem sX1_swallow_22 : lim cal sc 1 cX1_swallow ret 22 lv (.ref h :: st) M = opK (slotV 1 9 h M) fun q => lim cal sc 1 cX1_swallow ret 25 lv (q :: st) M := (lim_step dX1_swallow_22).trans (e_get (by decide) rf_1_40)
theorem sX1_swallow_25 : lim cal sc 1 cX1_swallow ret 25 lv st M = lim cal sc 1 cX1_swallow ret 26 lv (.int 1 :: st) M := (lim_step dX1_swallow_25).trans (e_ic k_i_1)
theorem sX1_swallow_26 : lim cal sc 1 cX1_swallow ret 26 lv (.int y :: .int x :: st) M = lim cal sc 1 cX1_swallow ret 27 lv (.int (x + y) :: st) M := lim_step dX1_swallow_26
theorem sX1_swallow_27 : lim cal sc 1 cX1_swallow ret 27 lv (.int x :: .ref h :: st) M = guK (isInt 1 9 h) (lim cal sc 1 cX1_swallow ret 30 lv st (mset M h 9 x)) := (lim_step dX1_swallow_27).trans (e_put rf_1_40 rfl)
theorem sX1_swallow_30 : lim cal sc 1 cX1_swallow ret 30 (some (.ref h) :: l) st M = lim cal sc 1 cX1_swallow ret 31 (some (.ref h) :: l) (.ref h :: st) M := lim_step dX1_swallow_30
theorem sX1_swallow_31 : lim cal sc 1 cX1_swallow ret 31 (v0 :: some (.int x) :: l) st M = lim cal sc 1 cX1_swallow ret 32 (v0 :: some (.int x) :: l) (.int x :: st) M := lim_step dX1_swallow_31
theorem sX1_swallow_32 : lim cal sc 1 cX1_swallow ret 32 lv st M = lim cal sc 1 cX1_swallow ret 33 lv (.int 1 :: st) M := (lim_step dX1_swallow_32).trans (e_ic k_i_1)
theorem sX1_swallow_33 : lim cal sc 1 cX1_swallow ret 33 lv (a2 :: a1 :: .ref h :: st) M = guK (isCl 1 h) (guK (rk 8 st) (calK (cal 4 [.ref h, a1, a2] M) fun q M' => lim cal sc 1 cX1_swallow ret 36 lv (q.toList ++ st) M')) := (lim_step dX1_swallow_33).trans (e_virt2 rm_1_65 mq_4)
theorem sX1_swallow_36 : lim cal sc 1 cX1_swallow none 36 lv [] M = some (none, M) := (lim_step dX1_swallow_36).trans (e_vret)
theorem sX1_takeOut_0 : lim cal sc 1 cX1_takeOut ret 0 lv st M = lim cal sc 1 cX1_takeOut ret 1 lv (.int 0 :: st) M := (lim_step dX1_takeOut_0).trans (e_ic k_i_0)
theorem sX1_takeOut_1 : lim cal sc 1 cX1_takeOut ret 1 (v0 :: v1 :: v :: l) (.int x :: st) M = lim cal sc 1 cX1_takeOut ret 2 (v0 :: v1 :: some (.int x) :: l) st M := (lim_step dX1_takeOut_1).trans (e_istn2)
theorem sX1_takeOut_2 : lim cal sc 1 cX1_takeOut ret 2 lv st M = lim cal sc 1 cX1_takeOut ret 3 lv (.int 0 :: st) M := (lim_step dX1_takeOut_2).trans (e_ic k_i_0)
theorem sX1_takeOut_3 : lim cal sc 1 cX1_takeOut ret 3 (v0 :: v1 :: v2 :: v :: l) (.int x :: st) M = lim cal sc 1 cX1_takeOut ret 4 (v0 :: v1 :: v2 :: some (.int x) :: l) st M := (lim_step dX1_takeOut_3).trans (e_istn3)
theorem sX1_takeOut_4 : lim cal sc 1 cX1_takeOut ret 4 (v0 :: v1 :: v2 :: some (.int x) :: l) st M = lim cal sc 1 cX1_takeOut ret 5 (v0 :: v1 :: v2 :: some (.int x) :: l) (.int x :: st) M := lim_step dX1_takeOut_4
theorem sX1_takeOut_5 : lim cal sc 1 cX1_takeOut ret 5 (some (.ref h) :: l) st M = lim cal sc 1 cX1_takeOut ret 6 (some (.ref h) :: l) (.ref h :: st) M := lim_step dX1_takeOut_5
theorem sX1_takeOut_6 : lim cal sc 1 cX1_takeOut ret 6 lv (.ref h :: st) M = opK (slotV 1 9 h M) fun q => lim cal sc 1 cX1_takeOut ret 9 lv (q :: st) M := (lim_step dX1_takeOut_6).trans (e_get (by decide) rf_1_40)
theorem sX1_takeOut_9 : lim cal sc 1 cX1_takeOut ret 9 lv (.int y :: .int x :: st) M = if y ≤ x then lim cal sc 1 cX1_takeOut ret 56 lv st M else lim cal sc 1 cX1_takeOut ret 12 lv st M := (lim_step dX1_takeOut_9).trans (e_cmpge (t := 56) (by decide))
theorem sX1_takeOut_12 : lim cal sc 1 cX1_takeOut ret 12 (some (.ref h) :: l) st M = lim cal sc 1 cX1_takeOut ret 13 (some (.ref h) :: l) (.ref h :: st) M := lim_step dX1_takeOut_12
theorem sX1_takeOut_13 : lim cal sc 1 cX1_takeOut ret 13 lv (.ref h :: st) M = opK (slotV 1 8 h M) fun q => lim cal sc 1 cX1_takeOut ret 16 lv (q :: st) M := (lim_step dX1_takeOut_13).trans (e_get (by decide) rf_1_37)
theorem sX1_takeOut_16 : lim cal sc 1 cX1_takeOut ret 16 (v0 :: v1 :: v2 :: some (.int x) :: l) st M = lim cal sc 1 cX1_takeOut ret 17 (v0 :: v1 :: v2 :: some (.int x) :: l) (.int x :: st) M := lim_step dX1_takeOut_16
theorem sX1_takeOut_17 : lim cal sc 1 cX1_takeOut ret 17 lv (.int x :: .ref h :: st) M = opK (arrV9 sc h M) fun q => guK (inb x q.1) (lim cal sc 1 cX1_takeOut ret 18 lv (.int (q.2 x.toNatClampNeg) :: st) M) := (lim_step dX1_takeOut_17).trans (e_iald)
theorem sX1_takeOut_18 : lim cal sc 1 cX1_takeOut ret 18 (v0 :: v1 :: v2 :: v3 :: v :: l) (.int x :: st) M = lim cal sc 1 cX1_takeOut ret 20 (v0 :: v1 :: v2 :: v3 :: some (.int x) :: l) st M := (lim_step dX1_takeOut_18).trans (e_ist4)
theorem sX1_takeOut_20 : lim cal sc 1 cX1_takeOut ret 20 (v0 :: some (.int x) :: l) st M = lim cal sc 1 cX1_takeOut ret 21 (v0 :: some (.int x) :: l) (.int x :: st) M := lim_step dX1_takeOut_20
theorem sX1_takeOut_21 : lim cal sc 1 cX1_takeOut ret 21 (v0 :: v1 :: v2 :: v3 :: some (.int x) :: l) st M = lim cal sc 1 cX1_takeOut ret 23 (v0 :: v1 :: v2 :: v3 :: some (.int x) :: l) (.int x :: st) M := lim_step dX1_takeOut_21
theorem sX1_takeOut_23 : lim cal sc 1 cX1_takeOut ret 23 lv (.int y :: .int x :: st) M = lim cal sc 1 cX1_takeOut ret 24 lv (.int (x >>> (y &&& 31)) :: st) M := lim_step dX1_takeOut_23
theorem sX1_takeOut_24 : lim cal sc 1 cX1_takeOut ret 24 lv st M = lim cal sc 1 cX1_takeOut ret 25 lv (.int 1 :: st) M := (lim_step dX1_takeOut_24).trans (e_ic k_i_1)
theorem sX1_takeOut_25 : lim cal sc 1 cX1_takeOut ret 25 lv (.int y :: .int x :: st) M = lim cal sc 1 cX1_takeOut ret 26 lv (.int (x &&& y) :: st) M := lim_step dX1_takeOut_25
theorem sX1_takeOut_26 : lim cal sc 1 cX1_takeOut ret 26 lv (.int x :: st) M = if x = 0 then lim cal sc 1 cX1_takeOut ret 39 lv st M else lim cal sc 1 cX1_takeOut ret 29 lv st M := (lim_step dX1_takeOut_26).trans (e_ifeq (t := 39) (by decide))
theorem sX1_takeOut_29 : lim cal sc 1 cX1_takeOut ret 29 (some (.ref h) :: l) st M = lim cal sc 1 cX1_takeOut ret 30 (some (.ref h) :: l) (.ref h :: st) M := lim_step dX1_takeOut_29
theorem sX1_takeOut_30 : lim cal sc 1 cX1_takeOut ret 30 (v0 :: v1 :: v2 :: v3 :: some (.int x) :: l) st M = lim cal sc 1 cX1_takeOut ret 32 (v0 :: v1 :: v2 :: v3 :: some (.int x) :: l) (.int x :: st) M := lim_step dX1_takeOut_30
theorem sX1_takeOut_32 : lim cal sc 1 cX1_takeOut ret 32 lv st M = lim cal sc 1 cX1_takeOut ret 33 lv (.int 0 :: st) M := (lim_step dX1_takeOut_32).trans (e_ic k_i_0)
theorem sX1_takeOut_33 : lim cal sc 1 cX1_takeOut ret 33 lv (a2 :: a1 :: .ref h :: st) M = guK (isCl 1 h) (guK (rk 8 st) (calK (cal 4 [.ref h, a1, a2] M) fun q M' => lim cal sc 1 cX1_takeOut ret 36 lv (q.toList ++ st) M')) := (lim_step dX1_takeOut_33).trans (e_virt2 rm_1_65 mq_4)
theorem sX1_takeOut_36 : lim cal sc 1 cX1_takeOut ret 36 lv st M = lim cal sc 1 cX1_takeOut ret 50 lv st M := (lim_step dX1_takeOut_36).trans (e_goto (t := 50) (by decide))
theorem sX1_takeOut_39 : lim cal sc 1 cX1_takeOut ret 39 (some (.ref h) :: l) st M = lim cal sc 1 cX1_takeOut ret 40 (some (.ref h) :: l) (.ref h :: st) M := lim_step dX1_takeOut_39
theorem sX1_takeOut_40 : lim cal sc 1 cX1_takeOut ret 40 lv (.ref h :: st) M = opK (slotV 1 8 h M) fun q => lim cal sc 1 cX1_takeOut ret 43 lv (q :: st) M := (lim_step dX1_takeOut_40).trans (e_get (by decide) rf_1_37)
theorem sX1_takeOut_43 : lim cal sc 1 cX1_takeOut ret 43 (v0 :: v1 :: some (.int x) :: l) st M = lim cal sc 1 cX1_takeOut ret 44 (v0 :: v1 :: some (.int x) :: l) (.int x :: st) M := lim_step dX1_takeOut_43
theorem sX1_takeOut_44 : lim cal sc 1 cX1_takeOut ret 44 (v0 :: v1 :: v2 :: v3 :: some (.int x) :: l) st M = lim cal sc 1 cX1_takeOut ret 46 (v0 :: v1 :: v2 :: v3 :: some (.int x) :: l) (.int x :: st) M := lim_step dX1_takeOut_44
theorem sX1_takeOut_46 : lim cal sc 1 cX1_takeOut ret 46 lv (.int y :: .int x :: .ref h :: st) M = opK (arrN h) fun q => guK (inb x q) (lim cal sc 1 cX1_takeOut ret 47 lv st (mset M h x.toNatClampNeg y)) := (lim_step dX1_takeOut_46).trans (e_iast)
theorem sX1_takeOut_47 : lim cal sc 1 cX1_takeOut ret 47 (v0 :: v1 :: some (.int x) :: l) st M = lim cal sc 1 cX1_takeOut ret 50 (v0 :: v1 :: some (.int (x + 1)) :: l) st M := (lim_step dX1_takeOut_47).trans (e_inc2 k_i_1)
theorem sX1_takeOut_50 : lim cal sc 1 cX1_takeOut ret 50 (v0 :: v1 :: v2 :: some (.int x) :: l) st M = lim cal sc 1 cX1_takeOut ret 53 (v0 :: v1 :: v2 :: some (.int (x + 1)) :: l) st M := (lim_step dX1_takeOut_50).trans (e_inc3 k_i_1)
theorem sX1_takeOut_53 : lim cal sc 1 cX1_takeOut ret 53 lv st M = lim cal sc 1 cX1_takeOut ret 4 lv st M := (lim_step dX1_takeOut_53).trans (e_goto (t := 4) (by decide))
theorem sX1_takeOut_56 : lim cal sc 1 cX1_takeOut ret 56 (some (.ref h) :: l) st M = lim cal sc 1 cX1_takeOut ret 57 (some (.ref h) :: l) (.ref h :: st) M := lim_step dX1_takeOut_56
theorem sX1_takeOut_57 : lim cal sc 1 cX1_takeOut ret 57 (v0 :: v1 :: some (.int x) :: l) st M = lim cal sc 1 cX1_takeOut ret 58 (v0 :: v1 :: some (.int x) :: l) (.int x :: st) M := lim_step dX1_takeOut_57
theorem sX1_takeOut_58 : lim cal sc 1 cX1_takeOut ret 58 lv (.int x :: .ref h :: st) M = guK (isInt 1 9 h) (lim cal sc 1 cX1_takeOut ret 61 lv st (mset M h 9 x)) := (lim_step dX1_takeOut_58).trans (e_put rf_1_40 rfl)
theorem sX1_takeOut_61 : lim cal sc 1 cX1_takeOut none 61 lv [] M = some (none, M) := (lim_step dX1_takeOut_61).trans (e_vret)
theorem sX1_bulkIn_0 : lim cal sc 1 cX1_bulkIn ret 0 lv st M = lim cal sc 1 cX1_bulkIn ret 1 lv (.int 0 :: st) M := (lim_step dX1_bulkIn_0).trans (e_ic k_i_0)
theorem sX1_bulkIn_1 : lim cal sc 1 cX1_bulkIn ret 1 (v0 :: v :: l) (.int x :: st) M = lim cal sc 1 cX1_bulkIn ret 2 (v0 :: some (.int x) :: l) st M := (lim_step dX1_bulkIn_1).trans (e_istn1)
theorem sX1_bulkIn_2 : lim cal sc 1 cX1_bulkIn ret 2 lv st M = lim cal sc 1 cX1_bulkIn ret 3 lv (.int 0 :: st) M := (lim_step dX1_bulkIn_2).trans (e_ic k_i_0)
theorem sX1_bulkIn_3 : lim cal sc 1 cX1_bulkIn ret 3 (v0 :: v1 :: v :: l) (.int x :: st) M = lim cal sc 1 cX1_bulkIn ret 4 (v0 :: v1 :: some (.int x) :: l) st M := (lim_step dX1_bulkIn_3).trans (e_istn2)
theorem sX1_bulkIn_4 : lim cal sc 1 cX1_bulkIn ret 4 (v0 :: v1 :: some (.int x) :: l) st M = lim cal sc 1 cX1_bulkIn ret 5 (v0 :: v1 :: some (.int x) :: l) (.int x :: st) M := lim_step dX1_bulkIn_4
theorem sX1_bulkIn_5 : lim cal sc 1 cX1_bulkIn ret 5 (some (.ref h) :: l) st M = lim cal sc 1 cX1_bulkIn ret 6 (some (.ref h) :: l) (.ref h :: st) M := lim_step dX1_bulkIn_5
theorem sX1_bulkIn_6 : lim cal sc 1 cX1_bulkIn ret 6 lv (.ref h :: st) M = opK (slotV 1 9 h M) fun q => lim cal sc 1 cX1_bulkIn ret 9 lv (q :: st) M := (lim_step dX1_bulkIn_6).trans (e_get (by decide) rf_1_40)
theorem sX1_bulkIn_9 : lim cal sc 1 cX1_bulkIn ret 9 lv (.int y :: .int x :: st) M = if y ≤ x then lim cal sc 1 cX1_bulkIn ret 32 lv st M else lim cal sc 1 cX1_bulkIn ret 12 lv st M := (lim_step dX1_bulkIn_9).trans (e_cmpge (t := 32) (by decide))
theorem sX1_bulkIn_12 : lim cal sc 1 cX1_bulkIn ret 12 (v0 :: some (.int x) :: l) st M = lim cal sc 1 cX1_bulkIn ret 13 (v0 :: some (.int x) :: l) (.int x :: st) M := lim_step dX1_bulkIn_12
theorem sX1_bulkIn_13 : lim cal sc 1 cX1_bulkIn ret 13 (some (.ref h) :: l) st M = lim cal sc 1 cX1_bulkIn ret 14 (some (.ref h) :: l) (.ref h :: st) M := lim_step dX1_bulkIn_13
theorem sX1_bulkIn_14 : lim cal sc 1 cX1_bulkIn ret 14 lv (.ref h :: st) M = opK (slotV 1 2 h M) fun q => lim cal sc 1 cX1_bulkIn ret 17 lv (q :: st) M := (lim_step dX1_bulkIn_14).trans (e_get (by decide) rf_1_19)
theorem sX1_bulkIn_17 : lim cal sc 1 cX1_bulkIn ret 17 (some (.ref h) :: l) st M = lim cal sc 1 cX1_bulkIn ret 18 (some (.ref h) :: l) (.ref h :: st) M := lim_step dX1_bulkIn_17
theorem sX1_bulkIn_18 : lim cal sc 1 cX1_bulkIn ret 18 lv (.ref h :: st) M = opK (slotV 1 8 h M) fun q => lim cal sc 1 cX1_bulkIn ret 21 lv (q :: st) M := (lim_step dX1_bulkIn_18).trans (e_get (by decide) rf_1_37)
theorem sX1_bulkIn_21 : lim cal sc 1 cX1_bulkIn ret 21 (v0 :: v1 :: some (.int x) :: l) st M = lim cal sc 1 cX1_bulkIn ret 22 (v0 :: v1 :: some (.int x) :: l) (.int x :: st) M := lim_step dX1_bulkIn_21
theorem sX1_bulkIn_22 : lim cal sc 1 cX1_bulkIn ret 22 lv (.int x :: .ref h :: st) M = opK (arrV9 sc h M) fun q => guK (inb x q.1) (lim cal sc 1 cX1_bulkIn ret 23 lv (.int (q.2 x.toNatClampNeg) :: st) M) := (lim_step dX1_bulkIn_22).trans (e_iald)
theorem sX1_bulkIn_23 : lim cal sc 1 cX1_bulkIn ret 23 lv (.int x :: .ref h :: st) M = opK (arrV9 sc h M) fun q => guK (inb x q.1) (lim cal sc 1 cX1_bulkIn ret 24 lv (.int (q.2 x.toNatClampNeg) :: st) M) := (lim_step dX1_bulkIn_23).trans (e_iald)
theorem sX1_bulkIn_24 : lim cal sc 1 cX1_bulkIn ret 24 lv (.int y :: .int x :: st) M = lim cal sc 1 cX1_bulkIn ret 25 lv (.int (x + y) :: st) M := lim_step dX1_bulkIn_24
theorem sX1_bulkIn_25 : lim cal sc 1 cX1_bulkIn ret 25 (v0 :: v :: l) (.int x :: st) M = lim cal sc 1 cX1_bulkIn ret 26 (v0 :: some (.int x) :: l) st M := (lim_step dX1_bulkIn_25).trans (e_istn1)
theorem sX1_bulkIn_26 : lim cal sc 1 cX1_bulkIn ret 26 (v0 :: v1 :: some (.int x) :: l) st M = lim cal sc 1 cX1_bulkIn ret 29 (v0 :: v1 :: some (.int (x + 1)) :: l) st M := (lim_step dX1_bulkIn_26).trans (e_inc2 k_i_1)
theorem sX1_bulkIn_29 : lim cal sc 1 cX1_bulkIn ret 29 lv st M = lim cal sc 1 cX1_bulkIn ret 4 lv st M := (lim_step dX1_bulkIn_29).trans (e_goto (t := 4) (by decide))
theorem sX1_bulkIn_32 : lim cal sc 1 cX1_bulkIn ret 32 (v0 :: some (.int x) :: l) st M = lim cal sc 1 cX1_bulkIn ret 33 (v0 :: some (.int x) :: l) (.int x :: st) M := lim_step dX1_bulkIn_32
theorem sX1_bulkIn_33 : lim cal sc 1 cX1_bulkIn (some .int) 33 lv [.int x] M = some (some (.int x), M) := (lim_step dX1_bulkIn_33).trans (e_iret)
theorem sX1_stainIn_0 : lim cal sc 1 cX1_stainIn ret 0 lv st M = lim cal sc 1 cX1_stainIn ret 1 lv (.int 0 :: st) M := (lim_step dX1_stainIn_0).trans (e_ic k_i_0)
theorem sX1_stainIn_1 : lim cal sc 1 cX1_stainIn ret 1 (v0 :: v :: l) (.int x :: st) M = lim cal sc 1 cX1_stainIn ret 2 (v0 :: some (.int x) :: l) st M := (lim_step dX1_stainIn_1).trans (e_istn1)
theorem sX1_stainIn_2 : lim cal sc 1 cX1_stainIn ret 2 lv st M = lim cal sc 1 cX1_stainIn ret 3 lv (.int 0 :: st) M := (lim_step dX1_stainIn_2).trans (e_ic k_i_0)
theorem sX1_stainIn_3 : lim cal sc 1 cX1_stainIn ret 3 (v0 :: v1 :: v :: l) (.int x :: st) M = lim cal sc 1 cX1_stainIn ret 4 (v0 :: v1 :: some (.int x) :: l) st M := (lim_step dX1_stainIn_3).trans (e_istn2)
theorem sX1_stainIn_4 : lim cal sc 1 cX1_stainIn ret 4 (v0 :: v1 :: some (.int x) :: l) st M = lim cal sc 1 cX1_stainIn ret 5 (v0 :: v1 :: some (.int x) :: l) (.int x :: st) M := lim_step dX1_stainIn_4
theorem sX1_stainIn_5 : lim cal sc 1 cX1_stainIn ret 5 (some (.ref h) :: l) st M = lim cal sc 1 cX1_stainIn ret 6 (some (.ref h) :: l) (.ref h :: st) M := lim_step dX1_stainIn_5
theorem sX1_stainIn_6 : lim cal sc 1 cX1_stainIn ret 6 lv (.ref h :: st) M = opK (slotV 1 9 h M) fun q => lim cal sc 1 cX1_stainIn ret 9 lv (q :: st) M := (lim_step dX1_stainIn_6).trans (e_get (by decide) rf_1_40)
theorem sX1_stainIn_9 : lim cal sc 1 cX1_stainIn ret 9 lv (.int y :: .int x :: st) M = if y ≤ x then lim cal sc 1 cX1_stainIn ret 32 lv st M else lim cal sc 1 cX1_stainIn ret 12 lv st M := (lim_step dX1_stainIn_9).trans (e_cmpge (t := 32) (by decide))
theorem sX1_stainIn_12 : lim cal sc 1 cX1_stainIn ret 12 (v0 :: some (.int x) :: l) st M = lim cal sc 1 cX1_stainIn ret 13 (v0 :: some (.int x) :: l) (.int x :: st) M := lim_step dX1_stainIn_12
theorem sX1_stainIn_13 : lim cal sc 1 cX1_stainIn ret 13 (some (.ref h) :: l) st M = lim cal sc 1 cX1_stainIn ret 14 (some (.ref h) :: l) (.ref h :: st) M := lim_step dX1_stainIn_13
theorem sX1_stainIn_14 : lim cal sc 1 cX1_stainIn ret 14 lv (.ref h :: st) M = opK (slotV 1 7 h M) fun q => lim cal sc 1 cX1_stainIn ret 17 lv (q :: st) M := (lim_step dX1_stainIn_14).trans (e_get (by decide) rf_1_34)
theorem sX1_stainIn_17 : lim cal sc 1 cX1_stainIn ret 17 (some (.ref h) :: l) st M = lim cal sc 1 cX1_stainIn ret 18 (some (.ref h) :: l) (.ref h :: st) M := lim_step dX1_stainIn_17
theorem sX1_stainIn_18 : lim cal sc 1 cX1_stainIn ret 18 lv (.ref h :: st) M = opK (slotV 1 8 h M) fun q => lim cal sc 1 cX1_stainIn ret 21 lv (q :: st) M := (lim_step dX1_stainIn_18).trans (e_get (by decide) rf_1_37)
theorem sX1_stainIn_21 : lim cal sc 1 cX1_stainIn ret 21 (v0 :: v1 :: some (.int x) :: l) st M = lim cal sc 1 cX1_stainIn ret 22 (v0 :: v1 :: some (.int x) :: l) (.int x :: st) M := lim_step dX1_stainIn_21
theorem sX1_stainIn_22 : lim cal sc 1 cX1_stainIn ret 22 lv (.int x :: .ref h :: st) M = opK (arrV9 sc h M) fun q => guK (inb x q.1) (lim cal sc 1 cX1_stainIn ret 23 lv (.int (q.2 x.toNatClampNeg) :: st) M) := (lim_step dX1_stainIn_22).trans (e_iald)
theorem sX1_stainIn_23 : lim cal sc 1 cX1_stainIn ret 23 lv (.int x :: .ref h :: st) M = opK (arrV9 sc h M) fun q => guK (inb x q.1) (lim cal sc 1 cX1_stainIn ret 24 lv (.int (q.2 x.toNatClampNeg) :: st) M) := (lim_step dX1_stainIn_23).trans (e_iald)
theorem sX1_stainIn_24 : lim cal sc 1 cX1_stainIn ret 24 lv (.int y :: .int x :: st) M = lim cal sc 1 cX1_stainIn ret 25 lv (.int (x + y) :: st) M := lim_step dX1_stainIn_24
theorem sX1_stainIn_25 : lim cal sc 1 cX1_stainIn ret 25 (v0 :: v :: l) (.int x :: st) M = lim cal sc 1 cX1_stainIn ret 26 (v0 :: some (.int x) :: l) st M := (lim_step dX1_stainIn_25).trans (e_istn1)
theorem sX1_stainIn_26 : lim cal sc 1 cX1_stainIn ret 26 (v0 :: v1 :: some (.int x) :: l) st M = lim cal sc 1 cX1_stainIn ret 29 (v0 :: v1 :: some (.int (x + 1)) :: l) st M := (lim_step dX1_stainIn_26).trans (e_inc2 k_i_1)
theorem sX1_stainIn_29 : lim cal sc 1 cX1_stainIn ret 29 lv st M = lim cal sc 1 cX1_stainIn ret 4 lv st M := (lim_step dX1_stainIn_29).trans (e_goto (t := 4) (by decide))
theorem sX1_stainIn_32 : lim cal sc 1 cX1_stainIn ret 32 (v0 :: some (.int x) :: l) st M = lim cal sc 1 cX1_stainIn ret 33 (v0 :: some (.int x) :: l) (.int x :: st) M := lim_step dX1_stainIn_32
theorem sX1_stainIn_33 : lim cal sc 1 cX1_stainIn (some .int) 33 lv [.int x] M = some (some (.int x), M) := (lim_step dX1_stainIn_33).trans (e_iret)
theorem sX1_setInside_0 : lim cal sc 1 cX1_setInside ret 0 lv st M = lim cal sc 1 cX1_setInside ret 1 lv (.int 0 :: st) M := (lim_step dX1_setInside_0).trans (e_ic k_i_0)
theorem sX1_setInside_1 : lim cal sc 1 cX1_setInside ret 1 (v0 :: v :: l) (.int x :: st) M = lim cal sc 1 cX1_setInside ret 2 (v0 :: some (.int x) :: l) st M := (lim_step dX1_setInside_1).trans (e_istn1)
theorem sX1_setInside_2 : lim cal sc 1 cX1_setInside ret 2 lv st M = lim cal sc 1 cX1_setInside ret 3 lv (.int 0 :: st) M := (lim_step dX1_setInside_2).trans (e_ic k_i_0)
theorem sX1_setInside_3 : lim cal sc 1 cX1_setInside ret 3 (v0 :: v1 :: v :: l) (.int x :: st) M = lim cal sc 1 cX1_setInside ret 4 (v0 :: v1 :: some (.int x) :: l) st M := (lim_step dX1_setInside_3).trans (e_istn2)
theorem sX1_setInside_4 : lim cal sc 1 cX1_setInside ret 4 (v0 :: v1 :: some (.int x) :: l) st M = lim cal sc 1 cX1_setInside ret 5 (v0 :: v1 :: some (.int x) :: l) (.int x :: st) M := lim_step dX1_setInside_4
theorem sX1_setInside_5 : lim cal sc 1 cX1_setInside ret 5 (some (.ref h) :: l) st M = lim cal sc 1 cX1_setInside ret 6 (some (.ref h) :: l) (.ref h :: st) M := lim_step dX1_setInside_5
theorem sX1_setInside_6 : lim cal sc 1 cX1_setInside ret 6 lv (.ref h :: st) M = opK (slotV 1 9 h M) fun q => lim cal sc 1 cX1_setInside ret 9 lv (q :: st) M := (lim_step dX1_setInside_6).trans (e_get (by decide) rf_1_40)
theorem sX1_setInside_9 : lim cal sc 1 cX1_setInside ret 9 lv (.int y :: .int x :: st) M = if y ≤ x then lim cal sc 1 cX1_setInside ret 29 lv st M else lim cal sc 1 cX1_setInside ret 12 lv st M := (lim_step dX1_setInside_9).trans (e_cmpge (t := 29) (by decide))
theorem sX1_setInside_12 : lim cal sc 1 cX1_setInside ret 12 (v0 :: some (.int x) :: l) st M = lim cal sc 1 cX1_setInside ret 13 (v0 :: some (.int x) :: l) (.int x :: st) M := lim_step dX1_setInside_12
theorem sX1_setInside_13 : lim cal sc 1 cX1_setInside ret 13 lv st M = lim cal sc 1 cX1_setInside ret 14 lv (.int 1 :: st) M := (lim_step dX1_setInside_13).trans (e_ic k_i_1)
theorem sX1_setInside_14 : lim cal sc 1 cX1_setInside ret 14 (some (.ref h) :: l) st M = lim cal sc 1 cX1_setInside ret 15 (some (.ref h) :: l) (.ref h :: st) M := lim_step dX1_setInside_14
theorem sX1_setInside_15 : lim cal sc 1 cX1_setInside ret 15 lv (.ref h :: st) M = opK (slotV 1 8 h M) fun q => lim cal sc 1 cX1_setInside ret 18 lv (q :: st) M := (lim_step dX1_setInside_15).trans (e_get (by decide) rf_1_37)
theorem sX1_setInside_18 : lim cal sc 1 cX1_setInside ret 18 (v0 :: v1 :: some (.int x) :: l) st M = lim cal sc 1 cX1_setInside ret 19 (v0 :: v1 :: some (.int x) :: l) (.int x :: st) M := lim_step dX1_setInside_18
theorem sX1_setInside_19 : lim cal sc 1 cX1_setInside ret 19 lv (.int x :: .ref h :: st) M = opK (arrV9 sc h M) fun q => guK (inb x q.1) (lim cal sc 1 cX1_setInside ret 20 lv (.int (q.2 x.toNatClampNeg) :: st) M) := (lim_step dX1_setInside_19).trans (e_iald)
theorem sX1_setInside_20 : lim cal sc 1 cX1_setInside ret 20 lv (.int y :: .int x :: st) M = lim cal sc 1 cX1_setInside ret 21 lv (.int (x <<< (y &&& 31)) :: st) M := lim_step dX1_setInside_20
theorem sX1_setInside_21 : lim cal sc 1 cX1_setInside ret 21 lv (.int y :: .int x :: st) M = lim cal sc 1 cX1_setInside ret 22 lv (.int (x ||| y) :: st) M := lim_step dX1_setInside_21
theorem sX1_setInside_22 : lim cal sc 1 cX1_setInside ret 22 (v0 :: v :: l) (.int x :: st) M = lim cal sc 1 cX1_setInside ret 23 (v0 :: some (.int x) :: l) st M := (lim_step dX1_setInside_22).trans (e_istn1)
theorem sX1_setInside_23 : lim cal sc 1 cX1_setInside ret 23 (v0 :: v1 :: some (.int x) :: l) st M = lim cal sc 1 cX1_setInside ret 26 (v0 :: v1 :: some (.int (x + 1)) :: l) st M := (lim_step dX1_setInside_23).trans (e_inc2 k_i_1)
theorem sX1_setInside_26 : lim cal sc 1 cX1_setInside ret 26 lv st M = lim cal sc 1 cX1_setInside ret 4 lv st M := (lim_step dX1_setInside_26).trans (e_goto (t := 4) (by decide))
theorem sX1_setInside_29 : lim cal sc 1 cX1_setInside ret 29 (v0 :: some (.int x) :: l) st M = lim cal sc 1 cX1_setInside ret 30 (v0 :: some (.int x) :: l) (.int x :: st) M := lim_step dX1_setInside_29
theorem sX1_setInside_30 : lim cal sc 1 cX1_setInside (some .int) 30 lv [.int x] M = some (some (.int x), M) := (lim_step dX1_setInside_30).trans (e_iret)
theorem sX1_worthOfAll_0 : lim cal sc 1 cX1_worthOfAll ret 0 lv st M = lim cal sc 1 cX1_worthOfAll ret 1 lv (.int 0 :: st) M := (lim_step dX1_worthOfAll_0).trans (e_ic k_i_0)
theorem sX1_worthOfAll_1 : lim cal sc 1 cX1_worthOfAll ret 1 (v0 :: v :: l) (.int x :: st) M = lim cal sc 1 cX1_worthOfAll ret 2 (v0 :: some (.int x) :: l) st M := (lim_step dX1_worthOfAll_1).trans (e_istn1)
theorem sX1_worthOfAll_2 : lim cal sc 1 cX1_worthOfAll ret 2 lv st M = lim cal sc 1 cX1_worthOfAll ret 3 lv (.int 0 :: st) M := (lim_step dX1_worthOfAll_2).trans (e_ic k_i_0)
theorem sX1_worthOfAll_3 : lim cal sc 1 cX1_worthOfAll ret 3 (v0 :: v1 :: v :: l) (.int x :: st) M = lim cal sc 1 cX1_worthOfAll ret 4 (v0 :: v1 :: some (.int x) :: l) st M := (lim_step dX1_worthOfAll_3).trans (e_istn2)
theorem sX1_worthOfAll_4 : lim cal sc 1 cX1_worthOfAll ret 4 (v0 :: v1 :: some (.int x) :: l) st M = lim cal sc 1 cX1_worthOfAll ret 5 (v0 :: v1 :: some (.int x) :: l) (.int x :: st) M := lim_step dX1_worthOfAll_4
theorem sX1_worthOfAll_5 : lim cal sc 1 cX1_worthOfAll ret 5 (some (.ref h) :: l) st M = lim cal sc 1 cX1_worthOfAll ret 6 (some (.ref h) :: l) (.ref h :: st) M := lim_step dX1_worthOfAll_5
theorem sX1_worthOfAll_6 : lim cal sc 1 cX1_worthOfAll ret 6 lv (.ref h :: st) M = opK (slotV 1 0 h M) fun q => lim cal sc 1 cX1_worthOfAll ret 9 lv (q :: st) M := (lim_step dX1_worthOfAll_6).trans (e_get (by decide) rf_1_9)
theorem sX1_worthOfAll_9 : lim cal sc 1 cX1_worthOfAll ret 9 lv (.int y :: .int x :: st) M = if y ≤ x then lim cal sc 1 cX1_worthOfAll ret 27 lv st M else lim cal sc 1 cX1_worthOfAll ret 12 lv st M := (lim_step dX1_worthOfAll_9).trans (e_cmpge (t := 27) (by decide))
theorem sX1_worthOfAll_12 : lim cal sc 1 cX1_worthOfAll ret 12 (v0 :: some (.int x) :: l) st M = lim cal sc 1 cX1_worthOfAll ret 13 (v0 :: some (.int x) :: l) (.int x :: st) M := lim_step dX1_worthOfAll_12
theorem sX1_worthOfAll_13 : lim cal sc 1 cX1_worthOfAll ret 13 (some (.ref h) :: l) st M = lim cal sc 1 cX1_worthOfAll ret 14 (some (.ref h) :: l) (.ref h :: st) M := lim_step dX1_worthOfAll_13
theorem sX1_worthOfAll_14 : lim cal sc 1 cX1_worthOfAll ret 14 lv (.ref h :: st) M = opK (slotV 1 3 h M) fun q => lim cal sc 1 cX1_worthOfAll ret 17 lv (q :: st) M := (lim_step dX1_worthOfAll_14).trans (e_get (by decide) rf_1_22)
theorem sX1_worthOfAll_17 : lim cal sc 1 cX1_worthOfAll ret 17 (v0 :: v1 :: some (.int x) :: l) st M = lim cal sc 1 cX1_worthOfAll ret 18 (v0 :: v1 :: some (.int x) :: l) (.int x :: st) M := lim_step dX1_worthOfAll_17
theorem sX1_worthOfAll_18 : lim cal sc 1 cX1_worthOfAll ret 18 lv (.int x :: .ref h :: st) M = opK (arrV9 sc h M) fun q => guK (inb x q.1) (lim cal sc 1 cX1_worthOfAll ret 19 lv (.int (q.2 x.toNatClampNeg) :: st) M) := (lim_step dX1_worthOfAll_18).trans (e_iald)
theorem sX1_worthOfAll_19 : lim cal sc 1 cX1_worthOfAll ret 19 lv (.int y :: .int x :: st) M = lim cal sc 1 cX1_worthOfAll ret 20 lv (.int (x + y) :: st) M := lim_step dX1_worthOfAll_19
theorem sX1_worthOfAll_20 : lim cal sc 1 cX1_worthOfAll ret 20 (v0 :: v :: l) (.int x :: st) M = lim cal sc 1 cX1_worthOfAll ret 21 (v0 :: some (.int x) :: l) st M := (lim_step dX1_worthOfAll_20).trans (e_istn1)
theorem sX1_worthOfAll_21 : lim cal sc 1 cX1_worthOfAll ret 21 (v0 :: v1 :: some (.int x) :: l) st M = lim cal sc 1 cX1_worthOfAll ret 24 (v0 :: v1 :: some (.int (x + 1)) :: l) st M := (lim_step dX1_worthOfAll_21).trans (e_inc2 k_i_1)
theorem sX1_worthOfAll_24 : lim cal sc 1 cX1_worthOfAll ret 24 lv st M = lim cal sc 1 cX1_worthOfAll ret 4 lv st M := (lim_step dX1_worthOfAll_24).trans (e_goto (t := 4) (by decide))
theorem sX1_worthOfAll_27 : lim cal sc 1 cX1_worthOfAll ret 27 (v0 :: some (.int x) :: l) st M = lim cal sc 1 cX1_worthOfAll ret 28 (v0 :: some (.int x) :: l) (.int x :: st) M := lim_step dX1_worthOfAll_27
theorem sX1_worthOfAll_28 : lim cal sc 1 cX1_worthOfAll (some .int) 28 lv [.int x] M = some (some (.int x), M) := (lim_step dX1_worthOfAll_28).trans (e_iret)
theorem sX1_passDay_0 : lim cal sc 1 cX1_passDay ret 0 (some (.ref h) :: l) st M = lim cal sc 1 cX1_passDay ret 1 (some (.ref h) :: l) (.ref h :: st) M := lim_step dX1_passDay_0
theorem sX1_passDay_1 : lim cal sc 1 cX1_passDay ret 1 lv (.ref h :: st) M = guK (isCl 1 h) (guK (rk 8 st) (calK (cal 28 [.ref h] M) fun q M' => lim cal sc 1 cX1_passDay ret 4 lv (q.toList ++ st) M')) := (lim_step dX1_passDay_1).trans (e_virt0 rm_1_85 mq_28)
theorem sX1_passDay_4 : lim cal sc 1 cX1_passDay ret 4 (some (.ref h) :: l) st M = lim cal sc 1 cX1_passDay ret 5 (some (.ref h) :: l) (.ref h :: st) M := lim_step dX1_passDay_4
theorem sX1_passDay_5 : lim cal sc 1 cX1_passDay ret 5 lv (.ref h :: st) M = guK (isCl 1 h) (guK (rk 8 st) (calK (cal 30 [.ref h] M) fun q M' => lim cal sc 1 cX1_passDay ret 8 lv (q.toList ++ st) M')) := (lim_step dX1_passDay_5).trans (e_virt0 rm_1_88 mq_30)
theorem sX1_passDay_8 : lim cal sc 1 cX1_passDay ret 8 (some (.ref h) :: l) st M = lim cal sc 1 cX1_passDay ret 9 (some (.ref h) :: l) (.ref h :: st) M := lim_step dX1_passDay_8
theorem sX1_passDay_9 : lim cal sc 1 cX1_passDay ret 9 lv (.ref h :: st) M = opK (slotV 1 13 h M) fun q => lim cal sc 1 cX1_passDay ret 12 lv (q :: st) M := (lim_step dX1_passDay_9).trans (e_get (by decide) rf_1_52)
theorem sX1_passDay_12 : lim cal sc 1 cX1_passDay (some .int) 12 lv [.int x] M = some (some (.int x), M) := (lim_step dX1_passDay_12).trans (e_iret)
theorem sX1_pass_0 : lim cal sc 1 cX1_pass ret 0 lv st M = lim cal sc 1 cX1_pass ret 1 lv (.int 0 :: st) M := (lim_step dX1_pass_0).trans (e_ic k_i_0)
theorem sX1_pass_1 : lim cal sc 1 cX1_pass ret 1 (v0 :: v1 :: v :: l) (.int x :: st) M = lim cal sc 1 cX1_pass ret 2 (v0 :: v1 :: some (.int x) :: l) st M := (lim_step dX1_pass_1).trans (e_istn2)
theorem sX1_pass_2 : lim cal sc 1 cX1_pass ret 2 lv st M = lim cal sc 1 cX1_pass ret 3 lv (.int 0 :: st) M := (lim_step dX1_pass_2).trans (e_ic k_i_0)
theorem sX1_pass_3 : lim cal sc 1 cX1_pass ret 3 (v0 :: v1 :: v2 :: v :: l) (.int x :: st) M = lim cal sc 1 cX1_pass ret 4 (v0 :: v1 :: v2 :: some (.int x) :: l) st M := (lim_step dX1_pass_3).trans (e_istn3)
theorem sX1_pass_4 : lim cal sc 1 cX1_pass ret 4 (v0 :: v1 :: v2 :: some (.int x) :: l) st M = lim cal sc 1 cX1_pass ret 5 (v0 :: v1 :: v2 :: some (.int x) :: l) (.int x :: st) M := lim_step dX1_pass_4
theorem sX1_pass_5 : lim cal sc 1 cX1_pass ret 5 (v0 :: some (.int x) :: l) st M = lim cal sc 1 cX1_pass ret 6 (v0 :: some (.int x) :: l) (.int x :: st) M := lim_step dX1_pass_5
theorem sX1_pass_6 : lim cal sc 1 cX1_pass ret 6 lv (.int y :: .int x :: st) M = if y ≤ x then lim cal sc 1 cX1_pass ret 29 lv st M else lim cal sc 1 cX1_pass ret 9 lv st M := (lim_step dX1_pass_6).trans (e_cmpge (t := 29) (by decide))
theorem sX1_pass_9 : lim cal sc 1 cX1_pass ret 9 (some (.ref h) :: l) st M = lim cal sc 1 cX1_pass ret 10 (some (.ref h) :: l) (.ref h :: st) M := lim_step dX1_pass_9
theorem sX1_pass_10 : lim cal sc 1 cX1_pass ret 10 lv (.ref h :: st) M = opK (slotV 1 9 h M) fun q => lim cal sc 1 cX1_pass ret 13 lv (q :: st) M := (lim_step dX1_pass_10).trans (e_get (by decide) rf_1_40)
theorem sX1_pass_13 : lim cal sc 1 cX1_pass ret 13 lv (.int x :: st) M = if x ≤ 0 then lim cal sc 1 cX1_pass ret 29 lv st M else lim cal sc 1 cX1_pass ret 16 lv st M := (lim_step dX1_pass_13).trans (e_ifle (t := 29) (by decide))
theorem sX1_pass_16 : lim cal sc 1 cX1_pass ret 16 (v0 :: v1 :: some (.int x) :: l) st M = lim cal sc 1 cX1_pass ret 17 (v0 :: v1 :: some (.int x) :: l) (.int x :: st) M := lim_step dX1_pass_16
theorem sX1_pass_17 : lim cal sc 1 cX1_pass ret 17 (some (.ref h) :: l) st M = lim cal sc 1 cX1_pass ret 18 (some (.ref h) :: l) (.ref h :: st) M := lim_step dX1_pass_17
theorem sX1_pass_18 : lim cal sc 1 cX1_pass ret 18 lv (.ref h :: st) M = guK (isCl 1 h) (guK (rk 8 st) (calK (cal 27 [.ref h] M) fun q M' => lim cal sc 1 cX1_pass ret 21 lv (q.toList ++ st) M')) := (lim_step dX1_pass_18).trans (e_virt0 rm_1_91 mq_27)
theorem sX1_pass_21 : lim cal sc 1 cX1_pass ret 21 lv (.int y :: .int x :: st) M = lim cal sc 1 cX1_pass ret 22 lv (.int (x + y) :: st) M := lim_step dX1_pass_21
theorem sX1_pass_22 : lim cal sc 1 cX1_pass ret 22 (v0 :: v1 :: v :: l) (.int x :: st) M = lim cal sc 1 cX1_pass ret 23 (v0 :: v1 :: some (.int x) :: l) st M := (lim_step dX1_pass_22).trans (e_istn2)
theorem sX1_pass_23 : lim cal sc 1 cX1_pass ret 23 (v0 :: v1 :: v2 :: some (.int x) :: l) st M = lim cal sc 1 cX1_pass ret 26 (v0 :: v1 :: v2 :: some (.int (x + 1)) :: l) st M := (lim_step dX1_pass_23).trans (e_inc3 k_i_1)
theorem sX1_pass_26 : lim cal sc 1 cX1_pass ret 26 lv st M = lim cal sc 1 cX1_pass ret 4 lv st M := (lim_step dX1_pass_26).trans (e_goto (t := 4) (by decide))
theorem sX1_pass_29 : lim cal sc 1 cX1_pass ret 29 (v0 :: v1 :: some (.int x) :: l) st M = lim cal sc 1 cX1_pass ret 30 (v0 :: v1 :: some (.int x) :: l) (.int x :: st) M := lim_step dX1_pass_29
theorem sX1_pass_30 : lim cal sc 1 cX1_pass (some .int) 30 lv [.int x] M = some (some (.int x), M) := (lim_step dX1_pass_30).trans (e_iret)
theorem sX1_grow_0 : lim cal sc 1 cX1_grow ret 0 lv st M = lim cal sc 1 cX1_grow ret 1 lv (.int 0 :: st) M := (lim_step dX1_grow_0).trans (e_ic k_i_0)
theorem sX1_grow_1 : lim cal sc 1 cX1_grow ret 1 (v0 :: v :: l) (.int x :: st) M = lim cal sc 1 cX1_grow ret 2 (v0 :: some (.int x) :: l) st M := (lim_step dX1_grow_1).trans (e_istn1)
theorem sX1_grow_2 : lim cal sc 1 cX1_grow ret 2 (v0 :: some (.int x) :: l) st M = lim cal sc 1 cX1_grow ret 3 (v0 :: some (.int x) :: l) (.int x :: st) M := lim_step dX1_grow_2
theorem sX1_grow_3 : lim cal sc 1 cX1_grow ret 3 (some (.ref h) :: l) st M = lim cal sc 1 cX1_grow ret 4 (some (.ref h) :: l) (.ref h :: st) M := lim_step dX1_grow_3
theorem sX1_grow_4 : lim cal sc 1 cX1_grow ret 4 lv (.ref h :: st) M = opK (slotV 1 9 h M) fun q => lim cal sc 1 cX1_grow ret 7 lv (q :: st) M := (lim_step dX1_grow_4).trans (e_get (by decide) rf_1_40)
theorem sX1_grow_7 : lim cal sc 1 cX1_grow ret 7 lv (.int y :: .int x :: st) M = if y ≤ x then lim cal sc 1 cX1_grow ret 66 lv st M else lim cal sc 1 cX1_grow ret 10 lv st M := (lim_step dX1_grow_7).trans (e_cmpge (t := 66) (by decide))
theorem sX1_grow_10 : lim cal sc 1 cX1_grow ret 10 (some (.ref h) :: l) st M = lim cal sc 1 cX1_grow ret 11 (some (.ref h) :: l) (.ref h :: st) M := lim_step dX1_grow_10
theorem sX1_grow_11 : lim cal sc 1 cX1_grow ret 11 lv (.ref h :: st) M = opK (slotV 1 8 h M) fun q => lim cal sc 1 cX1_grow ret 14 lv (q :: st) M := (lim_step dX1_grow_11).trans (e_get (by decide) rf_1_37)
theorem sX1_grow_14 : lim cal sc 1 cX1_grow ret 14 (v0 :: some (.int x) :: l) st M = lim cal sc 1 cX1_grow ret 15 (v0 :: some (.int x) :: l) (.int x :: st) M := lim_step dX1_grow_14
theorem sX1_grow_15 : lim cal sc 1 cX1_grow ret 15 lv (.int x :: .ref h :: st) M = opK (arrV9 sc h M) fun q => guK (inb x q.1) (lim cal sc 1 cX1_grow ret 16 lv (.int (q.2 x.toNatClampNeg) :: st) M) := (lim_step dX1_grow_15).trans (e_iald)
theorem sX1_grow_16 : lim cal sc 1 cX1_grow ret 16 (v0 :: v1 :: v :: l) (.int x :: st) M = lim cal sc 1 cX1_grow ret 17 (v0 :: v1 :: some (.int x) :: l) st M := (lim_step dX1_grow_16).trans (e_istn2)
theorem sX1_grow_17 : lim cal sc 1 cX1_grow ret 17 (some (.ref h) :: l) st M = lim cal sc 1 cX1_grow ret 18 (some (.ref h) :: l) (.ref h :: st) M := lim_step dX1_grow_17
theorem sX1_grow_18 : lim cal sc 1 cX1_grow ret 18 lv (.ref h :: st) M = opK (slotV 1 6 h M) fun q => lim cal sc 1 cX1_grow ret 21 lv (q :: st) M := (lim_step dX1_grow_18).trans (e_get (by decide) rf_1_31)
theorem sX1_grow_21 : lim cal sc 1 cX1_grow ret 21 (v0 :: v1 :: some (.int x) :: l) st M = lim cal sc 1 cX1_grow ret 22 (v0 :: v1 :: some (.int x) :: l) (.int x :: st) M := lim_step dX1_grow_21
theorem sX1_grow_22 : lim cal sc 1 cX1_grow ret 22 lv (.int x :: .ref h :: st) M = lim cal sc 1 cX1_grow ret 23 lv (.int x :: .ref h :: .int x :: .ref h :: st) M := lim_step dX1_grow_22
theorem sX1_grow_23 : lim cal sc 1 cX1_grow ret 23 lv (.int x :: .ref h :: st) M = opK (arrV9 sc h M) fun q => guK (inb x q.1) (lim cal sc 1 cX1_grow ret 24 lv (.int (q.2 x.toNatClampNeg) :: st) M) := (lim_step dX1_grow_23).trans (e_iald)
theorem sX1_grow_24 : lim cal sc 1 cX1_grow ret 24 lv st M = lim cal sc 1 cX1_grow ret 25 lv (.int 1 :: st) M := (lim_step dX1_grow_24).trans (e_ic k_i_1)
theorem sX1_grow_25 : lim cal sc 1 cX1_grow ret 25 lv (.int y :: .int x :: st) M = lim cal sc 1 cX1_grow ret 26 lv (.int (x + y) :: st) M := lim_step dX1_grow_25
theorem sX1_grow_26 : lim cal sc 1 cX1_grow ret 26 lv (.int y :: .int x :: .ref h :: st) M = opK (arrN h) fun q => guK (inb x q) (lim cal sc 1 cX1_grow ret 27 lv st (mset M h x.toNatClampNeg y)) := (lim_step dX1_grow_26).trans (e_iast)
theorem sX1_grow_27 : lim cal sc 1 cX1_grow ret 27 (some (.ref h) :: l) st M = lim cal sc 1 cX1_grow ret 28 (some (.ref h) :: l) (.ref h :: st) M := lim_step dX1_grow_27
theorem sX1_grow_28 : lim cal sc 1 cX1_grow ret 28 lv (.ref h :: st) M = opK (slotV 1 7 h M) fun q => lim cal sc 1 cX1_grow ret 31 lv (q :: st) M := (lim_step dX1_grow_28).trans (e_get (by decide) rf_1_34)
theorem sX1_grow_31 : lim cal sc 1 cX1_grow ret 31 (v0 :: v1 :: some (.int x) :: l) st M = lim cal sc 1 cX1_grow ret 32 (v0 :: v1 :: some (.int x) :: l) (.int x :: st) M := lim_step dX1_grow_31
theorem sX1_grow_32 : lim cal sc 1 cX1_grow ret 32 lv st M = lim cal sc 1 cX1_grow ret 34 lv (.int 99 :: st) M := (lim_step dX1_grow_32).trans (e_bi k_b_99)
theorem sX1_grow_34 : lim cal sc 1 cX1_grow ret 34 (some (.ref h) :: l) st M = lim cal sc 1 cX1_grow ret 35 (some (.ref h) :: l) (.ref h :: st) M := lim_step dX1_grow_34
theorem sX1_grow_35 : lim cal sc 1 cX1_grow ret 35 lv (.ref h :: st) M = opK (slotV 1 7 h M) fun q => lim cal sc 1 cX1_grow ret 38 lv (q :: st) M := (lim_step dX1_grow_35).trans (e_get (by decide) rf_1_34)
theorem sX1_grow_38 : lim cal sc 1 cX1_grow ret 38 (v0 :: v1 :: some (.int x) :: l) st M = lim cal sc 1 cX1_grow ret 39 (v0 :: v1 :: some (.int x) :: l) (.int x :: st) M := lim_step dX1_grow_38
theorem sX1_grow_39 : lim cal sc 1 cX1_grow ret 39 lv (.int x :: .ref h :: st) M = opK (arrV9 sc h M) fun q => guK (inb x q.1) (lim cal sc 1 cX1_grow ret 40 lv (.int (q.2 x.toNatClampNeg) :: st) M) := (lim_step dX1_grow_39).trans (e_iald)
theorem sX1_grow_40 : lim cal sc 1 cX1_grow ret 40 (some (.ref h) :: l) st M = lim cal sc 1 cX1_grow ret 41 (some (.ref h) :: l) (.ref h :: st) M := lim_step dX1_grow_40
theorem sX1_grow_41 : lim cal sc 1 cX1_grow ret 41 (v0 :: some (.int x) :: l) st M = lim cal sc 1 cX1_grow ret 42 (v0 :: some (.int x) :: l) (.int x :: st) M := lim_step dX1_grow_41
theorem sX1_grow_42 : lim cal sc 1 cX1_grow ret 42 lv st M = lim cal sc 1 cX1_grow ret 43 lv (.int 1 :: st) M := (lim_step dX1_grow_42).trans (e_ic k_i_1)
theorem sX1_grow_43 : lim cal sc 1 cX1_grow ret 43 lv (.int y :: .int x :: st) M = lim cal sc 1 cX1_grow ret 44 lv (.int (x - y) :: st) M := lim_step dX1_grow_43
theorem sX1_grow_44 : lim cal sc 1 cX1_grow ret 44 lv (a1 :: .ref h :: st) M = guK (isCl 1 h) (guK (rk 8 st) (calK (cal 29 [.ref h, a1] M) fun q M' => lim cal sc 1 cX1_grow ret 47 lv (q.toList ++ st) M')) := (lim_step dX1_grow_44).trans (e_virt1 rm_1_94 mq_29)
theorem sX1_grow_47 : lim cal sc 1 cX1_grow ret 47 lv (.int y :: .int x :: st) M = lim cal sc 1 cX1_grow ret 48 lv (.int (x + y) :: st) M := lim_step dX1_grow_47
theorem sX1_grow_48 : lim cal sc 1 cX1_grow ret 48 (some (.ref h) :: l) st M = lim cal sc 1 cX1_grow ret 49 (some (.ref h) :: l) (.ref h :: st) M := lim_step dX1_grow_48
theorem sX1_grow_49 : lim cal sc 1 cX1_grow ret 49 (v0 :: some (.int x) :: l) st M = lim cal sc 1 cX1_grow ret 50 (v0 :: some (.int x) :: l) (.int x :: st) M := lim_step dX1_grow_49
theorem sX1_grow_50 : lim cal sc 1 cX1_grow ret 50 lv st M = lim cal sc 1 cX1_grow ret 51 lv (.int 1 :: st) M := (lim_step dX1_grow_50).trans (e_ic k_i_1)
theorem sX1_grow_51 : lim cal sc 1 cX1_grow ret 51 lv (.int y :: .int x :: st) M = lim cal sc 1 cX1_grow ret 52 lv (.int (x + y) :: st) M := lim_step dX1_grow_51
theorem sX1_grow_52 : lim cal sc 1 cX1_grow ret 52 lv (a1 :: .ref h :: st) M = guK (isCl 1 h) (guK (rk 8 st) (calK (cal 29 [.ref h, a1] M) fun q M' => lim cal sc 1 cX1_grow ret 55 lv (q.toList ++ st) M')) := (lim_step dX1_grow_52).trans (e_virt1 rm_1_94 mq_29)
theorem sX1_grow_55 : lim cal sc 1 cX1_grow ret 55 lv (.int y :: .int x :: st) M = lim cal sc 1 cX1_grow ret 56 lv (.int (x + y) :: st) M := lim_step dX1_grow_55
theorem sX1_grow_56 : lim cal sc 1 cX1_grow ret 56 lv (.int y :: .int x :: st) M = guK (rk 8 st) (lim cal sc 1 cX1_grow ret 59 lv (.int (if y < x then y else x) :: st) M) := (lim_step dX1_grow_56).trans (e_min rm_1_98)
theorem sX1_grow_59 : lim cal sc 1 cX1_grow ret 59 lv (.int y :: .int x :: .ref h :: st) M = opK (arrN h) fun q => guK (inb x q) (lim cal sc 1 cX1_grow ret 60 lv st (mset M h x.toNatClampNeg y)) := (lim_step dX1_grow_59).trans (e_iast)
theorem sX1_grow_60 : lim cal sc 1 cX1_grow ret 60 (v0 :: some (.int x) :: l) st M = lim cal sc 1 cX1_grow ret 63 (v0 :: some (.int (x + 1)) :: l) st M := (lim_step dX1_grow_60).trans (e_inc1 k_i_1)
theorem sX1_grow_63 : lim cal sc 1 cX1_grow ret 63 lv st M = lim cal sc 1 cX1_grow ret 2 lv st M := (lim_step dX1_grow_63).trans (e_goto (t := 2) (by decide))
theorem sX1_grow_66 : lim cal sc 1 cX1_grow none 66 lv [] M = some (none, M) := (lim_step dX1_grow_66).trans (e_vret)
theorem sX1_stainsAt_0 : lim cal sc 1 cX1_stainsAt ret 0 (v0 :: some (.int x) :: l) st M = lim cal sc 1 cX1_stainsAt ret 1 (v0 :: some (.int x) :: l) (.int x :: st) M := lim_step dX1_stainsAt_0
theorem sX1_stainsAt_1 : lim cal sc 1 cX1_stainsAt ret 1 lv (.int x :: st) M = if x < 0 then lim cal sc 1 cX1_stainsAt ret 30 lv st M else lim cal sc 1 cX1_stainsAt ret 4 lv st M := (lim_step dX1_stainsAt_1).trans (e_iflt (t := 30) (by decide))
theorem sX1_stainsAt_4 : lim cal sc 1 cX1_stainsAt ret 4 (v0 :: some (.int x) :: l) st M = lim cal sc 1 cX1_stainsAt ret 5 (v0 :: some (.int x) :: l) (.int x :: st) M := lim_step dX1_stainsAt_4
theorem sX1_stainsAt_5 : lim cal sc 1 cX1_stainsAt ret 5 (some (.ref h) :: l) st M = lim cal sc 1 cX1_stainsAt ret 6 (some (.ref h) :: l) (.ref h :: st) M := lim_step dX1_stainsAt_5
theorem sX1_stainsAt_6 : lim cal sc 1 cX1_stainsAt ret 6 lv (.ref h :: st) M = opK (slotV 1 9 h M) fun q => lim cal sc 1 cX1_stainsAt ret 9 lv (q :: st) M := (lim_step dX1_stainsAt_6).trans (e_get (by decide) rf_1_40)
theorem sX1_stainsAt_9 : lim cal sc 1 cX1_stainsAt ret 9 lv (.int y :: .int x :: st) M = if y ≤ x then lim cal sc 1 cX1_stainsAt ret 30 lv st M else lim cal sc 1 cX1_stainsAt ret 12 lv st M := (lim_step dX1_stainsAt_9).trans (e_cmpge (t := 30) (by decide))
theorem sX1_stainsAt_12 : lim cal sc 1 cX1_stainsAt ret 12 lv st M = lim cal sc 1 cX1_stainsAt ret 15 lv (.ref 151 :: st) M := lim_step dX1_stainsAt_12
theorem sX1_stainsAt_15 : lim cal sc 1 cX1_stainsAt ret 15 (some (.ref h) :: l) st M = lim cal sc 1 cX1_stainsAt ret 16 (some (.ref h) :: l) (.ref h :: st) M := lim_step dX1_stainsAt_15
theorem sX1_stainsAt_16 : lim cal sc 1 cX1_stainsAt ret 16 lv (.ref h :: st) M = opK (slotV 1 1 h M) fun q => lim cal sc 1 cX1_stainsAt ret 19 lv (q :: st) M := (lim_step dX1_stainsAt_16).trans (e_get (by decide) rf_1_15)
theorem sX1_stainsAt_19 : lim cal sc 1 cX1_stainsAt ret 19 (some (.ref h) :: l) st M = lim cal sc 1 cX1_stainsAt ret 20 (some (.ref h) :: l) (.ref h :: st) M := lim_step dX1_stainsAt_19
theorem sX1_stainsAt_20 : lim cal sc 1 cX1_stainsAt ret 20 lv (.ref h :: st) M = opK (slotV 1 8 h M) fun q => lim cal sc 1 cX1_stainsAt ret 23 lv (q :: st) M := (lim_step dX1_stainsAt_20).trans (e_get (by decide) rf_1_37)
theorem sX1_stainsAt_23 : lim cal sc 1 cX1_stainsAt ret 23 (v0 :: some (.int x) :: l) st M = lim cal sc 1 cX1_stainsAt ret 24 (v0 :: some (.int x) :: l) (.int x :: st) M := lim_step dX1_stainsAt_23
theorem sX1_stainsAt_24 : lim cal sc 1 cX1_stainsAt ret 24 lv (.int x :: .ref h :: st) M = opK (arrV9 sc h M) fun q => guK (inb x q.1) (lim cal sc 1 cX1_stainsAt ret 25 lv (.int (q.2 x.toNatClampNeg) :: st) M) := (lim_step dX1_stainsAt_24).trans (e_iald)
theorem sX1_stainsAt_25 : lim cal sc 1 cX1_stainsAt ret 25 lv (.int x :: .ref h :: st) M = opK (arrV9 sc h M) fun q => guK (inb x q.1) (lim cal sc 1 cX1_stainsAt ret 26 lv (.int (q.2 x.toNatClampNeg) :: st) M) := (lim_step dX1_stainsAt_25).trans (e_iald)
theorem sX1_stainsAt_26 : lim cal sc 1 cX1_stainsAt ret 26 lv (.int x :: .ref h :: st) M = opK (arrV9 sc h M) fun q => guK (inb x q.1) (lim cal sc 1 cX1_stainsAt ret 27 lv (.int (q.2 x.toNatClampNeg) :: st) M) := (lim_step dX1_stainsAt_26).trans (e_iald)
theorem sX1_stainsAt_27 : lim cal sc 1 cX1_stainsAt ret 27 lv st M = lim cal sc 1 cX1_stainsAt ret 31 lv st M := (lim_step dX1_stainsAt_27).trans (e_goto (t := 31) (by decide))
theorem sX1_stainsAt_30 : lim cal sc 1 cX1_stainsAt ret 30 lv st M = lim cal sc 1 cX1_stainsAt ret 31 lv (.int 0 :: st) M := (lim_step dX1_stainsAt_30).trans (e_ic k_i_0)
theorem sX1_stainsAt_31 : lim cal sc 1 cX1_stainsAt (some .int) 31 lv [.int x] M = some (some (.int x), M) := (lim_step dX1_stainsAt_31).trans (e_iret)
theorem sX1_layFront_0 : lim cal sc 1 cX1_layFront ret 0 (some (.ref h) :: l) st M = lim cal sc 1 cX1_layFront ret 1 (some (.ref h) :: l) (.ref h :: st) M := lim_step dX1_layFront_0
theorem sX1_layFront_1 : lim cal sc 1 cX1_layFront ret 1 lv st M = lim cal sc 1 cX1_layFront ret 2 lv (.int (-1) :: st) M := (lim_step dX1_layFront_1).trans (e_ic k_i_m1)
theorem sX1_layFront_2 : lim cal sc 1 cX1_layFront ret 2 lv (.int x :: .ref h :: st) M = guK (isInt 1 12 h) (lim cal sc 1 cX1_layFront ret 5 lv st (mset M h 12 x)) := (lim_step dX1_layFront_2).trans (e_put rf_1_49 rfl)
theorem sX1_layFront_5 : lim cal sc 1 cX1_layFront ret 5 (some (.ref h) :: l) st M = lim cal sc 1 cX1_layFront ret 6 (some (.ref h) :: l) (.ref h :: st) M := lim_step dX1_layFront_5
theorem sX1_layFront_6 : lim cal sc 1 cX1_layFront ret 6 lv st M = lim cal sc 1 cX1_layFront ret 7 lv (.int 0 :: st) M := (lim_step dX1_layFront_6).trans (e_ic k_i_0)
theorem sX1_layFront_7 : lim cal sc 1 cX1_layFront ret 7 lv (.int x :: .ref h :: st) M = guK (isInt 1 13 h) (lim cal sc 1 cX1_layFront ret 10 lv st (mset M h 13 x)) := (lim_step dX1_layFront_7).trans (e_put rf_1_52 rfl)
theorem sX1_layFront_10 : lim cal sc 1 cX1_layFront ret 10 (some (.ref h) :: l) st M = lim cal sc 1 cX1_layFront ret 11 (some (.ref h) :: l) (.ref h :: st) M := lim_step dX1_layFront_10
theorem sX1_layFront_11 : lim cal sc 1 cX1_layFront ret 11 lv st M = lim cal sc 1 cX1_layFront ret 12 lv (.int 0 :: st) M := (lim_step dX1_layFront_11).trans (e_ic k_i_0)
theorem sX1_layFront_12 : lim cal sc 1 cX1_layFront ret 12 lv (.int x :: .ref h :: st) M = guK (isInt 1 14 h) (guK (narB .boolean x) (lim cal sc 1 cX1_layFront ret 15 lv st (mset M h 14 x))) := (lim_step dX1_layFront_12).trans (e_putz rf_1_55 rfl)
theorem sX1_layFront_15 : lim cal sc 1 cX1_layFront ret 15 (some (.ref h) :: l) st M = lim cal sc 1 cX1_layFront ret 16 (some (.ref h) :: l) (.ref h :: st) M := lim_step dX1_layFront_15
theorem sX1_layFront_16 : lim cal sc 1 cX1_layFront ret 16 lv (.ref h :: st) M = opK (slotV 1 8 h M) fun q => lim cal sc 1 cX1_layFront ret 19 lv (q :: st) M := (lim_step dX1_layFront_16).trans (e_get (by decide) rf_1_37)
theorem sX1_layFront_19 : lim cal sc 1 cX1_layFront ret 19 lv st M = lim cal sc 1 cX1_layFront ret 20 lv (.int 0 :: st) M := (lim_step dX1_layFront_19).trans (e_ic k_i_0)
theorem sX1_layFront_20 : lim cal sc 1 cX1_layFront ret 20 lv (.int x :: .ref h :: st) M = opK (arrV9 sc h M) fun q => guK (inb x q.1) (lim cal sc 1 cX1_layFront ret 21 lv (.int (q.2 x.toNatClampNeg) :: st) M) := (lim_step dX1_layFront_20).trans (e_iald)
theorem sX1_layFront_21 : lim cal sc 1 cX1_layFront ret 21 (v0 :: v :: l) (.int x :: st) M = lim cal sc 1 cX1_layFront ret 22 (v0 :: some (.int x) :: l) st M := (lim_step dX1_layFront_21).trans (e_istn1)
theorem sX1_layFront_22 : lim cal sc 1 cX1_layFront ret 22 (some (.ref h) :: l) st M = lim cal sc 1 cX1_layFront ret 23 (some (.ref h) :: l) (.ref h :: st) M := lim_step dX1_layFront_22
theorem sX1_layFront_23 : lim cal sc 1 cX1_layFront ret 23 lv (.ref h :: st) M = opK (slotV 1 9 h M) fun q => lim cal sc 1 cX1_layFront ret 26 lv (q :: st) M := (lim_step dX1_layFront_23).trans (e_get (by decide) rf_1_40)
theorem sX1_layFront_26 : lim cal sc 1 cX1_layFront ret 26 lv (.int x :: st) M = if x ≤ 0 then lim cal sc 1 cX1_layFront ret 48 lv st M else lim cal sc 1 cX1_layFront ret 29 lv st M := (lim_step dX1_layFront_26).trans (e_ifle (t := 48) (by decide))
theorem sX1_layFront_29 : lim cal sc 1 cX1_layFront ret 29 (some (.ref h) :: l) st M = lim cal sc 1 cX1_layFront ret 30 (some (.ref h) :: l) (.ref h :: st) M := lim_step dX1_layFront_29
theorem sX1_layFront_30 : lim cal sc 1 cX1_layFront ret 30 lv (.ref h :: st) M = opK (slotV 1 6 h M) fun q => lim cal sc 1 cX1_layFront ret 33 lv (q :: st) M := (lim_step dX1_layFront_30).trans (e_get (by decide) rf_1_31)
theorem sX1_layFront_33 : lim cal sc 1 cX1_layFront ret 33 (v0 :: some (.int x) :: l) st M = lim cal sc 1 cX1_layFront ret 34 (v0 :: some (.int x) :: l) (.int x :: st) M := lim_step dX1_layFront_33
theorem sX1_layFront_34 : lim cal sc 1 cX1_layFront ret 34 lv (.int x :: .ref h :: st) M = opK (arrV9 sc h M) fun q => guK (inb x q.1) (lim cal sc 1 cX1_layFront ret 35 lv (.int (q.2 x.toNatClampNeg) :: st) M) := (lim_step dX1_layFront_34).trans (e_iald)
theorem sX1_layFront_35 : lim cal sc 1 cX1_layFront ret 35 lv st M = lim cal sc 1 cX1_layFront ret 38 lv (.ref 150 :: st) M := lim_step dX1_layFront_35
theorem sX1_layFront_38 : lim cal sc 1 cX1_layFront ret 38 (some (.ref h) :: l) st M = lim cal sc 1 cX1_layFront ret 39 (some (.ref h) :: l) (.ref h :: st) M := lim_step dX1_layFront_38
theorem sX1_layFront_39 : lim cal sc 1 cX1_layFront ret 39 lv (.ref h :: st) M = opK (slotV 1 1 h M) fun q => lim cal sc 1 cX1_layFront ret 42 lv (q :: st) M := (lim_step dX1_layFront_39).trans (e_get (by decide) rf_1_15)
theorem sX1_layFront_42 : lim cal sc 1 cX1_layFront ret 42 (v0 :: some (.int x) :: l) st M = lim cal sc 1 cX1_layFront ret 43 (v0 :: some (.int x) :: l) (.int x :: st) M := lim_step dX1_layFront_42
theorem sX1_layFront_43 : lim cal sc 1 cX1_layFront ret 43 lv (.int x :: .ref h :: st) M = opK (arrV9 sc h M) fun q => guK (inb x q.1) (lim cal sc 1 cX1_layFront ret 44 lv (.int (q.2 x.toNatClampNeg) :: st) M) := (lim_step dX1_layFront_43).trans (e_iald)
theorem sX1_layFront_44 : lim cal sc 1 cX1_layFront ret 44 lv (.int x :: .ref h :: st) M = opK (arrV9 sc h M) fun q => guK (inb x q.1) (lim cal sc 1 cX1_layFront ret 45 lv (.int (q.2 x.toNatClampNeg) :: st) M) := (lim_step dX1_layFront_44).trans (e_iald)
theorem sX1_layFront_45 : lim cal sc 1 cX1_layFront ret 45 lv (.int y :: .int x :: st) M = if y ≤ x then lim cal sc 1 cX1_layFront ret 49 lv st M else lim cal sc 1 cX1_layFront ret 48 lv st M := (lim_step dX1_layFront_45).trans (e_cmpge (t := 49) (by decide))
theorem sX1_layFront_48 : lim cal sc 1 cX1_layFront none 48 lv [] M = some (none, M) := (lim_step dX1_layFront_48).trans (e_vret)
theorem sX1_layFront_49 : lim cal sc 1 cX1_layFront ret 49 (some (.ref h) :: l) st M = lim cal sc 1 cX1_layFront ret 50 (some (.ref h) :: l) (.ref h :: st) M := lim_step dX1_layFront_49
theorem sX1_layFront_50 : lim cal sc 1 cX1_layFront ret 50 (v0 :: some (.int x) :: l) st M = lim cal sc 1 cX1_layFront ret 51 (v0 :: some (.int x) :: l) (.int x :: st) M := lim_step dX1_layFront_50
theorem sX1_layFront_51 : lim cal sc 1 cX1_layFront ret 51 lv (.int x :: .ref h :: st) M = guK (isInt 1 12 h) (lim cal sc 1 cX1_layFront ret 54 lv st (mset M h 12 x)) := (lim_step dX1_layFront_51).trans (e_put rf_1_49 rfl)
theorem sX1_layFront_54 : lim cal sc 1 cX1_layFront ret 54 (some (.ref h) :: l) st M = lim cal sc 1 cX1_layFront ret 55 (some (.ref h) :: l) (.ref h :: st) M := lim_step dX1_layFront_54
theorem sX1_layFront_55 : lim cal sc 1 cX1_layFront ret 55 (some (.ref h) :: l) st M = lim cal sc 1 cX1_layFront ret 56 (some (.ref h) :: l) (.ref h :: st) M := lim_step dX1_layFront_55
theorem sX1_layFront_56 : lim cal sc 1 cX1_layFront ret 56 lv (.ref h :: st) M = guK (isCl 1 h) (guK (rk 8 st) (calK (cal 16 [.ref h] M) fun q M' => lim cal sc 1 cX1_layFront ret 59 lv (q.toList ++ st) M')) := (lim_step dX1_layFront_56).trans (e_virt0 rm_1_81 mq_16)
theorem sX1_layFront_59 : lim cal sc 1 cX1_layFront ret 59 (some (.ref h) :: l) st M = lim cal sc 1 cX1_layFront ret 60 (some (.ref h) :: l) (.ref h :: st) M := lim_step dX1_layFront_59
theorem sX1_layFront_60 : lim cal sc 1 cX1_layFront ret 60 lv (.ref h :: st) M = opK (slotV 1 11 h M) fun q => lim cal sc 1 cX1_layFront ret 63 lv (q :: st) M := (lim_step dX1_layFront_60).trans (e_get (by decide) rf_1_46)
theorem sX1_layFront_63 : lim cal sc 1 cX1_layFront ret 63 lv (.int y :: .int x :: st) M = if y ≤ x then lim cal sc 1 cX1_layFront ret 70 lv st M else lim cal sc 1 cX1_layFront ret 66 lv st M := (lim_step dX1_layFront_63).trans (e_cmpge (t := 70) (by decide))
theorem sX1_layFront_66 : lim cal sc 1 cX1_layFront ret 66 lv st M = lim cal sc 1 cX1_layFront ret 67 lv (.int 1 :: st) M := (lim_step dX1_layFront_66).trans (e_ic k_i_1)
theorem sX1_layFront_67 : lim cal sc 1 cX1_layFront ret 67 lv st M = lim cal sc 1 cX1_layFront ret 71 lv st M := (lim_step dX1_layFront_67).trans (e_goto (t := 71) (by decide))
theorem sX1_layFront_70 : lim cal sc 1 cX1_layFront ret 70 lv st M = lim cal sc 1 cX1_layFront ret 71 lv (.int 0 :: st) M := (lim_step dX1_layFront_70).trans (e_ic k_i_0)
theorem sX1_layFront_71 : lim cal sc 1 cX1_layFront ret 71 lv (.int x :: .ref h :: st) M = guK (isInt 1 14 h) (guK (narB .boolean x) (lim cal sc 1 cX1_layFront ret 74 lv st (mset M h 14 x))) := (lim_step dX1_layFront_71).trans (e_putz rf_1_55 rfl)
theorem sX1_layFront_74 : lim cal sc 1 cX1_layFront ret 74 (some (.ref h) :: l) st M = lim cal sc 1 cX1_layFront ret 75 (some (.ref h) :: l) (.ref h :: st) M := lim_step dX1_layFront_74
theorem sX1_layFront_75 : lim cal sc 1 cX1_layFront ret 75 (some (.ref h) :: l) st M = lim cal sc 1 cX1_layFront ret 76 (some (.ref h) :: l) (.ref h :: st) M := lim_step dX1_layFront_75
theorem sX1_layFront_76 : lim cal sc 1 cX1_layFront ret 76 lv (.ref h :: st) M = opK (slotV 1 14 h M) fun q => lim cal sc 1 cX1_layFront ret 79 lv (q :: st) M := (lim_step dX1_layFront_76).trans (e_get (by decide) rf_1_55)
theorem sX1_layFront_79 : lim cal sc 1 cX1_layFront ret 79 lv (.int x :: st) M = if x = 0 then lim cal sc 1 cX1_layFront ret 86 lv st M else lim cal sc 1 cX1_layFront ret 82 lv st M := (lim_step dX1_layFront_79).trans (e_ifeq (t := 86) (by decide))
theorem sX1_layFront_82 : lim cal sc 1 cX1_layFront ret 82 lv st M = lim cal sc 1 cX1_layFront ret 83 lv (.int 0 :: st) M := (lim_step dX1_layFront_82).trans (e_ic k_i_0)
theorem sX1_layFront_83 : lim cal sc 1 cX1_layFront ret 83 lv st M = lim cal sc 1 cX1_layFront ret 107 lv st M := (lim_step dX1_layFront_83).trans (e_goto (t := 107) (by decide))
theorem sX1_layFront_86 : lim cal sc 1 cX1_layFront ret 86 (some (.ref h) :: l) st M = lim cal sc 1 cX1_layFront ret 87 (some (.ref h) :: l) (.ref h :: st) M := lim_step dX1_layFront_86
theorem sX1_layFront_87 : lim cal sc 1 cX1_layFront ret 87 lv (.ref h :: st) M = opK (slotV 1 1 h M) fun q => lim cal sc 1 cX1_layFront ret 90 lv (q :: st) M := (lim_step dX1_layFront_87).trans (e_get (by decide) rf_1_15)
theorem sX1_layFront_90 : lim cal sc 1 cX1_layFront ret 90 (v0 :: some (.int x) :: l) st M = lim cal sc 1 cX1_layFront ret 91 (v0 :: some (.int x) :: l) (.int x :: st) M := lim_step dX1_layFront_90
theorem sX1_layFront_91 : lim cal sc 1 cX1_layFront ret 91 lv (.int x :: .ref h :: st) M = opK (arrV9 sc h M) fun q => guK (inb x q.1) (lim cal sc 1 cX1_layFront ret 92 lv (.int (q.2 x.toNatClampNeg) :: st) M) := (lim_step dX1_layFront_91).trans (e_iald)
theorem sX1_layFront_92 : lim cal sc 1 cX1_layFront ret 92 (some (.ref h) :: l) st M = lim cal sc 1 cX1_layFront ret 93 (some (.ref h) :: l) (.ref h :: st) M := lim_step dX1_layFront_92
theorem sX1_layFront_93 : lim cal sc 1 cX1_layFront ret 93 lv (.ref h :: st) M = opK (slotV 1 3 h M) fun q => lim cal sc 1 cX1_layFront ret 96 lv (q :: st) M := (lim_step dX1_layFront_93).trans (e_get (by decide) rf_1_22)
theorem sX1_layFront_96 : lim cal sc 1 cX1_layFront ret 96 (v0 :: some (.int x) :: l) st M = lim cal sc 1 cX1_layFront ret 97 (v0 :: some (.int x) :: l) (.int x :: st) M := lim_step dX1_layFront_96
theorem sX1_layFront_97 : lim cal sc 1 cX1_layFront ret 97 lv (.int x :: .ref h :: st) M = opK (arrV9 sc h M) fun q => guK (inb x q.1) (lim cal sc 1 cX1_layFront ret 98 lv (.int (q.2 x.toNatClampNeg) :: st) M) := (lim_step dX1_layFront_97).trans (e_iald)
theorem sX1_layFront_98 : lim cal sc 1 cX1_layFront ret 98 (some (.ref h) :: l) st M = lim cal sc 1 cX1_layFront ret 99 (some (.ref h) :: l) (.ref h :: st) M := lim_step dX1_layFront_98
theorem sX1_layFront_99 : lim cal sc 1 cX1_layFront ret 99 lv (.ref h :: st) M = opK (slotV 1 7 h M) fun q => lim cal sc 1 cX1_layFront ret 102 lv (q :: st) M := (lim_step dX1_layFront_99).trans (e_get (by decide) rf_1_34)
theorem sX1_layFront_102 : lim cal sc 1 cX1_layFront ret 102 (v0 :: some (.int x) :: l) st M = lim cal sc 1 cX1_layFront ret 103 (v0 :: some (.int x) :: l) (.int x :: st) M := lim_step dX1_layFront_102
theorem sX1_layFront_103 : lim cal sc 1 cX1_layFront ret 103 lv (.int x :: .ref h :: st) M = opK (arrV9 sc h M) fun q => guK (inb x q.1) (lim cal sc 1 cX1_layFront ret 104 lv (.int (q.2 x.toNatClampNeg) :: st) M) := (lim_step dX1_layFront_103).trans (e_iald)
theorem sX1_layFront_104 : lim cal sc 1 cX1_layFront ret 104 lv (a3 :: a2 :: a1 :: st) M = guK (rk 8 st) (calK (cal 8 [a1, a2, a3] M) fun q M' => lim cal sc 1 cX1_layFront ret 107 lv (q.toList ++ st) M') := (lim_step dX1_layFront_104).trans (e_stat3 rm_1_77)
theorem sX1_layFront_107 : lim cal sc 1 cX1_layFront ret 107 lv (.int x :: .ref h :: st) M = guK (isInt 1 13 h) (lim cal sc 1 cX1_layFront ret 110 lv st (mset M h 13 x)) := (lim_step dX1_layFront_107).trans (e_put rf_1_52 rfl)
theorem sX1_layFront_110 : lim cal sc 1 cX1_layFront ret 110 (some (.ref h) :: l) st M = lim cal sc 1 cX1_layFront ret 111 (some (.ref h) :: l) (.ref h :: st) M := lim_step dX1_layFront_110
theorem sX1_layFront_111 : lim cal sc 1 cX1_layFront ret 111 lv (.ref h :: st) M = lim cal sc 1 cX1_layFront ret 112 lv (.ref h :: .ref h :: st) M := lim_step dX1_layFront_111
theorem sX1_layFront_111_i : lim cal sc 1 cX1_layFront ret 111 lv (.int x :: st) M = lim cal sc 1 cX1_layFront ret 112 lv (.int x :: .int x :: st) M := lim_step dX1_layFront_111
theorem sX1_layFront_112 : lim cal sc 1 cX1_layFront ret 112 lv (.ref h :: st) M = opK (slotV 1 9 h M) fun q => lim cal sc 1 cX1_layFront ret 115 lv (q :: st) M := (lim_step dX1_layFront_112).trans (e_get (by decide) rf_1_40)
theorem sX1_layFront_115 : lim cal sc 1 cX1_layFront ret 115 lv st M = lim cal sc 1 cX1_layFront ret 116 lv (.int 1 :: st) M := (lim_step dX1_layFront_115).trans (e_ic k_i_1)
theorem sX1_layFront_116 : lim cal sc 1 cX1_layFront ret 116 lv (.int y :: .int x :: st) M = lim cal sc 1 cX1_layFront ret 117 lv (.int (x - y) :: st) M := lim_step dX1_layFront_116
theorem sX1_layFront_117 : lim cal sc 1 cX1_layFront ret 117 lv (.int x :: .ref h :: st) M = guK (isInt 1 9 h) (lim cal sc 1 cX1_layFront ret 120 lv st (mset M h 9 x)) := (lim_step dX1_layFront_117).trans (e_put rf_1_40 rfl)
theorem sX1_layFront_120 : lim cal sc 1 cX1_layFront ret 120 (some (.ref h) :: l) st M = lim cal sc 1 cX1_layFront ret 121 (some (.ref h) :: l) (.ref h :: st) M := lim_step dX1_layFront_120
theorem sX1_layFront_121 : lim cal sc 1 cX1_layFront ret 121 lv (.ref h :: st) M = opK (slotV 1 8 h M) fun q => lim cal sc 1 cX1_layFront ret 124 lv (q :: st) M := (lim_step dX1_layFront_121).trans (e_get (by decide) rf_1_37)
theorem sX1_layFront_124 : lim cal sc 1 cX1_layFront ret 124 lv st M = lim cal sc 1 cX1_layFront ret 125 lv (.int 1 :: st) M := (lim_step dX1_layFront_124).trans (e_ic k_i_1)
theorem sX1_layFront_125 : lim cal sc 1 cX1_layFront ret 125 (some (.ref h) :: l) st M = lim cal sc 1 cX1_layFront ret 126 (some (.ref h) :: l) (.ref h :: st) M := lim_step dX1_layFront_125
theorem sX1_layFront_126 : lim cal sc 1 cX1_layFront ret 126 lv (.ref h :: st) M = opK (slotV 1 8 h M) fun q => lim cal sc 1 cX1_layFront ret 129 lv (q :: st) M := (lim_step dX1_layFront_126).trans (e_get (by decide) rf_1_37)
theorem sX1_layFront_129 : lim cal sc 1 cX1_layFront ret 129 lv st M = lim cal sc 1 cX1_layFront ret 130 lv (.int 0 :: st) M := (lim_step dX1_layFront_129).trans (e_ic k_i_0)
theorem sX1_layFront_130 : lim cal sc 1 cX1_layFront ret 130 (some (.ref h) :: l) st M = lim cal sc 1 cX1_layFront ret 131 (some (.ref h) :: l) (.ref h :: st) M := lim_step dX1_layFront_130
theorem sX1_layFront_131 : lim cal sc 1 cX1_layFront ret 131 lv (.ref h :: st) M = opK (slotV 1 9 h M) fun q => lim cal sc 1 cX1_layFront ret 134 lv (q :: st) M := (lim_step dX1_layFront_131).trans (e_get (by decide) rf_1_40)
theorem sX1_layFront_134 : lim cal sc 1 cX1_layFront ret 134 lv (.int z :: .int y :: .ref h2 :: .int x :: .ref h :: st) M = guK (cpy9 h h2 x y z) (guK (rk 8 st) (lim cal sc 1 cX1_layFront ret 137 lv st (mrow M h2 (va_cpy (M h) (M h2) x.toNatClampNeg y.toNatClampNeg z.toNatClampNeg)))) := (lim_step dX1_layFront_134).trans (e_copy rm_1_59)
theorem sX1_layFront_137 : lim cal sc 1 cX1_layFront ret 137 (some (.ref h) :: l) st M = lim cal sc 1 cX1_layFront ret 138 (some (.ref h) :: l) (.ref h :: st) M := lim_step dX1_layFront_137
theorem sX1_layFront_138 : lim cal sc 1 cX1_layFront ret 138 (v0 :: some (.int x) :: l) st M = lim cal sc 1 cX1_layFront ret 139 (v0 :: some (.int x) :: l) (.int x :: st) M := lim_step dX1_layFront_138
theorem sX1_layFront_139 : lim cal sc 1 cX1_layFront ret 139 lv st M = lim cal sc 1 cX1_layFront ret 140 lv (.int 2 :: st) M := (lim_step dX1_layFront_139).trans (e_ic k_i_2)
theorem sX1_layFront_140 : lim cal sc 1 cX1_layFront ret 140 lv (a2 :: a1 :: .ref h :: st) M = guK (isCl 1 h) (guK (rk 8 st) (calK (cal 4 [.ref h, a1, a2] M) fun q M' => lim cal sc 1 cX1_layFront ret 143 lv (q.toList ++ st) M')) := (lim_step dX1_layFront_140).trans (e_virt2 rm_1_65 mq_4)
theorem sX1_layFront_143 : lim cal sc 1 cX1_layFront none 143 lv [] M = some (none, M) := (lim_step dX1_layFront_143).trans (e_vret)
theorem sX1_isLaidOf_0 : lim cal sc 1 cX1_isLaidOf ret 0 (some (.ref h) :: l) st M = lim cal sc 1 cX1_isLaidOf ret 1 (some (.ref h) :: l) (.ref h :: st) M := lim_step dX1_isLaidOf_0
theorem sX1_isLaidOf_1 : lim cal sc 1 cX1_isLaidOf ret 1 lv (.ref h :: st) M = opK (slotV 1 12 h M) fun q => lim cal sc 1 cX1_isLaidOf ret 4 lv (q :: st) M := (lim_step dX1_isLaidOf_1).trans (e_get (by decide) rf_1_49)
theorem sX1_isLaidOf_4 : lim cal sc 1 cX1_isLaidOf ret 4 lv (.int x :: st) M = if x < 0 then lim cal sc 1 cX1_isLaidOf ret 24 lv st M else lim cal sc 1 cX1_isLaidOf ret 7 lv st M := (lim_step dX1_isLaidOf_4).trans (e_iflt (t := 24) (by decide))
theorem sX1_isLaidOf_7 : lim cal sc 1 cX1_isLaidOf ret 7 (some (.ref h) :: l) st M = lim cal sc 1 cX1_isLaidOf ret 8 (some (.ref h) :: l) (.ref h :: st) M := lim_step dX1_isLaidOf_7
theorem sX1_isLaidOf_8 : lim cal sc 1 cX1_isLaidOf ret 8 lv (.ref h :: st) M = opK (slotV 1 4 h M) fun q => lim cal sc 1 cX1_isLaidOf ret 11 lv (q :: st) M := (lim_step dX1_isLaidOf_8).trans (e_get (by decide) rf_1_25)
theorem sX1_isLaidOf_11 : lim cal sc 1 cX1_isLaidOf ret 11 (some (.ref h) :: l) st M = lim cal sc 1 cX1_isLaidOf ret 12 (some (.ref h) :: l) (.ref h :: st) M := lim_step dX1_isLaidOf_11
theorem sX1_isLaidOf_12 : lim cal sc 1 cX1_isLaidOf ret 12 lv (.ref h :: st) M = opK (slotV 1 12 h M) fun q => lim cal sc 1 cX1_isLaidOf ret 15 lv (q :: st) M := (lim_step dX1_isLaidOf_12).trans (e_get (by decide) rf_1_49)
theorem sX1_isLaidOf_15 : lim cal sc 1 cX1_isLaidOf ret 15 lv (.int x :: .ref h :: st) M = opK (arrV9 sc h M) fun q => guK (inb x q.1) (lim cal sc 1 cX1_isLaidOf ret 16 lv (.int (q.2 x.toNatClampNeg) :: st) M) := (lim_step dX1_isLaidOf_15).trans (e_iald)
theorem sX1_isLaidOf_16 : lim cal sc 1 cX1_isLaidOf ret 16 (v0 :: some (.int x) :: l) st M = lim cal sc 1 cX1_isLaidOf ret 17 (v0 :: some (.int x) :: l) (.int x :: st) M := lim_step dX1_isLaidOf_16
theorem sX1_isLaidOf_17 : lim cal sc 1 cX1_isLaidOf ret 17 lv (.int y :: .int x :: st) M = if x = y then lim cal sc 1 cX1_isLaidOf ret 20 lv st M else lim cal sc 1 cX1_isLaidOf ret 24 lv st M := (lim_step dX1_isLaidOf_17).trans (e_cmpne (t := 24) (by decide))
theorem sX1_isLaidOf_20 : lim cal sc 1 cX1_isLaidOf ret 20 lv st M = lim cal sc 1 cX1_isLaidOf ret 21 lv (.int 1 :: st) M := (lim_step dX1_isLaidOf_20).trans (e_ic k_i_1)
theorem sX1_isLaidOf_21 : lim cal sc 1 cX1_isLaidOf ret 21 lv st M = lim cal sc 1 cX1_isLaidOf ret 25 lv st M := (lim_step dX1_isLaidOf_21).trans (e_goto (t := 25) (by decide))
theorem sX1_isLaidOf_24 : lim cal sc 1 cX1_isLaidOf ret 24 lv st M = lim cal sc 1 cX1_isLaidOf ret 25 lv (.int 0 :: st) M := (lim_step dX1_isLaidOf_24).trans (e_ic k_i_0)
theorem sX1_isLaidOf_25 : lim cal sc 1 cX1_isLaidOf (some .boolean) 25 lv [.int x] M = guK (narB .boolean x) (some (some (.int x), M)) := (lim_step dX1_isLaidOf_25).trans (e_zret)
theorem sX1_laidLead_0 : lim cal sc 1 cX1_laidLead ret 0 (some (.ref h) :: l) st M = lim cal sc 1 cX1_laidLead ret 1 (some (.ref h) :: l) (.ref h :: st) M := lim_step dX1_laidLead_0
theorem sX1_laidLead_1 : lim cal sc 1 cX1_laidLead ret 1 lv st M = lim cal sc 1 cX1_laidLead ret 2 lv (.int 1 :: st) M := (lim_step dX1_laidLead_1).trans (e_ic k_i_1)
theorem sX1_laidLead_2 : lim cal sc 1 cX1_laidLead ret 2 lv (a1 :: .ref h :: st) M = guK (isCl 1 h) (guK (rk 8 st) (calK (cal 70 [.ref h, a1] M) fun q M' => lim cal sc 1 cX1_laidLead ret 5 lv (q.toList ++ st) M')) := (lim_step dX1_laidLead_2).trans (e_virt1 rm_1_104 mq_70)
theorem sX1_laidLead_5 : lim cal sc 1 cX1_laidLead ret 5 lv (.int x :: st) M = if x = 0 then lim cal sc 1 cX1_laidLead ret 16 lv st M else lim cal sc 1 cX1_laidLead ret 8 lv st M := (lim_step dX1_laidLead_5).trans (e_ifeq (t := 16) (by decide))
theorem sX1_laidLead_8 : lim cal sc 1 cX1_laidLead ret 8 (some (.ref h) :: l) st M = lim cal sc 1 cX1_laidLead ret 9 (some (.ref h) :: l) (.ref h :: st) M := lim_step dX1_laidLead_8
theorem sX1_laidLead_9 : lim cal sc 1 cX1_laidLead ret 9 lv (.ref h :: st) M = opK (slotV 1 13 h M) fun q => lim cal sc 1 cX1_laidLead ret 12 lv (q :: st) M := (lim_step dX1_laidLead_9).trans (e_get (by decide) rf_1_52)
theorem sX1_laidLead_12 : lim cal sc 1 cX1_laidLead ret 12 lv (.int x :: st) M = lim cal sc 1 cX1_laidLead ret 13 lv (.int (-x) :: st) M := lim_step dX1_laidLead_12
theorem sX1_laidLead_13 : lim cal sc 1 cX1_laidLead ret 13 lv st M = lim cal sc 1 cX1_laidLead ret 20 lv st M := (lim_step dX1_laidLead_13).trans (e_goto (t := 20) (by decide))
theorem sX1_laidLead_16 : lim cal sc 1 cX1_laidLead ret 16 (some (.ref h) :: l) st M = lim cal sc 1 cX1_laidLead ret 17 (some (.ref h) :: l) (.ref h :: st) M := lim_step dX1_laidLead_16
theorem sX1_laidLead_17 : lim cal sc 1 cX1_laidLead ret 17 lv (.ref h :: st) M = opK (slotV 1 13 h M) fun q => lim cal sc 1 cX1_laidLead ret 20 lv (q :: st) M := (lim_step dX1_laidLead_17).trans (e_get (by decide) rf_1_52)
theorem sX1_laidLead_20 : lim cal sc 1 cX1_laidLead (some .int) 20 lv [.int x] M = some (some (.int x), M) := (lim_step dX1_laidLead_20).trans (e_iret)
theorem sX2_left_0 : lim cal sc 2 cX2_left ret 0 (some (.int x) :: l) st M = lim cal sc 2 cX2_left ret 1 (some (.int x) :: l) (.int x :: st) M := lim_step dX2_left_0
theorem sX2_left_1 : lim cal sc 2 cX2_left ret 1 lv (.int x :: st) M = if x.toInt < 1 ∨ 6 < x.toInt then lim cal sc 2 cX2_left ret 76 lv st M else lim cal sc 2 cX2_left ret ([40, 76, 44, 54, 40, 66].getD (x.toInt - 1).toNat 0) lv st M := (lim_step dX2_left_1).trans (e_tab [40, 76, 44, 54, 40, 66] (by decide) (by decide) (by decide))
theorem sX2_left_40 : lim cal sc 2 cX2_left ret 40 (v0 :: some (.int x) :: l) st M = lim cal sc 2 cX2_left ret 41 (v0 :: some (.int x) :: l) (.int x :: st) M := lim_step dX2_left_40
theorem sX2_left_41 : lim cal sc 2 cX2_left ret 41 lv st M = lim cal sc 2 cX2_left ret 42 lv (.int 2 :: st) M := (lim_step dX2_left_41).trans (e_ic k_i_2)
theorem sX2_left_42 : lim cal sc 2 cX2_left ret 42 lv (.int y :: .int x :: st) M = guK (decide (¬ y = 0)) (lim cal sc 2 cX2_left ret 43 lv (.int (x / y) :: st) M) := (lim_step dX2_left_42).trans (e_div)
theorem sX2_left_43 : lim cal sc 2 cX2_left (some .int) 43 lv [.int x] M = some (some (.int x), M) := (lim_step dX2_left_43).trans (e_iret)
theorem sX2_left_44 : lim cal sc 2 cX2_left ret 44 lv st M = lim cal sc 2 cX2_left ret 45 lv (.int 0 :: st) M := (lim_step dX2_left_44).trans (e_ic k_i_0)
theorem sX2_left_45 : lim cal sc 2 cX2_left ret 45 (v0 :: some (.int x) :: l) st M = lim cal sc 2 cX2_left ret 46 (v0 :: some (.int x) :: l) (.int x :: st) M := lim_step dX2_left_45
theorem sX2_left_46 : lim cal sc 2 cX2_left ret 46 (v0 :: v1 :: some (.int x) :: l) st M = lim cal sc 2 cX2_left ret 47 (v0 :: v1 :: some (.int x) :: l) (.int x :: st) M := lim_step dX2_left_46
theorem sX2_left_47 : lim cal sc 2 cX2_left ret 47 lv st M = lim cal sc 2 cX2_left ret 48 lv (.int 2 :: st) M := (lim_step dX2_left_47).trans (e_ic k_i_2)
theorem sX2_left_48 : lim cal sc 2 cX2_left ret 48 lv (.int y :: .int x :: st) M = guK (decide (¬ y = 0)) (lim cal sc 2 cX2_left ret 49 lv (.int (x / y) :: st) M) := (lim_step dX2_left_48).trans (e_div)
theorem sX2_left_49 : lim cal sc 2 cX2_left ret 49 lv (.int y :: .int x :: st) M = lim cal sc 2 cX2_left ret 50 lv (.int (x - y) :: st) M := lim_step dX2_left_49
theorem sX2_left_50 : lim cal sc 2 cX2_left ret 50 lv (.int y :: .int x :: st) M = guK (rk 8 st) (lim cal sc 2 cX2_left ret 53 lv (.int (if x < y then y else x) :: st) M) := (lim_step dX2_left_50).trans (e_max rm_2_9)
theorem sX2_left_53 : lim cal sc 2 cX2_left (some .int) 53 lv [.int x] M = some (some (.int x), M) := (lim_step dX2_left_53).trans (e_iret)
theorem sX2_left_54 : lim cal sc 2 cX2_left ret 54 lv st M = lim cal sc 2 cX2_left ret 55 lv (.int 0 :: st) M := (lim_step dX2_left_54).trans (e_ic k_i_0)
theorem sX2_left_55 : lim cal sc 2 cX2_left ret 55 (v0 :: some (.int x) :: l) st M = lim cal sc 2 cX2_left ret 56 (v0 :: some (.int x) :: l) (.int x :: st) M := lim_step dX2_left_55
theorem sX2_left_56 : lim cal sc 2 cX2_left ret 56 (v0 :: v1 :: some (.int x) :: l) st M = lim cal sc 2 cX2_left ret 57 (v0 :: v1 :: some (.int x) :: l) (.int x :: st) M := lim_step dX2_left_56
theorem sX2_left_57 : lim cal sc 2 cX2_left ret 57 lv st M = lim cal sc 2 cX2_left ret 58 lv (.int 2 :: st) M := (lim_step dX2_left_57).trans (e_ic k_i_2)
theorem sX2_left_58 : lim cal sc 2 cX2_left ret 58 lv (.int y :: .int x :: st) M = guK (decide (¬ y = 0)) (lim cal sc 2 cX2_left ret 59 lv (.int (x / y) :: st) M) := (lim_step dX2_left_58).trans (e_div)
theorem sX2_left_59 : lim cal sc 2 cX2_left ret 59 lv (.int y :: .int x :: st) M = lim cal sc 2 cX2_left ret 60 lv (.int (x - y) :: st) M := lim_step dX2_left_59
theorem sX2_left_60 : lim cal sc 2 cX2_left ret 60 lv (.int y :: .int x :: st) M = guK (rk 8 st) (lim cal sc 2 cX2_left ret 63 lv (.int (if x < y then y else x) :: st) M) := (lim_step dX2_left_60).trans (e_max rm_2_9)
theorem sX2_left_63 : lim cal sc 2 cX2_left ret 63 lv st M = lim cal sc 2 cX2_left ret 64 lv (.int 5 :: st) M := (lim_step dX2_left_63).trans (e_ic k_i_5)
theorem sX2_left_64 : lim cal sc 2 cX2_left ret 64 lv (.int y :: .int x :: st) M = lim cal sc 2 cX2_left ret 65 lv (.int (x + y) :: st) M := lim_step dX2_left_64
theorem sX2_left_65 : lim cal sc 2 cX2_left (some .int) 65 lv [.int x] M = some (some (.int x), M) := (lim_step dX2_left_65).trans (e_iret)
theorem sX2_left_66 : lim cal sc 2 cX2_left ret 66 (v0 :: v1 :: some (.int x) :: l) st M = lim cal sc 2 cX2_left ret 67 (v0 :: v1 :: some (.int x) :: l) (.int x :: st) M := lim_step dX2_left_66
theorem sX2_left_67 : lim cal sc 2 cX2_left ret 67 lv (.int x :: st) M = if x = 0 then lim cal sc 2 cX2_left ret 70 lv st M else lim cal sc 2 cX2_left ret 74 lv st M := (lim_step dX2_left_67).trans (e_ifne (t := 74) (by decide))
theorem sX2_left_70 : lim cal sc 2 cX2_left ret 70 (v0 :: some (.int x) :: l) st M = lim cal sc 2 cX2_left ret 71 (v0 :: some (.int x) :: l) (.int x :: st) M := lim_step dX2_left_70
theorem sX2_left_71 : lim cal sc 2 cX2_left ret 71 lv st M = lim cal sc 2 cX2_left ret 75 lv st M := (lim_step dX2_left_71).trans (e_goto (t := 75) (by decide))
theorem sX2_left_74 : lim cal sc 2 cX2_left ret 74 lv st M = lim cal sc 2 cX2_left ret 75 lv (.int 0 :: st) M := (lim_step dX2_left_74).trans (e_ic k_i_0)
theorem sX2_left_75 : lim cal sc 2 cX2_left (some .int) 75 lv [.int x] M = some (some (.int x), M) := (lim_step dX2_left_75).trans (e_iret)
theorem sX2_left_76 : lim cal sc 2 cX2_left ret 76 lv st M = lim cal sc 2 cX2_left ret 77 lv (.int 0 :: st) M := (lim_step dX2_left_76).trans (e_ic k_i_0)
theorem sX2_left_77 : lim cal sc 2 cX2_left ret 77 (v0 :: some (.int x) :: l) st M = lim cal sc 2 cX2_left ret 78 (v0 :: some (.int x) :: l) (.int x :: st) M := lim_step dX2_left_77
theorem sX2_left_78 : lim cal sc 2 cX2_left ret 78 (v0 :: v1 :: some (.int x) :: l) st M = lim cal sc 2 cX2_left ret 79 (v0 :: v1 :: some (.int x) :: l) (.int x :: st) M := lim_step dX2_left_78
theorem sX2_left_79 : lim cal sc 2 cX2_left ret 79 lv (.int y :: .int x :: st) M = lim cal sc 2 cX2_left ret 80 lv (.int (x - y) :: st) M := lim_step dX2_left_79
theorem sX2_left_80 : lim cal sc 2 cX2_left ret 80 lv (.int y :: .int x :: st) M = guK (rk 8 st) (lim cal sc 2 cX2_left ret 83 lv (.int (if x < y then y else x) :: st) M) := (lim_step dX2_left_80).trans (e_max rm_2_9)
theorem sX2_left_83 : lim cal sc 2 cX2_left (some .int) 83 lv [.int x] M = some (some (.int x), M) := (lim_step dX2_left_83).trans (e_iret)
theorem sX2_isUnder_0 : lim cal sc 2 cX2_isUnder ret 0 (some (.int x) :: l) st M = lim cal sc 2 cX2_isUnder ret 1 (some (.int x) :: l) (.int x :: st) M := lim_step dX2_isUnder_0
theorem sX2_isUnder_1 : lim cal sc 2 cX2_isUnder ret 1 (v0 :: v1 :: v :: l) (.int x :: st) M = lim cal sc 2 cX2_isUnder ret 2 (v0 :: v1 :: some (.int x) :: l) st M := (lim_step dX2_isUnder_1).trans (e_istn2)
theorem sX2_isUnder_2 : lim cal sc 2 cX2_isUnder ret 2 lv st M = lim cal sc 2 cX2_isUnder ret 3 lv (.int 0 :: st) M := (lim_step dX2_isUnder_2).trans (e_ic k_i_0)
theorem sX2_isUnder_3 : lim cal sc 2 cX2_isUnder ret 3 (v0 :: v1 :: v2 :: v :: l) (.int x :: st) M = lim cal sc 2 cX2_isUnder ret 4 (v0 :: v1 :: v2 :: some (.int x) :: l) st M := (lim_step dX2_isUnder_3).trans (e_istn3)
theorem sX2_isUnder_4 : lim cal sc 2 cX2_isUnder ret 4 (v0 :: v1 :: v2 :: some (.int x) :: l) st M = lim cal sc 2 cX2_isUnder ret 5 (v0 :: v1 :: v2 :: some (.int x) :: l) (.int x :: st) M := lim_step dX2_isUnder_4
theorem sX2_isUnder_5 : lim cal sc 2 cX2_isUnder ret 5 lv st M = lim cal sc 2 cX2_isUnder ret 7 lv (.int 6 :: st) M := (lim_step dX2_isUnder_5).trans (e_bi k_b_6)
theorem sX2_isUnder_7 : lim cal sc 2 cX2_isUnder ret 7 lv (.int y :: .int x :: st) M = if y < x then lim cal sc 2 cX2_isUnder ret 31 lv st M else lim cal sc 2 cX2_isUnder ret 10 lv st M := (lim_step dX2_isUnder_7).trans (e_cmpgt (t := 31) (by decide))
theorem sX2_isUnder_10 : lim cal sc 2 cX2_isUnder ret 10 (v0 :: v1 :: some (.int x) :: l) st M = lim cal sc 2 cX2_isUnder ret 11 (v0 :: v1 :: some (.int x) :: l) (.int x :: st) M := lim_step dX2_isUnder_10
theorem sX2_isUnder_11 : lim cal sc 2 cX2_isUnder ret 11 lv (.int x :: st) M = if x ≤ 0 then lim cal sc 2 cX2_isUnder ret 31 lv st M else lim cal sc 2 cX2_isUnder ret 14 lv st M := (lim_step dX2_isUnder_11).trans (e_ifle (t := 31) (by decide))
theorem sX2_isUnder_14 : lim cal sc 2 cX2_isUnder ret 14 (v0 :: v1 :: some (.int x) :: l) st M = lim cal sc 2 cX2_isUnder ret 15 (v0 :: v1 :: some (.int x) :: l) (.int x :: st) M := lim_step dX2_isUnder_14
theorem sX2_isUnder_15 : lim cal sc 2 cX2_isUnder ret 15 (v0 :: some (.int x) :: l) st M = lim cal sc 2 cX2_isUnder ret 16 (v0 :: some (.int x) :: l) (.int x :: st) M := lim_step dX2_isUnder_15
theorem sX2_isUnder_16 : lim cal sc 2 cX2_isUnder ret 16 lv (.int y :: .int x :: st) M = if x = y then lim cal sc 2 cX2_isUnder ret 31 lv st M else lim cal sc 2 cX2_isUnder ret 19 lv st M := (lim_step dX2_isUnder_16).trans (e_cmpeq (t := 31) (by decide))
theorem sX2_isUnder_19 : lim cal sc 2 cX2_isUnder ret 19 lv st M = lim cal sc 2 cX2_isUnder ret 22 lv (.ref 152 :: st) M := lim_step dX2_isUnder_19
theorem sX2_isUnder_22 : lim cal sc 2 cX2_isUnder ret 22 (v0 :: v1 :: some (.int x) :: l) st M = lim cal sc 2 cX2_isUnder ret 23 (v0 :: v1 :: some (.int x) :: l) (.int x :: st) M := lim_step dX2_isUnder_22
theorem sX2_isUnder_23 : lim cal sc 2 cX2_isUnder ret 23 lv (.int x :: .ref h :: st) M = opK (arrV9 sc h M) fun q => guK (inb x q.1) (lim cal sc 2 cX2_isUnder ret 24 lv (.int (q.2 x.toNatClampNeg) :: st) M) := (lim_step dX2_isUnder_23).trans (e_iald)
theorem sX2_isUnder_24 : lim cal sc 2 cX2_isUnder ret 24 (v0 :: v1 :: v :: l) (.int x :: st) M = lim cal sc 2 cX2_isUnder ret 25 (v0 :: v1 :: some (.int x) :: l) st M := (lim_step dX2_isUnder_24).trans (e_istn2)
theorem sX2_isUnder_25 : lim cal sc 2 cX2_isUnder ret 25 (v0 :: v1 :: v2 :: some (.int x) :: l) st M = lim cal sc 2 cX2_isUnder ret 28 (v0 :: v1 :: v2 :: some (.int (x + 1)) :: l) st M := (lim_step dX2_isUnder_25).trans (e_inc3 k_i_1)
theorem sX2_isUnder_28 : lim cal sc 2 cX2_isUnder ret 28 lv st M = lim cal sc 2 cX2_isUnder ret 4 lv st M := (lim_step dX2_isUnder_28).trans (e_goto (t := 4) (by decide))
theorem sX2_isUnder_31 : lim cal sc 2 cX2_isUnder ret 31 (v0 :: v1 :: some (.int x) :: l) st M = lim cal sc 2 cX2_isUnder ret 32 (v0 :: v1 :: some (.int x) :: l) (.int x :: st) M := lim_step dX2_isUnder_31
theorem sX2_isUnder_32 : lim cal sc 2 cX2_isUnder ret 32 (v0 :: some (.int x) :: l) st M = lim cal sc 2 cX2_isUnder ret 33 (v0 :: some (.int x) :: l) (.int x :: st) M := lim_step dX2_isUnder_32
theorem sX2_isUnder_33 : lim cal sc 2 cX2_isUnder ret 33 lv (.int y :: .int x :: st) M = if x = y then lim cal sc 2 cX2_isUnder ret 36 lv st M else lim cal sc 2 cX2_isUnder ret 40 lv st M := (lim_step dX2_isUnder_33).trans (e_cmpne (t := 40) (by decide))
theorem sX2_isUnder_36 : lim cal sc 2 cX2_isUnder ret 36 lv st M = lim cal sc 2 cX2_isUnder ret 37 lv (.int 1 :: st) M := (lim_step dX2_isUnder_36).trans (e_ic k_i_1)
theorem sX2_isUnder_37 : lim cal sc 2 cX2_isUnder ret 37 lv st M = lim cal sc 2 cX2_isUnder ret 41 lv st M := (lim_step dX2_isUnder_37).trans (e_goto (t := 41) (by decide))
theorem sX2_isUnder_40 : lim cal sc 2 cX2_isUnder ret 40 lv st M = lim cal sc 2 cX2_isUnder ret 41 lv (.int 0 :: st) M := (lim_step dX2_isUnder_40).trans (e_ic k_i_0)
theorem sX2_isUnder_41 : lim cal sc 2 cX2_isUnder (some .boolean) 41 lv [.int x] M = guK (narB .boolean x) (some (some (.int x), M)) := (lim_step dX2_isUnder_41).trans (e_zret)
theorem sX3_isMissing_0 : lim cal sc 3 cX3_isMissing ret 0 (some (.ref h) :: l) st M = lim cal sc 3 cX3_isMissing ret 1 (some (.ref h) :: l) (.ref h :: st) M := lim_step dX3_isMissing_0
theorem sX3_isMissing_1 : lim cal sc 3 cX3_isMissing ret 1 lv (.ref h :: st) M = opK (slotV 2 0 h M) fun q => lim cal sc 3 cX3_isMissing ret 4 lv (q :: st) M := (lim_step dX3_isMissing_1).trans (e_get (by decide) rf_3_9)
theorem sX3_isMissing_4 : lim cal sc 3 cX3_isMissing ret 4 lv (.int x :: st) M = if x = 0 then lim cal sc 3 cX3_isMissing ret 7 lv st M else lim cal sc 3 cX3_isMissing ret 11 lv st M := (lim_step dX3_isMissing_4).trans (e_ifne (t := 11) (by decide))
theorem sX3_isMissing_7 : lim cal sc 3 cX3_isMissing ret 7 lv st M = lim cal sc 3 cX3_isMissing ret 8 lv (.int 1 :: st) M := (lim_step dX3_isMissing_7).trans (e_ic k_i_1)
theorem sX3_isMissing_8 : lim cal sc 3 cX3_isMissing ret 8 lv st M = lim cal sc 3 cX3_isMissing ret 12 lv st M := (lim_step dX3_isMissing_8).trans (e_goto (t := 12) (by decide))
theorem sX3_isMissing_11 : lim cal sc 3 cX3_isMissing ret 11 lv st M = lim cal sc 3 cX3_isMissing ret 12 lv (.int 0 :: st) M := (lim_step dX3_isMissing_11).trans (e_ic k_i_0)
theorem sX3_isMissing_12 : lim cal sc 3 cX3_isMissing (some .boolean) 12 lv [.int x] M = guK (narB .boolean x) (some (some (.int x), M)) := (lim_step dX3_isMissing_12).trans (e_zret)
theorem sX3_begin_0 : lim cal sc 3 cX3_begin ret 0 (some (.ref h) :: l) st M = lim cal sc 3 cX3_begin ret 1 (some (.ref h) :: l) (.ref h :: st) M := lim_step dX3_begin_0
theorem sX3_begin_1 : lim cal sc 3 cX3_begin ret 1 (v0 :: some (.int x) :: l) st M = lim cal sc 3 cX3_begin ret 2 (v0 :: some (.int x) :: l) (.int x :: st) M := lim_step dX3_begin_1
theorem sX3_begin_2 : lim cal sc 3 cX3_begin ret 2 lv (.int x :: .ref h :: st) M = guK (isInt 2 0 h) (lim cal sc 3 cX3_begin ret 5 lv st (mset M h 0 x)) := (lim_step dX3_begin_2).trans (e_put rf_3_9 rfl)
theorem sX3_begin_5 : lim cal sc 3 cX3_begin ret 5 (some (.ref h) :: l) st M = lim cal sc 3 cX3_begin ret 6 (some (.ref h) :: l) (.ref h :: st) M := lim_step dX3_begin_5
theorem sX3_begin_6 : lim cal sc 3 cX3_begin ret 6 (v0 :: some (.int x) :: l) st M = lim cal sc 3 cX3_begin ret 7 (v0 :: some (.int x) :: l) (.int x :: st) M := lim_step dX3_begin_6
theorem sX3_begin_7 : lim cal sc 3 cX3_begin ret 7 lv (.int x :: st) M = if x = 0 then lim cal sc 3 cX3_begin ret 10 lv st M else lim cal sc 3 cX3_begin ret 14 lv st M := (lim_step dX3_begin_7).trans (e_ifne (t := 14) (by decide))
theorem sX3_begin_10 : lim cal sc 3 cX3_begin ret 10 lv st M = lim cal sc 3 cX3_begin ret 11 lv (.int 0 :: st) M := (lim_step dX3_begin_10).trans (e_ic k_i_0)
theorem sX3_begin_11 : lim cal sc 3 cX3_begin ret 11 lv st M = lim cal sc 3 cX3_begin ret 15 lv st M := (lim_step dX3_begin_11).trans (e_goto (t := 15) (by decide))
theorem sX3_begin_14 : lim cal sc 3 cX3_begin ret 14 (v0 :: v1 :: some (.int x) :: l) st M = lim cal sc 3 cX3_begin ret 15 (v0 :: v1 :: some (.int x) :: l) (.int x :: st) M := lim_step dX3_begin_14
theorem sX3_begin_15 : lim cal sc 3 cX3_begin ret 15 lv (.int x :: .ref h :: st) M = guK (isInt 2 1 h) (lim cal sc 3 cX3_begin ret 18 lv st (mset M h 1 x)) := (lim_step dX3_begin_15).trans (e_put rf_3_15 rfl)
theorem sX3_begin_18 : lim cal sc 3 cX3_begin ret 18 lv st M = lim cal sc 3 cX3_begin ret 19 lv (.int 0 :: st) M := (lim_step dX3_begin_18).trans (e_ic k_i_0)
theorem sX3_begin_19 : lim cal sc 3 cX3_begin ret 19 (v0 :: v1 :: v2 :: v :: l) (.int x :: st) M = lim cal sc 3 cX3_begin ret 20 (v0 :: v1 :: v2 :: some (.int x) :: l) st M := (lim_step dX3_begin_19).trans (e_istn3)
theorem sX3_begin_20 : lim cal sc 3 cX3_begin ret 20 (v0 :: v1 :: v2 :: some (.int x) :: l) st M = lim cal sc 3 cX3_begin ret 21 (v0 :: v1 :: v2 :: some (.int x) :: l) (.int x :: st) M := lim_step dX3_begin_20
theorem sX3_begin_21 : lim cal sc 3 cX3_begin ret 21 lv st M = lim cal sc 3 cX3_begin ret 23 lv (.int 40 :: st) M := (lim_step dX3_begin_21).trans (e_bi k_b_40)
theorem sX3_begin_23 : lim cal sc 3 cX3_begin ret 23 lv (.int y :: .int x :: st) M = if y ≤ x then lim cal sc 3 cX3_begin ret 39 lv st M else lim cal sc 3 cX3_begin ret 26 lv st M := (lim_step dX3_begin_23).trans (e_cmpge (t := 39) (by decide))
theorem sX3_begin_26 : lim cal sc 3 cX3_begin ret 26 (some (.ref h) :: l) st M = lim cal sc 3 cX3_begin ret 27 (some (.ref h) :: l) (.ref h :: st) M := lim_step dX3_begin_26
theorem sX3_begin_27 : lim cal sc 3 cX3_begin ret 27 lv (.ref h :: st) M = opK (slotV 2 2 h M) fun q => lim cal sc 3 cX3_begin ret 30 lv (q :: st) M := (lim_step dX3_begin_27).trans (e_get (by decide) rf_3_18)
theorem sX3_begin_30 : lim cal sc 3 cX3_begin ret 30 (v0 :: v1 :: v2 :: some (.int x) :: l) st M = lim cal sc 3 cX3_begin ret 31 (v0 :: v1 :: v2 :: some (.int x) :: l) (.int x :: st) M := lim_step dX3_begin_30
theorem sX3_begin_31 : lim cal sc 3 cX3_begin ret 31 lv st M = lim cal sc 3 cX3_begin ret 32 lv (.int 0 :: st) M := (lim_step dX3_begin_31).trans (e_ic k_i_0)
theorem sX3_begin_32 : lim cal sc 3 cX3_begin ret 32 lv (.int y :: .int x :: .ref h :: st) M = opK (arrN h) fun q => guK (inb x q) (lim cal sc 3 cX3_begin ret 33 lv st (mset M h x.toNatClampNeg y)) := (lim_step dX3_begin_32).trans (e_iast)
theorem sX3_begin_33 : lim cal sc 3 cX3_begin ret 33 (v0 :: v1 :: v2 :: some (.int x) :: l) st M = lim cal sc 3 cX3_begin ret 36 (v0 :: v1 :: v2 :: some (.int (x + 1)) :: l) st M := (lim_step dX3_begin_33).trans (e_inc3 k_i_1)
theorem sX3_begin_36 : lim cal sc 3 cX3_begin ret 36 lv st M = lim cal sc 3 cX3_begin ret 20 lv st M := (lim_step dX3_begin_36).trans (e_goto (t := 20) (by decide))
theorem sX3_begin_39 : lim cal sc 3 cX3_begin none 39 lv [] M = some (none, M) := (lim_step dX3_begin_39).trans (e_vret)
theorem sX3_put_0 : lim cal sc 3 cX3_put ret 0 (some (.ref h) :: l) st M = lim cal sc 3 cX3_put ret 1 (some (.ref h) :: l) (.ref h :: st) M := lim_step dX3_put_0
theorem sX3_put_1 : lim cal sc 3 cX3_put ret 1 lv (.ref h :: st) M = opK (slotV 2 0 h M) fun q => lim cal sc 3 cX3_put ret 4 lv (q :: st) M := (lim_step dX3_put_1).trans (e_get (by decide) rf_3_9)
theorem sX3_put_4 : lim cal sc 3 cX3_put ret 4 lv (.int x :: st) M = jmpK 4 (Op.lookupswitch.offset [(8, 28), (16, 39)] 50 x.toInt) fun t => lim cal sc 3 cX3_put ret t lv st M := (lim_step dX3_put_4).trans (e_look rfl)
theorem sX3_put_32 : lim cal sc 3 cX3_put ret 32 (some (.ref h) :: l) st M = lim cal sc 3 cX3_put ret 33 (some (.ref h) :: l) (.ref h :: st) M := lim_step dX3_put_32
theorem sX3_put_33 : lim cal sc 3 cX3_put ret 33 lv (.ref h :: st) M = opK (slotV 2 2 h M) fun q => lim cal sc 3 cX3_put ret 36 lv (q :: st) M := (lim_step dX3_put_33).trans (e_get (by decide) rf_3_18)
theorem sX3_put_36 : lim cal sc 3 cX3_put ret 36 (v0 :: some (.int x) :: l) st M = lim cal sc 3 cX3_put ret 37 (v0 :: some (.int x) :: l) (.int x :: st) M := lim_step dX3_put_36
theorem sX3_put_37 : lim cal sc 3 cX3_put ret 37 (v0 :: v1 :: some (.int x) :: l) st M = lim cal sc 3 cX3_put ret 38 (v0 :: v1 :: some (.int x) :: l) (.int x :: st) M := lim_step dX3_put_37
theorem sX3_put_38 : lim cal sc 3 cX3_put ret 38 lv (.int x :: st) M = lim cal sc 3 cX3_put ret 39 lv (.int x.toInt8.toInt32 :: st) M := lim_step dX3_put_38
theorem sX3_put_39 : lim cal sc 3 cX3_put ret 39 lv (.int y :: .int x :: .ref h :: st) M = opK (arrN h) fun q => guK (inb x q) (lim cal sc 3 cX3_put ret 40 lv st (mset M h x.toNatClampNeg y)) := (lim_step dX3_put_39).trans (e_iast)
theorem sX3_put_40 : lim cal sc 3 cX3_put ret 40 lv st M = lim cal sc 3 cX3_put ret 61 lv st M := (lim_step dX3_put_40).trans (e_goto (t := 61) (by decide))
theorem sX3_put_43 : lim cal sc 3 cX3_put ret 43 (some (.ref h) :: l) st M = lim cal sc 3 cX3_put ret 44 (some (.ref h) :: l) (.ref h :: st) M := lim_step dX3_put_43
theorem sX3_put_44 : lim cal sc 3 cX3_put ret 44 lv (.ref h :: st) M = opK (slotV 2 2 h M) fun q => lim cal sc 3 cX3_put ret 47 lv (q :: st) M := (lim_step dX3_put_44).trans (e_get (by decide) rf_3_18)
theorem sX3_put_47 : lim cal sc 3 cX3_put ret 47 (v0 :: some (.int x) :: l) st M = lim cal sc 3 cX3_put ret 48 (v0 :: some (.int x) :: l) (.int x :: st) M := lim_step dX3_put_47
theorem sX3_put_48 : lim cal sc 3 cX3_put ret 48 (v0 :: v1 :: some (.int x) :: l) st M = lim cal sc 3 cX3_put ret 49 (v0 :: v1 :: some (.int x) :: l) (.int x :: st) M := lim_step dX3_put_48
theorem sX3_put_49 : lim cal sc 3 cX3_put ret 49 lv (.int x :: st) M = lim cal sc 3 cX3_put ret 50 lv (.int x.toInt16.toInt32 :: st) M := lim_step dX3_put_49
theorem sX3_put_50 : lim cal sc 3 cX3_put ret 50 lv (.int y :: .int x :: .ref h :: st) M = opK (arrN h) fun q => guK (inb x q) (lim cal sc 3 cX3_put ret 51 lv st (mset M h x.toNatClampNeg y)) := (lim_step dX3_put_50).trans (e_iast)
theorem sX3_put_51 : lim cal sc 3 cX3_put ret 51 lv st M = lim cal sc 3 cX3_put ret 61 lv st M := (lim_step dX3_put_51).trans (e_goto (t := 61) (by decide))
theorem sX3_put_54 : lim cal sc 3 cX3_put ret 54 (some (.ref h) :: l) st M = lim cal sc 3 cX3_put ret 55 (some (.ref h) :: l) (.ref h :: st) M := lim_step dX3_put_54
theorem sX3_put_55 : lim cal sc 3 cX3_put ret 55 lv (.ref h :: st) M = opK (slotV 2 2 h M) fun q => lim cal sc 3 cX3_put ret 58 lv (q :: st) M := (lim_step dX3_put_55).trans (e_get (by decide) rf_3_18)
theorem sX3_put_58 : lim cal sc 3 cX3_put ret 58 (v0 :: some (.int x) :: l) st M = lim cal sc 3 cX3_put ret 59 (v0 :: some (.int x) :: l) (.int x :: st) M := lim_step dX3_put_58
theorem sX3_put_59 : lim cal sc 3 cX3_put ret 59 (v0 :: v1 :: some (.int x) :: l) st M = lim cal sc 3 cX3_put ret 60 (v0 :: v1 :: some (.int x) :: l) (.int x :: st) M := lim_step dX3_put_59
theorem sX3_put_60 : lim cal sc 3 cX3_put ret 60 lv (.int y :: .int x :: .ref h :: st) M = opK (arrN h) fun q => guK (inb x q) (lim cal sc 3 cX3_put ret 61 lv st (mset M h x.toNatClampNeg y)) := (lim_step dX3_put_60).trans (e_iast)
theorem sX3_put_61 : lim cal sc 3 cX3_put none 61 lv [] M = some (none, M) := (lim_step dX3_put_61).trans (e_vret)
theorem sX3_hasPart_0 : lim cal sc 3 cX3_hasPart ret 0 (v0 :: some (.int x) :: l) st M = lim cal sc 3 cX3_hasPart ret 1 (v0 :: some (.int x) :: l) (.int x :: st) M := lim_step dX3_hasPart_0
theorem sX3_hasPart_1 : lim cal sc 3 cX3_hasPart ret 1 lv (.int x :: st) M = if x < 0 then lim cal sc 3 cX3_hasPart ret 30 lv st M else lim cal sc 3 cX3_hasPart ret 4 lv st M := (lim_step dX3_hasPart_1).trans (e_iflt (t := 30) (by decide))
theorem sX3_hasPart_4 : lim cal sc 3 cX3_hasPart ret 4 (v0 :: v1 :: some (.int x) :: l) st M = lim cal sc 3 cX3_hasPart ret 5 (v0 :: v1 :: some (.int x) :: l) (.int x :: st) M := lim_step dX3_hasPart_4
theorem sX3_hasPart_5 : lim cal sc 3 cX3_hasPart ret 5 lv (.int x :: st) M = if x < 0 then lim cal sc 3 cX3_hasPart ret 30 lv st M else lim cal sc 3 cX3_hasPart ret 8 lv st M := (lim_step dX3_hasPart_5).trans (e_iflt (t := 30) (by decide))
theorem sX3_hasPart_8 : lim cal sc 3 cX3_hasPart ret 8 (v0 :: v1 :: some (.int x) :: l) st M = lim cal sc 3 cX3_hasPart ret 9 (v0 :: v1 :: some (.int x) :: l) (.int x :: st) M := lim_step dX3_hasPart_8
theorem sX3_hasPart_9 : lim cal sc 3 cX3_hasPart ret 9 (some (.ref h) :: l) st M = lim cal sc 3 cX3_hasPart ret 10 (some (.ref h) :: l) (.ref h :: st) M := lim_step dX3_hasPart_9
theorem sX3_hasPart_10 : lim cal sc 3 cX3_hasPart ret 10 lv (.ref h :: st) M = opK (slotV 2 1 h M) fun q => lim cal sc 3 cX3_hasPart ret 13 lv (q :: st) M := (lim_step dX3_hasPart_10).trans (e_get (by decide) rf_3_15)
theorem sX3_hasPart_13 : lim cal sc 3 cX3_hasPart ret 13 lv (.int y :: .int x :: st) M = if y < x then lim cal sc 3 cX3_hasPart ret 30 lv st M else lim cal sc 3 cX3_hasPart ret 16 lv st M := (lim_step dX3_hasPart_13).trans (e_cmpgt (t := 30) (by decide))
theorem sX3_hasPart_16 : lim cal sc 3 cX3_hasPart ret 16 (v0 :: some (.int x) :: l) st M = lim cal sc 3 cX3_hasPart ret 17 (v0 :: some (.int x) :: l) (.int x :: st) M := lim_step dX3_hasPart_16
theorem sX3_hasPart_17 : lim cal sc 3 cX3_hasPart ret 17 (some (.ref h) :: l) st M = lim cal sc 3 cX3_hasPart ret 18 (some (.ref h) :: l) (.ref h :: st) M := lim_step dX3_hasPart_17
theorem sX3_hasPart_18 : lim cal sc 3 cX3_hasPart ret 18 lv (.ref h :: st) M = opK (slotV 2 1 h M) fun q => lim cal sc 3 cX3_hasPart ret 21 lv (q :: st) M := (lim_step dX3_hasPart_18).trans (e_get (by decide) rf_3_15)
theorem sX3_hasPart_21 : lim cal sc 3 cX3_hasPart ret 21 (v0 :: v1 :: some (.int x) :: l) st M = lim cal sc 3 cX3_hasPart ret 22 (v0 :: v1 :: some (.int x) :: l) (.int x :: st) M := lim_step dX3_hasPart_21
theorem sX3_hasPart_22 : lim cal sc 3 cX3_hasPart ret 22 lv (.int y :: .int x :: st) M = lim cal sc 3 cX3_hasPart ret 23 lv (.int (x - y) :: st) M := lim_step dX3_hasPart_22
theorem sX3_hasPart_23 : lim cal sc 3 cX3_hasPart ret 23 lv (.int y :: .int x :: st) M = if y < x then lim cal sc 3 cX3_hasPart ret 30 lv st M else lim cal sc 3 cX3_hasPart ret 26 lv st M := (lim_step dX3_hasPart_23).trans (e_cmpgt (t := 30) (by decide))
theorem sX3_hasPart_26 : lim cal sc 3 cX3_hasPart ret 26 lv st M = lim cal sc 3 cX3_hasPart ret 27 lv (.int 1 :: st) M := (lim_step dX3_hasPart_26).trans (e_ic k_i_1)
theorem sX3_hasPart_27 : lim cal sc 3 cX3_hasPart ret 27 lv st M = lim cal sc 3 cX3_hasPart ret 31 lv st M := (lim_step dX3_hasPart_27).trans (e_goto (t := 31) (by decide))
theorem sX3_hasPart_30 : lim cal sc 3 cX3_hasPart ret 30 lv st M = lim cal sc 3 cX3_hasPart ret 31 lv (.int 0 :: st) M := (lim_step dX3_hasPart_30).trans (e_ic k_i_0)
theorem sX3_hasPart_31 : lim cal sc 3 cX3_hasPart (some .boolean) 31 lv [.int x] M = guK (narB .boolean x) (some (some (.int x), M)) := (lim_step dX3_hasPart_31).trans (e_zret)
theorem sX4_append_0 : lim cal sc 4 cX4_append ret 0 (some (.ref h) :: l) st M = lim cal sc 4 cX4_append ret 1 (some (.ref h) :: l) (.ref h :: st) M := lim_step dX4_append_0
theorem sX4_append_1 : lim cal sc 4 cX4_append ret 1 lv (.ref h :: st) M = opK (slotV 3 1 h M) fun q => lim cal sc 4 cX4_append ret 4 lv (q :: st) M := (lim_step dX4_append_1).trans (e_get (by decide) rf_4_15)
theorem sX4_append_4 : lim cal sc 4 cX4_append ret 4 lv st M = lim cal sc 4 cX4_append ret 6 lv (.int 120 :: st) M := (lim_step dX4_append_4).trans (e_bi k_b_120)
theorem sX4_append_6 : lim cal sc 4 cX4_append ret 6 lv (.int y :: .int x :: st) M = if y ≤ x then lim cal sc 4 cX4_append ret 29 lv st M else lim cal sc 4 cX4_append ret 9 lv st M := (lim_step dX4_append_6).trans (e_cmpge (t := 29) (by decide))
theorem sX4_append_9 : lim cal sc 4 cX4_append ret 9 (some (.ref h) :: l) st M = lim cal sc 4 cX4_append ret 10 (some (.ref h) :: l) (.ref h :: st) M := lim_step dX4_append_9
theorem sX4_append_10 : lim cal sc 4 cX4_append ret 10 lv (.ref h :: st) M = opK (slotV 3 0 h M) fun q => lim cal sc 4 cX4_append ret 13 lv (q :: st) M := (lim_step dX4_append_10).trans (e_get (by decide) rf_4_9)
theorem sX4_append_13 : lim cal sc 4 cX4_append ret 13 (some (.ref h) :: l) st M = lim cal sc 4 cX4_append ret 14 (some (.ref h) :: l) (.ref h :: st) M := lim_step dX4_append_13
theorem sX4_append_14 : lim cal sc 4 cX4_append ret 14 lv (.ref h :: st) M = opK (slotV 3 1 h M) fun q => lim cal sc 4 cX4_append ret 17 lv (q :: st) M := (lim_step dX4_append_14).trans (e_get (by decide) rf_4_15)
theorem sX4_append_17 : lim cal sc 4 cX4_append ret 17 (v0 :: some (.int x) :: l) st M = lim cal sc 4 cX4_append ret 18 (v0 :: some (.int x) :: l) (.int x :: st) M := lim_step dX4_append_17
theorem sX4_append_18 : lim cal sc 4 cX4_append ret 18 lv (.int y :: .int x :: .ref h :: st) M = opK (arrN h) fun q => guK (inb x q) (lim cal sc 4 cX4_append ret 19 lv st (mset M h x.toNatClampNeg y)) := (lim_step dX4_append_18).trans (e_iast)
theorem sX4_append_19 : lim cal sc 4 cX4_append ret 19 (some (.ref h) :: l) st M = lim cal sc 4 cX4_append ret 20 (some (.ref h) :: l) (.ref h :: st) M := lim_step dX4_append_19
theorem sX4_append_20 : lim cal sc 4 cX4_append ret 20 lv (.ref h :: st) M = lim cal sc 4 cX4_append ret 21 lv (.ref h :: .ref h :: st) M := lim_step dX4_append_20
theorem sX4_append_20_i : lim cal sc 4 cX4_append ret 20 lv (.int x :: st) M = lim cal sc 4 cX4_append ret 21 lv (.int x :: .int x :: st) M := lim_step dX4_append_20
theorem sX4_append_21 : lim cal sc 4 cX4_append ret 21 lv (.ref h :: st) M = opK (slotV 3 1 h M) fun q => lim cal sc 4 cX4_append ret 24 lv (q :: st) M := (lim_step dX4_append_21).trans (e_get (by decide) rf_4_15)
theorem sX4_append_24 : lim cal sc 4 cX4_append ret 24 lv st M = lim cal sc 4 cX4_append ret 25 lv (.int 1 :: st) M := (lim_step dX4_append_24).trans (e_ic k_i_1)
theorem sX4_append_25 : lim cal sc 4 cX4_append ret 25 lv (.int y :: .int x :: st) M = lim cal sc 4 cX4_append ret 26 lv (.int (x + y) :: st) M := lim_step dX4_append_25
theorem sX4_append_26 : lim cal sc 4 cX4_append ret 26 lv (.int x :: .ref h :: st) M = guK (isInt 3 1 h) (lim cal sc 4 cX4_append ret 29 lv st (mset M h 1 x)) := (lim_step dX4_append_26).trans (e_put rf_4_15 rfl)
theorem sX4_append_29 : lim cal sc 4 cX4_append none 29 lv [] M = some (none, M) := (lim_step dX4_append_29).trans (e_vret)
theorem sX4_readTokens_0 : lim cal sc 4 cX4_readTokens ret 0 (some (.ref h) :: l) st M = lim cal sc 4 cX4_readTokens ret 1 (some (.ref h) :: l) (.ref h :: st) M := lim_step dX4_readTokens_0
theorem sX4_readTokens_1 : lim cal sc 4 cX4_readTokens ret 1 lv st M = lim cal sc 4 cX4_readTokens ret 2 lv (.int 0 :: st) M := (lim_step dX4_readTokens_1).trans (e_ic k_i_0)
theorem sX4_readTokens_2 : lim cal sc 4 cX4_readTokens ret 2 lv (.int x :: .ref h :: st) M = guK (isInt 3 5 h) (lim cal sc 4 cX4_readTokens ret 5 lv st (mset M h 5 x)) := (lim_step dX4_readTokens_2).trans (e_put rf_4_28 rfl)
theorem sX4_readTokens_5 : lim cal sc 4 cX4_readTokens ret 5 lv st M = lim cal sc 4 cX4_readTokens ret 6 lv (.int 0 :: st) M := (lim_step dX4_readTokens_5).trans (e_ic k_i_0)
theorem sX4_readTokens_6 : lim cal sc 4 cX4_readTokens ret 6 (v0 :: v :: l) (.int x :: st) M = lim cal sc 4 cX4_readTokens ret 7 (v0 :: some (.int x) :: l) st M := (lim_step dX4_readTokens_6).trans (e_istn1)
theorem sX4_readTokens_7 : lim cal sc 4 cX4_readTokens ret 7 lv st M = lim cal sc 4 cX4_readTokens ret 8 lv (.int 0 :: st) M := (lim_step dX4_readTokens_7).trans (e_ic k_i_0)
theorem sX4_readTokens_8 : lim cal sc 4 cX4_readTokens ret 8 (v0 :: v1 :: v :: l) (.int x :: st) M = lim cal sc 4 cX4_readTokens ret 9 (v0 :: v1 :: some (.int x) :: l) st M := (lim_step dX4_readTokens_8).trans (e_istn2)
theorem sX4_readTokens_9 : lim cal sc 4 cX4_readTokens ret 9 (v0 :: v1 :: some (.int x) :: l) st M = lim cal sc 4 cX4_readTokens ret 10 (v0 :: v1 :: some (.int x) :: l) (.int x :: st) M := lim_step dX4_readTokens_9
theorem sX4_readTokens_10 : lim cal sc 4 cX4_readTokens ret 10 lv st M = lim cal sc 4 cX4_readTokens ret 12 lv (.int 120 :: st) M := (lim_step dX4_readTokens_10).trans (e_bi k_b_120)
theorem sX4_readTokens_12 : lim cal sc 4 cX4_readTokens ret 12 lv (.int y :: .int x :: st) M = if y ≤ x then lim cal sc 4 cX4_readTokens ret 52 lv st M else lim cal sc 4 cX4_readTokens ret 15 lv st M := (lim_step dX4_readTokens_12).trans (e_cmpge (t := 52) (by decide))
theorem sX4_readTokens_15 : lim cal sc 4 cX4_readTokens ret 15 (v0 :: some (.int x) :: l) st M = lim cal sc 4 cX4_readTokens ret 16 (v0 :: some (.int x) :: l) (.int x :: st) M := lim_step dX4_readTokens_15
theorem sX4_readTokens_16 : lim cal sc 4 cX4_readTokens ret 16 (some (.ref h) :: l) st M = lim cal sc 4 cX4_readTokens ret 17 (some (.ref h) :: l) (.ref h :: st) M := lim_step dX4_readTokens_16
theorem sX4_readTokens_17 : lim cal sc 4 cX4_readTokens ret 17 lv (.ref h :: st) M = opK (slotV 3 1 h M) fun q => lim cal sc 4 cX4_readTokens ret 20 lv (q :: st) M := (lim_step dX4_readTokens_17).trans (e_get (by decide) rf_4_15)
theorem sX4_readTokens_20 : lim cal sc 4 cX4_readTokens ret 20 lv (.int y :: .int x :: st) M = if y ≤ x then lim cal sc 4 cX4_readTokens ret 52 lv st M else lim cal sc 4 cX4_readTokens ret 23 lv st M := (lim_step dX4_readTokens_20).trans (e_cmpge (t := 52) (by decide))
theorem sX4_readTokens_23 : lim cal sc 4 cX4_readTokens ret 23 (some (.ref h) :: l) st M = lim cal sc 4 cX4_readTokens ret 24 (some (.ref h) :: l) (.ref h :: st) M := lim_step dX4_readTokens_23
theorem sX4_readTokens_24 : lim cal sc 4 cX4_readTokens ret 24 lv (.ref h :: st) M = opK (slotV 3 0 h M) fun q => lim cal sc 4 cX4_readTokens ret 27 lv (q :: st) M := (lim_step dX4_readTokens_24).trans (e_get (by decide) rf_4_9)
theorem sX4_readTokens_27 : lim cal sc 4 cX4_readTokens ret 27 (v0 :: some (.int x) :: l) st M = lim cal sc 4 cX4_readTokens ret 28 (v0 :: some (.int x) :: l) (.int x :: st) M := lim_step dX4_readTokens_27
theorem sX4_readTokens_28 : lim cal sc 4 cX4_readTokens ret 28 lv (.int x :: .ref h :: st) M = opK (arrV9 sc h M) fun q => guK (inb x q.1) (lim cal sc 4 cX4_readTokens ret 29 lv (.int (q.2 x.toNatClampNeg) :: st) M) := (lim_step dX4_readTokens_28).trans (e_iald)
theorem sX4_readTokens_29 : lim cal sc 4 cX4_readTokens ret 29 lv st M = lim cal sc 4 cX4_readTokens ret 31 lv (.int 32 :: st) M := (lim_step dX4_readTokens_29).trans (e_bi k_b_32)
theorem sX4_readTokens_31 : lim cal sc 4 cX4_readTokens ret 31 lv (.int y :: .int x :: st) M = if x = y then lim cal sc 4 cX4_readTokens ret 34 lv st M else lim cal sc 4 cX4_readTokens ret 40 lv st M := (lim_step dX4_readTokens_31).trans (e_cmpne (t := 40) (by decide))
theorem sX4_readTokens_34 : lim cal sc 4 cX4_readTokens ret 34 (v0 :: some (.int x) :: l) st M = lim cal sc 4 cX4_readTokens ret 35 (v0 :: some (.int x) :: l) (.int x :: st) M := lim_step dX4_readTokens_34
theorem sX4_readTokens_35 : lim cal sc 4 cX4_readTokens ret 35 lv st M = lim cal sc 4 cX4_readTokens ret 36 lv (.int 1 :: st) M := (lim_step dX4_readTokens_35).trans (e_ic k_i_1)
theorem sX4_readTokens_36 : lim cal sc 4 cX4_readTokens ret 36 lv (.int y :: .int x :: st) M = lim cal sc 4 cX4_readTokens ret 37 lv (.int (x + y) :: st) M := lim_step dX4_readTokens_36
theorem sX4_readTokens_37 : lim cal sc 4 cX4_readTokens ret 37 lv st M = lim cal sc 4 cX4_readTokens ret 45 lv st M := (lim_step dX4_readTokens_37).trans (e_goto (t := 45) (by decide))
theorem sX4_readTokens_40 : lim cal sc 4 cX4_readTokens ret 40 (some (.ref h) :: l) st M = lim cal sc 4 cX4_readTokens ret 41 (some (.ref h) :: l) (.ref h :: st) M := lim_step dX4_readTokens_40
theorem sX4_readTokens_41 : lim cal sc 4 cX4_readTokens ret 41 (v0 :: some (.int x) :: l) st M = lim cal sc 4 cX4_readTokens ret 42 (v0 :: some (.int x) :: l) (.int x :: st) M := lim_step dX4_readTokens_41
theorem sX4_readTokens_42 : lim cal sc 4 cX4_readTokens ret 42 lv (a1 :: .ref h :: st) M = guK (isCl 3 h) (guK (rk 8 st) (calK (cal 92 [.ref h, a1] M) fun q M' => lim cal sc 4 cX4_readTokens ret 45 lv (q.toList ++ st) M')) := (lim_step dX4_readTokens_42).trans (e_virt1 rm_4_34 mq_92)
theorem sX4_readTokens_45 : lim cal sc 4 cX4_readTokens ret 45 (v0 :: v :: l) (.int x :: st) M = lim cal sc 4 cX4_readTokens ret 46 (v0 :: some (.int x) :: l) st M := (lim_step dX4_readTokens_45).trans (e_istn1)
theorem sX4_readTokens_46 : lim cal sc 4 cX4_readTokens ret 46 (v0 :: v1 :: some (.int x) :: l) st M = lim cal sc 4 cX4_readTokens ret 49 (v0 :: v1 :: some (.int (x + 1)) :: l) st M := (lim_step dX4_readTokens_46).trans (e_inc2 k_i_1)
theorem sX4_readTokens_49 : lim cal sc 4 cX4_readTokens ret 49 lv st M = lim cal sc 4 cX4_readTokens ret 9 lv st M := (lim_step dX4_readTokens_49).trans (e_goto (t := 9) (by decide))
theorem sX4_readTokens_52 : lim cal sc 4 cX4_readTokens ret 52 (some (.ref h) :: l) st M = lim cal sc 4 cX4_readTokens ret 53 (some (.ref h) :: l) (.ref h :: st) M := lim_step dX4_readTokens_52
theorem sX4_readTokens_53 : lim cal sc 4 cX4_readTokens ret 53 lv st M = lim cal sc 4 cX4_readTokens ret 54 lv (.int 0 :: st) M := (lim_step dX4_readTokens_53).trans (e_ic k_i_0)
theorem sX4_readTokens_54 : lim cal sc 4 cX4_readTokens ret 54 (some (.ref h) :: l) st M = lim cal sc 4 cX4_readTokens ret 55 (some (.ref h) :: l) (.ref h :: st) M := lim_step dX4_readTokens_54
theorem sX4_readTokens_55 : lim cal sc 4 cX4_readTokens ret 55 lv (.ref h :: st) M = opK (slotV 3 1 h M) fun q => lim cal sc 4 cX4_readTokens ret 58 lv (q :: st) M := (lim_step dX4_readTokens_55).trans (e_get (by decide) rf_4_15)
theorem sX4_readTokens_58 : lim cal sc 4 cX4_readTokens ret 58 lv st M = lim cal sc 4 cX4_readTokens ret 59 lv (.int 0 :: st) M := (lim_step dX4_readTokens_58).trans (e_ic k_i_0)
theorem sX4_readTokens_59 : lim cal sc 4 cX4_readTokens ret 59 lv (a3 :: a2 :: a1 :: .ref h :: st) M = guK (isCl 3 h) (guK (rk 8 st) (calK (cal 104 [.ref h, a1, a2, a3] M) fun q M' => lim cal sc 4 cX4_readTokens ret 62 lv (q.toList ++ st) M')) := (lim_step dX4_readTokens_59).trans (e_virt3 rm_4_38 mq_104)
theorem sX4_readTokens_62 : lim cal sc 4 cX4_readTokens none 62 lv [] M = some (none, M) := (lim_step dX4_readTokens_62).trans (e_vret)
theorem sX4_addToken_0 : lim cal sc 4 cX4_addToken ret 0 (some (.ref h) :: l) st M = lim cal sc 4 cX4_addToken ret 1 (some (.ref h) :: l) (.ref h :: st) M := lim_step dX4_addToken_0
theorem sX4_addToken_1 : lim cal sc 4 cX4_addToken ret 1 lv (.ref h :: st) M = opK (slotV 3 5 h M) fun q => lim cal sc 4 cX4_addToken ret 4 lv (q :: st) M := (lim_step dX4_addToken_1).trans (e_get (by decide) rf_4_28)
theorem sX4_addToken_4 : lim cal sc 4 cX4_addToken ret 4 (some (.ref h) :: l) st M = lim cal sc 4 cX4_addToken ret 5 (some (.ref h) :: l) (.ref h :: st) M := lim_step dX4_addToken_4
theorem sX4_addToken_5 : lim cal sc 4 cX4_addToken ret 5 lv (.ref h :: st) M = opK (slotV 3 2 h M) fun q => lim cal sc 4 cX4_addToken ret 8 lv (q :: st) M := (lim_step dX4_addToken_5).trans (e_get (by decide) rf_4_19)
theorem sX4_addToken_8 : ∀ {q : Nat × (Nat → Int32)}, arrV9 sc h M = some q → lim cal sc 4 cX4_addToken ret 8 lv (.ref h :: st) M = lim cal sc 4 cX4_addToken ret 9 lv (.int (Int32.ofNat q.1) :: st) M := fun {_} hq => (lim_step dX4_addToken_8).trans (e_len hq)
theorem sX4_addToken_9 : lim cal sc 4 cX4_addToken ret 9 lv (.int y :: .int x :: st) M = if y ≤ x then lim cal sc 4 cX4_addToken ret 52 lv st M else lim cal sc 4 cX4_addToken ret 12 lv st M := (lim_step dX4_addToken_9).trans (e_cmpge (t := 52) (by decide))
theorem sX4_addToken_12 : lim cal sc 4 cX4_addToken ret 12 (some (.ref h) :: l) st M = lim cal sc 4 cX4_addToken ret 13 (some (.ref h) :: l) (.ref h :: st) M := lim_step dX4_addToken_12
theorem sX4_addToken_13 : lim cal sc 4 cX4_addToken ret 13 lv (.ref h :: st) M = opK (slotV 3 2 h M) fun q => lim cal sc 4 cX4_addToken ret 16 lv (q :: st) M := (lim_step dX4_addToken_13).trans (e_get (by decide) rf_4_19)
theorem sX4_addToken_16 : lim cal sc 4 cX4_addToken ret 16 (some (.ref h) :: l) st M = lim cal sc 4 cX4_addToken ret 17 (some (.ref h) :: l) (.ref h :: st) M := lim_step dX4_addToken_16
theorem sX4_addToken_17 : lim cal sc 4 cX4_addToken ret 17 lv (.ref h :: st) M = opK (slotV 3 5 h M) fun q => lim cal sc 4 cX4_addToken ret 20 lv (q :: st) M := (lim_step dX4_addToken_17).trans (e_get (by decide) rf_4_28)
theorem sX4_addToken_20 : lim cal sc 4 cX4_addToken ret 20 (v0 :: some (.int x) :: l) st M = lim cal sc 4 cX4_addToken ret 21 (v0 :: some (.int x) :: l) (.int x :: st) M := lim_step dX4_addToken_20
theorem sX4_addToken_21 : lim cal sc 4 cX4_addToken ret 21 lv (.int y :: .int x :: .ref h :: st) M = opK (arrN h) fun q => guK (inb x q) (lim cal sc 4 cX4_addToken ret 22 lv st (mset M h x.toNatClampNeg y)) := (lim_step dX4_addToken_21).trans (e_iast)
theorem sX4_addToken_22 : lim cal sc 4 cX4_addToken ret 22 (some (.ref h) :: l) st M = lim cal sc 4 cX4_addToken ret 23 (some (.ref h) :: l) (.ref h :: st) M := lim_step dX4_addToken_22
theorem sX4_addToken_23 : lim cal sc 4 cX4_addToken ret 23 lv (.ref h :: st) M = opK (slotV 3 3 h M) fun q => lim cal sc 4 cX4_addToken ret 26 lv (q :: st) M := (lim_step dX4_addToken_23).trans (e_get (by decide) rf_4_22)
theorem sX4_addToken_26 : lim cal sc 4 cX4_addToken ret 26 (some (.ref h) :: l) st M = lim cal sc 4 cX4_addToken ret 27 (some (.ref h) :: l) (.ref h :: st) M := lim_step dX4_addToken_26
theorem sX4_addToken_27 : lim cal sc 4 cX4_addToken ret 27 lv (.ref h :: st) M = opK (slotV 3 5 h M) fun q => lim cal sc 4 cX4_addToken ret 30 lv (q :: st) M := (lim_step dX4_addToken_27).trans (e_get (by decide) rf_4_28)
theorem sX4_addToken_30 : lim cal sc 4 cX4_addToken ret 30 (v0 :: v1 :: some (.int x) :: l) st M = lim cal sc 4 cX4_addToken ret 31 (v0 :: v1 :: some (.int x) :: l) (.int x :: st) M := lim_step dX4_addToken_30
theorem sX4_addToken_31 : lim cal sc 4 cX4_addToken ret 31 lv (.int y :: .int x :: .ref h :: st) M = opK (arrN h) fun q => guK (inb x q) (lim cal sc 4 cX4_addToken ret 32 lv st (mset M h x.toNatClampNeg y)) := (lim_step dX4_addToken_31).trans (e_iast)
theorem sX4_addToken_32 : lim cal sc 4 cX4_addToken ret 32 (some (.ref h) :: l) st M = lim cal sc 4 cX4_addToken ret 33 (some (.ref h) :: l) (.ref h :: st) M := lim_step dX4_addToken_32
theorem sX4_addToken_33 : lim cal sc 4 cX4_addToken ret 33 lv (.ref h :: st) M = opK (slotV 3 4 h M) fun q => lim cal sc 4 cX4_addToken ret 36 lv (q :: st) M := (lim_step dX4_addToken_33).trans (e_get (by decide) rf_4_25)
theorem sX4_addToken_36 : lim cal sc 4 cX4_addToken ret 36 (some (.ref h) :: l) st M = lim cal sc 4 cX4_addToken ret 37 (some (.ref h) :: l) (.ref h :: st) M := lim_step dX4_addToken_36
theorem sX4_addToken_37 : lim cal sc 4 cX4_addToken ret 37 lv (.ref h :: st) M = opK (slotV 3 5 h M) fun q => lim cal sc 4 cX4_addToken ret 40 lv (q :: st) M := (lim_step dX4_addToken_37).trans (e_get (by decide) rf_4_28)
theorem sX4_addToken_40 : lim cal sc 4 cX4_addToken ret 40 (v0 :: v1 :: v2 :: some (.int x) :: l) st M = lim cal sc 4 cX4_addToken ret 41 (v0 :: v1 :: v2 :: some (.int x) :: l) (.int x :: st) M := lim_step dX4_addToken_40
theorem sX4_addToken_41 : lim cal sc 4 cX4_addToken ret 41 lv (.int y :: .int x :: .ref h :: st) M = opK (arrN h) fun q => guK (inb x q) (lim cal sc 4 cX4_addToken ret 42 lv st (mset M h x.toNatClampNeg y)) := (lim_step dX4_addToken_41).trans (e_iast)
theorem sX4_addToken_42 : lim cal sc 4 cX4_addToken ret 42 (some (.ref h) :: l) st M = lim cal sc 4 cX4_addToken ret 43 (some (.ref h) :: l) (.ref h :: st) M := lim_step dX4_addToken_42
theorem sX4_addToken_43 : lim cal sc 4 cX4_addToken ret 43 lv (.ref h :: st) M = lim cal sc 4 cX4_addToken ret 44 lv (.ref h :: .ref h :: st) M := lim_step dX4_addToken_43
theorem sX4_addToken_43_i : lim cal sc 4 cX4_addToken ret 43 lv (.int x :: st) M = lim cal sc 4 cX4_addToken ret 44 lv (.int x :: .int x :: st) M := lim_step dX4_addToken_43
theorem sX4_addToken_44 : lim cal sc 4 cX4_addToken ret 44 lv (.ref h :: st) M = opK (slotV 3 5 h M) fun q => lim cal sc 4 cX4_addToken ret 47 lv (q :: st) M := (lim_step dX4_addToken_44).trans (e_get (by decide) rf_4_28)
theorem sX4_addToken_47 : lim cal sc 4 cX4_addToken ret 47 lv st M = lim cal sc 4 cX4_addToken ret 48 lv (.int 1 :: st) M := (lim_step dX4_addToken_47).trans (e_ic k_i_1)
theorem sX4_addToken_48 : lim cal sc 4 cX4_addToken ret 48 lv (.int y :: .int x :: st) M = lim cal sc 4 cX4_addToken ret 49 lv (.int (x + y) :: st) M := lim_step dX4_addToken_48
theorem sX4_addToken_49 : lim cal sc 4 cX4_addToken ret 49 lv (.int x :: .ref h :: st) M = guK (isInt 3 5 h) (lim cal sc 4 cX4_addToken ret 52 lv st (mset M h 5 x)) := (lim_step dX4_addToken_49).trans (e_put rf_4_28 rfl)
theorem sX4_addToken_52 : lim cal sc 4 cX4_addToken none 52 lv [] M = some (none, M) := (lim_step dX4_addToken_52).trans (e_vret)
theorem sX4_readToken_0 : lim cal sc 4 cX4_readToken ret 0 (v0 :: some (.int x) :: l) st M = lim cal sc 4 cX4_readToken ret 1 (v0 :: some (.int x) :: l) (.int x :: st) M := lim_step dX4_readToken_0
theorem sX4_readToken_1 : lim cal sc 4 cX4_readToken ret 1 lv st M = lim cal sc 4 cX4_readToken ret 2 lv (.int 1 :: st) M := (lim_step dX4_readToken_1).trans (e_ic k_i_1)
theorem sX4_readToken_2 : lim cal sc 4 cX4_readToken ret 2 lv (.int y :: .int x :: st) M = lim cal sc 4 cX4_readToken ret 3 lv (.int (x + y) :: st) M := lim_step dX4_readToken_2
theorem sX4_readToken_3 : lim cal sc 4 cX4_readToken ret 3 (v0 :: v1 :: v :: l) (.int x :: st) M = lim cal sc 4 cX4_readToken ret 4 (v0 :: v1 :: some (.int x) :: l) st M := (lim_step dX4_readToken_3).trans (e_istn2)
theorem sX4_readToken_4 : lim cal sc 4 cX4_readToken ret 4 (some (.ref h) :: l) st M = lim cal sc 4 cX4_readToken ret 5 (some (.ref h) :: l) (.ref h :: st) M := lim_step dX4_readToken_4
theorem sX4_readToken_5 : lim cal sc 4 cX4_readToken ret 5 lv (.ref h :: st) M = opK (slotV 3 0 h M) fun q => lim cal sc 4 cX4_readToken ret 8 lv (q :: st) M := (lim_step dX4_readToken_5).trans (e_get (by decide) rf_4_9)
theorem sX4_readToken_8 : lim cal sc 4 cX4_readToken ret 8 (v0 :: some (.int x) :: l) st M = lim cal sc 4 cX4_readToken ret 9 (v0 :: some (.int x) :: l) (.int x :: st) M := lim_step dX4_readToken_8
theorem sX4_readToken_9 : lim cal sc 4 cX4_readToken ret 9 lv (.int x :: .ref h :: st) M = opK (arrV9 sc h M) fun q => guK (inb x q.1) (lim cal sc 4 cX4_readToken ret 10 lv (.int (q.2 x.toNatClampNeg) :: st) M) := (lim_step dX4_readToken_9).trans (e_iald)
theorem sX4_readToken_10 : lim cal sc 4 cX4_readToken ret 10 lv (a1 :: st) M = guK (rk 8 st) (calK (cal 93 [a1] M) fun q M' => lim cal sc 4 cX4_readToken ret 13 lv (q.toList ++ st) M') := (lim_step dX4_readToken_10).trans (e_stat1 rm_4_42)
theorem sX4_readToken_13 : lim cal sc 4 cX4_readToken ret 13 lv (.int x :: st) M = if x = 0 then lim cal sc 4 cX4_readToken ret 57 lv st M else lim cal sc 4 cX4_readToken ret 16 lv st M := (lim_step dX4_readToken_13).trans (e_ifeq (t := 57) (by decide))
theorem sX4_readToken_16 : lim cal sc 4 cX4_readToken ret 16 (v0 :: v1 :: some (.int x) :: l) st M = lim cal sc 4 cX4_readToken ret 17 (v0 :: v1 :: some (.int x) :: l) (.int x :: st) M := lim_step dX4_readToken_16
theorem sX4_readToken_17 : lim cal sc 4 cX4_readToken ret 17 (some (.ref h) :: l) st M = lim cal sc 4 cX4_readToken ret 18 (some (.ref h) :: l) (.ref h :: st) M := lim_step dX4_readToken_17
theorem sX4_readToken_18 : lim cal sc 4 cX4_readToken ret 18 lv (.ref h :: st) M = opK (slotV 3 1 h M) fun q => lim cal sc 4 cX4_readToken ret 21 lv (q :: st) M := (lim_step dX4_readToken_18).trans (e_get (by decide) rf_4_15)
theorem sX4_readToken_21 : lim cal sc 4 cX4_readToken ret 21 lv (.int y :: .int x :: st) M = if y ≤ x then lim cal sc 4 cX4_readToken ret 42 lv st M else lim cal sc 4 cX4_readToken ret 24 lv st M := (lim_step dX4_readToken_21).trans (e_cmpge (t := 42) (by decide))
theorem sX4_readToken_24 : lim cal sc 4 cX4_readToken ret 24 (some (.ref h) :: l) st M = lim cal sc 4 cX4_readToken ret 25 (some (.ref h) :: l) (.ref h :: st) M := lim_step dX4_readToken_24
theorem sX4_readToken_25 : lim cal sc 4 cX4_readToken ret 25 lv (.ref h :: st) M = opK (slotV 3 0 h M) fun q => lim cal sc 4 cX4_readToken ret 28 lv (q :: st) M := (lim_step dX4_readToken_25).trans (e_get (by decide) rf_4_9)
theorem sX4_readToken_28 : lim cal sc 4 cX4_readToken ret 28 (v0 :: v1 :: some (.int x) :: l) st M = lim cal sc 4 cX4_readToken ret 29 (v0 :: v1 :: some (.int x) :: l) (.int x :: st) M := lim_step dX4_readToken_28
theorem sX4_readToken_29 : lim cal sc 4 cX4_readToken ret 29 lv (.int x :: .ref h :: st) M = opK (arrV9 sc h M) fun q => guK (inb x q.1) (lim cal sc 4 cX4_readToken ret 30 lv (.int (q.2 x.toNatClampNeg) :: st) M) := (lim_step dX4_readToken_29).trans (e_iald)
theorem sX4_readToken_30 : lim cal sc 4 cX4_readToken ret 30 lv (a1 :: st) M = guK (rk 8 st) (calK (cal 93 [a1] M) fun q M' => lim cal sc 4 cX4_readToken ret 33 lv (q.toList ++ st) M') := (lim_step dX4_readToken_30).trans (e_stat1 rm_4_42)
theorem sX4_readToken_33 : lim cal sc 4 cX4_readToken ret 33 lv (.int x :: st) M = if x = 0 then lim cal sc 4 cX4_readToken ret 42 lv st M else lim cal sc 4 cX4_readToken ret 36 lv st M := (lim_step dX4_readToken_33).trans (e_ifeq (t := 42) (by decide))
theorem sX4_readToken_36 : lim cal sc 4 cX4_readToken ret 36 (v0 :: v1 :: some (.int x) :: l) st M = lim cal sc 4 cX4_readToken ret 39 (v0 :: v1 :: some (.int (x + 1)) :: l) st M := (lim_step dX4_readToken_36).trans (e_inc2 k_i_1)
theorem sX4_readToken_39 : lim cal sc 4 cX4_readToken ret 39 lv st M = lim cal sc 4 cX4_readToken ret 16 lv st M := (lim_step dX4_readToken_39).trans (e_goto (t := 16) (by decide))
theorem sX4_readToken_42 : lim cal sc 4 cX4_readToken ret 42 (some (.ref h) :: l) st M = lim cal sc 4 cX4_readToken ret 43 (some (.ref h) :: l) (.ref h :: st) M := lim_step dX4_readToken_42
theorem sX4_readToken_43 : lim cal sc 4 cX4_readToken ret 43 lv st M = lim cal sc 4 cX4_readToken ret 44 lv (.int 1 :: st) M := (lim_step dX4_readToken_43).trans (e_ic k_i_1)
theorem sX4_readToken_44 : lim cal sc 4 cX4_readToken ret 44 (v0 :: some (.int x) :: l) st M = lim cal sc 4 cX4_readToken ret 45 (v0 :: some (.int x) :: l) (.int x :: st) M := lim_step dX4_readToken_44
theorem sX4_readToken_45 : lim cal sc 4 cX4_readToken ret 45 (some (.ref h) :: l) st M = lim cal sc 4 cX4_readToken ret 46 (some (.ref h) :: l) (.ref h :: st) M := lim_step dX4_readToken_45
theorem sX4_readToken_46 : lim cal sc 4 cX4_readToken ret 46 (v0 :: some (.int x) :: l) st M = lim cal sc 4 cX4_readToken ret 47 (v0 :: some (.int x) :: l) (.int x :: st) M := lim_step dX4_readToken_46
theorem sX4_readToken_47 : lim cal sc 4 cX4_readToken ret 47 (v0 :: v1 :: some (.int x) :: l) st M = lim cal sc 4 cX4_readToken ret 48 (v0 :: v1 :: some (.int x) :: l) (.int x :: st) M := lim_step dX4_readToken_47
theorem sX4_readToken_48 : lim cal sc 4 cX4_readToken ret 48 lv (a2 :: a1 :: .ref h :: st) M = guK (isCl 3 h) (guK (rk 8 st) (calK (cal 94 [.ref h, a1, a2] M) fun q M' => lim cal sc 4 cX4_readToken ret 51 lv (q.toList ++ st) M')) := (lim_step dX4_readToken_48).trans (e_virt2 rm_4_46 mq_94)
theorem sX4_readToken_51 : lim cal sc 4 cX4_readToken ret 51 lv (a3 :: a2 :: a1 :: .ref h :: st) M = guK (isCl 3 h) (guK (rk 8 st) (calK (cal 104 [.ref h, a1, a2, a3] M) fun q M' => lim cal sc 4 cX4_readToken ret 54 lv (q.toList ++ st) M')) := (lim_step dX4_readToken_51).trans (e_virt3 rm_4_38 mq_104)
theorem sX4_readToken_54 : lim cal sc 4 cX4_readToken ret 54 lv st M = lim cal sc 4 cX4_readToken ret 132 lv st M := (lim_step dX4_readToken_54).trans (e_goto (t := 132) (by decide))
theorem sX4_readToken_57 : lim cal sc 4 cX4_readToken ret 57 (some (.ref h) :: l) st M = lim cal sc 4 cX4_readToken ret 58 (some (.ref h) :: l) (.ref h :: st) M := lim_step dX4_readToken_57
theorem sX4_readToken_58 : lim cal sc 4 cX4_readToken ret 58 lv (.ref h :: st) M = opK (slotV 3 0 h M) fun q => lim cal sc 4 cX4_readToken ret 61 lv (q :: st) M := (lim_step dX4_readToken_58).trans (e_get (by decide) rf_4_9)
theorem sX4_readToken_61 : lim cal sc 4 cX4_readToken ret 61 (v0 :: some (.int x) :: l) st M = lim cal sc 4 cX4_readToken ret 62 (v0 :: some (.int x) :: l) (.int x :: st) M := lim_step dX4_readToken_61
theorem sX4_readToken_62 : lim cal sc 4 cX4_readToken ret 62 lv (.int x :: .ref h :: st) M = opK (arrV9 sc h M) fun q => guK (inb x q.1) (lim cal sc 4 cX4_readToken ret 63 lv (.int (q.2 x.toNatClampNeg) :: st) M) := (lim_step dX4_readToken_62).trans (e_iald)
theorem sX4_readToken_63 : lim cal sc 4 cX4_readToken ret 63 lv (a1 :: st) M = guK (rk 8 st) (calK (cal 105 [a1] M) fun q M' => lim cal sc 4 cX4_readToken ret 66 lv (q.toList ++ st) M') := (lim_step dX4_readToken_63).trans (e_stat1 rm_4_50)
theorem sX4_readToken_66 : lim cal sc 4 cX4_readToken ret 66 lv (.int x :: st) M = if x = 0 then lim cal sc 4 cX4_readToken ret 110 lv st M else lim cal sc 4 cX4_readToken ret 69 lv st M := (lim_step dX4_readToken_66).trans (e_ifeq (t := 110) (by decide))
theorem sX4_readToken_69 : lim cal sc 4 cX4_readToken ret 69 (v0 :: v1 :: some (.int x) :: l) st M = lim cal sc 4 cX4_readToken ret 70 (v0 :: v1 :: some (.int x) :: l) (.int x :: st) M := lim_step dX4_readToken_69
theorem sX4_readToken_70 : lim cal sc 4 cX4_readToken ret 70 (some (.ref h) :: l) st M = lim cal sc 4 cX4_readToken ret 71 (some (.ref h) :: l) (.ref h :: st) M := lim_step dX4_readToken_70
theorem sX4_readToken_71 : lim cal sc 4 cX4_readToken ret 71 lv (.ref h :: st) M = opK (slotV 3 1 h M) fun q => lim cal sc 4 cX4_readToken ret 74 lv (q :: st) M := (lim_step dX4_readToken_71).trans (e_get (by decide) rf_4_15)
theorem sX4_readToken_74 : lim cal sc 4 cX4_readToken ret 74 lv (.int y :: .int x :: st) M = if y ≤ x then lim cal sc 4 cX4_readToken ret 95 lv st M else lim cal sc 4 cX4_readToken ret 77 lv st M := (lim_step dX4_readToken_74).trans (e_cmpge (t := 95) (by decide))
theorem sX4_readToken_77 : lim cal sc 4 cX4_readToken ret 77 (some (.ref h) :: l) st M = lim cal sc 4 cX4_readToken ret 78 (some (.ref h) :: l) (.ref h :: st) M := lim_step dX4_readToken_77
theorem sX4_readToken_78 : lim cal sc 4 cX4_readToken ret 78 lv (.ref h :: st) M = opK (slotV 3 0 h M) fun q => lim cal sc 4 cX4_readToken ret 81 lv (q :: st) M := (lim_step dX4_readToken_78).trans (e_get (by decide) rf_4_9)
theorem sX4_readToken_81 : lim cal sc 4 cX4_readToken ret 81 (v0 :: v1 :: some (.int x) :: l) st M = lim cal sc 4 cX4_readToken ret 82 (v0 :: v1 :: some (.int x) :: l) (.int x :: st) M := lim_step dX4_readToken_81
theorem sX4_readToken_82 : lim cal sc 4 cX4_readToken ret 82 lv (.int x :: .ref h :: st) M = opK (arrV9 sc h M) fun q => guK (inb x q.1) (lim cal sc 4 cX4_readToken ret 83 lv (.int (q.2 x.toNatClampNeg) :: st) M) := (lim_step dX4_readToken_82).trans (e_iald)
theorem sX4_readToken_83 : lim cal sc 4 cX4_readToken ret 83 lv (a1 :: st) M = guK (rk 8 st) (calK (cal 105 [a1] M) fun q M' => lim cal sc 4 cX4_readToken ret 86 lv (q.toList ++ st) M') := (lim_step dX4_readToken_83).trans (e_stat1 rm_4_50)
theorem sX4_readToken_86 : lim cal sc 4 cX4_readToken ret 86 lv (.int x :: st) M = if x = 0 then lim cal sc 4 cX4_readToken ret 95 lv st M else lim cal sc 4 cX4_readToken ret 89 lv st M := (lim_step dX4_readToken_86).trans (e_ifeq (t := 95) (by decide))
theorem sX4_readToken_89 : lim cal sc 4 cX4_readToken ret 89 (v0 :: v1 :: some (.int x) :: l) st M = lim cal sc 4 cX4_readToken ret 92 (v0 :: v1 :: some (.int (x + 1)) :: l) st M := (lim_step dX4_readToken_89).trans (e_inc2 k_i_1)
theorem sX4_readToken_92 : lim cal sc 4 cX4_readToken ret 92 lv st M = lim cal sc 4 cX4_readToken ret 69 lv st M := (lim_step dX4_readToken_92).trans (e_goto (t := 69) (by decide))
theorem sX4_readToken_95 : lim cal sc 4 cX4_readToken ret 95 (some (.ref h) :: l) st M = lim cal sc 4 cX4_readToken ret 96 (some (.ref h) :: l) (.ref h :: st) M := lim_step dX4_readToken_95
theorem sX4_readToken_96 : lim cal sc 4 cX4_readToken ret 96 lv st M = lim cal sc 4 cX4_readToken ret 97 lv (.int 2 :: st) M := (lim_step dX4_readToken_96).trans (e_ic k_i_2)
theorem sX4_readToken_97 : lim cal sc 4 cX4_readToken ret 97 (v0 :: some (.int x) :: l) st M = lim cal sc 4 cX4_readToken ret 98 (v0 :: some (.int x) :: l) (.int x :: st) M := lim_step dX4_readToken_97
theorem sX4_readToken_98 : lim cal sc 4 cX4_readToken ret 98 (some (.ref h) :: l) st M = lim cal sc 4 cX4_readToken ret 99 (some (.ref h) :: l) (.ref h :: st) M := lim_step dX4_readToken_98
theorem sX4_readToken_99 : lim cal sc 4 cX4_readToken ret 99 (v0 :: some (.int x) :: l) st M = lim cal sc 4 cX4_readToken ret 100 (v0 :: some (.int x) :: l) (.int x :: st) M := lim_step dX4_readToken_99
theorem sX4_readToken_100 : lim cal sc 4 cX4_readToken ret 100 (v0 :: v1 :: some (.int x) :: l) st M = lim cal sc 4 cX4_readToken ret 101 (v0 :: v1 :: some (.int x) :: l) (.int x :: st) M := lim_step dX4_readToken_100
theorem sX4_readToken_101 : lim cal sc 4 cX4_readToken ret 101 lv (a2 :: a1 :: .ref h :: st) M = guK (isCl 3 h) (guK (rk 8 st) (calK (cal 106 [.ref h, a1, a2] M) fun q M' => lim cal sc 4 cX4_readToken ret 104 lv (q.toList ++ st) M')) := (lim_step dX4_readToken_101).trans (e_virt2 rm_4_53 mq_106)
theorem sX4_readToken_104 : lim cal sc 4 cX4_readToken ret 104 lv (a3 :: a2 :: a1 :: .ref h :: st) M = guK (isCl 3 h) (guK (rk 8 st) (calK (cal 104 [.ref h, a1, a2, a3] M) fun q M' => lim cal sc 4 cX4_readToken ret 107 lv (q.toList ++ st) M')) := (lim_step dX4_readToken_104).trans (e_virt3 rm_4_38 mq_104)
theorem sX4_readToken_107 : lim cal sc 4 cX4_readToken ret 107 lv st M = lim cal sc 4 cX4_readToken ret 132 lv st M := (lim_step dX4_readToken_107).trans (e_goto (t := 132) (by decide))
theorem sX4_readToken_110 : lim cal sc 4 cX4_readToken ret 110 (some (.ref h) :: l) st M = lim cal sc 4 cX4_readToken ret 111 (some (.ref h) :: l) (.ref h :: st) M := lim_step dX4_readToken_110
theorem sX4_readToken_111 : lim cal sc 4 cX4_readToken ret 111 (some (.ref h) :: l) st M = lim cal sc 4 cX4_readToken ret 112 (some (.ref h) :: l) (.ref h :: st) M := lim_step dX4_readToken_111
theorem sX4_readToken_112 : lim cal sc 4 cX4_readToken ret 112 lv (.ref h :: st) M = opK (slotV 3 0 h M) fun q => lim cal sc 4 cX4_readToken ret 115 lv (q :: st) M := (lim_step dX4_readToken_112).trans (e_get (by decide) rf_4_9)
theorem sX4_readToken_115 : lim cal sc 4 cX4_readToken ret 115 (v0 :: some (.int x) :: l) st M = lim cal sc 4 cX4_readToken ret 116 (v0 :: some (.int x) :: l) (.int x :: st) M := lim_step dX4_readToken_115
theorem sX4_readToken_116 : lim cal sc 4 cX4_readToken ret 116 lv (.int x :: .ref h :: st) M = opK (arrV9 sc h M) fun q => guK (inb x q.1) (lim cal sc 4 cX4_readToken ret 117 lv (.int (q.2 x.toNatClampNeg) :: st) M) := (lim_step dX4_readToken_116).trans (e_iald)
theorem sX4_readToken_117 : lim cal sc 4 cX4_readToken ret 117 lv st M = lim cal sc 4 cX4_readToken ret 119 lv (.int 59 :: st) M := (lim_step dX4_readToken_117).trans (e_bi k_b_59)
theorem sX4_readToken_119 : lim cal sc 4 cX4_readToken ret 119 lv (.int y :: .int x :: st) M = if x = y then lim cal sc 4 cX4_readToken ret 122 lv st M else lim cal sc 4 cX4_readToken ret 126 lv st M := (lim_step dX4_readToken_119).trans (e_cmpne (t := 126) (by decide))
theorem sX4_readToken_122 : lim cal sc 4 cX4_readToken ret 122 lv st M = lim cal sc 4 cX4_readToken ret 123 lv (.int 3 :: st) M := (lim_step dX4_readToken_122).trans (e_ic k_i_3)
theorem sX4_readToken_123 : lim cal sc 4 cX4_readToken ret 123 lv st M = lim cal sc 4 cX4_readToken ret 127 lv st M := (lim_step dX4_readToken_123).trans (e_goto (t := 127) (by decide))
theorem sX4_readToken_126 : lim cal sc 4 cX4_readToken ret 126 lv st M = lim cal sc 4 cX4_readToken ret 127 lv (.int 4 :: st) M := (lim_step dX4_readToken_126).trans (e_ic k_i_4)
theorem sX4_readToken_127 : lim cal sc 4 cX4_readToken ret 127 (v0 :: some (.int x) :: l) st M = lim cal sc 4 cX4_readToken ret 128 (v0 :: some (.int x) :: l) (.int x :: st) M := lim_step dX4_readToken_127
theorem sX4_readToken_128 : lim cal sc 4 cX4_readToken ret 128 lv st M = lim cal sc 4 cX4_readToken ret 129 lv (.int 0 :: st) M := (lim_step dX4_readToken_128).trans (e_ic k_i_0)
theorem sX4_readToken_129 : lim cal sc 4 cX4_readToken ret 129 lv (a3 :: a2 :: a1 :: .ref h :: st) M = guK (isCl 3 h) (guK (rk 8 st) (calK (cal 104 [.ref h, a1, a2, a3] M) fun q M' => lim cal sc 4 cX4_readToken ret 132 lv (q.toList ++ st) M')) := (lim_step dX4_readToken_129).trans (e_virt3 rm_4_38 mq_104)
theorem sX4_readToken_132 : lim cal sc 4 cX4_readToken ret 132 (v0 :: v1 :: some (.int x) :: l) st M = lim cal sc 4 cX4_readToken ret 133 (v0 :: v1 :: some (.int x) :: l) (.int x :: st) M := lim_step dX4_readToken_132
theorem sX4_readToken_133 : lim cal sc 4 cX4_readToken (some .int) 133 lv [.int x] M = some (some (.int x), M) := (lim_step dX4_readToken_133).trans (e_iret)
theorem sX4_isLetter_0 : lim cal sc 4 cX4_isLetter ret 0 (some (.int x) :: l) st M = lim cal sc 4 cX4_isLetter ret 1 (some (.int x) :: l) (.int x :: st) M := lim_step dX4_isLetter_0
theorem sX4_isLetter_1 : lim cal sc 4 cX4_isLetter ret 1 lv st M = lim cal sc 4 cX4_isLetter ret 3 lv (.int 97 :: st) M := (lim_step dX4_isLetter_1).trans (e_bi k_b_97)
theorem sX4_isLetter_3 : lim cal sc 4 cX4_isLetter ret 3 lv (.int y :: .int x :: st) M = if x < y then lim cal sc 4 cX4_isLetter ret 16 lv st M else lim cal sc 4 cX4_isLetter ret 6 lv st M := (lim_step dX4_isLetter_3).trans (e_cmplt (t := 16) (by decide))
theorem sX4_isLetter_6 : lim cal sc 4 cX4_isLetter ret 6 (some (.int x) :: l) st M = lim cal sc 4 cX4_isLetter ret 7 (some (.int x) :: l) (.int x :: st) M := lim_step dX4_isLetter_6
theorem sX4_isLetter_7 : lim cal sc 4 cX4_isLetter ret 7 lv st M = lim cal sc 4 cX4_isLetter ret 9 lv (.int 122 :: st) M := (lim_step dX4_isLetter_7).trans (e_bi k_b_122)
theorem sX4_isLetter_9 : lim cal sc 4 cX4_isLetter ret 9 lv (.int y :: .int x :: st) M = if y < x then lim cal sc 4 cX4_isLetter ret 16 lv st M else lim cal sc 4 cX4_isLetter ret 12 lv st M := (lim_step dX4_isLetter_9).trans (e_cmpgt (t := 16) (by decide))
theorem sX4_isLetter_12 : lim cal sc 4 cX4_isLetter ret 12 lv st M = lim cal sc 4 cX4_isLetter ret 13 lv (.int 1 :: st) M := (lim_step dX4_isLetter_12).trans (e_ic k_i_1)
theorem sX4_isLetter_13 : lim cal sc 4 cX4_isLetter ret 13 lv st M = lim cal sc 4 cX4_isLetter ret 17 lv st M := (lim_step dX4_isLetter_13).trans (e_goto (t := 17) (by decide))
theorem sX4_isLetter_16 : lim cal sc 4 cX4_isLetter ret 16 lv st M = lim cal sc 4 cX4_isLetter ret 17 lv (.int 0 :: st) M := (lim_step dX4_isLetter_16).trans (e_ic k_i_0)
theorem sX4_isLetter_17 : lim cal sc 4 cX4_isLetter (some .boolean) 17 lv [.int x] M = guK (narB .boolean x) (some (some (.int x), M)) := (lim_step dX4_isLetter_17).trans (e_zret)
theorem sX4_isDigit_0 : lim cal sc 4 cX4_isDigit ret 0 (some (.int x) :: l) st M = lim cal sc 4 cX4_isDigit ret 1 (some (.int x) :: l) (.int x :: st) M := lim_step dX4_isDigit_0
theorem sX4_isDigit_1 : lim cal sc 4 cX4_isDigit ret 1 lv st M = lim cal sc 4 cX4_isDigit ret 3 lv (.int 48 :: st) M := (lim_step dX4_isDigit_1).trans (e_bi k_b_48)
theorem sX4_isDigit_3 : lim cal sc 4 cX4_isDigit ret 3 lv (.int y :: .int x :: st) M = if x < y then lim cal sc 4 cX4_isDigit ret 16 lv st M else lim cal sc 4 cX4_isDigit ret 6 lv st M := (lim_step dX4_isDigit_3).trans (e_cmplt (t := 16) (by decide))
theorem sX4_isDigit_6 : lim cal sc 4 cX4_isDigit ret 6 (some (.int x) :: l) st M = lim cal sc 4 cX4_isDigit ret 7 (some (.int x) :: l) (.int x :: st) M := lim_step dX4_isDigit_6
theorem sX4_isDigit_7 : lim cal sc 4 cX4_isDigit ret 7 lv st M = lim cal sc 4 cX4_isDigit ret 9 lv (.int 57 :: st) M := (lim_step dX4_isDigit_7).trans (e_bi k_b_57)
theorem sX4_isDigit_9 : lim cal sc 4 cX4_isDigit ret 9 lv (.int y :: .int x :: st) M = if y < x then lim cal sc 4 cX4_isDigit ret 16 lv st M else lim cal sc 4 cX4_isDigit ret 12 lv st M := (lim_step dX4_isDigit_9).trans (e_cmpgt (t := 16) (by decide))
theorem sX4_isDigit_12 : lim cal sc 4 cX4_isDigit ret 12 lv st M = lim cal sc 4 cX4_isDigit ret 13 lv (.int 1 :: st) M := (lim_step dX4_isDigit_12).trans (e_ic k_i_1)
theorem sX4_isDigit_13 : lim cal sc 4 cX4_isDigit ret 13 lv st M = lim cal sc 4 cX4_isDigit ret 17 lv st M := (lim_step dX4_isDigit_13).trans (e_goto (t := 17) (by decide))
theorem sX4_isDigit_16 : lim cal sc 4 cX4_isDigit ret 16 lv st M = lim cal sc 4 cX4_isDigit ret 17 lv (.int 0 :: st) M := (lim_step dX4_isDigit_16).trans (e_ic k_i_0)
theorem sX4_isDigit_17 : lim cal sc 4 cX4_isDigit (some .boolean) 17 lv [.int x] M = guK (narB .boolean x) (some (some (.int x), M)) := (lim_step dX4_isDigit_17).trans (e_zret)
theorem sX4_numberBetween_0 : lim cal sc 4 cX4_numberBetween ret 0 lv st M = lim cal sc 4 cX4_numberBetween ret 1 lv (.int 0 :: st) M := (lim_step dX4_numberBetween_0).trans (e_ic k_i_0)
theorem sX4_numberBetween_1 : lim cal sc 4 cX4_numberBetween ret 1 (v0 :: v1 :: v2 :: v :: l) (.int x :: st) M = lim cal sc 4 cX4_numberBetween ret 2 (v0 :: v1 :: v2 :: some (.int x) :: l) st M := (lim_step dX4_numberBetween_1).trans (e_istn3)
theorem sX4_numberBetween_2 : lim cal sc 4 cX4_numberBetween ret 2 (v0 :: some (.int x) :: l) st M = lim cal sc 4 cX4_numberBetween ret 3 (v0 :: some (.int x) :: l) (.int x :: st) M := lim_step dX4_numberBetween_2
theorem sX4_numberBetween_3 : lim cal sc 4 cX4_numberBetween ret 3 (v0 :: v1 :: v2 :: v3 :: v :: l) (.int x :: st) M = lim cal sc 4 cX4_numberBetween ret 5 (v0 :: v1 :: v2 :: v3 :: some (.int x) :: l) st M := (lim_step dX4_numberBetween_3).trans (e_ist4)
theorem sX4_numberBetween_5 : lim cal sc 4 cX4_numberBetween ret 5 (v0 :: v1 :: v2 :: v3 :: some (.int x) :: l) st M = lim cal sc 4 cX4_numberBetween ret 7 (v0 :: v1 :: v2 :: v3 :: some (.int x) :: l) (.int x :: st) M := lim_step dX4_numberBetween_5
theorem sX4_numberBetween_7 : lim cal sc 4 cX4_numberBetween ret 7 (v0 :: v1 :: some (.int x) :: l) st M = lim cal sc 4 cX4_numberBetween ret 8 (v0 :: v1 :: some (.int x) :: l) (.int x :: st) M := lim_step dX4_numberBetween_7
theorem sX4_numberBetween_8 : lim cal sc 4 cX4_numberBetween ret 8 lv (.int y :: .int x :: st) M = if y ≤ x then lim cal sc 4 cX4_numberBetween ret 39 lv st M else lim cal sc 4 cX4_numberBetween ret 11 lv st M := (lim_step dX4_numberBetween_8).trans (e_cmpge (t := 39) (by decide))
theorem sX4_numberBetween_11 : lim cal sc 4 cX4_numberBetween ret 11 lv st M = lim cal sc 4 cX4_numberBetween ret 14 lv (.int 1000 :: st) M := (lim_step dX4_numberBetween_11).trans (e_si k_s_1000)
theorem sX4_numberBetween_14 : lim cal sc 4 cX4_numberBetween ret 14 (v0 :: v1 :: v2 :: some (.int x) :: l) st M = lim cal sc 4 cX4_numberBetween ret 15 (v0 :: v1 :: v2 :: some (.int x) :: l) (.int x :: st) M := lim_step dX4_numberBetween_14
theorem sX4_numberBetween_15 : lim cal sc 4 cX4_numberBetween ret 15 lv st M = lim cal sc 4 cX4_numberBetween ret 17 lv (.int 10 :: st) M := (lim_step dX4_numberBetween_15).trans (e_bi k_b_10)
theorem sX4_numberBetween_17 : lim cal sc 4 cX4_numberBetween ret 17 lv (.int y :: .int x :: st) M = lim cal sc 4 cX4_numberBetween ret 18 lv (.int (x * y) :: st) M := lim_step dX4_numberBetween_17
theorem sX4_numberBetween_18 : lim cal sc 4 cX4_numberBetween ret 18 (some (.ref h) :: l) st M = lim cal sc 4 cX4_numberBetween ret 19 (some (.ref h) :: l) (.ref h :: st) M := lim_step dX4_numberBetween_18
theorem sX4_numberBetween_19 : lim cal sc 4 cX4_numberBetween ret 19 lv (.ref h :: st) M = opK (slotV 3 0 h M) fun q => lim cal sc 4 cX4_numberBetween ret 22 lv (q :: st) M := (lim_step dX4_numberBetween_19).trans (e_get (by decide) rf_4_9)
theorem sX4_numberBetween_22 : lim cal sc 4 cX4_numberBetween ret 22 (v0 :: v1 :: v2 :: v3 :: some (.int x) :: l) st M = lim cal sc 4 cX4_numberBetween ret 24 (v0 :: v1 :: v2 :: v3 :: some (.int x) :: l) (.int x :: st) M := lim_step dX4_numberBetween_22
theorem sX4_numberBetween_24 : lim cal sc 4 cX4_numberBetween ret 24 lv (.int x :: .ref h :: st) M = opK (arrV9 sc h M) fun q => guK (inb x q.1) (lim cal sc 4 cX4_numberBetween ret 25 lv (.int (q.2 x.toNatClampNeg) :: st) M) := (lim_step dX4_numberBetween_24).trans (e_iald)
theorem sX4_numberBetween_25 : lim cal sc 4 cX4_numberBetween ret 25 lv (.int y :: .int x :: st) M = lim cal sc 4 cX4_numberBetween ret 26 lv (.int (x + y) :: st) M := lim_step dX4_numberBetween_25
theorem sX4_numberBetween_26 : lim cal sc 4 cX4_numberBetween ret 26 lv st M = lim cal sc 4 cX4_numberBetween ret 28 lv (.int 48 :: st) M := (lim_step dX4_numberBetween_26).trans (e_bi k_b_48)
theorem sX4_numberBetween_28 : lim cal sc 4 cX4_numberBetween ret 28 lv (.int y :: .int x :: st) M = lim cal sc 4 cX4_numberBetween ret 29 lv (.int (x - y) :: st) M := lim_step dX4_numberBetween_28
theorem sX4_numberBetween_29 : lim cal sc 4 cX4_numberBetween ret 29 lv (.int y :: .int x :: st) M = guK (rk 8 st) (lim cal sc 4 cX4_numberBetween ret 32 lv (.int (if y < x then y else x) :: st) M) := (lim_step dX4_numberBetween_29).trans (e_min rm_4_56)
theorem sX4_numberBetween_32 : lim cal sc 4 cX4_numberBetween ret 32 (v0 :: v1 :: v2 :: v :: l) (.int x :: st) M = lim cal sc 4 cX4_numberBetween ret 33 (v0 :: v1 :: v2 :: some (.int x) :: l) st M := (lim_step dX4_numberBetween_32).trans (e_istn3)
theorem sX4_numberBetween_33 : lim cal sc 4 cX4_numberBetween ret 33 (v0 :: v1 :: v2 :: v3 :: some (.int x) :: l) st M = lim cal sc 4 cX4_numberBetween ret 36 (v0 :: v1 :: v2 :: v3 :: some (.int (x + 1)) :: l) st M := (lim_step dX4_numberBetween_33).trans (e_inc4 k_i_1)
theorem sX4_numberBetween_36 : lim cal sc 4 cX4_numberBetween ret 36 lv st M = lim cal sc 4 cX4_numberBetween ret 5 lv st M := (lim_step dX4_numberBetween_36).trans (e_goto (t := 5) (by decide))
theorem sX4_numberBetween_39 : lim cal sc 4 cX4_numberBetween ret 39 (v0 :: v1 :: v2 :: some (.int x) :: l) st M = lim cal sc 4 cX4_numberBetween ret 40 (v0 :: v1 :: v2 :: some (.int x) :: l) (.int x :: st) M := lim_step dX4_numberBetween_39
theorem sX4_numberBetween_40 : lim cal sc 4 cX4_numberBetween (some .int) 40 lv [.int x] M = some (some (.int x), M) := (lim_step dX4_numberBetween_40).trans (e_iret)
theorem sX4_wordBetween_0 : lim cal sc 4 cX4_wordBetween ret 0 lv st M = lim cal sc 4 cX4_wordBetween ret 1 lv (.int 0 :: st) M := (lim_step dX4_wordBetween_0).trans (e_ic k_i_0)
theorem sX4_wordBetween_1 : lim cal sc 4 cX4_wordBetween ret 1 (v0 :: v1 :: v2 :: v :: l) (.int x :: st) M = lim cal sc 4 cX4_wordBetween ret 2 (v0 :: v1 :: v2 :: some (.int x) :: l) st M := (lim_step dX4_wordBetween_1).trans (e_istn3)
theorem sX4_wordBetween_2 : lim cal sc 4 cX4_wordBetween ret 2 (v0 :: v1 :: v2 :: some (.int x) :: l) st M = lim cal sc 4 cX4_wordBetween ret 3 (v0 :: v1 :: v2 :: some (.int x) :: l) (.int x :: st) M := lim_step dX4_wordBetween_2
theorem sX4_wordBetween_3 : lim cal sc 4 cX4_wordBetween ret 3 lv st M = lim cal sc 4 cX4_wordBetween ret 5 lv (.int 11 :: st) M := (lim_step dX4_wordBetween_3).trans (e_bi k_b_11)
theorem sX4_wordBetween_5 : lim cal sc 4 cX4_wordBetween ret 5 lv (.int y :: .int x :: st) M = if y < x then lim cal sc 4 cX4_wordBetween ret 29 lv st M else lim cal sc 4 cX4_wordBetween ret 8 lv st M := (lim_step dX4_wordBetween_5).trans (e_cmpgt (t := 29) (by decide))
theorem sX4_wordBetween_8 : lim cal sc 4 cX4_wordBetween ret 8 (some (.ref h) :: l) st M = lim cal sc 4 cX4_wordBetween ret 9 (some (.ref h) :: l) (.ref h :: st) M := lim_step dX4_wordBetween_8
theorem sX4_wordBetween_9 : lim cal sc 4 cX4_wordBetween ret 9 (v0 :: v1 :: v2 :: some (.int x) :: l) st M = lim cal sc 4 cX4_wordBetween ret 10 (v0 :: v1 :: v2 :: some (.int x) :: l) (.int x :: st) M := lim_step dX4_wordBetween_9
theorem sX4_wordBetween_10 : lim cal sc 4 cX4_wordBetween ret 10 lv (a1 :: st) M = guK (rk 8 st) (calK (cal 95 [a1] M) fun q M' => lim cal sc 4 cX4_wordBetween ret 13 lv (q.toList ++ st) M') := (lim_step dX4_wordBetween_10).trans (e_stat1 rm_4_61)
theorem sX4_wordBetween_13 : lim cal sc 4 cX4_wordBetween ret 13 (v0 :: some (.int x) :: l) st M = lim cal sc 4 cX4_wordBetween ret 14 (v0 :: some (.int x) :: l) (.int x :: st) M := lim_step dX4_wordBetween_13
theorem sX4_wordBetween_14 : lim cal sc 4 cX4_wordBetween ret 14 (v0 :: v1 :: some (.int x) :: l) st M = lim cal sc 4 cX4_wordBetween ret 15 (v0 :: v1 :: some (.int x) :: l) (.int x :: st) M := lim_step dX4_wordBetween_14
theorem sX4_wordBetween_15 : lim cal sc 4 cX4_wordBetween ret 15 lv (a3 :: a2 :: a1 :: .ref h :: st) M = guK (isCl 3 h) (guK (rk 8 st) (calK (cal 96 [.ref h, a1, a2, a3] M) fun q M' => lim cal sc 4 cX4_wordBetween ret 18 lv (q.toList ++ st) M')) := (lim_step dX4_wordBetween_15).trans (e_virt3 rm_4_65 mq_96)
theorem sX4_wordBetween_18 : lim cal sc 4 cX4_wordBetween ret 18 lv (.int x :: st) M = if x = 0 then lim cal sc 4 cX4_wordBetween ret 23 lv st M else lim cal sc 4 cX4_wordBetween ret 21 lv st M := (lim_step dX4_wordBetween_18).trans (e_ifeq (t := 23) (by decide))
theorem sX4_wordBetween_21 : lim cal sc 4 cX4_wordBetween ret 21 (v0 :: v1 :: v2 :: some (.int x) :: l) st M = lim cal sc 4 cX4_wordBetween ret 22 (v0 :: v1 :: v2 :: some (.int x) :: l) (.int x :: st) M := lim_step dX4_wordBetween_21
theorem sX4_wordBetween_22 : lim cal sc 4 cX4_wordBetween (some .int) 22 lv [.int x] M = some (some (.int x), M) := (lim_step dX4_wordBetween_22).trans (e_iret)
theorem sX4_wordBetween_23 : lim cal sc 4 cX4_wordBetween ret 23 (v0 :: v1 :: v2 :: some (.int x) :: l) st M = lim cal sc 4 cX4_wordBetween ret 26 (v0 :: v1 :: v2 :: some (.int (x + 1)) :: l) st M := (lim_step dX4_wordBetween_23).trans (e_inc3 k_i_1)
theorem sX4_wordBetween_26 : lim cal sc 4 cX4_wordBetween ret 26 lv st M = lim cal sc 4 cX4_wordBetween ret 2 lv st M := (lim_step dX4_wordBetween_26).trans (e_goto (t := 2) (by decide))
theorem sX4_wordBetween_29 : lim cal sc 4 cX4_wordBetween ret 29 lv st M = lim cal sc 4 cX4_wordBetween ret 30 lv (.int (-1) :: st) M := (lim_step dX4_wordBetween_29).trans (e_ic k_i_m1)
theorem sX4_wordBetween_30 : lim cal sc 4 cX4_wordBetween (some .int) 30 lv [.int x] M = some (some (.int x), M) := (lim_step dX4_wordBetween_30).trans (e_iret)
theorem sX4_isWord_0 : lim cal sc 4 cX4_isWord ret 0 (v0 :: some (.ref h) :: l) st M = lim cal sc 4 cX4_isWord ret 1 (v0 :: some (.ref h) :: l) (.ref h :: st) M := lim_step dX4_isWord_0
theorem sX4_isWord_1 : lim cal sc 4 cX4_isWord ret 1 lv (.ref h :: st) M = guK (isCl 100 h) (guK (rk 8 st) (calK (cal 97 [.ref h] M) fun q M' => lim cal sc 4 cX4_isWord ret 4 lv (q.toList ++ st) M')) := (lim_step dX4_isWord_1).trans (e_virt0 rm_4_69 mq_97)
theorem sX4_isWord_4 : lim cal sc 4 cX4_isWord ret 4 (v0 :: v1 :: v2 :: some (.int x) :: l) st M = lim cal sc 4 cX4_isWord ret 5 (v0 :: v1 :: v2 :: some (.int x) :: l) (.int x :: st) M := lim_step dX4_isWord_4
theorem sX4_isWord_5 : lim cal sc 4 cX4_isWord ret 5 (v0 :: v1 :: some (.int x) :: l) st M = lim cal sc 4 cX4_isWord ret 6 (v0 :: v1 :: some (.int x) :: l) (.int x :: st) M := lim_step dX4_isWord_5
theorem sX4_isWord_6 : lim cal sc 4 cX4_isWord ret 6 lv (.int y :: .int x :: st) M = lim cal sc 4 cX4_isWord ret 7 lv (.int (x - y) :: st) M := lim_step dX4_isWord_6
theorem sX4_isWord_7 : lim cal sc 4 cX4_isWord ret 7 lv (.int y :: .int x :: st) M = if x = y then lim cal sc 4 cX4_isWord ret 12 lv st M else lim cal sc 4 cX4_isWord ret 10 lv st M := (lim_step dX4_isWord_7).trans (e_cmpeq (t := 12) (by decide))
theorem sX4_isWord_10 : lim cal sc 4 cX4_isWord ret 10 lv st M = lim cal sc 4 cX4_isWord ret 11 lv (.int 0 :: st) M := (lim_step dX4_isWord_10).trans (e_ic k_i_0)
theorem sX4_isWord_11 : lim cal sc 4 cX4_isWord (some .boolean) 11 lv [.int x] M = guK (narB .boolean x) (some (some (.int x), M)) := (lim_step dX4_isWord_11).trans (e_zret)
theorem sX4_isWord_12 : lim cal sc 4 cX4_isWord ret 12 lv st M = lim cal sc 4 cX4_isWord ret 13 lv (.int 0 :: st) M := (lim_step dX4_isWord_12).trans (e_ic k_i_0)
theorem sX4_isWord_13 : lim cal sc 4 cX4_isWord ret 13 (v0 :: v1 :: v2 :: v3 :: v :: l) (.int x :: st) M = lim cal sc 4 cX4_isWord ret 15 (v0 :: v1 :: v2 :: v3 :: some (.int x) :: l) st M := (lim_step dX4_isWord_13).trans (e_ist4)
theorem sX4_isWord_15 : lim cal sc 4 cX4_isWord ret 15 (v0 :: v1 :: v2 :: v3 :: some (.int x) :: l) st M = lim cal sc 4 cX4_isWord ret 17 (v0 :: v1 :: v2 :: v3 :: some (.int x) :: l) (.int x :: st) M := lim_step dX4_isWord_15
theorem sX4_isWord_17 : lim cal sc 4 cX4_isWord ret 17 (v0 :: some (.ref h) :: l) st M = lim cal sc 4 cX4_isWord ret 18 (v0 :: some (.ref h) :: l) (.ref h :: st) M := lim_step dX4_isWord_17
theorem sX4_isWord_18 : lim cal sc 4 cX4_isWord ret 18 lv (.ref h :: st) M = guK (isCl 100 h) (guK (rk 8 st) (calK (cal 97 [.ref h] M) fun q M' => lim cal sc 4 cX4_isWord ret 21 lv (q.toList ++ st) M')) := (lim_step dX4_isWord_18).trans (e_virt0 rm_4_69 mq_97)
theorem sX4_isWord_21 : lim cal sc 4 cX4_isWord ret 21 lv (.int y :: .int x :: st) M = if y ≤ x then lim cal sc 4 cX4_isWord ret 50 lv st M else lim cal sc 4 cX4_isWord ret 24 lv st M := (lim_step dX4_isWord_21).trans (e_cmpge (t := 50) (by decide))
theorem sX4_isWord_24 : lim cal sc 4 cX4_isWord ret 24 (v0 :: some (.ref h) :: l) st M = lim cal sc 4 cX4_isWord ret 25 (v0 :: some (.ref h) :: l) (.ref h :: st) M := lim_step dX4_isWord_24
theorem sX4_isWord_25 : lim cal sc 4 cX4_isWord ret 25 (v0 :: v1 :: v2 :: v3 :: some (.int x) :: l) st M = lim cal sc 4 cX4_isWord ret 27 (v0 :: v1 :: v2 :: v3 :: some (.int x) :: l) (.int x :: st) M := lim_step dX4_isWord_25
theorem sX4_isWord_27 : lim cal sc 4 cX4_isWord ret 27 lv (a1 :: .ref h :: st) M = guK (isCl 100 h) (guK (rk 8 st) (calK (cal 99 [.ref h, a1] M) fun q M' => lim cal sc 4 cX4_isWord ret 30 lv (q.toList ++ st) M')) := (lim_step dX4_isWord_27).trans (e_virt1 rm_4_75 mq_99)
theorem sX4_isWord_30 : lim cal sc 4 cX4_isWord ret 30 (some (.ref h) :: l) st M = lim cal sc 4 cX4_isWord ret 31 (some (.ref h) :: l) (.ref h :: st) M := lim_step dX4_isWord_30
theorem sX4_isWord_31 : lim cal sc 4 cX4_isWord ret 31 lv (.ref h :: st) M = opK (slotV 3 0 h M) fun q => lim cal sc 4 cX4_isWord ret 34 lv (q :: st) M := (lim_step dX4_isWord_31).trans (e_get (by decide) rf_4_9)
theorem sX4_isWord_34 : lim cal sc 4 cX4_isWord ret 34 (v0 :: v1 :: some (.int x) :: l) st M = lim cal sc 4 cX4_isWord ret 35 (v0 :: v1 :: some (.int x) :: l) (.int x :: st) M := lim_step dX4_isWord_34
theorem sX4_isWord_35 : lim cal sc 4 cX4_isWord ret 35 (v0 :: v1 :: v2 :: v3 :: some (.int x) :: l) st M = lim cal sc 4 cX4_isWord ret 37 (v0 :: v1 :: v2 :: v3 :: some (.int x) :: l) (.int x :: st) M := lim_step dX4_isWord_35
theorem sX4_isWord_37 : lim cal sc 4 cX4_isWord ret 37 lv (.int y :: .int x :: st) M = lim cal sc 4 cX4_isWord ret 38 lv (.int (x + y) :: st) M := lim_step dX4_isWord_37
theorem sX4_isWord_38 : lim cal sc 4 cX4_isWord ret 38 lv (.int x :: .ref h :: st) M = opK (arrV9 sc h M) fun q => guK (inb x q.1) (lim cal sc 4 cX4_isWord ret 39 lv (.int (q.2 x.toNatClampNeg) :: st) M) := (lim_step dX4_isWord_38).trans (e_iald)
theorem sX4_isWord_39 : lim cal sc 4 cX4_isWord ret 39 lv (.int y :: .int x :: st) M = if x = y then lim cal sc 4 cX4_isWord ret 44 lv st M else lim cal sc 4 cX4_isWord ret 42 lv st M := (lim_step dX4_isWord_39).trans (e_cmpeq (t := 44) (by decide))
theorem sX4_isWord_42 : lim cal sc 4 cX4_isWord ret 42 lv st M = lim cal sc 4 cX4_isWord ret 43 lv (.int 0 :: st) M := (lim_step dX4_isWord_42).trans (e_ic k_i_0)
theorem sX4_isWord_43 : lim cal sc 4 cX4_isWord (some .boolean) 43 lv [.int x] M = guK (narB .boolean x) (some (some (.int x), M)) := (lim_step dX4_isWord_43).trans (e_zret)
theorem sX4_isWord_44 : lim cal sc 4 cX4_isWord ret 44 (v0 :: v1 :: v2 :: v3 :: some (.int x) :: l) st M = lim cal sc 4 cX4_isWord ret 47 (v0 :: v1 :: v2 :: v3 :: some (.int (x + 1)) :: l) st M := (lim_step dX4_isWord_44).trans (e_inc4 k_i_1)
theorem sX4_isWord_47 : lim cal sc 4 cX4_isWord ret 47 lv st M = lim cal sc 4 cX4_isWord ret 15 lv st M := (lim_step dX4_isWord_47).trans (e_goto (t := 15) (by decide))
theorem sX4_isWord_50 : lim cal sc 4 cX4_isWord ret 50 lv st M = lim cal sc 4 cX4_isWord ret 51 lv (.int 1 :: st) M := (lim_step dX4_isWord_50).trans (e_ic k_i_1)
theorem sX4_isWord_51 : lim cal sc 4 cX4_isWord (some .boolean) 51 lv [.int x] M = guK (narB .boolean x) (some (some (.int x), M)) := (lim_step dX4_isWord_51).trans (e_zret)
theorem sX4_wordOf_0 : lim cal sc 4 cX4_wordOf ret 0 (some (.int x) :: l) st M = lim cal sc 4 cX4_wordOf ret 1 (some (.int x) :: l) (.int x :: st) M := lim_step dX4_wordOf_0
theorem sX4_wordOf_1 : lim cal sc 4 cX4_wordOf ret 1 lv (.int x :: st) M = if x.toInt < 0 ∨ 10 < x.toInt then lim cal sc 4 cX4_wordOf ret 93 lv st M else lim cal sc 4 cX4_wordOf ret ([60, 63, 66, 69, 72, 75, 78, 81, 84, 87, 90].getD (x.toInt - 0).toNat 0) lv st M := (lim_step dX4_wordOf_1).trans (e_tab [60, 63, 66, 69, 72, 75, 78, 81, 84, 87, 90] (by decide) (by decide) (by decide))
theorem sX4_wordOf_60 : lim cal sc 4 cX4_wordOf ret 60 lv st M = lim cal sc 4 cX4_wordOf ret 62 lv (.ref 160 :: st) M := (lim_step dX4_wordOf_60).trans (e_ldcs rc_4_79 rk_4_79)
theorem sX4_wordOf_62 : lim cal sc 4 cX4_wordOf (some (.object "java/lang/String")) 62 lv [.ref h] M = some (some (.ref h), M) := (lim_step dX4_wordOf_62).trans (e_aret)
theorem sX4_wordOf_63 : lim cal sc 4 cX4_wordOf ret 63 lv st M = lim cal sc 4 cX4_wordOf ret 65 lv (.ref 161 :: st) M := (lim_step dX4_wordOf_63).trans (e_ldcs rc_4_81 rk_4_81)
theorem sX4_wordOf_65 : lim cal sc 4 cX4_wordOf (some (.object "java/lang/String")) 65 lv [.ref h] M = some (some (.ref h), M) := (lim_step dX4_wordOf_65).trans (e_aret)
theorem sX4_wordOf_66 : lim cal sc 4 cX4_wordOf ret 66 lv st M = lim cal sc 4 cX4_wordOf ret 68 lv (.ref 162 :: st) M := (lim_step dX4_wordOf_66).trans (e_ldcs rc_4_83 rk_4_83)
theorem sX4_wordOf_68 : lim cal sc 4 cX4_wordOf (some (.object "java/lang/String")) 68 lv [.ref h] M = some (some (.ref h), M) := (lim_step dX4_wordOf_68).trans (e_aret)
theorem sX4_wordOf_69 : lim cal sc 4 cX4_wordOf ret 69 lv st M = lim cal sc 4 cX4_wordOf ret 71 lv (.ref 163 :: st) M := (lim_step dX4_wordOf_69).trans (e_ldcs rc_4_85 rk_4_85)
theorem sX4_wordOf_71 : lim cal sc 4 cX4_wordOf (some (.object "java/lang/String")) 71 lv [.ref h] M = some (some (.ref h), M) := (lim_step dX4_wordOf_71).trans (e_aret)
theorem sX4_wordOf_72 : lim cal sc 4 cX4_wordOf ret 72 lv st M = lim cal sc 4 cX4_wordOf ret 74 lv (.ref 164 :: st) M := (lim_step dX4_wordOf_72).trans (e_ldcs rc_4_87 rk_4_87)
theorem sX4_wordOf_74 : lim cal sc 4 cX4_wordOf (some (.object "java/lang/String")) 74 lv [.ref h] M = some (some (.ref h), M) := (lim_step dX4_wordOf_74).trans (e_aret)
theorem sX4_wordOf_75 : lim cal sc 4 cX4_wordOf ret 75 lv st M = lim cal sc 4 cX4_wordOf ret 77 lv (.ref 165 :: st) M := (lim_step dX4_wordOf_75).trans (e_ldcs rc_4_89 rk_4_89)
theorem sX4_wordOf_77 : lim cal sc 4 cX4_wordOf (some (.object "java/lang/String")) 77 lv [.ref h] M = some (some (.ref h), M) := (lim_step dX4_wordOf_77).trans (e_aret)
theorem sX4_wordOf_78 : lim cal sc 4 cX4_wordOf ret 78 lv st M = lim cal sc 4 cX4_wordOf ret 80 lv (.ref 166 :: st) M := (lim_step dX4_wordOf_78).trans (e_ldcs rc_4_91 rk_4_91)
theorem sX4_wordOf_80 : lim cal sc 4 cX4_wordOf (some (.object "java/lang/String")) 80 lv [.ref h] M = some (some (.ref h), M) := (lim_step dX4_wordOf_80).trans (e_aret)
theorem sX4_wordOf_81 : lim cal sc 4 cX4_wordOf ret 81 lv st M = lim cal sc 4 cX4_wordOf ret 83 lv (.ref 167 :: st) M := (lim_step dX4_wordOf_81).trans (e_ldcs rc_4_93 rk_4_93)
theorem sX4_wordOf_83 : lim cal sc 4 cX4_wordOf (some (.object "java/lang/String")) 83 lv [.ref h] M = some (some (.ref h), M) := (lim_step dX4_wordOf_83).trans (e_aret)
theorem sX4_wordOf_84 : lim cal sc 4 cX4_wordOf ret 84 lv st M = lim cal sc 4 cX4_wordOf ret 86 lv (.ref 168 :: st) M := (lim_step dX4_wordOf_84).trans (e_ldcs rc_4_95 rk_4_95)
theorem sX4_wordOf_86 : lim cal sc 4 cX4_wordOf (some (.object "java/lang/String")) 86 lv [.ref h] M = some (some (.ref h), M) := (lim_step dX4_wordOf_86).trans (e_aret)
theorem sX4_wordOf_87 : lim cal sc 4 cX4_wordOf ret 87 lv st M = lim cal sc 4 cX4_wordOf ret 89 lv (.ref 169 :: st) M := (lim_step dX4_wordOf_87).trans (e_ldcs rc_4_97 rk_4_97)
theorem sX4_wordOf_89 : lim cal sc 4 cX4_wordOf (some (.object "java/lang/String")) 89 lv [.ref h] M = some (some (.ref h), M) := (lim_step dX4_wordOf_89).trans (e_aret)
theorem sX4_wordOf_90 : lim cal sc 4 cX4_wordOf ret 90 lv st M = lim cal sc 4 cX4_wordOf ret 92 lv (.ref 170 :: st) M := (lim_step dX4_wordOf_90).trans (e_ldcs rc_4_99 rk_4_99)
theorem sX4_wordOf_92 : lim cal sc 4 cX4_wordOf (some (.object "java/lang/String")) 92 lv [.ref h] M = some (some (.ref h), M) := (lim_step dX4_wordOf_92).trans (e_aret)
theorem sX4_wordOf_93 : lim cal sc 4 cX4_wordOf ret 93 lv st M = lim cal sc 4 cX4_wordOf ret 95 lv (.ref 171 :: st) M := (lim_step dX4_wordOf_93).trans (e_ldcs rc_4_101 rk_4_101)
theorem sX4_wordOf_95 : lim cal sc 4 cX4_wordOf (some (.object "java/lang/String")) 95 lv [.ref h] M = some (some (.ref h), M) := (lim_step dX4_wordOf_95).trans (e_aret)
theorem sX4_tellTo_0 : lim cal sc 4 cX4_tellTo ret 0 (some (.ref h) :: l) st M = lim cal sc 4 cX4_tellTo ret 1 (some (.ref h) :: l) (.ref h :: st) M := lim_step dX4_tellTo_0
theorem sX4_tellTo_1 : lim cal sc 4 cX4_tellTo ret 1 lv (.ref h :: st) M = guK (isCl 3 h) (guK (rk 8 st) (calK (cal 91 [.ref h] M) fun q M' => lim cal sc 4 cX4_tellTo ret 4 lv (q.toList ++ st) M')) := (lim_step dX4_tellTo_1).trans (e_virt0 rm_4_103 mq_91)
theorem sX4_tellTo_4 : lim cal sc 4 cX4_tellTo ret 4 (some (.ref h) :: l) st M = lim cal sc 4 cX4_tellTo ret 5 (some (.ref h) :: l) (.ref h :: st) M := lim_step dX4_tellTo_4
theorem sX4_tellTo_5 : lim cal sc 4 cX4_tellTo ret 5 lv st M = lim cal sc 4 cX4_tellTo ret 6 lv (.int 0 :: st) M := (lim_step dX4_tellTo_5).trans (e_ic k_i_0)
theorem sX4_tellTo_6 : lim cal sc 4 cX4_tellTo ret 6 lv (.int x :: .ref h :: st) M = guK (isInt 3 6 h) (lim cal sc 4 cX4_tellTo ret 9 lv st (mset M h 6 x)) := (lim_step dX4_tellTo_6).trans (e_put rf_4_31 rfl)
theorem sX4_tellTo_9 : lim cal sc 4 cX4_tellTo ret 9 lv st M = lim cal sc 4 cX4_tellTo ret 10 lv (.int 1 :: st) M := (lim_step dX4_tellTo_9).trans (e_ic k_i_1)
theorem sX4_tellTo_10 : lim cal sc 4 cX4_tellTo ret 10 (v0 :: v1 :: v :: l) (.int x :: st) M = lim cal sc 4 cX4_tellTo ret 11 (v0 :: v1 :: some (.int x) :: l) st M := (lim_step dX4_tellTo_10).trans (e_istn2)
theorem sX4_tellTo_11 : lim cal sc 4 cX4_tellTo ret 11 (v0 :: v1 :: some (.int x) :: l) st M = lim cal sc 4 cX4_tellTo ret 12 (v0 :: v1 :: some (.int x) :: l) (.int x :: st) M := lim_step dX4_tellTo_11
theorem sX4_tellTo_12 : lim cal sc 4 cX4_tellTo ret 12 lv st M = lim cal sc 4 cX4_tellTo ret 14 lv (.int 120 :: st) M := (lim_step dX4_tellTo_12).trans (e_bi k_b_120)
theorem sX4_tellTo_14 : lim cal sc 4 cX4_tellTo ret 14 lv (.int y :: .int x :: st) M = if y < x then lim cal sc 4 cX4_tellTo ret 65 lv st M else lim cal sc 4 cX4_tellTo ret 17 lv st M := (lim_step dX4_tellTo_14).trans (e_cmpgt (t := 65) (by decide))
theorem sX4_tellTo_17 : lim cal sc 4 cX4_tellTo ret 17 (some (.ref h) :: l) st M = lim cal sc 4 cX4_tellTo ret 18 (some (.ref h) :: l) (.ref h :: st) M := lim_step dX4_tellTo_17
theorem sX4_tellTo_18 : lim cal sc 4 cX4_tellTo ret 18 (v0 :: some (.ref h) :: l) st M = lim cal sc 4 cX4_tellTo ret 19 (v0 :: some (.ref h) :: l) (.ref h :: st) M := lim_step dX4_tellTo_18
theorem sX4_tellTo_19 : lim cal sc 4 cX4_tellTo ret 19 lv (a1 :: .ref h :: st) M = guK (isCl 3 h) (guK (rk 8 st) (calK (cal 107 [.ref h, a1] M) fun q M' => lim cal sc 4 cX4_tellTo ret 22 lv (q.toList ++ st) M')) := (lim_step dX4_tellTo_19).trans (e_virt1 rm_4_106 mq_107)
theorem sX4_tellTo_22 : lim cal sc 4 cX4_tellTo ret 22 lv (.int x :: st) M = if x = 0 then lim cal sc 4 cX4_tellTo ret 65 lv st M else lim cal sc 4 cX4_tellTo ret 25 lv st M := (lim_step dX4_tellTo_22).trans (e_ifeq (t := 65) (by decide))
theorem sX4_tellTo_25 : lim cal sc 4 cX4_tellTo ret 25 (some (.ref h) :: l) st M = lim cal sc 4 cX4_tellTo ret 26 (some (.ref h) :: l) (.ref h :: st) M := lim_step dX4_tellTo_25
theorem sX4_tellTo_26 : lim cal sc 4 cX4_tellTo ret 26 lv (.ref h :: st) M = opK (slotV 3 2 h M) fun q => lim cal sc 4 cX4_tellTo ret 29 lv (q :: st) M := (lim_step dX4_tellTo_26).trans (e_get (by decide) rf_4_19)
theorem sX4_tellTo_29 : lim cal sc 4 cX4_tellTo ret 29 (some (.ref h) :: l) st M = lim cal sc 4 cX4_tellTo ret 30 (some (.ref h) :: l) (.ref h :: st) M := lim_step dX4_tellTo_29
theorem sX4_tellTo_30 : lim cal sc 4 cX4_tellTo ret 30 lv (.ref h :: st) M = opK (slotV 3 6 h M) fun q => lim cal sc 4 cX4_tellTo ret 33 lv (q :: st) M := (lim_step dX4_tellTo_30).trans (e_get (by decide) rf_4_31)
theorem sX4_tellTo_33 : lim cal sc 4 cX4_tellTo ret 33 lv (.int x :: .ref h :: st) M = opK (arrV9 sc h M) fun q => guK (inb x q.1) (lim cal sc 4 cX4_tellTo ret 34 lv (.int (q.2 x.toNatClampNeg) :: st) M) := (lim_step dX4_tellTo_33).trans (e_iald)
theorem sX4_tellTo_34 : lim cal sc 4 cX4_tellTo ret 34 lv (.int x :: st) M = if x = 0 then lim cal sc 4 cX4_tellTo ret 37 lv st M else lim cal sc 4 cX4_tellTo ret 39 lv st M := (lim_step dX4_tellTo_34).trans (e_ifne (t := 39) (by decide))
theorem sX4_tellTo_37 : lim cal sc 4 cX4_tellTo ret 37 (v0 :: v1 :: some (.int x) :: l) st M = lim cal sc 4 cX4_tellTo ret 38 (v0 :: v1 :: some (.int x) :: l) (.int x :: st) M := lim_step dX4_tellTo_37
theorem sX4_tellTo_38 : lim cal sc 4 cX4_tellTo (some .int) 38 lv [.int x] M = some (some (.int x), M) := (lim_step dX4_tellTo_38).trans (e_iret)
theorem sX4_tellTo_39 : lim cal sc 4 cX4_tellTo ret 39 (some (.ref h) :: l) st M = lim cal sc 4 cX4_tellTo ret 40 (some (.ref h) :: l) (.ref h :: st) M := lim_step dX4_tellTo_39
theorem sX4_tellTo_40 : lim cal sc 4 cX4_tellTo ret 40 lv (.ref h :: st) M = opK (slotV 3 2 h M) fun q => lim cal sc 4 cX4_tellTo ret 43 lv (q :: st) M := (lim_step dX4_tellTo_40).trans (e_get (by decide) rf_4_19)
theorem sX4_tellTo_43 : lim cal sc 4 cX4_tellTo ret 43 (some (.ref h) :: l) st M = lim cal sc 4 cX4_tellTo ret 44 (some (.ref h) :: l) (.ref h :: st) M := lim_step dX4_tellTo_43
theorem sX4_tellTo_44 : lim cal sc 4 cX4_tellTo ret 44 lv (.ref h :: st) M = opK (slotV 3 6 h M) fun q => lim cal sc 4 cX4_tellTo ret 47 lv (q :: st) M := (lim_step dX4_tellTo_44).trans (e_get (by decide) rf_4_31)
theorem sX4_tellTo_47 : lim cal sc 4 cX4_tellTo ret 47 lv (.int x :: .ref h :: st) M = opK (arrV9 sc h M) fun q => guK (inb x q.1) (lim cal sc 4 cX4_tellTo ret 48 lv (.int (q.2 x.toNatClampNeg) :: st) M) := (lim_step dX4_tellTo_47).trans (e_iald)
theorem sX4_tellTo_48 : lim cal sc 4 cX4_tellTo ret 48 lv st M = lim cal sc 4 cX4_tellTo ret 49 lv (.int 3 :: st) M := (lim_step dX4_tellTo_48).trans (e_ic k_i_3)
theorem sX4_tellTo_49 : lim cal sc 4 cX4_tellTo ret 49 lv (.int y :: .int x :: st) M = if x = y then lim cal sc 4 cX4_tellTo ret 55 lv st M else lim cal sc 4 cX4_tellTo ret 52 lv st M := (lim_step dX4_tellTo_49).trans (e_cmpeq (t := 55) (by decide))
theorem sX4_tellTo_52 : lim cal sc 4 cX4_tellTo ret 52 lv st M = lim cal sc 4 cX4_tellTo ret 65 lv st M := (lim_step dX4_tellTo_52).trans (e_goto (t := 65) (by decide))
theorem sX4_tellTo_55 : lim cal sc 4 cX4_tellTo ret 55 (some (.ref h) :: l) st M = lim cal sc 4 cX4_tellTo ret 56 (some (.ref h) :: l) (.ref h :: st) M := lim_step dX4_tellTo_55
theorem sX4_tellTo_56 : lim cal sc 4 cX4_tellTo ret 56 lv (.ref h :: st) M = guK (isCl 3 h) (guK (rk 8 st) (calK (cal 109 [.ref h] M) fun q M' => lim cal sc 4 cX4_tellTo ret 59 lv (q.toList ++ st) M')) := (lim_step dX4_tellTo_56).trans (e_virt0 rm_4_110 mq_109)
theorem sX4_tellTo_59 : lim cal sc 4 cX4_tellTo ret 59 (v0 :: v1 :: some (.int x) :: l) st M = lim cal sc 4 cX4_tellTo ret 62 (v0 :: v1 :: some (.int (x + 1)) :: l) st M := (lim_step dX4_tellTo_59).trans (e_inc2 k_i_1)
theorem sX4_tellTo_62 : lim cal sc 4 cX4_tellTo ret 62 lv st M = lim cal sc 4 cX4_tellTo ret 11 lv st M := (lim_step dX4_tellTo_62).trans (e_goto (t := 11) (by decide))
theorem sX4_tellTo_65 : lim cal sc 4 cX4_tellTo ret 65 lv st M = lim cal sc 4 cX4_tellTo ret 66 lv (.int (-1) :: st) M := (lim_step dX4_tellTo_65).trans (e_ic k_i_m1)
theorem sX4_tellTo_66 : lim cal sc 4 cX4_tellTo ret 66 (some (.ref h) :: l) st M = lim cal sc 4 cX4_tellTo ret 67 (some (.ref h) :: l) (.ref h :: st) M := lim_step dX4_tellTo_66
theorem sX4_tellTo_67 : lim cal sc 4 cX4_tellTo ret 67 lv (.ref h :: st) M = opK (slotV 3 3 h M) fun q => lim cal sc 4 cX4_tellTo ret 70 lv (q :: st) M := (lim_step dX4_tellTo_67).trans (e_get (by decide) rf_4_22)
theorem sX4_tellTo_70 : lim cal sc 4 cX4_tellTo ret 70 (some (.ref h) :: l) st M = lim cal sc 4 cX4_tellTo ret 71 (some (.ref h) :: l) (.ref h :: st) M := lim_step dX4_tellTo_70
theorem sX4_tellTo_71 : lim cal sc 4 cX4_tellTo ret 71 lv (.ref h :: st) M = opK (slotV 3 6 h M) fun q => lim cal sc 4 cX4_tellTo ret 74 lv (q :: st) M := (lim_step dX4_tellTo_71).trans (e_get (by decide) rf_4_31)
theorem sX4_tellTo_74 : lim cal sc 4 cX4_tellTo ret 74 lv (.int x :: .ref h :: st) M = opK (arrV9 sc h M) fun q => guK (inb x q.1) (lim cal sc 4 cX4_tellTo ret 75 lv (.int (q.2 x.toNatClampNeg) :: st) M) := (lim_step dX4_tellTo_74).trans (e_iald)
theorem sX4_tellTo_75 : lim cal sc 4 cX4_tellTo ret 75 lv (.int y :: .int x :: st) M = lim cal sc 4 cX4_tellTo ret 76 lv (.int (x - y) :: st) M := lim_step dX4_tellTo_75
theorem sX4_tellTo_76 : lim cal sc 4 cX4_tellTo (some .int) 76 lv [.int x] M = some (some (.int x), M) := (lim_step dX4_tellTo_76).trans (e_iret)
theorem sX4_step_0 : lim cal sc 4 cX4_step ret 0 (some (.ref h) :: l) st M = lim cal sc 4 cX4_step ret 1 (some (.ref h) :: l) (.ref h :: st) M := lim_step dX4_step_0
theorem sX4_step_1 : lim cal sc 4 cX4_step ret 1 lv (.ref h :: st) M = opK (slotV 3 6 h M) fun q => lim cal sc 4 cX4_step ret 4 lv (q :: st) M := (lim_step dX4_step_1).trans (e_get (by decide) rf_4_31)
theorem sX4_step_4 : lim cal sc 4 cX4_step ret 4 (some (.ref h) :: l) st M = lim cal sc 4 cX4_step ret 5 (some (.ref h) :: l) (.ref h :: st) M := lim_step dX4_step_4
theorem sX4_step_5 : lim cal sc 4 cX4_step ret 5 lv (.ref h :: st) M = opK (slotV 3 5 h M) fun q => lim cal sc 4 cX4_step ret 8 lv (q :: st) M := (lim_step dX4_step_5).trans (e_get (by decide) rf_4_28)
theorem sX4_step_8 : lim cal sc 4 cX4_step ret 8 lv st M = lim cal sc 4 cX4_step ret 9 lv (.int 1 :: st) M := (lim_step dX4_step_8).trans (e_ic k_i_1)
theorem sX4_step_9 : lim cal sc 4 cX4_step ret 9 lv (.int y :: .int x :: st) M = lim cal sc 4 cX4_step ret 10 lv (.int (x - y) :: st) M := lim_step dX4_step_9
theorem sX4_step_10 : lim cal sc 4 cX4_step ret 10 lv (.int y :: .int x :: st) M = if y ≤ x then lim cal sc 4 cX4_step ret 23 lv st M else lim cal sc 4 cX4_step ret 13 lv st M := (lim_step dX4_step_10).trans (e_cmpge (t := 23) (by decide))
theorem sX4_step_13 : lim cal sc 4 cX4_step ret 13 (some (.ref h) :: l) st M = lim cal sc 4 cX4_step ret 14 (some (.ref h) :: l) (.ref h :: st) M := lim_step dX4_step_13
theorem sX4_step_14 : lim cal sc 4 cX4_step ret 14 lv (.ref h :: st) M = lim cal sc 4 cX4_step ret 15 lv (.ref h :: .ref h :: st) M := lim_step dX4_step_14
theorem sX4_step_14_i : lim cal sc 4 cX4_step ret 14 lv (.int x :: st) M = lim cal sc 4 cX4_step ret 15 lv (.int x :: .int x :: st) M := lim_step dX4_step_14
theorem sX4_step_15 : lim cal sc 4 cX4_step ret 15 lv (.ref h :: st) M = opK (slotV 3 6 h M) fun q => lim cal sc 4 cX4_step ret 18 lv (q :: st) M := (lim_step dX4_step_15).trans (e_get (by decide) rf_4_31)
theorem sX4_step_18 : lim cal sc 4 cX4_step ret 18 lv st M = lim cal sc 4 cX4_step ret 19 lv (.int 1 :: st) M := (lim_step dX4_step_18).trans (e_ic k_i_1)
theorem sX4_step_19 : lim cal sc 4 cX4_step ret 19 lv (.int y :: .int x :: st) M = lim cal sc 4 cX4_step ret 20 lv (.int (x + y) :: st) M := lim_step dX4_step_19
theorem sX4_step_20 : lim cal sc 4 cX4_step ret 20 lv (.int x :: .ref h :: st) M = guK (isInt 3 6 h) (lim cal sc 4 cX4_step ret 23 lv st (mset M h 6 x)) := (lim_step dX4_step_20).trans (e_put rf_4_31 rfl)
theorem sX4_step_23 : lim cal sc 4 cX4_step none 23 lv [] M = some (none, M) := (lim_step dX4_step_23).trans (e_vret)
theorem sX4_tellItem_0 : lim cal sc 4 cX4_tellItem ret 0 (some (.ref h) :: l) st M = lim cal sc 4 cX4_tellItem ret 1 (some (.ref h) :: l) (.ref h :: st) M := lim_step dX4_tellItem_0
theorem sX4_tellItem_1 : lim cal sc 4 cX4_tellItem ret 1 lv (.ref h :: st) M = opK (slotV 3 2 h M) fun q => lim cal sc 4 cX4_tellItem ret 4 lv (q :: st) M := (lim_step dX4_tellItem_1).trans (e_get (by decide) rf_4_19)
theorem sX4_tellItem_4 : lim cal sc 4 cX4_tellItem ret 4 (some (.ref h) :: l) st M = lim cal sc 4 cX4_tellItem ret 5 (some (.ref h) :: l) (.ref h :: st) M := lim_step dX4_tellItem_4
theorem sX4_tellItem_5 : lim cal sc 4 cX4_tellItem ret 5 lv (.ref h :: st) M = opK (slotV 3 6 h M) fun q => lim cal sc 4 cX4_tellItem ret 8 lv (q :: st) M := (lim_step dX4_tellItem_5).trans (e_get (by decide) rf_4_31)
theorem sX4_tellItem_8 : lim cal sc 4 cX4_tellItem ret 8 lv (.int x :: .ref h :: st) M = opK (arrV9 sc h M) fun q => guK (inb x q.1) (lim cal sc 4 cX4_tellItem ret 9 lv (.int (q.2 x.toNatClampNeg) :: st) M) := (lim_step dX4_tellItem_8).trans (e_iald)
theorem sX4_tellItem_9 : lim cal sc 4 cX4_tellItem ret 9 lv st M = lim cal sc 4 cX4_tellItem ret 10 lv (.int 1 :: st) M := (lim_step dX4_tellItem_9).trans (e_ic k_i_1)
theorem sX4_tellItem_10 : lim cal sc 4 cX4_tellItem ret 10 lv (.int y :: .int x :: st) M = if x = y then lim cal sc 4 cX4_tellItem ret 13 lv st M else lim cal sc 4 cX4_tellItem ret 25 lv st M := (lim_step dX4_tellItem_10).trans (e_cmpne (t := 25) (by decide))
theorem sX4_tellItem_13 : lim cal sc 4 cX4_tellItem ret 13 (some (.ref h) :: l) st M = lim cal sc 4 cX4_tellItem ret 14 (some (.ref h) :: l) (.ref h :: st) M := lim_step dX4_tellItem_13
theorem sX4_tellItem_14 : lim cal sc 4 cX4_tellItem ret 14 lv (.ref h :: st) M = opK (slotV 3 4 h M) fun q => lim cal sc 4 cX4_tellItem ret 17 lv (q :: st) M := (lim_step dX4_tellItem_14).trans (e_get (by decide) rf_4_25)
theorem sX4_tellItem_17 : lim cal sc 4 cX4_tellItem ret 17 (some (.ref h) :: l) st M = lim cal sc 4 cX4_tellItem ret 18 (some (.ref h) :: l) (.ref h :: st) M := lim_step dX4_tellItem_17
theorem sX4_tellItem_18 : lim cal sc 4 cX4_tellItem ret 18 lv (.ref h :: st) M = opK (slotV 3 6 h M) fun q => lim cal sc 4 cX4_tellItem ret 21 lv (q :: st) M := (lim_step dX4_tellItem_18).trans (e_get (by decide) rf_4_31)
theorem sX4_tellItem_21 : lim cal sc 4 cX4_tellItem ret 21 lv (.int x :: .ref h :: st) M = opK (arrV9 sc h M) fun q => guK (inb x q.1) (lim cal sc 4 cX4_tellItem ret 22 lv (.int (q.2 x.toNatClampNeg) :: st) M) := (lim_step dX4_tellItem_21).trans (e_iald)
theorem sX4_tellItem_22 : lim cal sc 4 cX4_tellItem ret 22 lv st M = lim cal sc 4 cX4_tellItem ret 26 lv st M := (lim_step dX4_tellItem_22).trans (e_goto (t := 26) (by decide))
theorem sX4_tellItem_25 : lim cal sc 4 cX4_tellItem ret 25 lv st M = lim cal sc 4 cX4_tellItem ret 26 lv (.int (-1) :: st) M := (lim_step dX4_tellItem_25).trans (e_ic k_i_m1)
theorem sX4_tellItem_26 : lim cal sc 4 cX4_tellItem ret 26 (v0 :: v1 :: v :: l) (.int x :: st) M = lim cal sc 4 cX4_tellItem ret 27 (v0 :: v1 :: some (.int x) :: l) st M := (lim_step dX4_tellItem_26).trans (e_istn2)
theorem sX4_tellItem_27 : lim cal sc 4 cX4_tellItem ret 27 (v0 :: v1 :: some (.int x) :: l) st M = lim cal sc 4 cX4_tellItem ret 28 (v0 :: v1 :: some (.int x) :: l) (.int x :: st) M := lim_step dX4_tellItem_27
theorem sX4_tellItem_28 : lim cal sc 4 cX4_tellItem ret 28 lv (.int x :: st) M = if 0 ≤ x then lim cal sc 4 cX4_tellItem ret 33 lv st M else lim cal sc 4 cX4_tellItem ret 31 lv st M := (lim_step dX4_tellItem_28).trans (e_ifge (t := 33) (by decide))
theorem sX4_tellItem_31 : lim cal sc 4 cX4_tellItem ret 31 lv st M = lim cal sc 4 cX4_tellItem ret 32 lv (.int 0 :: st) M := (lim_step dX4_tellItem_31).trans (e_ic k_i_0)
theorem sX4_tellItem_32 : lim cal sc 4 cX4_tellItem (some .boolean) 32 lv [.int x] M = guK (narB .boolean x) (some (some (.int x), M)) := (lim_step dX4_tellItem_32).trans (e_zret)
theorem sX4_tellItem_33 : lim cal sc 4 cX4_tellItem ret 33 (v0 :: v1 :: some (.int x) :: l) st M = lim cal sc 4 cX4_tellItem ret 34 (v0 :: v1 :: some (.int x) :: l) (.int x :: st) M := lim_step dX4_tellItem_33
theorem sX4_tellItem_34 : lim cal sc 4 cX4_tellItem ret 34 lv st M = lim cal sc 4 cX4_tellItem ret 36 lv (.int 6 :: st) M := (lim_step dX4_tellItem_34).trans (e_bi k_b_6)
theorem sX4_tellItem_36 : lim cal sc 4 cX4_tellItem ret 36 lv (.int y :: .int x :: st) M = if y < x then lim cal sc 4 cX4_tellItem ret 50 lv st M else lim cal sc 4 cX4_tellItem ret 39 lv st M := (lim_step dX4_tellItem_36).trans (e_cmpgt (t := 50) (by decide))
theorem sX4_tellItem_39 : lim cal sc 4 cX4_tellItem ret 39 (some (.ref h) :: l) st M = lim cal sc 4 cX4_tellItem ret 40 (some (.ref h) :: l) (.ref h :: st) M := lim_step dX4_tellItem_39
theorem sX4_tellItem_40 : lim cal sc 4 cX4_tellItem ret 40 (v0 :: some (.ref h) :: l) st M = lim cal sc 4 cX4_tellItem ret 41 (v0 :: some (.ref h) :: l) (.ref h :: st) M := lim_step dX4_tellItem_40
theorem sX4_tellItem_41 : lim cal sc 4 cX4_tellItem ret 41 (v0 :: some (.ref h) :: l) st M = lim cal sc 4 cX4_tellItem ret 42 (v0 :: some (.ref h) :: l) (.ref h :: st) M := lim_step dX4_tellItem_41
theorem sX4_tellItem_42 : lim cal sc 4 cX4_tellItem ret 42 (v0 :: v1 :: some (.int x) :: l) st M = lim cal sc 4 cX4_tellItem ret 43 (v0 :: v1 :: some (.int x) :: l) (.int x :: st) M := lim_step dX4_tellItem_42
theorem sX4_tellItem_43 : lim cal sc 4 cX4_tellItem ret 43 lv (a1 :: .ref h :: st) M = guK (isCl 1 h) (guK (rk 8 st) (calK (cal 3 [.ref h, a1] M) fun q M' => lim cal sc 4 cX4_tellItem ret 46 lv (q.toList ++ st) M')) := (lim_step dX4_tellItem_43).trans (e_virt1 rm_4_113 mq_3)
theorem sX4_tellItem_46 : lim cal sc 4 cX4_tellItem ret 46 lv (a2 :: a1 :: .ref h :: st) M = guK (isCl 3 h) (guK (rk 8 st) (calK (cal 108 [.ref h, a1, a2] M) fun q M' => lim cal sc 4 cX4_tellItem ret 49 lv (q.toList ++ st) M')) := (lim_step dX4_tellItem_46).trans (e_virt2 rm_4_118 mq_108)
theorem sX4_tellItem_49 : lim cal sc 4 cX4_tellItem (some .boolean) 49 lv [.int x] M = guK (narB .boolean x) (some (some (.int x), M)) := (lim_step dX4_tellItem_49).trans (e_zret)
theorem sX4_tellItem_50 : lim cal sc 4 cX4_tellItem ret 50 (v0 :: v1 :: some (.int x) :: l) st M = lim cal sc 4 cX4_tellItem ret 51 (v0 :: v1 :: some (.int x) :: l) (.int x :: st) M := lim_step dX4_tellItem_50
theorem sX4_tellItem_51 : lim cal sc 4 cX4_tellItem ret 51 lv st M = lim cal sc 4 cX4_tellItem ret 53 lv (.int 10 :: st) M := (lim_step dX4_tellItem_51).trans (e_bi k_b_10)
theorem sX4_tellItem_53 : lim cal sc 4 cX4_tellItem ret 53 lv (.int y :: .int x :: st) M = if x = y then lim cal sc 4 cX4_tellItem ret 62 lv st M else lim cal sc 4 cX4_tellItem ret 56 lv st M := (lim_step dX4_tellItem_53).trans (e_cmpeq (t := 62) (by decide))
theorem sX4_tellItem_56 : lim cal sc 4 cX4_tellItem ret 56 (v0 :: v1 :: some (.int x) :: l) st M = lim cal sc 4 cX4_tellItem ret 57 (v0 :: v1 :: some (.int x) :: l) (.int x :: st) M := lim_step dX4_tellItem_56
theorem sX4_tellItem_57 : lim cal sc 4 cX4_tellItem ret 57 lv st M = lim cal sc 4 cX4_tellItem ret 59 lv (.int 11 :: st) M := (lim_step dX4_tellItem_57).trans (e_bi k_b_11)
theorem sX4_tellItem_59 : lim cal sc 4 cX4_tellItem ret 59 lv (.int y :: .int x :: st) M = if x = y then lim cal sc 4 cX4_tellItem ret 62 lv st M else lim cal sc 4 cX4_tellItem ret 85 lv st M := (lim_step dX4_tellItem_59).trans (e_cmpne (t := 85) (by decide))
theorem sX4_tellItem_62 : lim cal sc 4 cX4_tellItem ret 62 (some (.ref h) :: l) st M = lim cal sc 4 cX4_tellItem ret 63 (some (.ref h) :: l) (.ref h :: st) M := lim_step dX4_tellItem_62
theorem sX4_tellItem_63 : lim cal sc 4 cX4_tellItem ret 63 (v0 :: some (.ref h) :: l) st M = lim cal sc 4 cX4_tellItem ret 64 (v0 :: some (.ref h) :: l) (.ref h :: st) M := lim_step dX4_tellItem_63
theorem sX4_tellItem_64 : lim cal sc 4 cX4_tellItem ret 64 (v0 :: v1 :: some (.int x) :: l) st M = lim cal sc 4 cX4_tellItem ret 65 (v0 :: v1 :: some (.int x) :: l) (.int x :: st) M := lim_step dX4_tellItem_64
theorem sX4_tellItem_65 : lim cal sc 4 cX4_tellItem ret 65 lv st M = lim cal sc 4 cX4_tellItem ret 67 lv (.int 10 :: st) M := (lim_step dX4_tellItem_65).trans (e_bi k_b_10)
theorem sX4_tellItem_67 : lim cal sc 4 cX4_tellItem ret 67 lv (.int y :: .int x :: st) M = if x = y then lim cal sc 4 cX4_tellItem ret 70 lv st M else lim cal sc 4 cX4_tellItem ret 74 lv st M := (lim_step dX4_tellItem_67).trans (e_cmpne (t := 74) (by decide))
theorem sX4_tellItem_70 : lim cal sc 4 cX4_tellItem ret 70 lv st M = lim cal sc 4 cX4_tellItem ret 71 lv (.int 1 :: st) M := (lim_step dX4_tellItem_70).trans (e_ic k_i_1)
theorem sX4_tellItem_71 : lim cal sc 4 cX4_tellItem ret 71 lv st M = lim cal sc 4 cX4_tellItem ret 75 lv st M := (lim_step dX4_tellItem_71).trans (e_goto (t := 75) (by decide))
theorem sX4_tellItem_74 : lim cal sc 4 cX4_tellItem ret 74 lv st M = lim cal sc 4 cX4_tellItem ret 75 lv (.int 0 :: st) M := (lim_step dX4_tellItem_74).trans (e_ic k_i_0)
theorem sX4_tellItem_75 : lim cal sc 4 cX4_tellItem ret 75 lv (a2 :: a1 :: .ref h :: st) M = guK (isCl 3 h) (guK (rk 8 st) (calK (cal 112 [.ref h, a1, a2] M) fun q M' => lim cal sc 4 cX4_tellItem ret 78 lv (q.toList ++ st) M')) := (lim_step dX4_tellItem_75).trans (e_virt2 rm_4_122 mq_112)
theorem sX4_tellItem_78 : lim cal sc 4 cX4_tellItem ret 78 lv (.int x :: st) M = if x = 0 then lim cal sc 4 cX4_tellItem ret 85 lv st M else lim cal sc 4 cX4_tellItem ret 81 lv st M := (lim_step dX4_tellItem_78).trans (e_ifeq (t := 85) (by decide))
theorem sX4_tellItem_81 : lim cal sc 4 cX4_tellItem ret 81 lv st M = lim cal sc 4 cX4_tellItem ret 82 lv (.int 1 :: st) M := (lim_step dX4_tellItem_81).trans (e_ic k_i_1)
theorem sX4_tellItem_82 : lim cal sc 4 cX4_tellItem ret 82 lv st M = lim cal sc 4 cX4_tellItem ret 86 lv st M := (lim_step dX4_tellItem_82).trans (e_goto (t := 86) (by decide))
theorem sX4_tellItem_85 : lim cal sc 4 cX4_tellItem ret 85 lv st M = lim cal sc 4 cX4_tellItem ret 86 lv (.int 0 :: st) M := (lim_step dX4_tellItem_85).trans (e_ic k_i_0)
theorem sX4_tellItem_86 : lim cal sc 4 cX4_tellItem (some .boolean) 86 lv [.int x] M = guK (narB .boolean x) (some (some (.int x), M)) := (lim_step dX4_tellItem_86).trans (e_zret)
theorem sX4_tellRule_0 : lim cal sc 4 cX4_tellRule ret 0 (some (.ref h) :: l) st M = lim cal sc 4 cX4_tellRule ret 1 (some (.ref h) :: l) (.ref h :: st) M := lim_step dX4_tellRule_0
theorem sX4_tellRule_1 : lim cal sc 4 cX4_tellRule ret 1 lv (.ref h :: st) M = guK (isCl 3 h) (guK (rk 8 st) (calK (cal 109 [.ref h] M) fun q M' => lim cal sc 4 cX4_tellRule ret 4 lv (q.toList ++ st) M')) := (lim_step dX4_tellRule_1).trans (e_virt0 rm_4_110 mq_109)
theorem sX4_tellRule_4 : lim cal sc 4 cX4_tellRule ret 4 (v0 :: v1 :: some (.int x) :: l) st M = lim cal sc 4 cX4_tellRule ret 5 (v0 :: v1 :: some (.int x) :: l) (.int x :: st) M := lim_step dX4_tellRule_4
theorem sX4_tellRule_5 : lim cal sc 4 cX4_tellRule ret 5 lv (.int x :: st) M = if x = 0 then lim cal sc 4 cX4_tellRule ret 21 lv st M else lim cal sc 4 cX4_tellRule ret 8 lv st M := (lim_step dX4_tellRule_5).trans (e_ifeq (t := 21) (by decide))
theorem sX4_tellRule_8 : lim cal sc 4 cX4_tellRule ret 8 (some (.ref h) :: l) st M = lim cal sc 4 cX4_tellRule ret 9 (some (.ref h) :: l) (.ref h :: st) M := lim_step dX4_tellRule_8
theorem sX4_tellRule_9 : lim cal sc 4 cX4_tellRule ret 9 lv st M = lim cal sc 4 cX4_tellRule ret 10 lv (.int 1 :: st) M := (lim_step dX4_tellRule_9).trans (e_ic k_i_1)
theorem sX4_tellRule_10 : lim cal sc 4 cX4_tellRule ret 10 lv st M = lim cal sc 4 cX4_tellRule ret 12 lv (.int 40 :: st) M := (lim_step dX4_tellRule_10).trans (e_bi k_b_40)
theorem sX4_tellRule_12 : lim cal sc 4 cX4_tellRule ret 12 lv (a2 :: a1 :: .ref h :: st) M = guK (isCl 3 h) (guK (rk 8 st) (calK (cal 111 [.ref h, a1, a2] M) fun q M' => lim cal sc 4 cX4_tellRule ret 15 lv (q.toList ++ st) M')) := (lim_step dX4_tellRule_12).trans (e_virt2 rm_4_126 mq_111)
theorem sX4_tellRule_15 : lim cal sc 4 cX4_tellRule ret 15 lv (.int x :: st) M = if x = 0 then lim cal sc 4 cX4_tellRule ret 31 lv st M else lim cal sc 4 cX4_tellRule ret 18 lv st M := (lim_step dX4_tellRule_15).trans (e_ifeq (t := 31) (by decide))
theorem sX4_tellRule_18 : lim cal sc 4 cX4_tellRule ret 18 lv st M = lim cal sc 4 cX4_tellRule ret 33 lv st M := (lim_step dX4_tellRule_18).trans (e_goto (t := 33) (by decide))
theorem sX4_tellRule_21 : lim cal sc 4 cX4_tellRule ret 21 (some (.ref h) :: l) st M = lim cal sc 4 cX4_tellRule ret 22 (some (.ref h) :: l) (.ref h :: st) M := lim_step dX4_tellRule_21
theorem sX4_tellRule_22 : lim cal sc 4 cX4_tellRule ret 22 lv st M = lim cal sc 4 cX4_tellRule ret 23 lv (.int 0 :: st) M := (lim_step dX4_tellRule_22).trans (e_ic k_i_0)
theorem sX4_tellRule_23 : lim cal sc 4 cX4_tellRule ret 23 lv st M = lim cal sc 4 cX4_tellRule ret 25 lv (.int 9 :: st) M := (lim_step dX4_tellRule_23).trans (e_bi k_b_9)
theorem sX4_tellRule_25 : lim cal sc 4 cX4_tellRule ret 25 lv (a2 :: a1 :: .ref h :: st) M = guK (isCl 3 h) (guK (rk 8 st) (calK (cal 111 [.ref h, a1, a2] M) fun q M' => lim cal sc 4 cX4_tellRule ret 28 lv (q.toList ++ st) M')) := (lim_step dX4_tellRule_25).trans (e_virt2 rm_4_126 mq_111)
theorem sX4_tellRule_28 : lim cal sc 4 cX4_tellRule ret 28 lv (.int x :: st) M = if x = 0 then lim cal sc 4 cX4_tellRule ret 31 lv st M else lim cal sc 4 cX4_tellRule ret 33 lv st M := (lim_step dX4_tellRule_28).trans (e_ifne (t := 33) (by decide))
theorem sX4_tellRule_31 : lim cal sc 4 cX4_tellRule ret 31 lv st M = lim cal sc 4 cX4_tellRule ret 32 lv (.int 0 :: st) M := (lim_step dX4_tellRule_31).trans (e_ic k_i_0)
theorem sX4_tellRule_32 : lim cal sc 4 cX4_tellRule (some .boolean) 32 lv [.int x] M = guK (narB .boolean x) (some (some (.int x), M)) := (lim_step dX4_tellRule_32).trans (e_zret)
theorem sX4_tellRule_33 : lim cal sc 4 cX4_tellRule ret 33 (v0 :: v1 :: some (.int x) :: l) st M = lim cal sc 4 cX4_tellRule ret 34 (v0 :: v1 :: some (.int x) :: l) (.int x :: st) M := lim_step dX4_tellRule_33
theorem sX4_tellRule_34 : lim cal sc 4 cX4_tellRule ret 34 lv (.int x :: st) M = if x = 0 then lim cal sc 4 cX4_tellRule ret 53 lv st M else lim cal sc 4 cX4_tellRule ret 37 lv st M := (lim_step dX4_tellRule_34).trans (e_ifeq (t := 53) (by decide))
theorem sX4_tellRule_37 : lim cal sc 4 cX4_tellRule ret 37 (v0 :: some (.ref h) :: l) st M = lim cal sc 4 cX4_tellRule ret 38 (v0 :: some (.ref h) :: l) (.ref h :: st) M := lim_step dX4_tellRule_37
theorem sX4_tellRule_38 : lim cal sc 4 cX4_tellRule ret 38 (some (.ref h) :: l) st M = lim cal sc 4 cX4_tellRule ret 39 (some (.ref h) :: l) (.ref h :: st) M := lim_step dX4_tellRule_38
theorem sX4_tellRule_39 : lim cal sc 4 cX4_tellRule ret 39 lv (.ref h :: st) M = opK (slotV 3 4 h M) fun q => lim cal sc 4 cX4_tellRule ret 42 lv (q :: st) M := (lim_step dX4_tellRule_39).trans (e_get (by decide) rf_4_25)
theorem sX4_tellRule_42 : lim cal sc 4 cX4_tellRule ret 42 (some (.ref h) :: l) st M = lim cal sc 4 cX4_tellRule ret 43 (some (.ref h) :: l) (.ref h :: st) M := lim_step dX4_tellRule_42
theorem sX4_tellRule_43 : lim cal sc 4 cX4_tellRule ret 43 lv (.ref h :: st) M = opK (slotV 3 6 h M) fun q => lim cal sc 4 cX4_tellRule ret 46 lv (q :: st) M := (lim_step dX4_tellRule_43).trans (e_get (by decide) rf_4_31)
theorem sX4_tellRule_46 : lim cal sc 4 cX4_tellRule ret 46 lv (.int x :: .ref h :: st) M = opK (arrV9 sc h M) fun q => guK (inb x q.1) (lim cal sc 4 cX4_tellRule ret 47 lv (.int (q.2 x.toNatClampNeg) :: st) M) := (lim_step dX4_tellRule_46).trans (e_iald)
theorem sX4_tellRule_47 : lim cal sc 4 cX4_tellRule ret 47 lv (.int x :: .ref h :: st) M = guK (isInt 1 10 h) (lim cal sc 4 cX4_tellRule ret 50 lv st (mset M h 10 x)) := (lim_step dX4_tellRule_47).trans (e_put rf_4_130 rfl)
theorem sX4_tellRule_50 : lim cal sc 4 cX4_tellRule ret 50 lv st M = lim cal sc 4 cX4_tellRule ret 66 lv st M := (lim_step dX4_tellRule_50).trans (e_goto (t := 66) (by decide))
theorem sX4_tellRule_53 : lim cal sc 4 cX4_tellRule ret 53 (v0 :: some (.ref h) :: l) st M = lim cal sc 4 cX4_tellRule ret 54 (v0 :: some (.ref h) :: l) (.ref h :: st) M := lim_step dX4_tellRule_53
theorem sX4_tellRule_54 : lim cal sc 4 cX4_tellRule ret 54 (some (.ref h) :: l) st M = lim cal sc 4 cX4_tellRule ret 55 (some (.ref h) :: l) (.ref h :: st) M := lim_step dX4_tellRule_54
theorem sX4_tellRule_55 : lim cal sc 4 cX4_tellRule ret 55 lv (.ref h :: st) M = opK (slotV 3 4 h M) fun q => lim cal sc 4 cX4_tellRule ret 58 lv (q :: st) M := (lim_step dX4_tellRule_55).trans (e_get (by decide) rf_4_25)
theorem sX4_tellRule_58 : lim cal sc 4 cX4_tellRule ret 58 (some (.ref h) :: l) st M = lim cal sc 4 cX4_tellRule ret 59 (some (.ref h) :: l) (.ref h :: st) M := lim_step dX4_tellRule_58
theorem sX4_tellRule_59 : lim cal sc 4 cX4_tellRule ret 59 lv (.ref h :: st) M = opK (slotV 3 6 h M) fun q => lim cal sc 4 cX4_tellRule ret 62 lv (q :: st) M := (lim_step dX4_tellRule_59).trans (e_get (by decide) rf_4_31)
theorem sX4_tellRule_62 : lim cal sc 4 cX4_tellRule ret 62 lv (.int x :: .ref h :: st) M = opK (arrV9 sc h M) fun q => guK (inb x q.1) (lim cal sc 4 cX4_tellRule ret 63 lv (.int (q.2 x.toNatClampNeg) :: st) M) := (lim_step dX4_tellRule_62).trans (e_iald)
theorem sX4_tellRule_63 : lim cal sc 4 cX4_tellRule ret 63 lv (.int x :: .ref h :: st) M = guK (isInt 1 11 h) (lim cal sc 4 cX4_tellRule ret 66 lv st (mset M h 11 x)) := (lim_step dX4_tellRule_63).trans (e_put rf_4_132 rfl)
theorem sX4_tellRule_66 : lim cal sc 4 cX4_tellRule ret 66 (some (.ref h) :: l) st M = lim cal sc 4 cX4_tellRule ret 67 (some (.ref h) :: l) (.ref h :: st) M := lim_step dX4_tellRule_66
theorem sX4_tellRule_67 : lim cal sc 4 cX4_tellRule ret 67 lv (.ref h :: st) M = guK (isCl 3 h) (guK (rk 8 st) (calK (cal 109 [.ref h] M) fun q M' => lim cal sc 4 cX4_tellRule ret 70 lv (q.toList ++ st) M')) := (lim_step dX4_tellRule_67).trans (e_virt0 rm_4_110 mq_109)
theorem sX4_tellRule_70 : lim cal sc 4 cX4_tellRule ret 70 lv st M = lim cal sc 4 cX4_tellRule ret 71 lv (.int 1 :: st) M := (lim_step dX4_tellRule_70).trans (e_ic k_i_1)
theorem sX4_tellRule_71 : lim cal sc 4 cX4_tellRule (some .boolean) 71 lv [.int x] M = guK (narB .boolean x) (some (some (.int x), M)) := (lim_step dX4_tellRule_71).trans (e_zret)
theorem sX4_tellThing_0 : lim cal sc 4 cX4_tellThing ret 0 (v0 :: v1 :: some (.int x) :: l) st M = lim cal sc 4 cX4_tellThing ret 1 (v0 :: v1 :: some (.int x) :: l) (.int x :: st) M := lim_step dX4_tellThing_0
theorem sX4_tellThing_1 : lim cal sc 4 cX4_tellThing ret 1 lv (.int x :: st) M = if 0 ≤ x then lim cal sc 4 cX4_tellThing ret 6 lv st M else lim cal sc 4 cX4_tellThing ret 4 lv st M := (lim_step dX4_tellThing_1).trans (e_ifge (t := 6) (by decide))
theorem sX4_tellThing_4 : lim cal sc 4 cX4_tellThing ret 4 lv st M = lim cal sc 4 cX4_tellThing ret 5 lv (.int 0 :: st) M := (lim_step dX4_tellThing_4).trans (e_ic k_i_0)
theorem sX4_tellThing_5 : lim cal sc 4 cX4_tellThing (some .boolean) 5 lv [.int x] M = guK (narB .boolean x) (some (some (.int x), M)) := (lim_step dX4_tellThing_5).trans (e_zret)
theorem sX4_tellThing_6 : lim cal sc 4 cX4_tellThing ret 6 (some (.ref h) :: l) st M = lim cal sc 4 cX4_tellThing ret 7 (some (.ref h) :: l) (.ref h :: st) M := lim_step dX4_tellThing_6
theorem sX4_tellThing_7 : lim cal sc 4 cX4_tellThing ret 7 lv (.ref h :: st) M = guK (isCl 3 h) (guK (rk 8 st) (calK (cal 109 [.ref h] M) fun q M' => lim cal sc 4 cX4_tellThing ret 10 lv (q.toList ++ st) M')) := (lim_step dX4_tellThing_7).trans (e_virt0 rm_4_110 mq_109)
theorem sX4_tellThing_10 : lim cal sc 4 cX4_tellThing ret 10 (some (.ref h) :: l) st M = lim cal sc 4 cX4_tellThing ret 11 (some (.ref h) :: l) (.ref h :: st) M := lim_step dX4_tellThing_10
theorem sX4_tellThing_11 : lim cal sc 4 cX4_tellThing ret 11 (v0 :: some (.ref h) :: l) st M = lim cal sc 4 cX4_tellThing ret 12 (v0 :: some (.ref h) :: l) (.ref h :: st) M := lim_step dX4_tellThing_11
theorem sX4_tellThing_12 : lim cal sc 4 cX4_tellThing ret 12 (v0 :: v1 :: some (.int x) :: l) st M = lim cal sc 4 cX4_tellThing ret 13 (v0 :: v1 :: some (.int x) :: l) (.int x :: st) M := lim_step dX4_tellThing_12
theorem sX4_tellThing_13 : lim cal sc 4 cX4_tellThing ret 13 lv st M = lim cal sc 4 cX4_tellThing ret 15 lv (.int 7 :: st) M := (lim_step dX4_tellThing_13).trans (e_bi k_b_7)
theorem sX4_tellThing_15 : lim cal sc 4 cX4_tellThing ret 15 lv st M = lim cal sc 4 cX4_tellThing ret 16 lv (.int 1 :: st) M := (lim_step dX4_tellThing_15).trans (e_ic k_i_1)
theorem sX4_tellThing_16 : lim cal sc 4 cX4_tellThing ret 16 lv st M = lim cal sc 4 cX4_tellThing ret 18 lv (.int 9 :: st) M := (lim_step dX4_tellThing_16).trans (e_bi k_b_9)
theorem sX4_tellThing_18 : lim cal sc 4 cX4_tellThing ret 18 lv (a5 :: a4 :: a3 :: a2 :: a1 :: .ref h :: st) M = guK (isCl 3 h) (guK (rk 8 st) (calK (cal 110 [.ref h, a1, a2, a3, a4, a5] M) fun q M' => lim cal sc 4 cX4_tellThing ret 21 lv (q.toList ++ st) M')) := (lim_step dX4_tellThing_18).trans (e_virt5 rm_4_134 mq_110)
theorem sX4_tellThing_21 : lim cal sc 4 cX4_tellThing ret 21 lv (.int x :: st) M = if x = 0 then lim cal sc 4 cX4_tellThing ret 55 lv st M else lim cal sc 4 cX4_tellThing ret 24 lv st M := (lim_step dX4_tellThing_21).trans (e_ifeq (t := 55) (by decide))
theorem sX4_tellThing_24 : lim cal sc 4 cX4_tellThing ret 24 (some (.ref h) :: l) st M = lim cal sc 4 cX4_tellThing ret 25 (some (.ref h) :: l) (.ref h :: st) M := lim_step dX4_tellThing_24
theorem sX4_tellThing_25 : lim cal sc 4 cX4_tellThing ret 25 (v0 :: some (.ref h) :: l) st M = lim cal sc 4 cX4_tellThing ret 26 (v0 :: some (.ref h) :: l) (.ref h :: st) M := lim_step dX4_tellThing_25
theorem sX4_tellThing_26 : lim cal sc 4 cX4_tellThing ret 26 (v0 :: v1 :: some (.int x) :: l) st M = lim cal sc 4 cX4_tellThing ret 27 (v0 :: v1 :: some (.int x) :: l) (.int x :: st) M := lim_step dX4_tellThing_26
theorem sX4_tellThing_27 : lim cal sc 4 cX4_tellThing ret 27 lv st M = lim cal sc 4 cX4_tellThing ret 29 lv (.int 8 :: st) M := (lim_step dX4_tellThing_27).trans (e_bi k_b_8)
theorem sX4_tellThing_29 : lim cal sc 4 cX4_tellThing ret 29 lv st M = lim cal sc 4 cX4_tellThing ret 30 lv (.int 0 :: st) M := (lim_step dX4_tellThing_29).trans (e_ic k_i_0)
theorem sX4_tellThing_30 : lim cal sc 4 cX4_tellThing ret 30 lv st M = lim cal sc 4 cX4_tellThing ret 32 lv (.int 99 :: st) M := (lim_step dX4_tellThing_30).trans (e_bi k_b_99)
theorem sX4_tellThing_32 : lim cal sc 4 cX4_tellThing ret 32 lv (a5 :: a4 :: a3 :: a2 :: a1 :: .ref h :: st) M = guK (isCl 3 h) (guK (rk 8 st) (calK (cal 110 [.ref h, a1, a2, a3, a4, a5] M) fun q M' => lim cal sc 4 cX4_tellThing ret 35 lv (q.toList ++ st) M')) := (lim_step dX4_tellThing_32).trans (e_virt5 rm_4_134 mq_110)
theorem sX4_tellThing_35 : lim cal sc 4 cX4_tellThing ret 35 lv (.int x :: st) M = if x = 0 then lim cal sc 4 cX4_tellThing ret 55 lv st M else lim cal sc 4 cX4_tellThing ret 38 lv st M := (lim_step dX4_tellThing_35).trans (e_ifeq (t := 55) (by decide))
theorem sX4_tellThing_38 : lim cal sc 4 cX4_tellThing ret 38 (some (.ref h) :: l) st M = lim cal sc 4 cX4_tellThing ret 39 (some (.ref h) :: l) (.ref h :: st) M := lim_step dX4_tellThing_38
theorem sX4_tellThing_39 : lim cal sc 4 cX4_tellThing ret 39 (v0 :: some (.ref h) :: l) st M = lim cal sc 4 cX4_tellThing ret 40 (v0 :: some (.ref h) :: l) (.ref h :: st) M := lim_step dX4_tellThing_39
theorem sX4_tellThing_40 : lim cal sc 4 cX4_tellThing ret 40 (v0 :: v1 :: some (.int x) :: l) st M = lim cal sc 4 cX4_tellThing ret 41 (v0 :: v1 :: some (.int x) :: l) (.int x :: st) M := lim_step dX4_tellThing_40
theorem sX4_tellThing_41 : lim cal sc 4 cX4_tellThing ret 41 lv st M = lim cal sc 4 cX4_tellThing ret 43 lv (.int 9 :: st) M := (lim_step dX4_tellThing_41).trans (e_bi k_b_9)
theorem sX4_tellThing_43 : lim cal sc 4 cX4_tellThing ret 43 lv st M = lim cal sc 4 cX4_tellThing ret 44 lv (.int 0 :: st) M := (lim_step dX4_tellThing_43).trans (e_ic k_i_0)
theorem sX4_tellThing_44 : lim cal sc 4 cX4_tellThing ret 44 lv st M = lim cal sc 4 cX4_tellThing ret 45 lv (.int 1 :: st) M := (lim_step dX4_tellThing_44).trans (e_ic k_i_1)
theorem sX4_tellThing_45 : lim cal sc 4 cX4_tellThing ret 45 lv (a5 :: a4 :: a3 :: a2 :: a1 :: .ref h :: st) M = guK (isCl 3 h) (guK (rk 8 st) (calK (cal 110 [.ref h, a1, a2, a3, a4, a5] M) fun q M' => lim cal sc 4 cX4_tellThing ret 48 lv (q.toList ++ st) M')) := (lim_step dX4_tellThing_45).trans (e_virt5 rm_4_134 mq_110)
theorem sX4_tellThing_48 : lim cal sc 4 cX4_tellThing ret 48 lv (.int x :: st) M = if x = 0 then lim cal sc 4 cX4_tellThing ret 55 lv st M else lim cal sc 4 cX4_tellThing ret 51 lv st M := (lim_step dX4_tellThing_48).trans (e_ifeq (t := 55) (by decide))
theorem sX4_tellThing_51 : lim cal sc 4 cX4_tellThing ret 51 lv st M = lim cal sc 4 cX4_tellThing ret 52 lv (.int 1 :: st) M := (lim_step dX4_tellThing_51).trans (e_ic k_i_1)
theorem sX4_tellThing_52 : lim cal sc 4 cX4_tellThing ret 52 lv st M = lim cal sc 4 cX4_tellThing ret 56 lv st M := (lim_step dX4_tellThing_52).trans (e_goto (t := 56) (by decide))
theorem sX4_tellThing_55 : lim cal sc 4 cX4_tellThing ret 55 lv st M = lim cal sc 4 cX4_tellThing ret 56 lv (.int 0 :: st) M := (lim_step dX4_tellThing_55).trans (e_ic k_i_0)
theorem sX4_tellThing_56 : lim cal sc 4 cX4_tellThing (some .boolean) 56 lv [.int x] M = guK (narB .boolean x) (some (some (.int x), M)) := (lim_step dX4_tellThing_56).trans (e_zret)
theorem sX4_tellPart_0 : lim cal sc 4 cX4_tellPart ret 0 (some (.ref h) :: l) st M = lim cal sc 4 cX4_tellPart ret 1 (some (.ref h) :: l) (.ref h :: st) M := lim_step dX4_tellPart_0
theorem sX4_tellPart_1 : lim cal sc 4 cX4_tellPart ret 1 lv (.ref h :: st) M = opK (slotV 3 2 h M) fun q => lim cal sc 4 cX4_tellPart ret 4 lv (q :: st) M := (lim_step dX4_tellPart_1).trans (e_get (by decide) rf_4_19)
theorem sX4_tellPart_4 : lim cal sc 4 cX4_tellPart ret 4 (some (.ref h) :: l) st M = lim cal sc 4 cX4_tellPart ret 5 (some (.ref h) :: l) (.ref h :: st) M := lim_step dX4_tellPart_4
theorem sX4_tellPart_5 : lim cal sc 4 cX4_tellPart ret 5 lv (.ref h :: st) M = opK (slotV 3 6 h M) fun q => lim cal sc 4 cX4_tellPart ret 8 lv (q :: st) M := (lim_step dX4_tellPart_5).trans (e_get (by decide) rf_4_31)
theorem sX4_tellPart_8 : lim cal sc 4 cX4_tellPart ret 8 lv (.int x :: .ref h :: st) M = opK (arrV9 sc h M) fun q => guK (inb x q.1) (lim cal sc 4 cX4_tellPart ret 9 lv (.int (q.2 x.toNatClampNeg) :: st) M) := (lim_step dX4_tellPart_8).trans (e_iald)
theorem sX4_tellPart_9 : lim cal sc 4 cX4_tellPart ret 9 lv st M = lim cal sc 4 cX4_tellPart ret 10 lv (.int 1 :: st) M := (lim_step dX4_tellPart_9).trans (e_ic k_i_1)
theorem sX4_tellPart_10 : lim cal sc 4 cX4_tellPart ret 10 lv (.int y :: .int x :: st) M = if x = y then lim cal sc 4 cX4_tellPart ret 13 lv st M else lim cal sc 4 cX4_tellPart ret 26 lv st M := (lim_step dX4_tellPart_10).trans (e_cmpne (t := 26) (by decide))
theorem sX4_tellPart_13 : lim cal sc 4 cX4_tellPart ret 13 (some (.ref h) :: l) st M = lim cal sc 4 cX4_tellPart ret 14 (some (.ref h) :: l) (.ref h :: st) M := lim_step dX4_tellPart_13
theorem sX4_tellPart_14 : lim cal sc 4 cX4_tellPart ret 14 lv (.ref h :: st) M = opK (slotV 3 4 h M) fun q => lim cal sc 4 cX4_tellPart ret 17 lv (q :: st) M := (lim_step dX4_tellPart_14).trans (e_get (by decide) rf_4_25)
theorem sX4_tellPart_17 : lim cal sc 4 cX4_tellPart ret 17 (some (.ref h) :: l) st M = lim cal sc 4 cX4_tellPart ret 18 (some (.ref h) :: l) (.ref h :: st) M := lim_step dX4_tellPart_17
theorem sX4_tellPart_18 : lim cal sc 4 cX4_tellPart ret 18 lv (.ref h :: st) M = opK (slotV 3 6 h M) fun q => lim cal sc 4 cX4_tellPart ret 21 lv (q :: st) M := (lim_step dX4_tellPart_18).trans (e_get (by decide) rf_4_31)
theorem sX4_tellPart_21 : lim cal sc 4 cX4_tellPart ret 21 lv (.int x :: .ref h :: st) M = opK (arrV9 sc h M) fun q => guK (inb x q.1) (lim cal sc 4 cX4_tellPart ret 22 lv (.int (q.2 x.toNatClampNeg) :: st) M) := (lim_step dX4_tellPart_21).trans (e_iald)
theorem sX4_tellPart_22 : lim cal sc 4 cX4_tellPart ret 22 (v0 :: v1 :: v2 :: some (.int x) :: l) st M = lim cal sc 4 cX4_tellPart ret 23 (v0 :: v1 :: v2 :: some (.int x) :: l) (.int x :: st) M := lim_step dX4_tellPart_22
theorem sX4_tellPart_23 : lim cal sc 4 cX4_tellPart ret 23 lv (.int y :: .int x :: st) M = if x = y then lim cal sc 4 cX4_tellPart ret 28 lv st M else lim cal sc 4 cX4_tellPart ret 26 lv st M := (lim_step dX4_tellPart_23).trans (e_cmpeq (t := 28) (by decide))
theorem sX4_tellPart_26 : lim cal sc 4 cX4_tellPart ret 26 lv st M = lim cal sc 4 cX4_tellPart ret 27 lv (.int 1 :: st) M := (lim_step dX4_tellPart_26).trans (e_ic k_i_1)
theorem sX4_tellPart_27 : lim cal sc 4 cX4_tellPart (some .boolean) 27 lv [.int x] M = guK (narB .boolean x) (some (some (.int x), M)) := (lim_step dX4_tellPart_27).trans (e_zret)
theorem sX4_tellPart_28 : lim cal sc 4 cX4_tellPart ret 28 (some (.ref h) :: l) st M = lim cal sc 4 cX4_tellPart ret 29 (some (.ref h) :: l) (.ref h :: st) M := lim_step dX4_tellPart_28
theorem sX4_tellPart_29 : lim cal sc 4 cX4_tellPart ret 29 lv (.ref h :: st) M = guK (isCl 3 h) (guK (rk 8 st) (calK (cal 109 [.ref h] M) fun q M' => lim cal sc 4 cX4_tellPart ret 32 lv (q.toList ++ st) M')) := (lim_step dX4_tellPart_29).trans (e_virt0 rm_4_110 mq_109)
theorem sX4_tellPart_32 : lim cal sc 4 cX4_tellPart ret 32 (some (.ref h) :: l) st M = lim cal sc 4 cX4_tellPart ret 33 (some (.ref h) :: l) (.ref h :: st) M := lim_step dX4_tellPart_32
theorem sX4_tellPart_33 : lim cal sc 4 cX4_tellPart ret 33 (v0 :: v1 :: v2 :: v3 :: some (.int x) :: l) st M = lim cal sc 4 cX4_tellPart ret 35 (v0 :: v1 :: v2 :: v3 :: some (.int x) :: l) (.int x :: st) M := lim_step dX4_tellPart_33
theorem sX4_tellPart_35 : lim cal sc 4 cX4_tellPart ret 35 (v0 :: v1 :: v2 :: v3 :: v4 :: some (.int x) :: l) st M = lim cal sc 4 cX4_tellPart ret 37 (v0 :: v1 :: v2 :: v3 :: v4 :: some (.int x) :: l) (.int x :: st) M := lim_step dX4_tellPart_35
theorem sX4_tellPart_37 : lim cal sc 4 cX4_tellPart ret 37 lv (a2 :: a1 :: .ref h :: st) M = guK (isCl 3 h) (guK (rk 8 st) (calK (cal 111 [.ref h, a1, a2] M) fun q M' => lim cal sc 4 cX4_tellPart ret 40 lv (q.toList ++ st) M')) := (lim_step dX4_tellPart_37).trans (e_virt2 rm_4_126 mq_111)
theorem sX4_tellPart_40 : lim cal sc 4 cX4_tellPart ret 40 lv (.int x :: st) M = if x = 0 then lim cal sc 4 cX4_tellPart ret 43 lv st M else lim cal sc 4 cX4_tellPart ret 45 lv st M := (lim_step dX4_tellPart_40).trans (e_ifne (t := 45) (by decide))
theorem sX4_tellPart_43 : lim cal sc 4 cX4_tellPart ret 43 lv st M = lim cal sc 4 cX4_tellPart ret 44 lv (.int 0 :: st) M := (lim_step dX4_tellPart_43).trans (e_ic k_i_0)
theorem sX4_tellPart_44 : lim cal sc 4 cX4_tellPart (some .boolean) 44 lv [.int x] M = guK (narB .boolean x) (some (some (.int x), M)) := (lim_step dX4_tellPart_44).trans (e_zret)
theorem sX4_tellPart_45 : lim cal sc 4 cX4_tellPart ret 45 (v0 :: some (.ref h) :: l) st M = lim cal sc 4 cX4_tellPart ret 46 (v0 :: some (.ref h) :: l) (.ref h :: st) M := lim_step dX4_tellPart_45
theorem sX4_tellPart_46 : lim cal sc 4 cX4_tellPart ret 46 (v0 :: v1 :: some (.int x) :: l) st M = lim cal sc 4 cX4_tellPart ret 47 (v0 :: v1 :: some (.int x) :: l) (.int x :: st) M := lim_step dX4_tellPart_46
theorem sX4_tellPart_47 : lim cal sc 4 cX4_tellPart ret 47 lv st M = lim cal sc 4 cX4_tellPart ret 48 lv (.int 1 :: st) M := (lim_step dX4_tellPart_47).trans (e_ic k_i_1)
theorem sX4_tellPart_48 : lim cal sc 4 cX4_tellPart ret 48 (v0 :: v1 :: v2 :: some (.int x) :: l) st M = lim cal sc 4 cX4_tellPart ret 49 (v0 :: v1 :: v2 :: some (.int x) :: l) (.int x :: st) M := lim_step dX4_tellPart_48
theorem sX4_tellPart_49 : lim cal sc 4 cX4_tellPart ret 49 lv (.int y :: .int x :: st) M = lim cal sc 4 cX4_tellPart ret 50 lv (.int (x + y) :: st) M := lim_step dX4_tellPart_49
theorem sX4_tellPart_50 : lim cal sc 4 cX4_tellPart ret 50 lv st M = lim cal sc 4 cX4_tellPart ret 52 lv (.int 7 :: st) M := (lim_step dX4_tellPart_50).trans (e_bi k_b_7)
theorem sX4_tellPart_52 : lim cal sc 4 cX4_tellPart ret 52 lv (.int y :: .int x :: st) M = lim cal sc 4 cX4_tellPart ret 53 lv (.int (x - y) :: st) M := lim_step dX4_tellPart_52
theorem sX4_tellPart_53 : lim cal sc 4 cX4_tellPart ret 53 (some (.ref h) :: l) st M = lim cal sc 4 cX4_tellPart ret 54 (some (.ref h) :: l) (.ref h :: st) M := lim_step dX4_tellPart_53
theorem sX4_tellPart_54 : lim cal sc 4 cX4_tellPart ret 54 lv (.ref h :: st) M = opK (slotV 3 4 h M) fun q => lim cal sc 4 cX4_tellPart ret 57 lv (q :: st) M := (lim_step dX4_tellPart_54).trans (e_get (by decide) rf_4_25)
theorem sX4_tellPart_57 : lim cal sc 4 cX4_tellPart ret 57 (some (.ref h) :: l) st M = lim cal sc 4 cX4_tellPart ret 58 (some (.ref h) :: l) (.ref h :: st) M := lim_step dX4_tellPart_57
theorem sX4_tellPart_58 : lim cal sc 4 cX4_tellPart ret 58 lv (.ref h :: st) M = opK (slotV 3 6 h M) fun q => lim cal sc 4 cX4_tellPart ret 61 lv (q :: st) M := (lim_step dX4_tellPart_58).trans (e_get (by decide) rf_4_31)
theorem sX4_tellPart_61 : lim cal sc 4 cX4_tellPart ret 61 lv (.int x :: .ref h :: st) M = opK (arrV9 sc h M) fun q => guK (inb x q.1) (lim cal sc 4 cX4_tellPart ret 62 lv (.int (q.2 x.toNatClampNeg) :: st) M) := (lim_step dX4_tellPart_61).trans (e_iald)
theorem sX4_tellPart_62 : lim cal sc 4 cX4_tellPart ret 62 lv (a3 :: a2 :: a1 :: .ref h :: st) M = guK (isCl 1 h) (guK (rk 8 st) (calK (cal 11 [.ref h, a1, a2, a3] M) fun q M' => lim cal sc 4 cX4_tellPart ret 65 lv (q.toList ++ st) M')) := (lim_step dX4_tellPart_62).trans (e_virt3 rm_4_138 mq_11)
theorem sX4_tellPart_65 : lim cal sc 4 cX4_tellPart ret 65 (some (.ref h) :: l) st M = lim cal sc 4 cX4_tellPart ret 66 (some (.ref h) :: l) (.ref h :: st) M := lim_step dX4_tellPart_65
theorem sX4_tellPart_66 : lim cal sc 4 cX4_tellPart ret 66 lv (.ref h :: st) M = guK (isCl 3 h) (guK (rk 8 st) (calK (cal 109 [.ref h] M) fun q M' => lim cal sc 4 cX4_tellPart ret 69 lv (q.toList ++ st) M')) := (lim_step dX4_tellPart_66).trans (e_virt0 rm_4_110 mq_109)
theorem sX4_tellPart_69 : lim cal sc 4 cX4_tellPart ret 69 lv st M = lim cal sc 4 cX4_tellPart ret 70 lv (.int 1 :: st) M := (lim_step dX4_tellPart_69).trans (e_ic k_i_1)
theorem sX4_tellPart_70 : lim cal sc 4 cX4_tellPart (some .boolean) 70 lv [.int x] M = guK (narB .boolean x) (some (some (.int x), M)) := (lim_step dX4_tellPart_70).trans (e_zret)
theorem sX4_isNumber_0 : lim cal sc 4 cX4_isNumber ret 0 (some (.ref h) :: l) st M = lim cal sc 4 cX4_isNumber ret 1 (some (.ref h) :: l) (.ref h :: st) M := lim_step dX4_isNumber_0
theorem sX4_isNumber_1 : lim cal sc 4 cX4_isNumber ret 1 lv (.ref h :: st) M = opK (slotV 3 2 h M) fun q => lim cal sc 4 cX4_isNumber ret 4 lv (q :: st) M := (lim_step dX4_isNumber_1).trans (e_get (by decide) rf_4_19)
theorem sX4_isNumber_4 : lim cal sc 4 cX4_isNumber ret 4 (some (.ref h) :: l) st M = lim cal sc 4 cX4_isNumber ret 5 (some (.ref h) :: l) (.ref h :: st) M := lim_step dX4_isNumber_4
theorem sX4_isNumber_5 : lim cal sc 4 cX4_isNumber ret 5 lv (.ref h :: st) M = opK (slotV 3 6 h M) fun q => lim cal sc 4 cX4_isNumber ret 8 lv (q :: st) M := (lim_step dX4_isNumber_5).trans (e_get (by decide) rf_4_31)
theorem sX4_isNumber_8 : lim cal sc 4 cX4_isNumber ret 8 lv (.int x :: .ref h :: st) M = opK (arrV9 sc h M) fun q => guK (inb x q.1) (lim cal sc 4 cX4_isNumber ret 9 lv (.int (q.2 x.toNatClampNeg) :: st) M) := (lim_step dX4_isNumber_8).trans (e_iald)
theorem sX4_isNumber_9 : lim cal sc 4 cX4_isNumber ret 9 lv st M = lim cal sc 4 cX4_isNumber ret 10 lv (.int 2 :: st) M := (lim_step dX4_isNumber_9).trans (e_ic k_i_2)
theorem sX4_isNumber_10 : lim cal sc 4 cX4_isNumber ret 10 lv (.int y :: .int x :: st) M = if x = y then lim cal sc 4 cX4_isNumber ret 13 lv st M else lim cal sc 4 cX4_isNumber ret 34 lv st M := (lim_step dX4_isNumber_10).trans (e_cmpne (t := 34) (by decide))
theorem sX4_isNumber_13 : lim cal sc 4 cX4_isNumber ret 13 (some (.ref h) :: l) st M = lim cal sc 4 cX4_isNumber ret 14 (some (.ref h) :: l) (.ref h :: st) M := lim_step dX4_isNumber_13
theorem sX4_isNumber_14 : lim cal sc 4 cX4_isNumber ret 14 lv (.ref h :: st) M = opK (slotV 3 4 h M) fun q => lim cal sc 4 cX4_isNumber ret 17 lv (q :: st) M := (lim_step dX4_isNumber_14).trans (e_get (by decide) rf_4_25)
theorem sX4_isNumber_17 : lim cal sc 4 cX4_isNumber ret 17 (some (.ref h) :: l) st M = lim cal sc 4 cX4_isNumber ret 18 (some (.ref h) :: l) (.ref h :: st) M := lim_step dX4_isNumber_17
theorem sX4_isNumber_18 : lim cal sc 4 cX4_isNumber ret 18 lv (.ref h :: st) M = opK (slotV 3 6 h M) fun q => lim cal sc 4 cX4_isNumber ret 21 lv (q :: st) M := (lim_step dX4_isNumber_18).trans (e_get (by decide) rf_4_31)
theorem sX4_isNumber_21 : lim cal sc 4 cX4_isNumber ret 21 lv (.int x :: .ref h :: st) M = opK (arrV9 sc h M) fun q => guK (inb x q.1) (lim cal sc 4 cX4_isNumber ret 22 lv (.int (q.2 x.toNatClampNeg) :: st) M) := (lim_step dX4_isNumber_21).trans (e_iald)
theorem sX4_isNumber_22 : lim cal sc 4 cX4_isNumber ret 22 (v0 :: some (.int x) :: l) st M = lim cal sc 4 cX4_isNumber ret 23 (v0 :: some (.int x) :: l) (.int x :: st) M := lim_step dX4_isNumber_22
theorem sX4_isNumber_23 : lim cal sc 4 cX4_isNumber ret 23 (v0 :: v1 :: some (.int x) :: l) st M = lim cal sc 4 cX4_isNumber ret 24 (v0 :: v1 :: some (.int x) :: l) (.int x :: st) M := lim_step dX4_isNumber_23
theorem sX4_isNumber_24 : lim cal sc 4 cX4_isNumber ret 24 lv (a3 :: a2 :: a1 :: st) M = guK (rk 8 st) (calK (cal 1 [a1, a2, a3] M) fun q M' => lim cal sc 4 cX4_isNumber ret 27 lv (q.toList ++ st) M') := (lim_step dX4_isNumber_24).trans (e_stat3 rm_4_141)
theorem sX4_isNumber_27 : lim cal sc 4 cX4_isNumber ret 27 lv (.int x :: st) M = if x = 0 then lim cal sc 4 cX4_isNumber ret 34 lv st M else lim cal sc 4 cX4_isNumber ret 30 lv st M := (lim_step dX4_isNumber_27).trans (e_ifeq (t := 34) (by decide))
theorem sX4_isNumber_30 : lim cal sc 4 cX4_isNumber ret 30 lv st M = lim cal sc 4 cX4_isNumber ret 31 lv (.int 1 :: st) M := (lim_step dX4_isNumber_30).trans (e_ic k_i_1)
theorem sX4_isNumber_31 : lim cal sc 4 cX4_isNumber ret 31 lv st M = lim cal sc 4 cX4_isNumber ret 35 lv st M := (lim_step dX4_isNumber_31).trans (e_goto (t := 35) (by decide))
theorem sX4_isNumber_34 : lim cal sc 4 cX4_isNumber ret 34 lv st M = lim cal sc 4 cX4_isNumber ret 35 lv (.int 0 :: st) M := (lim_step dX4_isNumber_34).trans (e_ic k_i_0)
theorem sX4_isNumber_35 : lim cal sc 4 cX4_isNumber (some .boolean) 35 lv [.int x] M = guK (narB .boolean x) (some (some (.int x), M)) := (lim_step dX4_isNumber_35).trans (e_zret)
theorem sX5_thing_0 : lim cal sc 5 cX5_thing ret 0 (v0 :: some (.int x) :: l) st M = lim cal sc 5 cX5_thing ret 1 (v0 :: some (.int x) :: l) (.int x :: st) M := lim_step dX5_thing_0
theorem sX5_thing_1 : lim cal sc 5 cX5_thing ret 1 lv st M = lim cal sc 5 cX5_thing ret 2 lv (.int 0 :: st) M := (lim_step dX5_thing_1).trans (e_ic k_i_0)
theorem sX5_thing_2 : lim cal sc 5 cX5_thing ret 2 lv st M = lim cal sc 5 cX5_thing ret 4 lv (.int 6 :: st) M := (lim_step dX5_thing_2).trans (e_bi k_b_6)
theorem sX5_thing_4 : lim cal sc 5 cX5_thing ret 4 lv (a3 :: a2 :: a1 :: st) M = guK (rk 8 st) (calK (cal 1 [a1, a2, a3] M) fun q M' => lim cal sc 5 cX5_thing ret 7 lv (q.toList ++ st) M') := (lim_step dX5_thing_4).trans (e_stat3 rm_5_65)
theorem sX5_thing_7 : lim cal sc 5 cX5_thing ret 7 lv (.int x :: st) M = if x = 0 then lim cal sc 5 cX5_thing ret 10 lv st M else lim cal sc 5 cX5_thing ret 16 lv st M := (lim_step dX5_thing_7).trans (e_ifne (t := 16) (by decide))
theorem sX5_thing_10 : lim cal sc 5 cX5_thing ret 10 (some (.ref h) :: l) st M = lim cal sc 5 cX5_thing ret 11 (some (.ref h) :: l) (.ref h :: st) M := lim_step dX5_thing_10
theorem sX5_thing_11 : lim cal sc 5 cX5_thing ret 11 lv st M = lim cal sc 5 cX5_thing ret 12 lv (.int 0 :: st) M := (lim_step dX5_thing_11).trans (e_ic k_i_0)
theorem sX5_thing_12 : lim cal sc 5 cX5_thing ret 12 lv (a1 :: .ref h :: st) M = guK (isCl 4 h) (guK (rk 8 st) (calK (cal 2 [.ref h, a1] M) fun q M' => lim cal sc 5 cX5_thing ret 15 lv (q.toList ++ st) M')) := (lim_step dX5_thing_12).trans (e_virt1 rm_5_69 mq_2)
theorem sX5_thing_15 : lim cal sc 5 cX5_thing (some .int) 15 lv [.int x] M = some (some (.int x), M) := (lim_step dX5_thing_15).trans (e_iret)
theorem sX5_thing_16 : lim cal sc 5 cX5_thing ret 16 (some (.ref h) :: l) st M = lim cal sc 5 cX5_thing ret 17 (some (.ref h) :: l) (.ref h :: st) M := lim_step dX5_thing_16
theorem sX5_thing_17 : lim cal sc 5 cX5_thing ret 17 lv (.ref h :: st) M = opK (slotV 4 0 h M) fun q => lim cal sc 5 cX5_thing ret 20 lv (q :: st) M := (lim_step dX5_thing_17).trans (e_get (by decide) rf_5_10)
theorem sX5_thing_20 : lim cal sc 5 cX5_thing ret 20 lv (.ref h :: st) M = opK (slotV 0 0 h M) fun q => lim cal sc 5 cX5_thing ret 23 lv (q :: st) M := (lim_step dX5_thing_20).trans (e_get (by decide) rf_5_73)
theorem sX5_thing_23 : lim cal sc 5 cX5_thing ret 23 lv (.ref h :: st) M = opK (slotV 1 0 h M) fun q => lim cal sc 5 cX5_thing ret 26 lv (q :: st) M := (lim_step dX5_thing_23).trans (e_get (by decide) rf_5_76)
theorem sX5_thing_26 : lim cal sc 5 cX5_thing ret 26 lv st M = lim cal sc 5 cX5_thing ret 28 lv (.int 10 :: st) M := (lim_step dX5_thing_26).trans (e_bi k_b_10)
theorem sX5_thing_28 : lim cal sc 5 cX5_thing ret 28 lv (.int y :: .int x :: st) M = if x < y then lim cal sc 5 cX5_thing ret 37 lv st M else lim cal sc 5 cX5_thing ret 31 lv st M := (lim_step dX5_thing_28).trans (e_cmplt (t := 37) (by decide))
theorem sX5_thing_31 : lim cal sc 5 cX5_thing ret 31 (some (.ref h) :: l) st M = lim cal sc 5 cX5_thing ret 32 (some (.ref h) :: l) (.ref h :: st) M := lim_step dX5_thing_31
theorem sX5_thing_32 : lim cal sc 5 cX5_thing ret 32 lv st M = lim cal sc 5 cX5_thing ret 33 lv (.int 1 :: st) M := (lim_step dX5_thing_32).trans (e_ic k_i_1)
theorem sX5_thing_33 : lim cal sc 5 cX5_thing ret 33 lv (a1 :: .ref h :: st) M = guK (isCl 4 h) (guK (rk 8 st) (calK (cal 2 [.ref h, a1] M) fun q M' => lim cal sc 5 cX5_thing ret 36 lv (q.toList ++ st) M')) := (lim_step dX5_thing_33).trans (e_virt1 rm_5_69 mq_2)
theorem sX5_thing_36 : lim cal sc 5 cX5_thing (some .int) 36 lv [.int x] M = some (some (.int x), M) := (lim_step dX5_thing_36).trans (e_iret)
theorem sX5_thing_37 : lim cal sc 5 cX5_thing ret 37 (some (.ref h) :: l) st M = lim cal sc 5 cX5_thing ret 38 (some (.ref h) :: l) (.ref h :: st) M := lim_step dX5_thing_37
theorem sX5_thing_38 : lim cal sc 5 cX5_thing ret 38 lv (.ref h :: st) M = opK (slotV 4 0 h M) fun q => lim cal sc 5 cX5_thing ret 41 lv (q :: st) M := (lim_step dX5_thing_38).trans (e_get (by decide) rf_5_10)
theorem sX5_thing_41 : lim cal sc 5 cX5_thing ret 41 lv (.ref h :: st) M = opK (slotV 0 0 h M) fun q => lim cal sc 5 cX5_thing ret 44 lv (q :: st) M := (lim_step dX5_thing_41).trans (e_get (by decide) rf_5_73)
theorem sX5_thing_44 : lim cal sc 5 cX5_thing ret 44 (v0 :: some (.int x) :: l) st M = lim cal sc 5 cX5_thing ret 45 (v0 :: some (.int x) :: l) (.int x :: st) M := lim_step dX5_thing_44
theorem sX5_thing_45 : lim cal sc 5 cX5_thing ret 45 lv (a1 :: .ref h :: st) M = guK (isCl 1 h) (guK (rk 8 st) (calK (cal 3 [.ref h, a1] M) fun q M' => lim cal sc 5 cX5_thing ret 48 lv (q.toList ++ st) M')) := (lim_step dX5_thing_45).trans (e_virt1 rm_5_79 mq_3)
theorem sX5_thing_48 : lim cal sc 5 cX5_thing (some .int) 48 lv [.int x] M = some (some (.int x), M) := (lim_step dX5_thing_48).trans (e_iret)
theorem sX5_of_0 : lim cal sc 5 cX5_of ret 0 (some (.ref h) :: l) st M = lim cal sc 5 cX5_of ret 1 (some (.ref h) :: l) (.ref h :: st) M := lim_step dX5_of_0
theorem sX5_of_1 : lim cal sc 5 cX5_of ret 1 (v0 :: some (.int x) :: l) st M = lim cal sc 5 cX5_of ret 2 (v0 :: some (.int x) :: l) (.int x :: st) M := lim_step dX5_of_1
theorem sX5_of_2 : lim cal sc 5 cX5_of ret 2 lv (a1 :: .ref h :: st) M = guK (isCl 4 h) (guK (rk 8 st) (calK (cal 6 [.ref h, a1] M) fun q M' => lim cal sc 5 cX5_of ret 5 lv (q.toList ++ st) M')) := (lim_step dX5_of_2).trans (e_virt1 rm_5_82 mq_6)
theorem sX5_of_5 : lim cal sc 5 cX5_of ret 5 lv (.int x :: st) M = if x = 0 then lim cal sc 5 cX5_of ret 18 lv st M else lim cal sc 5 cX5_of ret 8 lv st M := (lim_step dX5_of_5).trans (e_ifeq (t := 18) (by decide))
theorem sX5_of_8 : lim cal sc 5 cX5_of ret 8 (v0 :: v1 :: some (.int x) :: l) st M = lim cal sc 5 cX5_of ret 9 (v0 :: v1 :: some (.int x) :: l) (.int x :: st) M := lim_step dX5_of_8
theorem sX5_of_9 : lim cal sc 5 cX5_of ret 9 lv st M = lim cal sc 5 cX5_of ret 10 lv (.int 0 :: st) M := (lim_step dX5_of_9).trans (e_ic k_i_0)
theorem sX5_of_10 : lim cal sc 5 cX5_of ret 10 lv st M = lim cal sc 5 cX5_of ret 12 lv (.int 9 :: st) M := (lim_step dX5_of_10).trans (e_bi k_b_9)
theorem sX5_of_12 : lim cal sc 5 cX5_of ret 12 lv (a3 :: a2 :: a1 :: st) M = guK (rk 8 st) (calK (cal 1 [a1, a2, a3] M) fun q M' => lim cal sc 5 cX5_of ret 15 lv (q.toList ++ st) M') := (lim_step dX5_of_12).trans (e_stat3 rm_5_65)
theorem sX5_of_15 : lim cal sc 5 cX5_of ret 15 lv (.int x :: st) M = if x = 0 then lim cal sc 5 cX5_of ret 18 lv st M else lim cal sc 5 cX5_of ret 24 lv st M := (lim_step dX5_of_15).trans (e_ifne (t := 24) (by decide))
theorem sX5_of_18 : lim cal sc 5 cX5_of ret 18 (some (.ref h) :: l) st M = lim cal sc 5 cX5_of ret 19 (some (.ref h) :: l) (.ref h :: st) M := lim_step dX5_of_18
theorem sX5_of_19 : lim cal sc 5 cX5_of ret 19 lv st M = lim cal sc 5 cX5_of ret 20 lv (.int 0 :: st) M := (lim_step dX5_of_19).trans (e_ic k_i_0)
theorem sX5_of_20 : lim cal sc 5 cX5_of ret 20 lv (a1 :: .ref h :: st) M = guK (isCl 4 h) (guK (rk 8 st) (calK (cal 2 [.ref h, a1] M) fun q M' => lim cal sc 5 cX5_of ret 23 lv (q.toList ++ st) M')) := (lim_step dX5_of_20).trans (e_virt1 rm_5_69 mq_2)
theorem sX5_of_23 : lim cal sc 5 cX5_of (some .int) 23 lv [.int x] M = some (some (.int x), M) := (lim_step dX5_of_23).trans (e_iret)
theorem sX5_of_24 : lim cal sc 5 cX5_of ret 24 (some (.ref h) :: l) st M = lim cal sc 5 cX5_of ret 25 (some (.ref h) :: l) (.ref h :: st) M := lim_step dX5_of_24
theorem sX5_of_25 : lim cal sc 5 cX5_of ret 25 lv (.ref h :: st) M = opK (slotV 4 0 h M) fun q => lim cal sc 5 cX5_of ret 28 lv (q :: st) M := (lim_step dX5_of_25).trans (e_get (by decide) rf_5_10)
theorem sX5_of_28 : lim cal sc 5 cX5_of ret 28 lv (.ref h :: st) M = opK (slotV 0 0 h M) fun q => lim cal sc 5 cX5_of ret 31 lv (q :: st) M := (lim_step dX5_of_28).trans (e_get (by decide) rf_5_73)
theorem sX5_of_31 : lim cal sc 5 cX5_of ret 31 (v0 :: some (.int x) :: l) st M = lim cal sc 5 cX5_of ret 32 (v0 :: some (.int x) :: l) (.int x :: st) M := lim_step dX5_of_31
theorem sX5_of_32 : lim cal sc 5 cX5_of ret 32 (v0 :: v1 :: some (.int x) :: l) st M = lim cal sc 5 cX5_of ret 33 (v0 :: v1 :: some (.int x) :: l) (.int x :: st) M := lim_step dX5_of_32
theorem sX5_of_33 : lim cal sc 5 cX5_of ret 33 lv (a2 :: a1 :: .ref h :: st) M = guK (isCl 1 h) (guK (rk 8 st) (calK (cal 7 [.ref h, a1, a2] M) fun q M' => lim cal sc 5 cX5_of ret 36 lv (q.toList ++ st) M')) := (lim_step dX5_of_33).trans (e_virt2 rm_5_86 mq_7)
theorem sX5_of_36 : lim cal sc 5 cX5_of (some .int) 36 lv [.int x] M = some (some (.int x), M) := (lim_step dX5_of_36).trans (e_iret)
theorem sX5_change_0 : lim cal sc 5 cX5_change ret 0 (some (.ref h) :: l) st M = lim cal sc 5 cX5_change ret 1 (some (.ref h) :: l) (.ref h :: st) M := lim_step dX5_change_0
theorem sX5_change_1 : lim cal sc 5 cX5_change ret 1 (v0 :: some (.int x) :: l) st M = lim cal sc 5 cX5_change ret 2 (v0 :: some (.int x) :: l) (.int x :: st) M := lim_step dX5_change_1
theorem sX5_change_2 : lim cal sc 5 cX5_change ret 2 lv (a1 :: .ref h :: st) M = guK (isCl 4 h) (guK (rk 8 st) (calK (cal 6 [.ref h, a1] M) fun q M' => lim cal sc 5 cX5_change ret 5 lv (q.toList ++ st) M')) := (lim_step dX5_change_2).trans (e_virt1 rm_5_82 mq_6)
theorem sX5_change_5 : lim cal sc 5 cX5_change ret 5 lv (.int x :: st) M = if x = 0 then lim cal sc 5 cX5_change ret 16 lv st M else lim cal sc 5 cX5_change ret 8 lv st M := (lim_step dX5_change_5).trans (e_ifeq (t := 16) (by decide))
theorem sX5_change_8 : lim cal sc 5 cX5_change ret 8 (v0 :: v1 :: some (.int x) :: l) st M = lim cal sc 5 cX5_change ret 9 (v0 :: v1 :: some (.int x) :: l) (.int x :: st) M := lim_step dX5_change_8
theorem sX5_change_9 : lim cal sc 5 cX5_change ret 9 (v0 :: v1 :: v2 :: some (.int x) :: l) st M = lim cal sc 5 cX5_change ret 10 (v0 :: v1 :: v2 :: some (.int x) :: l) (.int x :: st) M := lim_step dX5_change_9
theorem sX5_change_10 : lim cal sc 5 cX5_change ret 10 lv (a2 :: a1 :: st) M = guK (rk 8 st) (calK (cal 10 [a1, a2] M) fun q M' => lim cal sc 5 cX5_change ret 13 lv (q.toList ++ st) M') := (lim_step dX5_change_10).trans (e_stat2 rm_5_90)
theorem sX5_change_13 : lim cal sc 5 cX5_change ret 13 lv (.int x :: st) M = if x = 0 then lim cal sc 5 cX5_change ret 16 lv st M else lim cal sc 5 cX5_change ret 22 lv st M := (lim_step dX5_change_13).trans (e_ifne (t := 22) (by decide))
theorem sX5_change_16 : lim cal sc 5 cX5_change ret 16 (some (.ref h) :: l) st M = lim cal sc 5 cX5_change ret 17 (some (.ref h) :: l) (.ref h :: st) M := lim_step dX5_change_16
theorem sX5_change_17 : lim cal sc 5 cX5_change ret 17 lv st M = lim cal sc 5 cX5_change ret 18 lv (.int 0 :: st) M := (lim_step dX5_change_17).trans (e_ic k_i_0)
theorem sX5_change_18 : lim cal sc 5 cX5_change ret 18 lv (a1 :: .ref h :: st) M = guK (isCl 4 h) (guK (rk 8 st) (calK (cal 2 [.ref h, a1] M) fun q M' => lim cal sc 5 cX5_change ret 21 lv (q.toList ++ st) M')) := (lim_step dX5_change_18).trans (e_virt1 rm_5_69 mq_2)
theorem sX5_change_21 : lim cal sc 5 cX5_change (some .int) 21 lv [.int x] M = some (some (.int x), M) := (lim_step dX5_change_21).trans (e_iret)
theorem sX5_change_22 : lim cal sc 5 cX5_change ret 22 (some (.ref h) :: l) st M = lim cal sc 5 cX5_change ret 23 (some (.ref h) :: l) (.ref h :: st) M := lim_step dX5_change_22
theorem sX5_change_23 : lim cal sc 5 cX5_change ret 23 lv (.ref h :: st) M = opK (slotV 4 0 h M) fun q => lim cal sc 5 cX5_change ret 26 lv (q :: st) M := (lim_step dX5_change_23).trans (e_get (by decide) rf_5_10)
theorem sX5_change_26 : lim cal sc 5 cX5_change ret 26 lv (.ref h :: st) M = opK (slotV 0 0 h M) fun q => lim cal sc 5 cX5_change ret 29 lv (q :: st) M := (lim_step dX5_change_26).trans (e_get (by decide) rf_5_73)
theorem sX5_change_29 : lim cal sc 5 cX5_change ret 29 (v0 :: some (.int x) :: l) st M = lim cal sc 5 cX5_change ret 30 (v0 :: some (.int x) :: l) (.int x :: st) M := lim_step dX5_change_29
theorem sX5_change_30 : lim cal sc 5 cX5_change ret 30 (v0 :: v1 :: some (.int x) :: l) st M = lim cal sc 5 cX5_change ret 31 (v0 :: v1 :: some (.int x) :: l) (.int x :: st) M := lim_step dX5_change_30
theorem sX5_change_31 : lim cal sc 5 cX5_change ret 31 lv (a2 :: a1 :: .ref h :: st) M = guK (isCl 1 h) (guK (rk 8 st) (calK (cal 7 [.ref h, a1, a2] M) fun q M' => lim cal sc 5 cX5_change ret 34 lv (q.toList ++ st) M')) := (lim_step dX5_change_31).trans (e_virt2 rm_5_86 mq_7)
theorem sX5_change_34 : lim cal sc 5 cX5_change ret 34 (v0 :: v1 :: v2 :: v3 :: v :: l) (.int x :: st) M = lim cal sc 5 cX5_change ret 36 (v0 :: v1 :: v2 :: v3 :: some (.int x) :: l) st M := (lim_step dX5_change_34).trans (e_ist4)
theorem sX5_change_36 : lim cal sc 5 cX5_change ret 36 (some (.ref h) :: l) st M = lim cal sc 5 cX5_change ret 37 (some (.ref h) :: l) (.ref h :: st) M := lim_step dX5_change_36
theorem sX5_change_37 : lim cal sc 5 cX5_change ret 37 lv (.ref h :: st) M = opK (slotV 4 0 h M) fun q => lim cal sc 5 cX5_change ret 40 lv (q :: st) M := (lim_step dX5_change_37).trans (e_get (by decide) rf_5_10)
theorem sX5_change_40 : lim cal sc 5 cX5_change ret 40 lv (.ref h :: st) M = opK (slotV 0 0 h M) fun q => lim cal sc 5 cX5_change ret 43 lv (q :: st) M := (lim_step dX5_change_40).trans (e_get (by decide) rf_5_73)
theorem sX5_change_43 : lim cal sc 5 cX5_change ret 43 (v0 :: some (.int x) :: l) st M = lim cal sc 5 cX5_change ret 44 (v0 :: some (.int x) :: l) (.int x :: st) M := lim_step dX5_change_43
theorem sX5_change_44 : lim cal sc 5 cX5_change ret 44 (v0 :: v1 :: some (.int x) :: l) st M = lim cal sc 5 cX5_change ret 45 (v0 :: v1 :: some (.int x) :: l) (.int x :: st) M := lim_step dX5_change_44
theorem sX5_change_45 : lim cal sc 5 cX5_change ret 45 (v0 :: v1 :: v2 :: some (.int x) :: l) st M = lim cal sc 5 cX5_change ret 46 (v0 :: v1 :: v2 :: some (.int x) :: l) (.int x :: st) M := lim_step dX5_change_45
theorem sX5_change_46 : lim cal sc 5 cX5_change ret 46 lv (a3 :: a2 :: a1 :: .ref h :: st) M = guK (isCl 1 h) (guK (rk 8 st) (calK (cal 11 [.ref h, a1, a2, a3] M) fun q M' => lim cal sc 5 cX5_change ret 49 lv (q.toList ++ st) M')) := (lim_step dX5_change_46).trans (e_virt3 rm_5_94 mq_11)
theorem sX5_change_49 : lim cal sc 5 cX5_change ret 49 (v0 :: v1 :: v2 :: v3 :: some (.int x) :: l) st M = lim cal sc 5 cX5_change ret 51 (v0 :: v1 :: v2 :: v3 :: some (.int x) :: l) (.int x :: st) M := lim_step dX5_change_49
theorem sX5_change_51 : lim cal sc 5 cX5_change (some .int) 51 lv [.int x] M = some (some (.int x), M) := (lim_step dX5_change_51).trans (e_iret)
theorem sX5_rule_0 : lim cal sc 5 cX5_rule ret 0 (some (.ref h) :: l) st M = lim cal sc 5 cX5_rule ret 1 (some (.ref h) :: l) (.ref h :: st) M := lim_step dX5_rule_0
theorem sX5_rule_1 : lim cal sc 5 cX5_rule ret 1 lv (.ref h :: st) M = opK (slotV 4 0 h M) fun q => lim cal sc 5 cX5_rule ret 4 lv (q :: st) M := (lim_step dX5_rule_1).trans (e_get (by decide) rf_5_10)
theorem sX5_rule_4 : lim cal sc 5 cX5_rule ret 4 lv (.ref h :: st) M = opK (slotV 0 0 h M) fun q => lim cal sc 5 cX5_rule ret 7 lv (q :: st) M := (lim_step dX5_rule_4).trans (e_get (by decide) rf_5_73)
theorem sX5_rule_7 : lim cal sc 5 cX5_rule ret 7 (v0 :: v1 :: v2 :: v :: l) (.ref h :: st) M = lim cal sc 5 cX5_rule ret 8 (v0 :: v1 :: v2 :: some (.ref h) :: l) st M := (lim_step dX5_rule_7).trans (e_astn3)
theorem sX5_rule_8 : lim cal sc 5 cX5_rule ret 8 (v0 :: some (.int x) :: l) st M = lim cal sc 5 cX5_rule ret 9 (v0 :: some (.int x) :: l) (.int x :: st) M := lim_step dX5_rule_8
theorem sX5_rule_9 : lim cal sc 5 cX5_rule ret 9 lv (.int x :: st) M = if x = 0 then lim cal sc 5 cX5_rule ret 12 lv st M else lim cal sc 5 cX5_rule ret 36 lv st M := (lim_step dX5_rule_9).trans (e_ifne (t := 36) (by decide))
theorem sX5_rule_12 : lim cal sc 5 cX5_rule ret 12 (v0 :: v1 :: some (.int x) :: l) st M = lim cal sc 5 cX5_rule ret 13 (v0 :: v1 :: some (.int x) :: l) (.int x :: st) M := lim_step dX5_rule_12
theorem sX5_rule_13 : lim cal sc 5 cX5_rule ret 13 lv st M = lim cal sc 5 cX5_rule ret 14 lv (.int 1 :: st) M := (lim_step dX5_rule_13).trans (e_ic k_i_1)
theorem sX5_rule_14 : lim cal sc 5 cX5_rule ret 14 lv st M = lim cal sc 5 cX5_rule ret 16 lv (.int 40 :: st) M := (lim_step dX5_rule_14).trans (e_bi k_b_40)
theorem sX5_rule_16 : lim cal sc 5 cX5_rule ret 16 lv (a3 :: a2 :: a1 :: st) M = guK (rk 8 st) (calK (cal 1 [a1, a2, a3] M) fun q M' => lim cal sc 5 cX5_rule ret 19 lv (q.toList ++ st) M') := (lim_step dX5_rule_16).trans (e_stat3 rm_5_65)
theorem sX5_rule_19 : lim cal sc 5 cX5_rule ret 19 lv (.int x :: st) M = if x = 0 then lim cal sc 5 cX5_rule ret 36 lv st M else lim cal sc 5 cX5_rule ret 22 lv st M := (lim_step dX5_rule_19).trans (e_ifeq (t := 36) (by decide))
theorem sX5_rule_22 : lim cal sc 5 cX5_rule ret 22 (v0 :: v1 :: v2 :: some (.ref h) :: l) st M = lim cal sc 5 cX5_rule ret 23 (v0 :: v1 :: v2 :: some (.ref h) :: l) (.ref h :: st) M := lim_step dX5_rule_22
theorem sX5_rule_23 : lim cal sc 5 cX5_rule ret 23 lv (.ref h :: st) M = opK (slotV 1 10 h M) fun q => lim cal sc 5 cX5_rule ret 26 lv (q :: st) M := (lim_step dX5_rule_23).trans (e_get (by decide) rf_5_98)
theorem sX5_rule_26 : lim cal sc 5 cX5_rule ret 26 (v0 :: v1 :: v2 :: v3 :: v :: l) (.int x :: st) M = lim cal sc 5 cX5_rule ret 28 (v0 :: v1 :: v2 :: v3 :: some (.int x) :: l) st M := (lim_step dX5_rule_26).trans (e_ist4)
theorem sX5_rule_28 : lim cal sc 5 cX5_rule ret 28 (v0 :: v1 :: v2 :: some (.ref h) :: l) st M = lim cal sc 5 cX5_rule ret 29 (v0 :: v1 :: v2 :: some (.ref h) :: l) (.ref h :: st) M := lim_step dX5_rule_28
theorem sX5_rule_29 : lim cal sc 5 cX5_rule ret 29 (v0 :: v1 :: some (.int x) :: l) st M = lim cal sc 5 cX5_rule ret 30 (v0 :: v1 :: some (.int x) :: l) (.int x :: st) M := lim_step dX5_rule_29
theorem sX5_rule_30 : lim cal sc 5 cX5_rule ret 30 lv (.int x :: .ref h :: st) M = guK (isInt 1 10 h) (lim cal sc 5 cX5_rule ret 33 lv st (mset M h 10 x)) := (lim_step dX5_rule_30).trans (e_put rf_5_98 rfl)
theorem sX5_rule_33 : lim cal sc 5 cX5_rule ret 33 (v0 :: v1 :: v2 :: v3 :: some (.int x) :: l) st M = lim cal sc 5 cX5_rule ret 35 (v0 :: v1 :: v2 :: v3 :: some (.int x) :: l) (.int x :: st) M := lim_step dX5_rule_33
theorem sX5_rule_35 : lim cal sc 5 cX5_rule (some .int) 35 lv [.int x] M = some (some (.int x), M) := (lim_step dX5_rule_35).trans (e_iret)
theorem sX5_rule_36 : lim cal sc 5 cX5_rule ret 36 (v0 :: some (.int x) :: l) st M = lim cal sc 5 cX5_rule ret 37 (v0 :: some (.int x) :: l) (.int x :: st) M := lim_step dX5_rule_36
theorem sX5_rule_37 : lim cal sc 5 cX5_rule ret 37 lv st M = lim cal sc 5 cX5_rule ret 38 lv (.int 1 :: st) M := (lim_step dX5_rule_37).trans (e_ic k_i_1)
theorem sX5_rule_38 : lim cal sc 5 cX5_rule ret 38 lv (.int y :: .int x :: st) M = if x = y then lim cal sc 5 cX5_rule ret 41 lv st M else lim cal sc 5 cX5_rule ret 65 lv st M := (lim_step dX5_rule_38).trans (e_cmpne (t := 65) (by decide))
theorem sX5_rule_41 : lim cal sc 5 cX5_rule ret 41 (v0 :: v1 :: some (.int x) :: l) st M = lim cal sc 5 cX5_rule ret 42 (v0 :: v1 :: some (.int x) :: l) (.int x :: st) M := lim_step dX5_rule_41
theorem sX5_rule_42 : lim cal sc 5 cX5_rule ret 42 lv st M = lim cal sc 5 cX5_rule ret 43 lv (.int 0 :: st) M := (lim_step dX5_rule_42).trans (e_ic k_i_0)
theorem sX5_rule_43 : lim cal sc 5 cX5_rule ret 43 lv st M = lim cal sc 5 cX5_rule ret 45 lv (.int 9 :: st) M := (lim_step dX5_rule_43).trans (e_bi k_b_9)
theorem sX5_rule_45 : lim cal sc 5 cX5_rule ret 45 lv (a3 :: a2 :: a1 :: st) M = guK (rk 8 st) (calK (cal 1 [a1, a2, a3] M) fun q M' => lim cal sc 5 cX5_rule ret 48 lv (q.toList ++ st) M') := (lim_step dX5_rule_45).trans (e_stat3 rm_5_65)
theorem sX5_rule_48 : lim cal sc 5 cX5_rule ret 48 lv (.int x :: st) M = if x = 0 then lim cal sc 5 cX5_rule ret 65 lv st M else lim cal sc 5 cX5_rule ret 51 lv st M := (lim_step dX5_rule_48).trans (e_ifeq (t := 65) (by decide))
theorem sX5_rule_51 : lim cal sc 5 cX5_rule ret 51 (v0 :: v1 :: v2 :: some (.ref h) :: l) st M = lim cal sc 5 cX5_rule ret 52 (v0 :: v1 :: v2 :: some (.ref h) :: l) (.ref h :: st) M := lim_step dX5_rule_51
theorem sX5_rule_52 : lim cal sc 5 cX5_rule ret 52 lv (.ref h :: st) M = opK (slotV 1 11 h M) fun q => lim cal sc 5 cX5_rule ret 55 lv (q :: st) M := (lim_step dX5_rule_52).trans (e_get (by decide) rf_5_101)
theorem sX5_rule_55 : lim cal sc 5 cX5_rule ret 55 (v0 :: v1 :: v2 :: v3 :: v :: l) (.int x :: st) M = lim cal sc 5 cX5_rule ret 57 (v0 :: v1 :: v2 :: v3 :: some (.int x) :: l) st M := (lim_step dX5_rule_55).trans (e_ist4)
theorem sX5_rule_57 : lim cal sc 5 cX5_rule ret 57 (v0 :: v1 :: v2 :: some (.ref h) :: l) st M = lim cal sc 5 cX5_rule ret 58 (v0 :: v1 :: v2 :: some (.ref h) :: l) (.ref h :: st) M := lim_step dX5_rule_57
theorem sX5_rule_58 : lim cal sc 5 cX5_rule ret 58 (v0 :: v1 :: some (.int x) :: l) st M = lim cal sc 5 cX5_rule ret 59 (v0 :: v1 :: some (.int x) :: l) (.int x :: st) M := lim_step dX5_rule_58
theorem sX5_rule_59 : lim cal sc 5 cX5_rule ret 59 lv (.int x :: .ref h :: st) M = guK (isInt 1 11 h) (lim cal sc 5 cX5_rule ret 62 lv st (mset M h 11 x)) := (lim_step dX5_rule_59).trans (e_put rf_5_101 rfl)
theorem sX5_rule_62 : lim cal sc 5 cX5_rule ret 62 (v0 :: v1 :: v2 :: v3 :: some (.int x) :: l) st M = lim cal sc 5 cX5_rule ret 64 (v0 :: v1 :: v2 :: v3 :: some (.int x) :: l) (.int x :: st) M := lim_step dX5_rule_62
theorem sX5_rule_64 : lim cal sc 5 cX5_rule (some .int) 64 lv [.int x] M = some (some (.int x), M) := (lim_step dX5_rule_64).trans (e_iret)
theorem sX5_rule_65 : lim cal sc 5 cX5_rule ret 65 (some (.ref h) :: l) st M = lim cal sc 5 cX5_rule ret 66 (some (.ref h) :: l) (.ref h :: st) M := lim_step dX5_rule_65
theorem sX5_rule_66 : lim cal sc 5 cX5_rule ret 66 lv st M = lim cal sc 5 cX5_rule ret 67 lv (.int 0 :: st) M := (lim_step dX5_rule_66).trans (e_ic k_i_0)
theorem sX5_rule_67 : lim cal sc 5 cX5_rule ret 67 lv (a1 :: .ref h :: st) M = guK (isCl 4 h) (guK (rk 8 st) (calK (cal 2 [.ref h, a1] M) fun q M' => lim cal sc 5 cX5_rule ret 70 lv (q.toList ++ st) M')) := (lim_step dX5_rule_67).trans (e_virt1 rm_5_69 mq_2)
theorem sX5_rule_70 : lim cal sc 5 cX5_rule (some .int) 70 lv [.int x] M = some (some (.int x), M) := (lim_step dX5_rule_70).trans (e_iret)
theorem sX5_fed_0 : lim cal sc 5 cX5_fed ret 0 (some (.ref h) :: l) st M = lim cal sc 5 cX5_fed ret 1 (some (.ref h) :: l) (.ref h :: st) M := lim_step dX5_fed_0
theorem sX5_fed_1 : lim cal sc 5 cX5_fed ret 1 (v0 :: some (.int x) :: l) st M = lim cal sc 5 cX5_fed ret 2 (v0 :: some (.int x) :: l) (.int x :: st) M := lim_step dX5_fed_1
theorem sX5_fed_2 : lim cal sc 5 cX5_fed ret 2 lv (a1 :: .ref h :: st) M = guK (isCl 4 h) (guK (rk 8 st) (calK (cal 6 [.ref h, a1] M) fun q M' => lim cal sc 5 cX5_fed ret 5 lv (q.toList ++ st) M')) := (lim_step dX5_fed_2).trans (e_virt1 rm_5_82 mq_6)
theorem sX5_fed_5 : lim cal sc 5 cX5_fed ret 5 lv (.int x :: st) M = if x = 0 then lim cal sc 5 cX5_fed ret 8 lv st M else lim cal sc 5 cX5_fed ret 14 lv st M := (lim_step dX5_fed_5).trans (e_ifne (t := 14) (by decide))
theorem sX5_fed_8 : lim cal sc 5 cX5_fed ret 8 (some (.ref h) :: l) st M = lim cal sc 5 cX5_fed ret 9 (some (.ref h) :: l) (.ref h :: st) M := lim_step dX5_fed_8
theorem sX5_fed_9 : lim cal sc 5 cX5_fed ret 9 lv st M = lim cal sc 5 cX5_fed ret 10 lv (.int 0 :: st) M := (lim_step dX5_fed_9).trans (e_ic k_i_0)
theorem sX5_fed_10 : lim cal sc 5 cX5_fed ret 10 lv (a1 :: .ref h :: st) M = guK (isCl 4 h) (guK (rk 8 st) (calK (cal 2 [.ref h, a1] M) fun q M' => lim cal sc 5 cX5_fed ret 13 lv (q.toList ++ st) M')) := (lim_step dX5_fed_10).trans (e_virt1 rm_5_69 mq_2)
theorem sX5_fed_13 : lim cal sc 5 cX5_fed (some .int) 13 lv [.int x] M = some (some (.int x), M) := (lim_step dX5_fed_13).trans (e_iret)
theorem sX5_fed_14 : lim cal sc 5 cX5_fed ret 14 (some (.ref h) :: l) st M = lim cal sc 5 cX5_fed ret 15 (some (.ref h) :: l) (.ref h :: st) M := lim_step dX5_fed_14
theorem sX5_fed_15 : lim cal sc 5 cX5_fed ret 15 lv (.ref h :: st) M = opK (slotV 4 0 h M) fun q => lim cal sc 5 cX5_fed ret 18 lv (q :: st) M := (lim_step dX5_fed_15).trans (e_get (by decide) rf_5_10)
theorem sX5_fed_18 : lim cal sc 5 cX5_fed ret 18 lv (.ref h :: st) M = opK (slotV 0 0 h M) fun q => lim cal sc 5 cX5_fed ret 21 lv (q :: st) M := (lim_step dX5_fed_18).trans (e_get (by decide) rf_5_73)
theorem sX5_fed_21 : lim cal sc 5 cX5_fed ret 21 (v0 :: some (.int x) :: l) st M = lim cal sc 5 cX5_fed ret 22 (v0 :: some (.int x) :: l) (.int x :: st) M := lim_step dX5_fed_21
theorem sX5_fed_22 : lim cal sc 5 cX5_fed ret 22 lv (a1 :: .ref h :: st) M = guK (isCl 1 h) (guK (rk 8 st) (calK (cal 14 [.ref h, a1] M) fun q M' => lim cal sc 5 cX5_fed ret 25 lv (q.toList ++ st) M')) := (lim_step dX5_fed_22).trans (e_virt1 rm_5_104 mq_14)
theorem sX5_fed_25 : lim cal sc 5 cX5_fed ret 25 lv (.int x :: st) M = if x = 0 then lim cal sc 5 cX5_fed ret 28 lv st M else lim cal sc 5 cX5_fed ret 34 lv st M := (lim_step dX5_fed_25).trans (e_ifne (t := 34) (by decide))
theorem sX5_fed_28 : lim cal sc 5 cX5_fed ret 28 (some (.ref h) :: l) st M = lim cal sc 5 cX5_fed ret 29 (some (.ref h) :: l) (.ref h :: st) M := lim_step dX5_fed_28
theorem sX5_fed_29 : lim cal sc 5 cX5_fed ret 29 lv st M = lim cal sc 5 cX5_fed ret 30 lv (.int 4 :: st) M := (lim_step dX5_fed_29).trans (e_ic k_i_4)
theorem sX5_fed_30 : lim cal sc 5 cX5_fed ret 30 lv (a1 :: .ref h :: st) M = guK (isCl 4 h) (guK (rk 8 st) (calK (cal 2 [.ref h, a1] M) fun q M' => lim cal sc 5 cX5_fed ret 33 lv (q.toList ++ st) M')) := (lim_step dX5_fed_30).trans (e_virt1 rm_5_69 mq_2)
theorem sX5_fed_33 : lim cal sc 5 cX5_fed (some .int) 33 lv [.int x] M = some (some (.int x), M) := (lim_step dX5_fed_33).trans (e_iret)
theorem sX5_fed_34 : lim cal sc 5 cX5_fed ret 34 (some (.ref h) :: l) st M = lim cal sc 5 cX5_fed ret 35 (some (.ref h) :: l) (.ref h :: st) M := lim_step dX5_fed_34
theorem sX5_fed_35 : lim cal sc 5 cX5_fed ret 35 lv (.ref h :: st) M = opK (slotV 4 0 h M) fun q => lim cal sc 5 cX5_fed ret 38 lv (q :: st) M := (lim_step dX5_fed_35).trans (e_get (by decide) rf_5_10)
theorem sX5_fed_38 : lim cal sc 5 cX5_fed ret 38 lv (.ref h :: st) M = opK (slotV 0 0 h M) fun q => lim cal sc 5 cX5_fed ret 41 lv (q :: st) M := (lim_step dX5_fed_38).trans (e_get (by decide) rf_5_73)
theorem sX5_fed_41 : lim cal sc 5 cX5_fed ret 41 (v0 :: some (.int x) :: l) st M = lim cal sc 5 cX5_fed ret 42 (v0 :: some (.int x) :: l) (.int x :: st) M := lim_step dX5_fed_41
theorem sX5_fed_42 : lim cal sc 5 cX5_fed ret 42 lv (a1 :: .ref h :: st) M = guK (isCl 1 h) (guK (rk 8 st) (calK (cal 15 [.ref h, a1] M) fun q M' => lim cal sc 5 cX5_fed ret 45 lv (q.toList ++ st) M')) := (lim_step dX5_fed_42).trans (e_virt1 rm_5_107 mq_15)
theorem sX5_fed_45 : lim cal sc 5 cX5_fed ret 45 lv (.int x :: st) M = if x = 0 then lim cal sc 5 cX5_fed ret 48 lv st M else lim cal sc 5 cX5_fed ret 54 lv st M := (lim_step dX5_fed_45).trans (e_ifne (t := 54) (by decide))
theorem sX5_fed_48 : lim cal sc 5 cX5_fed ret 48 (some (.ref h) :: l) st M = lim cal sc 5 cX5_fed ret 49 (some (.ref h) :: l) (.ref h :: st) M := lim_step dX5_fed_48
theorem sX5_fed_49 : lim cal sc 5 cX5_fed ret 49 lv st M = lim cal sc 5 cX5_fed ret 50 lv (.int 1 :: st) M := (lim_step dX5_fed_49).trans (e_ic k_i_1)
theorem sX5_fed_50 : lim cal sc 5 cX5_fed ret 50 lv (a1 :: .ref h :: st) M = guK (isCl 4 h) (guK (rk 8 st) (calK (cal 2 [.ref h, a1] M) fun q M' => lim cal sc 5 cX5_fed ret 53 lv (q.toList ++ st) M')) := (lim_step dX5_fed_50).trans (e_virt1 rm_5_69 mq_2)
theorem sX5_fed_53 : lim cal sc 5 cX5_fed (some .int) 53 lv [.int x] M = some (some (.int x), M) := (lim_step dX5_fed_53).trans (e_iret)
theorem sX5_fed_54 : lim cal sc 5 cX5_fed ret 54 (some (.ref h) :: l) st M = lim cal sc 5 cX5_fed ret 55 (some (.ref h) :: l) (.ref h :: st) M := lim_step dX5_fed_54
theorem sX5_fed_55 : lim cal sc 5 cX5_fed ret 55 lv (.ref h :: st) M = opK (slotV 4 0 h M) fun q => lim cal sc 5 cX5_fed ret 58 lv (q :: st) M := (lim_step dX5_fed_55).trans (e_get (by decide) rf_5_10)
theorem sX5_fed_58 : lim cal sc 5 cX5_fed ret 58 lv (.ref h :: st) M = opK (slotV 0 0 h M) fun q => lim cal sc 5 cX5_fed ret 61 lv (q :: st) M := (lim_step dX5_fed_58).trans (e_get (by decide) rf_5_73)
theorem sX5_fed_61 : lim cal sc 5 cX5_fed ret 61 (v0 :: some (.int x) :: l) st M = lim cal sc 5 cX5_fed ret 62 (v0 :: some (.int x) :: l) (.int x :: st) M := lim_step dX5_fed_61
theorem sX5_fed_62 : lim cal sc 5 cX5_fed ret 62 lv (a1 :: .ref h :: st) M = guK (isCl 1 h) (guK (rk 8 st) (calK (cal 17 [.ref h, a1] M) fun q M' => lim cal sc 5 cX5_fed ret 65 lv (q.toList ++ st) M')) := (lim_step dX5_fed_62).trans (e_virt1 rm_5_110 mq_17)
theorem sX5_fed_65 : lim cal sc 5 cX5_fed ret 65 (some (.ref h) :: l) st M = lim cal sc 5 cX5_fed ret 66 (some (.ref h) :: l) (.ref h :: st) M := lim_step dX5_fed_65
theorem sX5_fed_66 : lim cal sc 5 cX5_fed ret 66 lv (.ref h :: st) M = opK (slotV 4 0 h M) fun q => lim cal sc 5 cX5_fed ret 69 lv (q :: st) M := (lim_step dX5_fed_66).trans (e_get (by decide) rf_5_10)
theorem sX5_fed_69 : lim cal sc 5 cX5_fed ret 69 lv (.ref h :: st) M = opK (slotV 0 0 h M) fun q => lim cal sc 5 cX5_fed ret 72 lv (q :: st) M := (lim_step dX5_fed_69).trans (e_get (by decide) rf_5_73)
theorem sX5_fed_72 : lim cal sc 5 cX5_fed ret 72 lv (.ref h :: st) M = opK (slotV 1 9 h M) fun q => lim cal sc 5 cX5_fed ret 75 lv (q :: st) M := (lim_step dX5_fed_72).trans (e_get (by decide) rf_5_114)
theorem sX5_fed_75 : lim cal sc 5 cX5_fed (some .int) 75 lv [.int x] M = some (some (.int x), M) := (lim_step dX5_fed_75).trans (e_iret)
theorem sX5_home_0 : lim cal sc 5 cX5_home ret 0 (some (.ref h) :: l) st M = lim cal sc 5 cX5_home ret 1 (some (.ref h) :: l) (.ref h :: st) M := lim_step dX5_home_0
theorem sX5_home_1 : lim cal sc 5 cX5_home ret 1 (v0 :: some (.int x) :: l) st M = lim cal sc 5 cX5_home ret 2 (v0 :: some (.int x) :: l) (.int x :: st) M := lim_step dX5_home_1
theorem sX5_home_2 : lim cal sc 5 cX5_home ret 2 lv (a1 :: .ref h :: st) M = guK (isCl 4 h) (guK (rk 8 st) (calK (cal 6 [.ref h, a1] M) fun q M' => lim cal sc 5 cX5_home ret 5 lv (q.toList ++ st) M')) := (lim_step dX5_home_2).trans (e_virt1 rm_5_82 mq_6)
theorem sX5_home_5 : lim cal sc 5 cX5_home ret 5 lv (.int x :: st) M = if x = 0 then lim cal sc 5 cX5_home ret 8 lv st M else lim cal sc 5 cX5_home ret 14 lv st M := (lim_step dX5_home_5).trans (e_ifne (t := 14) (by decide))
theorem sX5_home_8 : lim cal sc 5 cX5_home ret 8 (some (.ref h) :: l) st M = lim cal sc 5 cX5_home ret 9 (some (.ref h) :: l) (.ref h :: st) M := lim_step dX5_home_8
theorem sX5_home_9 : lim cal sc 5 cX5_home ret 9 lv st M = lim cal sc 5 cX5_home ret 10 lv (.int 0 :: st) M := (lim_step dX5_home_9).trans (e_ic k_i_0)
theorem sX5_home_10 : lim cal sc 5 cX5_home ret 10 lv (a1 :: .ref h :: st) M = guK (isCl 4 h) (guK (rk 8 st) (calK (cal 2 [.ref h, a1] M) fun q M' => lim cal sc 5 cX5_home ret 13 lv (q.toList ++ st) M')) := (lim_step dX5_home_10).trans (e_virt1 rm_5_69 mq_2)
theorem sX5_home_13 : lim cal sc 5 cX5_home (some .int) 13 lv [.int x] M = some (some (.int x), M) := (lim_step dX5_home_13).trans (e_iret)
theorem sX5_home_14 : lim cal sc 5 cX5_home ret 14 (some (.ref h) :: l) st M = lim cal sc 5 cX5_home ret 15 (some (.ref h) :: l) (.ref h :: st) M := lim_step dX5_home_14
theorem sX5_home_15 : lim cal sc 5 cX5_home ret 15 lv (.ref h :: st) M = opK (slotV 4 0 h M) fun q => lim cal sc 5 cX5_home ret 18 lv (q :: st) M := (lim_step dX5_home_15).trans (e_get (by decide) rf_5_10)
theorem sX5_home_18 : lim cal sc 5 cX5_home ret 18 lv (.ref h :: st) M = opK (slotV 0 0 h M) fun q => lim cal sc 5 cX5_home ret 21 lv (q :: st) M := (lim_step dX5_home_18).trans (e_get (by decide) rf_5_73)
theorem sX5_home_21 : lim cal sc 5 cX5_home ret 21 lv (.ref h :: st) M = opK (slotV 1 5 h M) fun q => lim cal sc 5 cX5_home ret 24 lv (q :: st) M := (lim_step dX5_home_21).trans (e_get (by decide) rf_5_117)
theorem sX5_home_24 : lim cal sc 5 cX5_home ret 24 (v0 :: some (.int x) :: l) st M = lim cal sc 5 cX5_home ret 25 (v0 :: some (.int x) :: l) (.int x :: st) M := lim_step dX5_home_24
theorem sX5_home_25 : lim cal sc 5 cX5_home ret 25 lv (.int x :: .ref h :: st) M = opK (arrV9 sc h M) fun q => guK (inb x q.1) (lim cal sc 5 cX5_home ret 26 lv (.int (q.2 x.toNatClampNeg) :: st) M) := (lim_step dX5_home_25).trans (e_iald)
theorem sX5_home_26 : lim cal sc 5 cX5_home ret 26 lv st M = lim cal sc 5 cX5_home ret 27 lv (.int 2 :: st) M := (lim_step dX5_home_26).trans (e_ic k_i_2)
theorem sX5_home_27 : lim cal sc 5 cX5_home ret 27 lv (.int y :: .int x :: st) M = if x = y then lim cal sc 5 cX5_home ret 36 lv st M else lim cal sc 5 cX5_home ret 30 lv st M := (lim_step dX5_home_27).trans (e_cmpeq (t := 36) (by decide))
theorem sX5_home_30 : lim cal sc 5 cX5_home ret 30 (some (.ref h) :: l) st M = lim cal sc 5 cX5_home ret 31 (some (.ref h) :: l) (.ref h :: st) M := lim_step dX5_home_30
theorem sX5_home_31 : lim cal sc 5 cX5_home ret 31 lv st M = lim cal sc 5 cX5_home ret 32 lv (.int 4 :: st) M := (lim_step dX5_home_31).trans (e_ic k_i_4)
theorem sX5_home_32 : lim cal sc 5 cX5_home ret 32 lv (a1 :: .ref h :: st) M = guK (isCl 4 h) (guK (rk 8 st) (calK (cal 2 [.ref h, a1] M) fun q M' => lim cal sc 5 cX5_home ret 35 lv (q.toList ++ st) M')) := (lim_step dX5_home_32).trans (e_virt1 rm_5_69 mq_2)
theorem sX5_home_35 : lim cal sc 5 cX5_home (some .int) 35 lv [.int x] M = some (some (.int x), M) := (lim_step dX5_home_35).trans (e_iret)
theorem sX5_home_36 : lim cal sc 5 cX5_home ret 36 (some (.ref h) :: l) st M = lim cal sc 5 cX5_home ret 37 (some (.ref h) :: l) (.ref h :: st) M := lim_step dX5_home_36
theorem sX5_home_37 : lim cal sc 5 cX5_home ret 37 lv (.ref h :: st) M = opK (slotV 4 0 h M) fun q => lim cal sc 5 cX5_home ret 40 lv (q :: st) M := (lim_step dX5_home_37).trans (e_get (by decide) rf_5_10)
theorem sX5_home_40 : lim cal sc 5 cX5_home ret 40 lv (.ref h :: st) M = opK (slotV 0 0 h M) fun q => lim cal sc 5 cX5_home ret 43 lv (q :: st) M := (lim_step dX5_home_40).trans (e_get (by decide) rf_5_73)
theorem sX5_home_43 : lim cal sc 5 cX5_home ret 43 lv (.ref h :: st) M = opK (slotV 1 5 h M) fun q => lim cal sc 5 cX5_home ret 46 lv (q :: st) M := (lim_step dX5_home_43).trans (e_get (by decide) rf_5_117)
theorem sX5_home_46 : lim cal sc 5 cX5_home ret 46 (v0 :: some (.int x) :: l) st M = lim cal sc 5 cX5_home ret 47 (v0 :: some (.int x) :: l) (.int x :: st) M := lim_step dX5_home_46
theorem sX5_home_47 : lim cal sc 5 cX5_home ret 47 lv st M = lim cal sc 5 cX5_home ret 48 lv (.int 0 :: st) M := (lim_step dX5_home_47).trans (e_ic k_i_0)
theorem sX5_home_48 : lim cal sc 5 cX5_home ret 48 lv (.int y :: .int x :: .ref h :: st) M = opK (arrN h) fun q => guK (inb x q) (lim cal sc 5 cX5_home ret 49 lv st (mset M h x.toNatClampNeg y)) := (lim_step dX5_home_48).trans (e_iast)
theorem sX5_home_49 : lim cal sc 5 cX5_home ret 49 (some (.ref h) :: l) st M = lim cal sc 5 cX5_home ret 50 (some (.ref h) :: l) (.ref h :: st) M := lim_step dX5_home_49
theorem sX5_home_50 : lim cal sc 5 cX5_home ret 50 lv (.ref h :: st) M = opK (slotV 4 0 h M) fun q => lim cal sc 5 cX5_home ret 53 lv (q :: st) M := (lim_step dX5_home_50).trans (e_get (by decide) rf_5_10)
theorem sX5_home_53 : lim cal sc 5 cX5_home ret 53 (v0 :: some (.int x) :: l) st M = lim cal sc 5 cX5_home ret 54 (v0 :: some (.int x) :: l) (.int x :: st) M := lim_step dX5_home_53
theorem sX5_home_54 : lim cal sc 5 cX5_home ret 54 lv (a1 :: .ref h :: st) M = guK (isCl 0 h) (guK (rk 8 st) (calK (cal 19 [.ref h, a1] M) fun q M' => lim cal sc 5 cX5_home ret 57 lv (q.toList ++ st) M')) := (lim_step dX5_home_54).trans (e_virt1 rm_5_120 mq_19)
theorem sX5_home_57 : lim cal sc 5 cX5_home (some .int) 57 lv [.int x] M = some (some (.int x), M) := (lim_step dX5_home_57).trans (e_iret)
theorem sX5_crop_0 : lim cal sc 5 cX5_crop ret 0 (v0 :: some (.int x) :: l) st M = lim cal sc 5 cX5_crop ret 1 (v0 :: some (.int x) :: l) (.int x :: st) M := lim_step dX5_crop_0
theorem sX5_crop_1 : lim cal sc 5 cX5_crop ret 1 lv st M = lim cal sc 5 cX5_crop ret 2 lv (.int 0 :: st) M := (lim_step dX5_crop_1).trans (e_ic k_i_0)
theorem sX5_crop_2 : lim cal sc 5 cX5_crop ret 2 lv st M = lim cal sc 5 cX5_crop ret 4 lv (.int 7 :: st) M := (lim_step dX5_crop_2).trans (e_bi k_b_7)
theorem sX5_crop_4 : lim cal sc 5 cX5_crop ret 4 lv (a3 :: a2 :: a1 :: st) M = guK (rk 8 st) (calK (cal 1 [a1, a2, a3] M) fun q M' => lim cal sc 5 cX5_crop ret 7 lv (q.toList ++ st) M') := (lim_step dX5_crop_4).trans (e_stat3 rm_5_65)
theorem sX5_crop_7 : lim cal sc 5 cX5_crop ret 7 lv (.int x :: st) M = if x = 0 then lim cal sc 5 cX5_crop ret 10 lv st M else lim cal sc 5 cX5_crop ret 16 lv st M := (lim_step dX5_crop_7).trans (e_ifne (t := 16) (by decide))
theorem sX5_crop_10 : lim cal sc 5 cX5_crop ret 10 (some (.ref h) :: l) st M = lim cal sc 5 cX5_crop ret 11 (some (.ref h) :: l) (.ref h :: st) M := lim_step dX5_crop_10
theorem sX5_crop_11 : lim cal sc 5 cX5_crop ret 11 lv st M = lim cal sc 5 cX5_crop ret 12 lv (.int 0 :: st) M := (lim_step dX5_crop_11).trans (e_ic k_i_0)
theorem sX5_crop_12 : lim cal sc 5 cX5_crop ret 12 lv (a1 :: .ref h :: st) M = guK (isCl 4 h) (guK (rk 8 st) (calK (cal 2 [.ref h, a1] M) fun q M' => lim cal sc 5 cX5_crop ret 15 lv (q.toList ++ st) M')) := (lim_step dX5_crop_12).trans (e_virt1 rm_5_69 mq_2)
theorem sX5_crop_15 : lim cal sc 5 cX5_crop (some .int) 15 lv [.int x] M = some (some (.int x), M) := (lim_step dX5_crop_15).trans (e_iret)
theorem sX5_crop_16 : lim cal sc 5 cX5_crop ret 16 (v0 :: some (.int x) :: l) st M = lim cal sc 5 cX5_crop ret 17 (v0 :: some (.int x) :: l) (.int x :: st) M := lim_step dX5_crop_16
theorem sX5_crop_17 : lim cal sc 5 cX5_crop ret 17 (some (.ref h) :: l) st M = lim cal sc 5 cX5_crop ret 18 (some (.ref h) :: l) (.ref h :: st) M := lim_step dX5_crop_17
theorem sX5_crop_18 : lim cal sc 5 cX5_crop ret 18 lv (.ref h :: st) M = opK (slotV 4 0 h M) fun q => lim cal sc 5 cX5_crop ret 21 lv (q :: st) M := (lim_step dX5_crop_18).trans (e_get (by decide) rf_5_10)
theorem sX5_crop_21 : lim cal sc 5 cX5_crop ret 21 lv (.ref h :: st) M = opK (slotV 0 0 h M) fun q => lim cal sc 5 cX5_crop ret 24 lv (q :: st) M := (lim_step dX5_crop_21).trans (e_get (by decide) rf_5_73)
theorem sX5_crop_24 : lim cal sc 5 cX5_crop ret 24 lv (.ref h :: st) M = opK (slotV 1 9 h M) fun q => lim cal sc 5 cX5_crop ret 27 lv (q :: st) M := (lim_step dX5_crop_24).trans (e_get (by decide) rf_5_114)
theorem sX5_crop_27 : lim cal sc 5 cX5_crop ret 27 lv (.int y :: .int x :: st) M = if y ≤ x then lim cal sc 5 cX5_crop ret 45 lv st M else lim cal sc 5 cX5_crop ret 30 lv st M := (lim_step dX5_crop_27).trans (e_cmpge (t := 45) (by decide))
theorem sX5_crop_30 : lim cal sc 5 cX5_crop ret 30 (some (.ref h) :: l) st M = lim cal sc 5 cX5_crop ret 31 (some (.ref h) :: l) (.ref h :: st) M := lim_step dX5_crop_30
theorem sX5_crop_31 : lim cal sc 5 cX5_crop ret 31 lv (.ref h :: st) M = opK (slotV 4 0 h M) fun q => lim cal sc 5 cX5_crop ret 34 lv (q :: st) M := (lim_step dX5_crop_31).trans (e_get (by decide) rf_5_10)
theorem sX5_crop_34 : lim cal sc 5 cX5_crop ret 34 lv (.ref h :: st) M = opK (slotV 0 0 h M) fun q => lim cal sc 5 cX5_crop ret 37 lv (q :: st) M := (lim_step dX5_crop_34).trans (e_get (by decide) rf_5_73)
theorem sX5_crop_37 : lim cal sc 5 cX5_crop ret 37 lv (.ref h :: st) M = opK (slotV 1 8 h M) fun q => lim cal sc 5 cX5_crop ret 40 lv (q :: st) M := (lim_step dX5_crop_37).trans (e_get (by decide) rf_5_123)
theorem sX5_crop_40 : lim cal sc 5 cX5_crop ret 40 (v0 :: some (.int x) :: l) st M = lim cal sc 5 cX5_crop ret 41 (v0 :: some (.int x) :: l) (.int x :: st) M := lim_step dX5_crop_40
theorem sX5_crop_41 : lim cal sc 5 cX5_crop ret 41 lv (.int x :: .ref h :: st) M = opK (arrV9 sc h M) fun q => guK (inb x q.1) (lim cal sc 5 cX5_crop ret 42 lv (.int (q.2 x.toNatClampNeg) :: st) M) := (lim_step dX5_crop_41).trans (e_iald)
theorem sX5_crop_42 : lim cal sc 5 cX5_crop ret 42 lv st M = lim cal sc 5 cX5_crop ret 50 lv st M := (lim_step dX5_crop_42).trans (e_goto (t := 50) (by decide))
theorem sX5_crop_45 : lim cal sc 5 cX5_crop ret 45 (some (.ref h) :: l) st M = lim cal sc 5 cX5_crop ret 46 (some (.ref h) :: l) (.ref h :: st) M := lim_step dX5_crop_45
theorem sX5_crop_46 : lim cal sc 5 cX5_crop ret 46 lv st M = lim cal sc 5 cX5_crop ret 47 lv (.int 3 :: st) M := (lim_step dX5_crop_46).trans (e_ic k_i_3)
theorem sX5_crop_47 : lim cal sc 5 cX5_crop ret 47 lv (a1 :: .ref h :: st) M = guK (isCl 4 h) (guK (rk 8 st) (calK (cal 2 [.ref h, a1] M) fun q M' => lim cal sc 5 cX5_crop ret 50 lv (q.toList ++ st) M')) := (lim_step dX5_crop_47).trans (e_virt1 rm_5_69 mq_2)
theorem sX5_crop_50 : lim cal sc 5 cX5_crop (some .int) 50 lv [.int x] M = some (some (.int x), M) := (lim_step dX5_crop_50).trans (e_iret)
theorem sX5_egg_0 : lim cal sc 5 cX5_egg ret 0 (v0 :: some (.int x) :: l) st M = lim cal sc 5 cX5_egg ret 1 (v0 :: some (.int x) :: l) (.int x :: st) M := lim_step dX5_egg_0
theorem sX5_egg_1 : lim cal sc 5 cX5_egg ret 1 lv (.int x :: st) M = if x < 0 then lim cal sc 5 cX5_egg ret 13 lv st M else lim cal sc 5 cX5_egg ret 4 lv st M := (lim_step dX5_egg_1).trans (e_iflt (t := 13) (by decide))
theorem sX5_egg_4 : lim cal sc 5 cX5_egg ret 4 (v0 :: v1 :: some (.int x) :: l) st M = lim cal sc 5 cX5_egg ret 5 (v0 :: v1 :: some (.int x) :: l) (.int x :: st) M := lim_step dX5_egg_4
theorem sX5_egg_5 : lim cal sc 5 cX5_egg ret 5 lv st M = lim cal sc 5 cX5_egg ret 6 lv (.int 0 :: st) M := (lim_step dX5_egg_5).trans (e_ic k_i_0)
theorem sX5_egg_6 : lim cal sc 5 cX5_egg ret 6 lv st M = lim cal sc 5 cX5_egg ret 7 lv (.int 2 :: st) M := (lim_step dX5_egg_6).trans (e_ic k_i_2)
theorem sX5_egg_7 : lim cal sc 5 cX5_egg ret 7 lv (a3 :: a2 :: a1 :: st) M = guK (rk 8 st) (calK (cal 1 [a1, a2, a3] M) fun q M' => lim cal sc 5 cX5_egg ret 10 lv (q.toList ++ st) M') := (lim_step dX5_egg_7).trans (e_stat3 rm_5_65)
theorem sX5_egg_10 : lim cal sc 5 cX5_egg ret 10 lv (.int x :: st) M = if x = 0 then lim cal sc 5 cX5_egg ret 13 lv st M else lim cal sc 5 cX5_egg ret 19 lv st M := (lim_step dX5_egg_10).trans (e_ifne (t := 19) (by decide))
theorem sX5_egg_13 : lim cal sc 5 cX5_egg ret 13 (some (.ref h) :: l) st M = lim cal sc 5 cX5_egg ret 14 (some (.ref h) :: l) (.ref h :: st) M := lim_step dX5_egg_13
theorem sX5_egg_14 : lim cal sc 5 cX5_egg ret 14 lv st M = lim cal sc 5 cX5_egg ret 15 lv (.int 0 :: st) M := (lim_step dX5_egg_14).trans (e_ic k_i_0)
theorem sX5_egg_15 : lim cal sc 5 cX5_egg ret 15 lv (a1 :: .ref h :: st) M = guK (isCl 4 h) (guK (rk 8 st) (calK (cal 2 [.ref h, a1] M) fun q M' => lim cal sc 5 cX5_egg ret 18 lv (q.toList ++ st) M')) := (lim_step dX5_egg_15).trans (e_virt1 rm_5_69 mq_2)
theorem sX5_egg_18 : lim cal sc 5 cX5_egg (some .int) 18 lv [.int x] M = some (some (.int x), M) := (lim_step dX5_egg_18).trans (e_iret)
theorem sX5_egg_19 : lim cal sc 5 cX5_egg ret 19 (v0 :: some (.int x) :: l) st M = lim cal sc 5 cX5_egg ret 20 (v0 :: some (.int x) :: l) (.int x :: st) M := lim_step dX5_egg_19
theorem sX5_egg_20 : lim cal sc 5 cX5_egg ret 20 (some (.ref h) :: l) st M = lim cal sc 5 cX5_egg ret 21 (some (.ref h) :: l) (.ref h :: st) M := lim_step dX5_egg_20
theorem sX5_egg_21 : lim cal sc 5 cX5_egg ret 21 lv (.ref h :: st) M = opK (slotV 4 0 h M) fun q => lim cal sc 5 cX5_egg ret 24 lv (q :: st) M := (lim_step dX5_egg_21).trans (e_get (by decide) rf_5_10)
theorem sX5_egg_24 : lim cal sc 5 cX5_egg ret 24 lv (.ref h :: st) M = guK (isCl 0 h) (guK (rk 8 st) (calK (cal 20 [.ref h] M) fun q M' => lim cal sc 5 cX5_egg ret 27 lv (q.toList ++ st) M')) := (lim_step dX5_egg_24).trans (e_virt0 rm_5_126 mq_20)
theorem sX5_egg_27 : lim cal sc 5 cX5_egg ret 27 lv (.int y :: .int x :: st) M = if x < y then lim cal sc 5 cX5_egg ret 36 lv st M else lim cal sc 5 cX5_egg ret 30 lv st M := (lim_step dX5_egg_27).trans (e_cmplt (t := 36) (by decide))
theorem sX5_egg_30 : lim cal sc 5 cX5_egg ret 30 (some (.ref h) :: l) st M = lim cal sc 5 cX5_egg ret 31 (some (.ref h) :: l) (.ref h :: st) M := lim_step dX5_egg_30
theorem sX5_egg_31 : lim cal sc 5 cX5_egg ret 31 lv st M = lim cal sc 5 cX5_egg ret 32 lv (.int 3 :: st) M := (lim_step dX5_egg_31).trans (e_ic k_i_3)
theorem sX5_egg_32 : lim cal sc 5 cX5_egg ret 32 lv (a1 :: .ref h :: st) M = guK (isCl 4 h) (guK (rk 8 st) (calK (cal 2 [.ref h, a1] M) fun q M' => lim cal sc 5 cX5_egg ret 35 lv (q.toList ++ st) M')) := (lim_step dX5_egg_32).trans (e_virt1 rm_5_69 mq_2)
theorem sX5_egg_35 : lim cal sc 5 cX5_egg (some .int) 35 lv [.int x] M = some (some (.int x), M) := (lim_step dX5_egg_35).trans (e_iret)
theorem sX5_egg_36 : lim cal sc 5 cX5_egg ret 36 (v0 :: v1 :: some (.int x) :: l) st M = lim cal sc 5 cX5_egg ret 37 (v0 :: v1 :: some (.int x) :: l) (.int x :: st) M := lim_step dX5_egg_36
theorem sX5_egg_37 : lim cal sc 5 cX5_egg ret 37 lv (.int x :: st) M = jmpK 37 (Op.lookupswitch.offset [(0, 27), (1, 37)] 47 x.toInt) fun t => lim cal sc 5 cX5_egg ret t lv st M := (lim_step dX5_egg_37).trans (e_look rfl)
theorem sX5_egg_64 : lim cal sc 5 cX5_egg ret 64 (some (.ref h) :: l) st M = lim cal sc 5 cX5_egg ret 65 (some (.ref h) :: l) (.ref h :: st) M := lim_step dX5_egg_64
theorem sX5_egg_65 : lim cal sc 5 cX5_egg ret 65 lv (.ref h :: st) M = opK (slotV 4 0 h M) fun q => lim cal sc 5 cX5_egg ret 68 lv (q :: st) M := (lim_step dX5_egg_65).trans (e_get (by decide) rf_5_10)
theorem sX5_egg_68 : lim cal sc 5 cX5_egg ret 68 lv (.ref h :: st) M = opK (slotV 0 5 h M) fun q => lim cal sc 5 cX5_egg ret 71 lv (q :: st) M := (lim_step dX5_egg_68).trans (e_get (by decide) rf_5_130)
theorem sX5_egg_71 : lim cal sc 5 cX5_egg ret 71 (v0 :: some (.int x) :: l) st M = lim cal sc 5 cX5_egg ret 72 (v0 :: some (.int x) :: l) (.int x :: st) M := lim_step dX5_egg_71
theorem sX5_egg_72 : lim cal sc 5 cX5_egg ret 72 lv (.int x :: .ref h :: st) M = opK (arrV9 sc h M) fun q => guK (inb x q.1) (lim cal sc 5 cX5_egg ret 73 lv (.int (q.2 x.toNatClampNeg) :: st) M) := (lim_step dX5_egg_72).trans (e_iald)
theorem sX5_egg_73 : lim cal sc 5 cX5_egg (some .int) 73 lv [.int x] M = some (some (.int x), M) := (lim_step dX5_egg_73).trans (e_iret)
theorem sX5_egg_74 : lim cal sc 5 cX5_egg ret 74 (some (.ref h) :: l) st M = lim cal sc 5 cX5_egg ret 75 (some (.ref h) :: l) (.ref h :: st) M := lim_step dX5_egg_74
theorem sX5_egg_75 : lim cal sc 5 cX5_egg ret 75 lv (.ref h :: st) M = opK (slotV 4 0 h M) fun q => lim cal sc 5 cX5_egg ret 78 lv (q :: st) M := (lim_step dX5_egg_75).trans (e_get (by decide) rf_5_10)
theorem sX5_egg_78 : lim cal sc 5 cX5_egg ret 78 lv (.ref h :: st) M = opK (slotV 0 6 h M) fun q => lim cal sc 5 cX5_egg ret 81 lv (q :: st) M := (lim_step dX5_egg_78).trans (e_get (by decide) rf_5_133)
theorem sX5_egg_81 : lim cal sc 5 cX5_egg ret 81 (v0 :: some (.int x) :: l) st M = lim cal sc 5 cX5_egg ret 82 (v0 :: some (.int x) :: l) (.int x :: st) M := lim_step dX5_egg_81
theorem sX5_egg_82 : lim cal sc 5 cX5_egg ret 82 lv (.int x :: .ref h :: st) M = opK (arrV9 sc h M) fun q => guK (inb x q.1) (lim cal sc 5 cX5_egg ret 83 lv (.int (q.2 x.toNatClampNeg) :: st) M) := (lim_step dX5_egg_82).trans (e_iald)
theorem sX5_egg_83 : lim cal sc 5 cX5_egg (some .int) 83 lv [.int x] M = some (some (.int x), M) := (lim_step dX5_egg_83).trans (e_iret)
theorem sX5_egg_84 : lim cal sc 5 cX5_egg ret 84 (some (.ref h) :: l) st M = lim cal sc 5 cX5_egg ret 85 (some (.ref h) :: l) (.ref h :: st) M := lim_step dX5_egg_84
theorem sX5_egg_85 : lim cal sc 5 cX5_egg ret 85 lv (.ref h :: st) M = opK (slotV 4 0 h M) fun q => lim cal sc 5 cX5_egg ret 88 lv (q :: st) M := (lim_step dX5_egg_85).trans (e_get (by decide) rf_5_10)
theorem sX5_egg_88 : lim cal sc 5 cX5_egg ret 88 lv (.ref h :: st) M = opK (slotV 0 7 h M) fun q => lim cal sc 5 cX5_egg ret 91 lv (q :: st) M := (lim_step dX5_egg_88).trans (e_get (by decide) rf_5_136)
theorem sX5_egg_91 : lim cal sc 5 cX5_egg ret 91 (v0 :: some (.int x) :: l) st M = lim cal sc 5 cX5_egg ret 92 (v0 :: some (.int x) :: l) (.int x :: st) M := lim_step dX5_egg_91
theorem sX5_egg_92 : lim cal sc 5 cX5_egg ret 92 lv (.int x :: .ref h :: st) M = opK (arrV9 sc h M) fun q => guK (inb x q.1) (lim cal sc 5 cX5_egg ret 93 lv (.int (q.2 x.toNatClampNeg) :: st) M) := (lim_step dX5_egg_92).trans (e_iald)
theorem sX5_egg_93 : lim cal sc 5 cX5_egg (some .int) 93 lv [.int x] M = some (some (.int x), M) := (lim_step dX5_egg_93).trans (e_iret)
theorem sX5_days_0 : lim cal sc 5 cX5_days ret 0 (v0 :: some (.int x) :: l) st M = lim cal sc 5 cX5_days ret 1 (v0 :: some (.int x) :: l) (.int x :: st) M := lim_step dX5_days_0
theorem sX5_days_1 : lim cal sc 5 cX5_days ret 1 lv (a1 :: st) M = guK (rk 8 st) (calK (cal 24 [a1] M) fun q M' => lim cal sc 5 cX5_days ret 4 lv (q.toList ++ st) M') := (lim_step dX5_days_1).trans (e_stat1 rm_5_139)
theorem sX5_days_4 : lim cal sc 5 cX5_days ret 4 lv (.int x :: st) M = if x = 0 then lim cal sc 5 cX5_days ret 7 lv st M else lim cal sc 5 cX5_days ret 13 lv st M := (lim_step dX5_days_4).trans (e_ifne (t := 13) (by decide))
theorem sX5_days_7 : lim cal sc 5 cX5_days ret 7 (some (.ref h) :: l) st M = lim cal sc 5 cX5_days ret 8 (some (.ref h) :: l) (.ref h :: st) M := lim_step dX5_days_7
theorem sX5_days_8 : lim cal sc 5 cX5_days ret 8 lv st M = lim cal sc 5 cX5_days ret 9 lv (.int 0 :: st) M := (lim_step dX5_days_8).trans (e_ic k_i_0)
theorem sX5_days_9 : lim cal sc 5 cX5_days ret 9 lv (a1 :: .ref h :: st) M = guK (isCl 4 h) (guK (rk 8 st) (calK (cal 2 [.ref h, a1] M) fun q M' => lim cal sc 5 cX5_days ret 12 lv (q.toList ++ st) M')) := (lim_step dX5_days_9).trans (e_virt1 rm_5_69 mq_2)
theorem sX5_days_12 : lim cal sc 5 cX5_days (some .int) 12 lv [.int x] M = some (some (.int x), M) := (lim_step dX5_days_12).trans (e_iret)
theorem sX5_days_13 : lim cal sc 5 cX5_days ret 13 (some (.ref h) :: l) st M = lim cal sc 5 cX5_days ret 14 (some (.ref h) :: l) (.ref h :: st) M := lim_step dX5_days_13
theorem sX5_days_14 : lim cal sc 5 cX5_days ret 14 (v0 :: some (.int x) :: l) st M = lim cal sc 5 cX5_days ret 15 (v0 :: some (.int x) :: l) (.int x :: st) M := lim_step dX5_days_14
theorem sX5_days_15 : lim cal sc 5 cX5_days ret 15 lv (a1 :: .ref h :: st) M = guK (isCl 4 h) (guK (rk 8 st) (calK (cal 25 [.ref h, a1] M) fun q M' => lim cal sc 5 cX5_days ret 18 lv (q.toList ++ st) M')) := (lim_step dX5_days_15).trans (e_virt1 rm_5_142 mq_25)
theorem sX5_days_18 : lim cal sc 5 cX5_days ret 18 lv (.int x :: st) M = if x = 0 then lim cal sc 5 cX5_days ret 27 lv st M else lim cal sc 5 cX5_days ret 21 lv st M := (lim_step dX5_days_18).trans (e_ifeq (t := 27) (by decide))
theorem sX5_days_21 : lim cal sc 5 cX5_days ret 21 (some (.ref h) :: l) st M = lim cal sc 5 cX5_days ret 22 (some (.ref h) :: l) (.ref h :: st) M := lim_step dX5_days_21
theorem sX5_days_22 : lim cal sc 5 cX5_days ret 22 lv st M = lim cal sc 5 cX5_days ret 23 lv (.int 4 :: st) M := (lim_step dX5_days_22).trans (e_ic k_i_4)
theorem sX5_days_23 : lim cal sc 5 cX5_days ret 23 lv (a1 :: .ref h :: st) M = guK (isCl 4 h) (guK (rk 8 st) (calK (cal 2 [.ref h, a1] M) fun q M' => lim cal sc 5 cX5_days ret 26 lv (q.toList ++ st) M')) := (lim_step dX5_days_23).trans (e_virt1 rm_5_69 mq_2)
theorem sX5_days_26 : lim cal sc 5 cX5_days (some .int) 26 lv [.int x] M = some (some (.int x), M) := (lim_step dX5_days_26).trans (e_iret)
theorem sX5_days_27 : lim cal sc 5 cX5_days ret 27 lv st M = lim cal sc 5 cX5_days ret 28 lv (.int 0 :: st) M := (lim_step dX5_days_27).trans (e_ic k_i_0)
theorem sX5_days_28 : lim cal sc 5 cX5_days ret 28 (v0 :: v1 :: v :: l) (.int x :: st) M = lim cal sc 5 cX5_days ret 29 (v0 :: v1 :: some (.int x) :: l) st M := (lim_step dX5_days_28).trans (e_istn2)
theorem sX5_days_29 : lim cal sc 5 cX5_days ret 29 lv st M = lim cal sc 5 cX5_days ret 30 lv (.int 0 :: st) M := (lim_step dX5_days_29).trans (e_ic k_i_0)
theorem sX5_days_30 : lim cal sc 5 cX5_days ret 30 (v0 :: v1 :: v2 :: v :: l) (.int x :: st) M = lim cal sc 5 cX5_days ret 31 (v0 :: v1 :: v2 :: some (.int x) :: l) st M := (lim_step dX5_days_30).trans (e_istn3)
theorem sX5_days_31 : lim cal sc 5 cX5_days ret 31 (v0 :: v1 :: v2 :: some (.int x) :: l) st M = lim cal sc 5 cX5_days ret 32 (v0 :: v1 :: v2 :: some (.int x) :: l) (.int x :: st) M := lim_step dX5_days_31
theorem sX5_days_32 : lim cal sc 5 cX5_days ret 32 (v0 :: some (.int x) :: l) st M = lim cal sc 5 cX5_days ret 33 (v0 :: some (.int x) :: l) (.int x :: st) M := lim_step dX5_days_32
theorem sX5_days_33 : lim cal sc 5 cX5_days ret 33 lv (.int y :: .int x :: st) M = if y ≤ x then lim cal sc 5 cX5_days ret 52 lv st M else lim cal sc 5 cX5_days ret 36 lv st M := (lim_step dX5_days_33).trans (e_cmpge (t := 52) (by decide))
theorem sX5_days_36 : lim cal sc 5 cX5_days ret 36 (v0 :: v1 :: some (.int x) :: l) st M = lim cal sc 5 cX5_days ret 37 (v0 :: v1 :: some (.int x) :: l) (.int x :: st) M := lim_step dX5_days_36
theorem sX5_days_37 : lim cal sc 5 cX5_days ret 37 (some (.ref h) :: l) st M = lim cal sc 5 cX5_days ret 38 (some (.ref h) :: l) (.ref h :: st) M := lim_step dX5_days_37
theorem sX5_days_38 : lim cal sc 5 cX5_days ret 38 lv (.ref h :: st) M = opK (slotV 4 0 h M) fun q => lim cal sc 5 cX5_days ret 41 lv (q :: st) M := (lim_step dX5_days_38).trans (e_get (by decide) rf_5_10)
theorem sX5_days_41 : lim cal sc 5 cX5_days ret 41 lv (.ref h :: st) M = guK (isCl 0 h) (guK (rk 8 st) (calK (cal 26 [.ref h] M) fun q M' => lim cal sc 5 cX5_days ret 44 lv (q.toList ++ st) M')) := (lim_step dX5_days_41).trans (e_virt0 rm_5_145 mq_26)
theorem sX5_days_44 : lim cal sc 5 cX5_days ret 44 lv (.int y :: .int x :: st) M = lim cal sc 5 cX5_days ret 45 lv (.int (x + y) :: st) M := lim_step dX5_days_44
theorem sX5_days_45 : lim cal sc 5 cX5_days ret 45 (v0 :: v1 :: v :: l) (.int x :: st) M = lim cal sc 5 cX5_days ret 46 (v0 :: v1 :: some (.int x) :: l) st M := (lim_step dX5_days_45).trans (e_istn2)
theorem sX5_days_46 : lim cal sc 5 cX5_days ret 46 (v0 :: v1 :: v2 :: some (.int x) :: l) st M = lim cal sc 5 cX5_days ret 49 (v0 :: v1 :: v2 :: some (.int (x + 1)) :: l) st M := (lim_step dX5_days_46).trans (e_inc3 k_i_1)
theorem sX5_days_49 : lim cal sc 5 cX5_days ret 49 lv st M = lim cal sc 5 cX5_days ret 31 lv st M := (lim_step dX5_days_49).trans (e_goto (t := 31) (by decide))
theorem sX5_days_52 : lim cal sc 5 cX5_days ret 52 (v0 :: v1 :: some (.int x) :: l) st M = lim cal sc 5 cX5_days ret 53 (v0 :: v1 :: some (.int x) :: l) (.int x :: st) M := lim_step dX5_days_52
theorem sX5_days_53 : lim cal sc 5 cX5_days (some .int) 53 lv [.int x] M = some (some (.int x), M) := (lim_step dX5_days_53).trans (e_iret)
theorem sX5_now_0 : lim cal sc 5 cX5_now ret 0 (some (.ref h) :: l) st M = lim cal sc 5 cX5_now ret 1 (some (.ref h) :: l) (.ref h :: st) M := lim_step dX5_now_0
theorem sX5_now_1 : lim cal sc 5 cX5_now ret 1 lv (.ref h :: st) M = opK (slotV 4 0 h M) fun q => lim cal sc 5 cX5_now ret 4 lv (q :: st) M := (lim_step dX5_now_1).trans (e_get (by decide) rf_5_10)
theorem sX5_now_4 : lim cal sc 5 cX5_now ret 4 lv (.ref h :: st) M = opK (slotV 0 0 h M) fun q => lim cal sc 5 cX5_now ret 7 lv (q :: st) M := (lim_step dX5_now_4).trans (e_get (by decide) rf_5_73)
theorem sX5_now_7 : lim cal sc 5 cX5_now ret 7 (v0 :: v1 :: v :: l) (.ref h :: st) M = lim cal sc 5 cX5_now ret 8 (v0 :: v1 :: some (.ref h) :: l) st M := (lim_step dX5_now_7).trans (e_astn2)
theorem sX5_now_8 : lim cal sc 5 cX5_now ret 8 (v0 :: some (.int x) :: l) st M = lim cal sc 5 cX5_now ret 9 (v0 :: some (.int x) :: l) (.int x :: st) M := lim_step dX5_now_8
theorem sX5_now_9 : lim cal sc 5 cX5_now ret 9 lv (.int x :: st) M = if x.toInt < 0 ∨ 6 < x.toInt then lim cal sc 5 cX5_now ret 96 lv st M else lim cal sc 5 cX5_now ret ([52, 60, 65, 70, 78, 86, 91].getD (x.toInt - 0).toNat 0) lv st M := (lim_step dX5_now_9).trans (e_tab [52, 60, 65, 70, 78, 86, 91] (by decide) (by decide) (by decide))
theorem sX5_now_52 : lim cal sc 5 cX5_now ret 52 (some (.ref h) :: l) st M = lim cal sc 5 cX5_now ret 53 (some (.ref h) :: l) (.ref h :: st) M := lim_step dX5_now_52
theorem sX5_now_53 : lim cal sc 5 cX5_now ret 53 lv (.ref h :: st) M = opK (slotV 4 0 h M) fun q => lim cal sc 5 cX5_now ret 56 lv (q :: st) M := (lim_step dX5_now_53).trans (e_get (by decide) rf_5_10)
theorem sX5_now_56 : lim cal sc 5 cX5_now ret 56 lv (.ref h :: st) M = opK (slotV 0 1 h M) fun q => lim cal sc 5 cX5_now ret 59 lv (q :: st) M := (lim_step dX5_now_56).trans (e_get (by decide) rf_5_148)
theorem sX5_now_59 : lim cal sc 5 cX5_now (some .int) 59 lv [.int x] M = some (some (.int x), M) := (lim_step dX5_now_59).trans (e_iret)
theorem sX5_now_60 : lim cal sc 5 cX5_now ret 60 (v0 :: v1 :: some (.ref h) :: l) st M = lim cal sc 5 cX5_now ret 61 (v0 :: v1 :: some (.ref h) :: l) (.ref h :: st) M := lim_step dX5_now_60
theorem sX5_now_61 : lim cal sc 5 cX5_now ret 61 lv (.ref h :: st) M = opK (slotV 1 9 h M) fun q => lim cal sc 5 cX5_now ret 64 lv (q :: st) M := (lim_step dX5_now_61).trans (e_get (by decide) rf_5_114)
theorem sX5_now_64 : lim cal sc 5 cX5_now (some .int) 64 lv [.int x] M = some (some (.int x), M) := (lim_step dX5_now_64).trans (e_iret)
theorem sX5_now_65 : lim cal sc 5 cX5_now ret 65 (v0 :: v1 :: some (.ref h) :: l) st M = lim cal sc 5 cX5_now ret 66 (v0 :: v1 :: some (.ref h) :: l) (.ref h :: st) M := lim_step dX5_now_65
theorem sX5_now_66 : lim cal sc 5 cX5_now ret 66 lv (.ref h :: st) M = guK (isCl 1 h) (guK (rk 8 st) (calK (cal 16 [.ref h] M) fun q M' => lim cal sc 5 cX5_now ret 69 lv (q.toList ++ st) M')) := (lim_step dX5_now_66).trans (e_virt0 rm_5_151 mq_16)
theorem sX5_now_69 : lim cal sc 5 cX5_now (some .int) 69 lv [.int x] M = some (some (.int x), M) := (lim_step dX5_now_69).trans (e_iret)
theorem sX5_now_70 : lim cal sc 5 cX5_now ret 70 (some (.ref h) :: l) st M = lim cal sc 5 cX5_now ret 71 (some (.ref h) :: l) (.ref h :: st) M := lim_step dX5_now_70
theorem sX5_now_71 : lim cal sc 5 cX5_now ret 71 lv (.ref h :: st) M = opK (slotV 4 0 h M) fun q => lim cal sc 5 cX5_now ret 74 lv (q :: st) M := (lim_step dX5_now_71).trans (e_get (by decide) rf_5_10)
theorem sX5_now_74 : lim cal sc 5 cX5_now ret 74 lv (.ref h :: st) M = opK (slotV 0 3 h M) fun q => lim cal sc 5 cX5_now ret 77 lv (q :: st) M := (lim_step dX5_now_74).trans (e_get (by decide) rf_5_154)
theorem sX5_now_77 : lim cal sc 5 cX5_now (some .int) 77 lv [.int x] M = some (some (.int x), M) := (lim_step dX5_now_77).trans (e_iret)
theorem sX5_now_78 : lim cal sc 5 cX5_now ret 78 (some (.ref h) :: l) st M = lim cal sc 5 cX5_now ret 79 (some (.ref h) :: l) (.ref h :: st) M := lim_step dX5_now_78
theorem sX5_now_79 : lim cal sc 5 cX5_now ret 79 lv (.ref h :: st) M = opK (slotV 4 0 h M) fun q => lim cal sc 5 cX5_now ret 82 lv (q :: st) M := (lim_step dX5_now_79).trans (e_get (by decide) rf_5_10)
theorem sX5_now_82 : lim cal sc 5 cX5_now ret 82 lv (.ref h :: st) M = opK (slotV 0 4 h M) fun q => lim cal sc 5 cX5_now ret 85 lv (q :: st) M := (lim_step dX5_now_82).trans (e_get (by decide) rf_5_157)
theorem sX5_now_85 : lim cal sc 5 cX5_now (some .int) 85 lv [.int x] M = some (some (.int x), M) := (lim_step dX5_now_85).trans (e_iret)
theorem sX5_now_86 : lim cal sc 5 cX5_now ret 86 (v0 :: v1 :: some (.ref h) :: l) st M = lim cal sc 5 cX5_now ret 87 (v0 :: v1 :: some (.ref h) :: l) (.ref h :: st) M := lim_step dX5_now_86
theorem sX5_now_87 : lim cal sc 5 cX5_now ret 87 lv (.ref h :: st) M = opK (slotV 1 10 h M) fun q => lim cal sc 5 cX5_now ret 90 lv (q :: st) M := (lim_step dX5_now_87).trans (e_get (by decide) rf_5_98)
theorem sX5_now_90 : lim cal sc 5 cX5_now (some .int) 90 lv [.int x] M = some (some (.int x), M) := (lim_step dX5_now_90).trans (e_iret)
theorem sX5_now_91 : lim cal sc 5 cX5_now ret 91 (v0 :: v1 :: some (.ref h) :: l) st M = lim cal sc 5 cX5_now ret 92 (v0 :: v1 :: some (.ref h) :: l) (.ref h :: st) M := lim_step dX5_now_91
theorem sX5_now_92 : lim cal sc 5 cX5_now ret 92 lv (.ref h :: st) M = opK (slotV 1 11 h M) fun q => lim cal sc 5 cX5_now ret 95 lv (q :: st) M := (lim_step dX5_now_92).trans (e_get (by decide) rf_5_101)
theorem sX5_now_95 : lim cal sc 5 cX5_now (some .int) 95 lv [.int x] M = some (some (.int x), M) := (lim_step dX5_now_95).trans (e_iret)
theorem sX5_now_96 : lim cal sc 5 cX5_now ret 96 (some (.ref h) :: l) st M = lim cal sc 5 cX5_now ret 97 (some (.ref h) :: l) (.ref h :: st) M := lim_step dX5_now_96
theorem sX5_now_97 : lim cal sc 5 cX5_now ret 97 lv st M = lim cal sc 5 cX5_now ret 98 lv (.int 0 :: st) M := (lim_step dX5_now_97).trans (e_ic k_i_0)
theorem sX5_now_98 : lim cal sc 5 cX5_now ret 98 lv (a1 :: .ref h :: st) M = guK (isCl 4 h) (guK (rk 8 st) (calK (cal 2 [.ref h, a1] M) fun q M' => lim cal sc 5 cX5_now ret 101 lv (q.toList ++ st) M')) := (lim_step dX5_now_98).trans (e_virt1 rm_5_69 mq_2)
theorem sX5_now_101 : lim cal sc 5 cX5_now (some .int) 101 lv [.int x] M = some (some (.int x), M) := (lim_step dX5_now_101).trans (e_iret)
theorem sX5_ahead_0 : lim cal sc 5 cX5_ahead ret 0 (v0 :: some (.int x) :: l) st M = lim cal sc 5 cX5_ahead ret 1 (v0 :: some (.int x) :: l) (.int x :: st) M := lim_step dX5_ahead_0
theorem sX5_ahead_1 : lim cal sc 5 cX5_ahead ret 1 lv st M = lim cal sc 5 cX5_ahead ret 2 lv (.int 0 :: st) M := (lim_step dX5_ahead_1).trans (e_ic k_i_0)
theorem sX5_ahead_2 : lim cal sc 5 cX5_ahead ret 2 lv st M = lim cal sc 5 cX5_ahead ret 4 lv (.int 60 :: st) M := (lim_step dX5_ahead_2).trans (e_bi k_b_60)
theorem sX5_ahead_4 : lim cal sc 5 cX5_ahead ret 4 lv (a3 :: a2 :: a1 :: st) M = guK (rk 8 st) (calK (cal 1 [a1, a2, a3] M) fun q M' => lim cal sc 5 cX5_ahead ret 7 lv (q.toList ++ st) M') := (lim_step dX5_ahead_4).trans (e_stat3 rm_5_65)
theorem sX5_ahead_7 : lim cal sc 5 cX5_ahead ret 7 lv (.int x :: st) M = if x = 0 then lim cal sc 5 cX5_ahead ret 19 lv st M else lim cal sc 5 cX5_ahead ret 10 lv st M := (lim_step dX5_ahead_7).trans (e_ifeq (t := 19) (by decide))
theorem sX5_ahead_10 : lim cal sc 5 cX5_ahead ret 10 (v0 :: v1 :: some (.int x) :: l) st M = lim cal sc 5 cX5_ahead ret 11 (v0 :: v1 :: some (.int x) :: l) (.int x :: st) M := lim_step dX5_ahead_10
theorem sX5_ahead_11 : lim cal sc 5 cX5_ahead ret 11 lv st M = lim cal sc 5 cX5_ahead ret 12 lv (.int 0 :: st) M := (lim_step dX5_ahead_11).trans (e_ic k_i_0)
theorem sX5_ahead_12 : lim cal sc 5 cX5_ahead ret 12 lv st M = lim cal sc 5 cX5_ahead ret 13 lv (.int 4 :: st) M := (lim_step dX5_ahead_12).trans (e_ic k_i_4)
theorem sX5_ahead_13 : lim cal sc 5 cX5_ahead ret 13 lv (a3 :: a2 :: a1 :: st) M = guK (rk 8 st) (calK (cal 1 [a1, a2, a3] M) fun q M' => lim cal sc 5 cX5_ahead ret 16 lv (q.toList ++ st) M') := (lim_step dX5_ahead_13).trans (e_stat3 rm_5_65)
theorem sX5_ahead_16 : lim cal sc 5 cX5_ahead ret 16 lv (.int x :: st) M = if x = 0 then lim cal sc 5 cX5_ahead ret 19 lv st M else lim cal sc 5 cX5_ahead ret 25 lv st M := (lim_step dX5_ahead_16).trans (e_ifne (t := 25) (by decide))
theorem sX5_ahead_19 : lim cal sc 5 cX5_ahead ret 19 (some (.ref h) :: l) st M = lim cal sc 5 cX5_ahead ret 20 (some (.ref h) :: l) (.ref h :: st) M := lim_step dX5_ahead_19
theorem sX5_ahead_20 : lim cal sc 5 cX5_ahead ret 20 lv st M = lim cal sc 5 cX5_ahead ret 21 lv (.int 0 :: st) M := (lim_step dX5_ahead_20).trans (e_ic k_i_0)
theorem sX5_ahead_21 : lim cal sc 5 cX5_ahead ret 21 lv (a1 :: .ref h :: st) M = guK (isCl 4 h) (guK (rk 8 st) (calK (cal 2 [.ref h, a1] M) fun q M' => lim cal sc 5 cX5_ahead ret 24 lv (q.toList ++ st) M')) := (lim_step dX5_ahead_21).trans (e_virt1 rm_5_69 mq_2)
theorem sX5_ahead_24 : lim cal sc 5 cX5_ahead (some .int) 24 lv [.int x] M = some (some (.int x), M) := (lim_step dX5_ahead_24).trans (e_iret)
theorem sX5_ahead_25 : lim cal sc 5 cX5_ahead ret 25 (some (.ref h) :: l) st M = lim cal sc 5 cX5_ahead ret 26 (some (.ref h) :: l) (.ref h :: st) M := lim_step dX5_ahead_25
theorem sX5_ahead_26 : lim cal sc 5 cX5_ahead ret 26 (v0 :: some (.int x) :: l) st M = lim cal sc 5 cX5_ahead ret 27 (v0 :: some (.int x) :: l) (.int x :: st) M := lim_step dX5_ahead_26
theorem sX5_ahead_27 : lim cal sc 5 cX5_ahead ret 27 lv (a1 :: .ref h :: st) M = guK (isCl 4 h) (guK (rk 8 st) (calK (cal 25 [.ref h, a1] M) fun q M' => lim cal sc 5 cX5_ahead ret 30 lv (q.toList ++ st) M')) := (lim_step dX5_ahead_27).trans (e_virt1 rm_5_142 mq_25)
theorem sX5_ahead_30 : lim cal sc 5 cX5_ahead ret 30 lv (.int x :: st) M = if x = 0 then lim cal sc 5 cX5_ahead ret 39 lv st M else lim cal sc 5 cX5_ahead ret 33 lv st M := (lim_step dX5_ahead_30).trans (e_ifeq (t := 39) (by decide))
theorem sX5_ahead_33 : lim cal sc 5 cX5_ahead ret 33 (some (.ref h) :: l) st M = lim cal sc 5 cX5_ahead ret 34 (some (.ref h) :: l) (.ref h :: st) M := lim_step dX5_ahead_33
theorem sX5_ahead_34 : lim cal sc 5 cX5_ahead ret 34 lv st M = lim cal sc 5 cX5_ahead ret 35 lv (.int 4 :: st) M := (lim_step dX5_ahead_34).trans (e_ic k_i_4)
theorem sX5_ahead_35 : lim cal sc 5 cX5_ahead ret 35 lv (a1 :: .ref h :: st) M = guK (isCl 4 h) (guK (rk 8 st) (calK (cal 2 [.ref h, a1] M) fun q M' => lim cal sc 5 cX5_ahead ret 38 lv (q.toList ++ st) M')) := (lim_step dX5_ahead_35).trans (e_virt1 rm_5_69 mq_2)
theorem sX5_ahead_38 : lim cal sc 5 cX5_ahead (some .int) 38 lv [.int x] M = some (some (.int x), M) := (lim_step dX5_ahead_38).trans (e_iret)
theorem sX5_ahead_39 : lim cal sc 5 cX5_ahead ret 39 (some (.ref h) :: l) st M = lim cal sc 5 cX5_ahead ret 40 (some (.ref h) :: l) (.ref h :: st) M := lim_step dX5_ahead_39
theorem sX5_ahead_40 : lim cal sc 5 cX5_ahead ret 40 lv (.ref h :: st) M = opK (slotV 4 6 h M) fun q => lim cal sc 5 cX5_ahead ret 43 lv (q :: st) M := (lim_step dX5_ahead_40).trans (e_get (by decide) rf_5_43)
theorem sX5_ahead_43 : lim cal sc 5 cX5_ahead ret 43 (some (.ref h) :: l) st M = lim cal sc 5 cX5_ahead ret 44 (some (.ref h) :: l) (.ref h :: st) M := lim_step dX5_ahead_43
theorem sX5_ahead_44 : lim cal sc 5 cX5_ahead ret 44 lv (.ref h :: st) M = opK (slotV 4 0 h M) fun q => lim cal sc 5 cX5_ahead ret 47 lv (q :: st) M := (lim_step dX5_ahead_44).trans (e_get (by decide) rf_5_10)
theorem sX5_ahead_47 : lim cal sc 5 cX5_ahead ret 47 lv (.ref h :: st) M = opK (slotV 0 0 h M) fun q => lim cal sc 5 cX5_ahead ret 50 lv (q :: st) M := (lim_step dX5_ahead_47).trans (e_get (by decide) rf_5_73)
theorem sX5_ahead_50 : lim cal sc 5 cX5_ahead ret 50 lv (a1 :: .ref h :: st) M = guK (isCl 1 h) (guK (rk 8 st) (calK (cal 34 [.ref h, a1] M) fun q M' => lim cal sc 5 cX5_ahead ret 53 lv (q.toList ++ st) M')) := (lim_step dX5_ahead_50).trans (e_virt1 rm_5_160 mq_34)
theorem sX5_ahead_53 : lim cal sc 5 cX5_ahead ret 53 (some (.ref h) :: l) st M = lim cal sc 5 cX5_ahead ret 54 (some (.ref h) :: l) (.ref h :: st) M := lim_step dX5_ahead_53
theorem sX5_ahead_54 : lim cal sc 5 cX5_ahead ret 54 lv (.ref h :: st) M = opK (slotV 4 6 h M) fun q => lim cal sc 5 cX5_ahead ret 57 lv (q :: st) M := (lim_step dX5_ahead_54).trans (e_get (by decide) rf_5_43)
theorem sX5_ahead_57 : lim cal sc 5 cX5_ahead ret 57 (v0 :: some (.int x) :: l) st M = lim cal sc 5 cX5_ahead ret 58 (v0 :: some (.int x) :: l) (.int x :: st) M := lim_step dX5_ahead_57
theorem sX5_ahead_58 : lim cal sc 5 cX5_ahead ret 58 lv (a1 :: .ref h :: st) M = guK (isCl 1 h) (guK (rk 8 st) (calK (cal 35 [.ref h, a1] M) fun q M' => lim cal sc 5 cX5_ahead ret 61 lv (q.toList ++ st) M')) := (lim_step dX5_ahead_58).trans (e_virt1 rm_5_164 mq_35)
theorem sX5_ahead_61 : lim cal sc 5 cX5_ahead ret 61 (v0 :: v1 :: v2 :: v :: l) (.int x :: st) M = lim cal sc 5 cX5_ahead ret 62 (v0 :: v1 :: v2 :: some (.int x) :: l) st M := (lim_step dX5_ahead_61).trans (e_istn3)
theorem sX5_ahead_62 : lim cal sc 5 cX5_ahead ret 62 (v0 :: v1 :: some (.int x) :: l) st M = lim cal sc 5 cX5_ahead ret 63 (v0 :: v1 :: some (.int x) :: l) (.int x :: st) M := lim_step dX5_ahead_62
theorem sX5_ahead_63 : lim cal sc 5 cX5_ahead ret 63 lv (.int x :: st) M = if x.toInt < 0 ∨ 3 < x.toInt then lim cal sc 5 cX5_ahead ret 129 lv st M else lim cal sc 5 cX5_ahead ret ([92, 111, 113, 121].getD (x.toInt - 0).toNat 0) lv st M := (lim_step dX5_ahead_63).trans (e_tab [92, 111, 113, 121] (by decide) (by decide) (by decide))
theorem sX5_ahead_92 : lim cal sc 5 cX5_ahead ret 92 (some (.ref h) :: l) st M = lim cal sc 5 cX5_ahead ret 93 (some (.ref h) :: l) (.ref h :: st) M := lim_step dX5_ahead_92
theorem sX5_ahead_93 : lim cal sc 5 cX5_ahead ret 93 lv (.ref h :: st) M = opK (slotV 4 0 h M) fun q => lim cal sc 5 cX5_ahead ret 96 lv (q :: st) M := (lim_step dX5_ahead_93).trans (e_get (by decide) rf_5_10)
theorem sX5_ahead_96 : lim cal sc 5 cX5_ahead ret 96 lv (.ref h :: st) M = opK (slotV 0 0 h M) fun q => lim cal sc 5 cX5_ahead ret 99 lv (q :: st) M := (lim_step dX5_ahead_96).trans (e_get (by decide) rf_5_73)
theorem sX5_ahead_99 : lim cal sc 5 cX5_ahead ret 99 lv (.ref h :: st) M = opK (slotV 1 9 h M) fun q => lim cal sc 5 cX5_ahead ret 102 lv (q :: st) M := (lim_step dX5_ahead_99).trans (e_get (by decide) rf_5_114)
theorem sX5_ahead_102 : lim cal sc 5 cX5_ahead ret 102 (some (.ref h) :: l) st M = lim cal sc 5 cX5_ahead ret 103 (some (.ref h) :: l) (.ref h :: st) M := lim_step dX5_ahead_102
theorem sX5_ahead_103 : lim cal sc 5 cX5_ahead ret 103 lv (.ref h :: st) M = opK (slotV 4 6 h M) fun q => lim cal sc 5 cX5_ahead ret 106 lv (q :: st) M := (lim_step dX5_ahead_103).trans (e_get (by decide) rf_5_43)
theorem sX5_ahead_106 : lim cal sc 5 cX5_ahead ret 106 lv (.ref h :: st) M = opK (slotV 1 9 h M) fun q => lim cal sc 5 cX5_ahead ret 109 lv (q :: st) M := (lim_step dX5_ahead_106).trans (e_get (by decide) rf_5_114)
theorem sX5_ahead_109 : lim cal sc 5 cX5_ahead ret 109 lv (.int y :: .int x :: st) M = lim cal sc 5 cX5_ahead ret 110 lv (.int (x - y) :: st) M := lim_step dX5_ahead_109
theorem sX5_ahead_110 : lim cal sc 5 cX5_ahead (some .int) 110 lv [.int x] M = some (some (.int x), M) := (lim_step dX5_ahead_110).trans (e_iret)
theorem sX5_ahead_111 : lim cal sc 5 cX5_ahead ret 111 (v0 :: v1 :: v2 :: some (.int x) :: l) st M = lim cal sc 5 cX5_ahead ret 112 (v0 :: v1 :: v2 :: some (.int x) :: l) (.int x :: st) M := lim_step dX5_ahead_111
theorem sX5_ahead_112 : lim cal sc 5 cX5_ahead (some .int) 112 lv [.int x] M = some (some (.int x), M) := (lim_step dX5_ahead_112).trans (e_iret)
theorem sX5_ahead_113 : lim cal sc 5 cX5_ahead ret 113 (some (.ref h) :: l) st M = lim cal sc 5 cX5_ahead ret 114 (some (.ref h) :: l) (.ref h :: st) M := lim_step dX5_ahead_113
theorem sX5_ahead_114 : lim cal sc 5 cX5_ahead ret 114 lv (.ref h :: st) M = opK (slotV 4 6 h M) fun q => lim cal sc 5 cX5_ahead ret 117 lv (q :: st) M := (lim_step dX5_ahead_114).trans (e_get (by decide) rf_5_43)
theorem sX5_ahead_117 : lim cal sc 5 cX5_ahead ret 117 lv (.ref h :: st) M = opK (slotV 1 9 h M) fun q => lim cal sc 5 cX5_ahead ret 120 lv (q :: st) M := (lim_step dX5_ahead_117).trans (e_get (by decide) rf_5_114)
theorem sX5_ahead_120 : lim cal sc 5 cX5_ahead (some .int) 120 lv [.int x] M = some (some (.int x), M) := (lim_step dX5_ahead_120).trans (e_iret)
theorem sX5_ahead_121 : lim cal sc 5 cX5_ahead ret 121 (some (.ref h) :: l) st M = lim cal sc 5 cX5_ahead ret 122 (some (.ref h) :: l) (.ref h :: st) M := lim_step dX5_ahead_121
theorem sX5_ahead_122 : lim cal sc 5 cX5_ahead ret 122 lv (.ref h :: st) M = opK (slotV 4 6 h M) fun q => lim cal sc 5 cX5_ahead ret 125 lv (q :: st) M := (lim_step dX5_ahead_122).trans (e_get (by decide) rf_5_43)
theorem sX5_ahead_125 : lim cal sc 5 cX5_ahead ret 125 lv (.ref h :: st) M = guK (isCl 1 h) (guK (rk 8 st) (calK (cal 36 [.ref h] M) fun q M' => lim cal sc 5 cX5_ahead ret 128 lv (q.toList ++ st) M')) := (lim_step dX5_ahead_125).trans (e_virt0 rm_5_167 mq_36)
theorem sX5_ahead_128 : lim cal sc 5 cX5_ahead (some .int) 128 lv [.int x] M = some (some (.int x), M) := (lim_step dX5_ahead_128).trans (e_iret)
theorem sX5_ahead_129 : lim cal sc 5 cX5_ahead ret 129 (some (.ref h) :: l) st M = lim cal sc 5 cX5_ahead ret 130 (some (.ref h) :: l) (.ref h :: st) M := lim_step dX5_ahead_129
theorem sX5_ahead_130 : lim cal sc 5 cX5_ahead ret 130 lv (.ref h :: st) M = opK (slotV 4 6 h M) fun q => lim cal sc 5 cX5_ahead ret 133 lv (q :: st) M := (lim_step dX5_ahead_130).trans (e_get (by decide) rf_5_43)
theorem sX5_ahead_133 : lim cal sc 5 cX5_ahead ret 133 lv (.ref h :: st) M = opK (slotV 1 9 h M) fun q => lim cal sc 5 cX5_ahead ret 136 lv (q :: st) M := (lim_step dX5_ahead_133).trans (e_get (by decide) rf_5_114)
theorem sX5_ahead_136 : lim cal sc 5 cX5_ahead ret 136 lv (.int x :: st) M = if x ≤ 0 then lim cal sc 5 cX5_ahead ret 151 lv st M else lim cal sc 5 cX5_ahead ret 139 lv st M := (lim_step dX5_ahead_136).trans (e_ifle (t := 151) (by decide))
theorem sX5_ahead_139 : lim cal sc 5 cX5_ahead ret 139 (some (.ref h) :: l) st M = lim cal sc 5 cX5_ahead ret 140 (some (.ref h) :: l) (.ref h :: st) M := lim_step dX5_ahead_139
theorem sX5_ahead_140 : lim cal sc 5 cX5_ahead ret 140 lv (.ref h :: st) M = opK (slotV 4 6 h M) fun q => lim cal sc 5 cX5_ahead ret 143 lv (q :: st) M := (lim_step dX5_ahead_140).trans (e_get (by decide) rf_5_43)
theorem sX5_ahead_143 : lim cal sc 5 cX5_ahead ret 143 lv (.ref h :: st) M = opK (slotV 1 8 h M) fun q => lim cal sc 5 cX5_ahead ret 146 lv (q :: st) M := (lim_step dX5_ahead_143).trans (e_get (by decide) rf_5_123)
theorem sX5_ahead_146 : lim cal sc 5 cX5_ahead ret 146 lv st M = lim cal sc 5 cX5_ahead ret 147 lv (.int 0 :: st) M := (lim_step dX5_ahead_146).trans (e_ic k_i_0)
theorem sX5_ahead_147 : lim cal sc 5 cX5_ahead ret 147 lv (.int x :: .ref h :: st) M = opK (arrV9 sc h M) fun q => guK (inb x q.1) (lim cal sc 5 cX5_ahead ret 148 lv (.int (q.2 x.toNatClampNeg) :: st) M) := (lim_step dX5_ahead_147).trans (e_iald)
theorem sX5_ahead_148 : lim cal sc 5 cX5_ahead ret 148 lv st M = lim cal sc 5 cX5_ahead ret 152 lv st M := (lim_step dX5_ahead_148).trans (e_goto (t := 152) (by decide))
theorem sX5_ahead_151 : lim cal sc 5 cX5_ahead ret 151 lv st M = lim cal sc 5 cX5_ahead ret 152 lv (.int (-1) :: st) M := (lim_step dX5_ahead_151).trans (e_ic k_i_m1)
theorem sX5_ahead_152 : lim cal sc 5 cX5_ahead (some .int) 152 lv [.int x] M = some (some (.int x), M) := (lim_step dX5_ahead_152).trans (e_iret)
theorem sX5_when_0 : lim cal sc 5 cX5_when ret 0 (some (.ref h) :: l) st M = lim cal sc 5 cX5_when ret 1 (some (.ref h) :: l) (.ref h :: st) M := lim_step dX5_when_0
theorem sX5_when_1 : lim cal sc 5 cX5_when ret 1 (v0 :: some (.int x) :: l) st M = lim cal sc 5 cX5_when ret 2 (v0 :: some (.int x) :: l) (.int x :: st) M := lim_step dX5_when_1
theorem sX5_when_2 : lim cal sc 5 cX5_when ret 2 lv (a1 :: .ref h :: st) M = guK (isCl 4 h) (guK (rk 8 st) (calK (cal 38 [.ref h, a1] M) fun q M' => lim cal sc 5 cX5_when ret 5 lv (q.toList ++ st) M')) := (lim_step dX5_when_2).trans (e_virt1 rm_5_170 mq_38)
theorem sX5_when_5 : lim cal sc 5 cX5_when ret 5 (v0 :: v1 :: v :: l) (.int x :: st) M = lim cal sc 5 cX5_when ret 6 (v0 :: v1 :: some (.int x) :: l) st M := (lim_step dX5_when_5).trans (e_istn2)
theorem sX5_when_6 : lim cal sc 5 cX5_when ret 6 (v0 :: v1 :: some (.int x) :: l) st M = lim cal sc 5 cX5_when ret 7 (v0 :: v1 :: some (.int x) :: l) (.int x :: st) M := lim_step dX5_when_6
theorem sX5_when_7 : lim cal sc 5 cX5_when ret 7 lv (.int x :: st) M = if x < 0 then lim cal sc 5 cX5_when ret 16 lv st M else lim cal sc 5 cX5_when ret 10 lv st M := (lim_step dX5_when_7).trans (e_iflt (t := 16) (by decide))
theorem sX5_when_10 : lim cal sc 5 cX5_when ret 10 (some (.ref h) :: l) st M = lim cal sc 5 cX5_when ret 11 (some (.ref h) :: l) (.ref h :: st) M := lim_step dX5_when_10
theorem sX5_when_11 : lim cal sc 5 cX5_when ret 11 (v0 :: v1 :: some (.int x) :: l) st M = lim cal sc 5 cX5_when ret 12 (v0 :: v1 :: some (.int x) :: l) (.int x :: st) M := lim_step dX5_when_11
theorem sX5_when_12 : lim cal sc 5 cX5_when ret 12 lv (a1 :: .ref h :: st) M = guK (isCl 4 h) (guK (rk 8 st) (calK (cal 2 [.ref h, a1] M) fun q M' => lim cal sc 5 cX5_when ret 15 lv (q.toList ++ st) M')) := (lim_step dX5_when_12).trans (e_virt1 rm_5_69 mq_2)
theorem sX5_when_15 : lim cal sc 5 cX5_when (some .int) 15 lv [.int x] M = some (some (.int x), M) := (lim_step dX5_when_15).trans (e_iret)
theorem sX5_when_16 : lim cal sc 5 cX5_when ret 16 (some (.ref h) :: l) st M = lim cal sc 5 cX5_when ret 17 (some (.ref h) :: l) (.ref h :: st) M := lim_step dX5_when_16
theorem sX5_when_17 : lim cal sc 5 cX5_when ret 17 (v0 :: some (.int x) :: l) st M = lim cal sc 5 cX5_when ret 18 (v0 :: some (.int x) :: l) (.int x :: st) M := lim_step dX5_when_17
theorem sX5_when_18 : lim cal sc 5 cX5_when ret 18 lv (a1 :: .ref h :: st) M = guK (isCl 4 h) (guK (rk 8 st) (calK (cal 39 [.ref h, a1] M) fun q M' => lim cal sc 5 cX5_when ret 21 lv (q.toList ++ st) M')) := (lim_step dX5_when_18).trans (e_virt1 rm_5_173 mq_39)
theorem sX5_when_21 : lim cal sc 5 cX5_when ret 21 (v0 :: v1 :: v2 :: v :: l) (.int x :: st) M = lim cal sc 5 cX5_when ret 22 (v0 :: v1 :: v2 :: some (.int x) :: l) st M := (lim_step dX5_when_21).trans (e_istn3)
theorem sX5_when_22 : lim cal sc 5 cX5_when ret 22 (v0 :: v1 :: v2 :: some (.int x) :: l) st M = lim cal sc 5 cX5_when ret 23 (v0 :: v1 :: v2 :: some (.int x) :: l) (.int x :: st) M := lim_step dX5_when_22
theorem sX5_when_23 : lim cal sc 5 cX5_when ret 23 lv (.int x :: st) M = if x ≤ 0 then lim cal sc 5 cX5_when ret 30 lv st M else lim cal sc 5 cX5_when ret 26 lv st M := (lim_step dX5_when_23).trans (e_ifle (t := 30) (by decide))
theorem sX5_when_26 : lim cal sc 5 cX5_when ret 26 (v0 :: v1 :: v2 :: some (.int x) :: l) st M = lim cal sc 5 cX5_when ret 27 (v0 :: v1 :: v2 :: some (.int x) :: l) (.int x :: st) M := lim_step dX5_when_26
theorem sX5_when_27 : lim cal sc 5 cX5_when ret 27 lv st M = lim cal sc 5 cX5_when ret 35 lv st M := (lim_step dX5_when_27).trans (e_goto (t := 35) (by decide))
theorem sX5_when_30 : lim cal sc 5 cX5_when ret 30 (some (.ref h) :: l) st M = lim cal sc 5 cX5_when ret 31 (some (.ref h) :: l) (.ref h :: st) M := lim_step dX5_when_30
theorem sX5_when_31 : lim cal sc 5 cX5_when ret 31 lv st M = lim cal sc 5 cX5_when ret 32 lv (.int 3 :: st) M := (lim_step dX5_when_31).trans (e_ic k_i_3)
theorem sX5_when_32 : lim cal sc 5 cX5_when ret 32 lv (a1 :: .ref h :: st) M = guK (isCl 4 h) (guK (rk 8 st) (calK (cal 2 [.ref h, a1] M) fun q M' => lim cal sc 5 cX5_when ret 35 lv (q.toList ++ st) M')) := (lim_step dX5_when_32).trans (e_virt1 rm_5_69 mq_2)
theorem sX5_when_35 : lim cal sc 5 cX5_when (some .int) 35 lv [.int x] M = some (some (.int x), M) := (lim_step dX5_when_35).trans (e_iret)
theorem sX5_worth_0 : lim cal sc 5 cX5_worth ret 0 (some (.ref h) :: l) st M = lim cal sc 5 cX5_worth ret 1 (some (.ref h) :: l) (.ref h :: st) M := lim_step dX5_worth_0
theorem sX5_worth_1 : lim cal sc 5 cX5_worth ret 1 (v0 :: some (.int x) :: l) st M = lim cal sc 5 cX5_worth ret 2 (v0 :: some (.int x) :: l) (.int x :: st) M := lim_step dX5_worth_1
theorem sX5_worth_2 : lim cal sc 5 cX5_worth ret 2 lv (a1 :: .ref h :: st) M = guK (isCl 4 h) (guK (rk 8 st) (calK (cal 38 [.ref h, a1] M) fun q M' => lim cal sc 5 cX5_worth ret 5 lv (q.toList ++ st) M')) := (lim_step dX5_worth_2).trans (e_virt1 rm_5_170 mq_38)
theorem sX5_worth_5 : lim cal sc 5 cX5_worth ret 5 (v0 :: v1 :: v :: l) (.int x :: st) M = lim cal sc 5 cX5_worth ret 6 (v0 :: v1 :: some (.int x) :: l) st M := (lim_step dX5_worth_5).trans (e_istn2)
theorem sX5_worth_6 : lim cal sc 5 cX5_worth ret 6 (v0 :: v1 :: some (.int x) :: l) st M = lim cal sc 5 cX5_worth ret 7 (v0 :: v1 :: some (.int x) :: l) (.int x :: st) M := lim_step dX5_worth_6
theorem sX5_worth_7 : lim cal sc 5 cX5_worth ret 7 lv (.int x :: st) M = if x < 0 then lim cal sc 5 cX5_worth ret 16 lv st M else lim cal sc 5 cX5_worth ret 10 lv st M := (lim_step dX5_worth_7).trans (e_iflt (t := 16) (by decide))
theorem sX5_worth_10 : lim cal sc 5 cX5_worth ret 10 (some (.ref h) :: l) st M = lim cal sc 5 cX5_worth ret 11 (some (.ref h) :: l) (.ref h :: st) M := lim_step dX5_worth_10
theorem sX5_worth_11 : lim cal sc 5 cX5_worth ret 11 (v0 :: v1 :: some (.int x) :: l) st M = lim cal sc 5 cX5_worth ret 12 (v0 :: v1 :: some (.int x) :: l) (.int x :: st) M := lim_step dX5_worth_11
theorem sX5_worth_12 : lim cal sc 5 cX5_worth ret 12 lv (a1 :: .ref h :: st) M = guK (isCl 4 h) (guK (rk 8 st) (calK (cal 2 [.ref h, a1] M) fun q M' => lim cal sc 5 cX5_worth ret 15 lv (q.toList ++ st) M')) := (lim_step dX5_worth_12).trans (e_virt1 rm_5_69 mq_2)
theorem sX5_worth_15 : lim cal sc 5 cX5_worth (some .int) 15 lv [.int x] M = some (some (.int x), M) := (lim_step dX5_worth_15).trans (e_iret)
theorem sX5_worth_16 : lim cal sc 5 cX5_worth ret 16 (some (.ref h) :: l) st M = lim cal sc 5 cX5_worth ret 17 (some (.ref h) :: l) (.ref h :: st) M := lim_step dX5_worth_16
theorem sX5_worth_17 : lim cal sc 5 cX5_worth ret 17 (v0 :: some (.int x) :: l) st M = lim cal sc 5 cX5_worth ret 18 (v0 :: some (.int x) :: l) (.int x :: st) M := lim_step dX5_worth_17
theorem sX5_worth_18 : lim cal sc 5 cX5_worth ret 18 lv (a1 :: .ref h :: st) M = guK (isCl 4 h) (guK (rk 8 st) (calK (cal 39 [.ref h, a1] M) fun q M' => lim cal sc 5 cX5_worth ret 21 lv (q.toList ++ st) M')) := (lim_step dX5_worth_18).trans (e_virt1 rm_5_173 mq_39)
theorem sX5_worth_21 : lim cal sc 5 cX5_worth ret 21 lv (.int x :: st) M = if x ≤ 0 then lim cal sc 5 cX5_worth ret 34 lv st M else lim cal sc 5 cX5_worth ret 24 lv st M := (lim_step dX5_worth_21).trans (e_ifle (t := 34) (by decide))
theorem sX5_worth_24 : lim cal sc 5 cX5_worth ret 24 (some (.ref h) :: l) st M = lim cal sc 5 cX5_worth ret 25 (some (.ref h) :: l) (.ref h :: st) M := lim_step dX5_worth_24
theorem sX5_worth_25 : lim cal sc 5 cX5_worth ret 25 lv (.ref h :: st) M = opK (slotV 4 6 h M) fun q => lim cal sc 5 cX5_worth ret 28 lv (q :: st) M := (lim_step dX5_worth_25).trans (e_get (by decide) rf_5_43)
theorem sX5_worth_28 : lim cal sc 5 cX5_worth ret 28 lv (.ref h :: st) M = opK (slotV 1 13 h M) fun q => lim cal sc 5 cX5_worth ret 31 lv (q :: st) M := (lim_step dX5_worth_28).trans (e_get (by decide) rf_5_176)
theorem sX5_worth_31 : lim cal sc 5 cX5_worth ret 31 lv st M = lim cal sc 5 cX5_worth ret 39 lv st M := (lim_step dX5_worth_31).trans (e_goto (t := 39) (by decide))
theorem sX5_worth_34 : lim cal sc 5 cX5_worth ret 34 (some (.ref h) :: l) st M = lim cal sc 5 cX5_worth ret 35 (some (.ref h) :: l) (.ref h :: st) M := lim_step dX5_worth_34
theorem sX5_worth_35 : lim cal sc 5 cX5_worth ret 35 lv st M = lim cal sc 5 cX5_worth ret 36 lv (.int 3 :: st) M := (lim_step dX5_worth_35).trans (e_ic k_i_3)
theorem sX5_worth_36 : lim cal sc 5 cX5_worth ret 36 lv (a1 :: .ref h :: st) M = guK (isCl 4 h) (guK (rk 8 st) (calK (cal 2 [.ref h, a1] M) fun q M' => lim cal sc 5 cX5_worth ret 39 lv (q.toList ++ st) M')) := (lim_step dX5_worth_36).trans (e_virt1 rm_5_69 mq_2)
theorem sX5_worth_39 : lim cal sc 5 cX5_worth (some .int) 39 lv [.int x] M = some (some (.int x), M) := (lim_step dX5_worth_39).trans (e_iret)
theorem sX5_spoils_0 : lim cal sc 5 cX5_spoils ret 0 (some (.ref h) :: l) st M = lim cal sc 5 cX5_spoils ret 1 (some (.ref h) :: l) (.ref h :: st) M := lim_step dX5_spoils_0
theorem sX5_spoils_1 : lim cal sc 5 cX5_spoils ret 1 lv st M = lim cal sc 5 cX5_spoils ret 3 lv (.int 60 :: st) M := (lim_step dX5_spoils_1).trans (e_bi k_b_60)
theorem sX5_spoils_3 : lim cal sc 5 cX5_spoils ret 3 lv (a1 :: .ref h :: st) M = guK (isCl 4 h) (guK (rk 8 st) (calK (cal 25 [.ref h, a1] M) fun q M' => lim cal sc 5 cX5_spoils ret 6 lv (q.toList ++ st) M')) := (lim_step dX5_spoils_3).trans (e_virt1 rm_5_142 mq_25)
theorem sX5_spoils_6 : lim cal sc 5 cX5_spoils ret 6 lv (.int x :: st) M = if x = 0 then lim cal sc 5 cX5_spoils ret 15 lv st M else lim cal sc 5 cX5_spoils ret 9 lv st M := (lim_step dX5_spoils_6).trans (e_ifeq (t := 15) (by decide))
theorem sX5_spoils_9 : lim cal sc 5 cX5_spoils ret 9 (some (.ref h) :: l) st M = lim cal sc 5 cX5_spoils ret 10 (some (.ref h) :: l) (.ref h :: st) M := lim_step dX5_spoils_9
theorem sX5_spoils_10 : lim cal sc 5 cX5_spoils ret 10 lv st M = lim cal sc 5 cX5_spoils ret 11 lv (.int 4 :: st) M := (lim_step dX5_spoils_10).trans (e_ic k_i_4)
theorem sX5_spoils_11 : lim cal sc 5 cX5_spoils ret 11 lv (a1 :: .ref h :: st) M = guK (isCl 4 h) (guK (rk 8 st) (calK (cal 2 [.ref h, a1] M) fun q M' => lim cal sc 5 cX5_spoils ret 14 lv (q.toList ++ st) M')) := (lim_step dX5_spoils_11).trans (e_virt1 rm_5_69 mq_2)
theorem sX5_spoils_14 : lim cal sc 5 cX5_spoils (some .int) 14 lv [.int x] M = some (some (.int x), M) := (lim_step dX5_spoils_14).trans (e_iret)
theorem sX5_spoils_15 : lim cal sc 5 cX5_spoils ret 15 (some (.ref h) :: l) st M = lim cal sc 5 cX5_spoils ret 16 (some (.ref h) :: l) (.ref h :: st) M := lim_step dX5_spoils_15
theorem sX5_spoils_16 : lim cal sc 5 cX5_spoils ret 16 lv (.ref h :: st) M = opK (slotV 4 6 h M) fun q => lim cal sc 5 cX5_spoils ret 19 lv (q :: st) M := (lim_step dX5_spoils_16).trans (e_get (by decide) rf_5_43)
theorem sX5_spoils_19 : lim cal sc 5 cX5_spoils ret 19 (some (.ref h) :: l) st M = lim cal sc 5 cX5_spoils ret 20 (some (.ref h) :: l) (.ref h :: st) M := lim_step dX5_spoils_19
theorem sX5_spoils_20 : lim cal sc 5 cX5_spoils ret 20 lv (.ref h :: st) M = opK (slotV 4 0 h M) fun q => lim cal sc 5 cX5_spoils ret 23 lv (q :: st) M := (lim_step dX5_spoils_20).trans (e_get (by decide) rf_5_10)
theorem sX5_spoils_23 : lim cal sc 5 cX5_spoils ret 23 lv (.ref h :: st) M = opK (slotV 0 0 h M) fun q => lim cal sc 5 cX5_spoils ret 26 lv (q :: st) M := (lim_step dX5_spoils_23).trans (e_get (by decide) rf_5_73)
theorem sX5_spoils_26 : lim cal sc 5 cX5_spoils ret 26 lv (a1 :: .ref h :: st) M = guK (isCl 1 h) (guK (rk 8 st) (calK (cal 34 [.ref h, a1] M) fun q M' => lim cal sc 5 cX5_spoils ret 29 lv (q.toList ++ st) M')) := (lim_step dX5_spoils_26).trans (e_virt1 rm_5_160 mq_34)
theorem sX5_spoils_29 : lim cal sc 5 cX5_spoils ret 29 lv st M = lim cal sc 5 cX5_spoils ret 30 lv (.int 1 :: st) M := (lim_step dX5_spoils_29).trans (e_ic k_i_1)
theorem sX5_spoils_30 : lim cal sc 5 cX5_spoils ret 30 (v0 :: v :: l) (.int x :: st) M = lim cal sc 5 cX5_spoils ret 31 (v0 :: some (.int x) :: l) st M := (lim_step dX5_spoils_30).trans (e_istn1)
theorem sX5_spoils_31 : lim cal sc 5 cX5_spoils ret 31 (v0 :: some (.int x) :: l) st M = lim cal sc 5 cX5_spoils ret 32 (v0 :: some (.int x) :: l) (.int x :: st) M := lim_step dX5_spoils_31
theorem sX5_spoils_32 : lim cal sc 5 cX5_spoils ret 32 lv st M = lim cal sc 5 cX5_spoils ret 34 lv (.int 60 :: st) M := (lim_step dX5_spoils_32).trans (e_bi k_b_60)
theorem sX5_spoils_34 : lim cal sc 5 cX5_spoils ret 34 lv (.int y :: .int x :: st) M = if y < x then lim cal sc 5 cX5_spoils ret 88 lv st M else lim cal sc 5 cX5_spoils ret 37 lv st M := (lim_step dX5_spoils_34).trans (e_cmpgt (t := 88) (by decide))
theorem sX5_spoils_37 : lim cal sc 5 cX5_spoils ret 37 (some (.ref h) :: l) st M = lim cal sc 5 cX5_spoils ret 38 (some (.ref h) :: l) (.ref h :: st) M := lim_step dX5_spoils_37
theorem sX5_spoils_38 : lim cal sc 5 cX5_spoils ret 38 lv (.ref h :: st) M = opK (slotV 4 6 h M) fun q => lim cal sc 5 cX5_spoils ret 41 lv (q :: st) M := (lim_step dX5_spoils_38).trans (e_get (by decide) rf_5_43)
theorem sX5_spoils_41 : lim cal sc 5 cX5_spoils ret 41 lv (.ref h :: st) M = guK (isCl 1 h) (guK (rk 8 st) (calK (cal 27 [.ref h] M) fun q M' => lim cal sc 5 cX5_spoils ret 44 lv (q.toList ++ st) M')) := (lim_step dX5_spoils_41).trans (e_virt0 rm_5_179 mq_27)
theorem sX5_spoils_44 : lim cal sc 5 cX5_spoils ret 44 lv (.int x :: st) M = lim cal sc 5 cX5_spoils ret 45 lv st M := lim_step dX5_spoils_44
theorem sX5_spoils_45 : lim cal sc 5 cX5_spoils ret 45 (some (.ref h) :: l) st M = lim cal sc 5 cX5_spoils ret 46 (some (.ref h) :: l) (.ref h :: st) M := lim_step dX5_spoils_45
theorem sX5_spoils_46 : lim cal sc 5 cX5_spoils ret 46 lv (.ref h :: st) M = opK (slotV 4 6 h M) fun q => lim cal sc 5 cX5_spoils ret 49 lv (q :: st) M := (lim_step dX5_spoils_46).trans (e_get (by decide) rf_5_43)
theorem sX5_spoils_49 : lim cal sc 5 cX5_spoils ret 49 lv (.ref h :: st) M = opK (slotV 1 12 h M) fun q => lim cal sc 5 cX5_spoils ret 52 lv (q :: st) M := (lim_step dX5_spoils_49).trans (e_get (by decide) rf_5_182)
theorem sX5_spoils_52 : lim cal sc 5 cX5_spoils ret 52 lv (.int x :: st) M = if x < 0 then lim cal sc 5 cX5_spoils ret 82 lv st M else lim cal sc 5 cX5_spoils ret 55 lv st M := (lim_step dX5_spoils_52).trans (e_iflt (t := 82) (by decide))
theorem sX5_spoils_55 : lim cal sc 5 cX5_spoils ret 55 (some (.ref h) :: l) st M = lim cal sc 5 cX5_spoils ret 56 (some (.ref h) :: l) (.ref h :: st) M := lim_step dX5_spoils_55
theorem sX5_spoils_56 : lim cal sc 5 cX5_spoils ret 56 lv (.ref h :: st) M = opK (slotV 4 6 h M) fun q => lim cal sc 5 cX5_spoils ret 59 lv (q :: st) M := (lim_step dX5_spoils_56).trans (e_get (by decide) rf_5_43)
theorem sX5_spoils_59 : lim cal sc 5 cX5_spoils ret 59 lv (.ref h :: st) M = opK (slotV 1 13 h M) fun q => lim cal sc 5 cX5_spoils ret 62 lv (q :: st) M := (lim_step dX5_spoils_59).trans (e_get (by decide) rf_5_176)
theorem sX5_spoils_62 : lim cal sc 5 cX5_spoils ret 62 (some (.ref h) :: l) st M = lim cal sc 5 cX5_spoils ret 63 (some (.ref h) :: l) (.ref h :: st) M := lim_step dX5_spoils_62
theorem sX5_spoils_63 : lim cal sc 5 cX5_spoils ret 63 lv (.ref h :: st) M = opK (slotV 4 6 h M) fun q => lim cal sc 5 cX5_spoils ret 66 lv (q :: st) M := (lim_step dX5_spoils_63).trans (e_get (by decide) rf_5_43)
theorem sX5_spoils_66 : lim cal sc 5 cX5_spoils ret 66 lv (.ref h :: st) M = opK (slotV 1 3 h M) fun q => lim cal sc 5 cX5_spoils ret 69 lv (q :: st) M := (lim_step dX5_spoils_66).trans (e_get (by decide) rf_5_185)
theorem sX5_spoils_69 : lim cal sc 5 cX5_spoils ret 69 (some (.ref h) :: l) st M = lim cal sc 5 cX5_spoils ret 70 (some (.ref h) :: l) (.ref h :: st) M := lim_step dX5_spoils_69
theorem sX5_spoils_70 : lim cal sc 5 cX5_spoils ret 70 lv (.ref h :: st) M = opK (slotV 4 6 h M) fun q => lim cal sc 5 cX5_spoils ret 73 lv (q :: st) M := (lim_step dX5_spoils_70).trans (e_get (by decide) rf_5_43)
theorem sX5_spoils_73 : lim cal sc 5 cX5_spoils ret 73 lv (.ref h :: st) M = opK (slotV 1 12 h M) fun q => lim cal sc 5 cX5_spoils ret 76 lv (q :: st) M := (lim_step dX5_spoils_73).trans (e_get (by decide) rf_5_182)
theorem sX5_spoils_76 : lim cal sc 5 cX5_spoils ret 76 lv (.int x :: .ref h :: st) M = opK (arrV9 sc h M) fun q => guK (inb x q.1) (lim cal sc 5 cX5_spoils ret 77 lv (.int (q.2 x.toNatClampNeg) :: st) M) := (lim_step dX5_spoils_76).trans (e_iald)
theorem sX5_spoils_77 : lim cal sc 5 cX5_spoils ret 77 lv (.int y :: .int x :: st) M = if y ≤ x then lim cal sc 5 cX5_spoils ret 82 lv st M else lim cal sc 5 cX5_spoils ret 80 lv st M := (lim_step dX5_spoils_77).trans (e_cmpge (t := 82) (by decide))
theorem sX5_spoils_80 : lim cal sc 5 cX5_spoils ret 80 (v0 :: some (.int x) :: l) st M = lim cal sc 5 cX5_spoils ret 81 (v0 :: some (.int x) :: l) (.int x :: st) M := lim_step dX5_spoils_80
theorem sX5_spoils_81 : lim cal sc 5 cX5_spoils (some .int) 81 lv [.int x] M = some (some (.int x), M) := (lim_step dX5_spoils_81).trans (e_iret)
theorem sX5_spoils_82 : lim cal sc 5 cX5_spoils ret 82 (v0 :: some (.int x) :: l) st M = lim cal sc 5 cX5_spoils ret 85 (v0 :: some (.int (x + 1)) :: l) st M := (lim_step dX5_spoils_82).trans (e_inc1 k_i_1)
theorem sX5_spoils_85 : lim cal sc 5 cX5_spoils ret 85 lv st M = lim cal sc 5 cX5_spoils ret 31 lv st M := (lim_step dX5_spoils_85).trans (e_goto (t := 31) (by decide))
theorem sX5_spoils_88 : lim cal sc 5 cX5_spoils ret 88 (some (.ref h) :: l) st M = lim cal sc 5 cX5_spoils ret 89 (some (.ref h) :: l) (.ref h :: st) M := lim_step dX5_spoils_88
theorem sX5_spoils_89 : lim cal sc 5 cX5_spoils ret 89 lv st M = lim cal sc 5 cX5_spoils ret 90 lv (.int 3 :: st) M := (lim_step dX5_spoils_89).trans (e_ic k_i_3)
theorem sX5_spoils_90 : lim cal sc 5 cX5_spoils ret 90 lv (a1 :: .ref h :: st) M = guK (isCl 4 h) (guK (rk 8 st) (calK (cal 2 [.ref h, a1] M) fun q M' => lim cal sc 5 cX5_spoils ret 93 lv (q.toList ++ st) M')) := (lim_step dX5_spoils_90).trans (e_virt1 rm_5_69 mq_2)
theorem sX5_spoils_93 : lim cal sc 5 cX5_spoils (some .int) 93 lv [.int x] M = some (some (.int x), M) := (lim_step dX5_spoils_93).trans (e_iret)
theorem sX5_plan_0 : lim cal sc 5 cX5_plan ret 0 (v0 :: v1 :: some (.int x) :: l) st M = lim cal sc 5 cX5_plan ret 1 (v0 :: v1 :: some (.int x) :: l) (.int x :: st) M := lim_step dX5_plan_0
theorem sX5_plan_1 : lim cal sc 5 cX5_plan ret 1 lv (a1 :: st) M = guK (rk 8 st) (calK (cal 24 [a1] M) fun q M' => lim cal sc 5 cX5_plan ret 4 lv (q.toList ++ st) M') := (lim_step dX5_plan_1).trans (e_stat1 rm_5_139)
theorem sX5_plan_4 : lim cal sc 5 cX5_plan ret 4 lv (.int x :: st) M = if x = 0 then lim cal sc 5 cX5_plan ret 15 lv st M else lim cal sc 5 cX5_plan ret 7 lv st M := (lim_step dX5_plan_4).trans (e_ifeq (t := 15) (by decide))
theorem sX5_plan_7 : lim cal sc 5 cX5_plan ret 7 (some (.ref h) :: l) st M = lim cal sc 5 cX5_plan ret 8 (some (.ref h) :: l) (.ref h :: st) M := lim_step dX5_plan_7
theorem sX5_plan_8 : lim cal sc 5 cX5_plan ret 8 (v0 :: some (.int x) :: l) st M = lim cal sc 5 cX5_plan ret 9 (v0 :: some (.int x) :: l) (.int x :: st) M := lim_step dX5_plan_8
theorem sX5_plan_9 : lim cal sc 5 cX5_plan ret 9 lv (a1 :: .ref h :: st) M = guK (isCl 4 h) (guK (rk 8 st) (calK (cal 43 [.ref h, a1] M) fun q M' => lim cal sc 5 cX5_plan ret 12 lv (q.toList ++ st) M')) := (lim_step dX5_plan_9).trans (e_virt1 rm_5_188 mq_43)
theorem sX5_plan_12 : lim cal sc 5 cX5_plan ret 12 lv (.int x :: st) M = if x = 0 then lim cal sc 5 cX5_plan ret 15 lv st M else lim cal sc 5 cX5_plan ret 21 lv st M := (lim_step dX5_plan_12).trans (e_ifne (t := 21) (by decide))
theorem sX5_plan_15 : lim cal sc 5 cX5_plan ret 15 (some (.ref h) :: l) st M = lim cal sc 5 cX5_plan ret 16 (some (.ref h) :: l) (.ref h :: st) M := lim_step dX5_plan_15
theorem sX5_plan_16 : lim cal sc 5 cX5_plan ret 16 lv st M = lim cal sc 5 cX5_plan ret 17 lv (.int 0 :: st) M := (lim_step dX5_plan_16).trans (e_ic k_i_0)
theorem sX5_plan_17 : lim cal sc 5 cX5_plan ret 17 lv (a1 :: .ref h :: st) M = guK (isCl 4 h) (guK (rk 8 st) (calK (cal 2 [.ref h, a1] M) fun q M' => lim cal sc 5 cX5_plan ret 20 lv (q.toList ++ st) M')) := (lim_step dX5_plan_17).trans (e_virt1 rm_5_69 mq_2)
theorem sX5_plan_20 : lim cal sc 5 cX5_plan (some .int) 20 lv [.int x] M = some (some (.int x), M) := (lim_step dX5_plan_20).trans (e_iret)
theorem sX5_plan_21 : lim cal sc 5 cX5_plan ret 21 (some (.ref h) :: l) st M = lim cal sc 5 cX5_plan ret 22 (some (.ref h) :: l) (.ref h :: st) M := lim_step dX5_plan_21
theorem sX5_plan_22 : lim cal sc 5 cX5_plan ret 22 (v0 :: some (.int x) :: l) st M = lim cal sc 5 cX5_plan ret 23 (v0 :: some (.int x) :: l) (.int x :: st) M := lim_step dX5_plan_22
theorem sX5_plan_23 : lim cal sc 5 cX5_plan ret 23 lv (a1 :: .ref h :: st) M = guK (isCl 4 h) (guK (rk 8 st) (calK (cal 44 [.ref h, a1] M) fun q M' => lim cal sc 5 cX5_plan ret 26 lv (q.toList ++ st) M')) := (lim_step dX5_plan_23).trans (e_virt1 rm_5_191 mq_44)
theorem sX5_plan_26 : lim cal sc 5 cX5_plan ret 26 lv (.int x :: st) M = if x = 0 then lim cal sc 5 cX5_plan ret 37 lv st M else lim cal sc 5 cX5_plan ret 29 lv st M := (lim_step dX5_plan_26).trans (e_ifeq (t := 37) (by decide))
theorem sX5_plan_29 : lim cal sc 5 cX5_plan ret 29 (some (.ref h) :: l) st M = lim cal sc 5 cX5_plan ret 30 (some (.ref h) :: l) (.ref h :: st) M := lim_step dX5_plan_29
theorem sX5_plan_30 : lim cal sc 5 cX5_plan ret 30 (v0 :: v1 :: some (.int x) :: l) st M = lim cal sc 5 cX5_plan ret 31 (v0 :: v1 :: some (.int x) :: l) (.int x :: st) M := lim_step dX5_plan_30
theorem sX5_plan_31 : lim cal sc 5 cX5_plan ret 31 lv (a1 :: .ref h :: st) M = guK (isCl 4 h) (guK (rk 8 st) (calK (cal 25 [.ref h, a1] M) fun q M' => lim cal sc 5 cX5_plan ret 34 lv (q.toList ++ st) M')) := (lim_step dX5_plan_31).trans (e_virt1 rm_5_142 mq_25)
theorem sX5_plan_34 : lim cal sc 5 cX5_plan ret 34 lv (.int x :: st) M = if x = 0 then lim cal sc 5 cX5_plan ret 43 lv st M else lim cal sc 5 cX5_plan ret 37 lv st M := (lim_step dX5_plan_34).trans (e_ifeq (t := 43) (by decide))
theorem sX5_plan_37 : lim cal sc 5 cX5_plan ret 37 (some (.ref h) :: l) st M = lim cal sc 5 cX5_plan ret 38 (some (.ref h) :: l) (.ref h :: st) M := lim_step dX5_plan_37
theorem sX5_plan_38 : lim cal sc 5 cX5_plan ret 38 lv st M = lim cal sc 5 cX5_plan ret 39 lv (.int 4 :: st) M := (lim_step dX5_plan_38).trans (e_ic k_i_4)
theorem sX5_plan_39 : lim cal sc 5 cX5_plan ret 39 lv (a1 :: .ref h :: st) M = guK (isCl 4 h) (guK (rk 8 st) (calK (cal 2 [.ref h, a1] M) fun q M' => lim cal sc 5 cX5_plan ret 42 lv (q.toList ++ st) M')) := (lim_step dX5_plan_39).trans (e_virt1 rm_5_69 mq_2)
theorem sX5_plan_42 : lim cal sc 5 cX5_plan (some .int) 42 lv [.int x] M = some (some (.int x), M) := (lim_step dX5_plan_42).trans (e_iret)
theorem sX5_plan_43 : lim cal sc 5 cX5_plan ret 43 (some (.ref h) :: l) st M = lim cal sc 5 cX5_plan ret 44 (some (.ref h) :: l) (.ref h :: st) M := lim_step dX5_plan_43
theorem sX5_plan_44 : lim cal sc 5 cX5_plan ret 44 (some (.ref h) :: l) st M = lim cal sc 5 cX5_plan ret 45 (some (.ref h) :: l) (.ref h :: st) M := lim_step dX5_plan_44
theorem sX5_plan_45 : lim cal sc 5 cX5_plan ret 45 (v0 :: some (.int x) :: l) st M = lim cal sc 5 cX5_plan ret 46 (v0 :: some (.int x) :: l) (.int x :: st) M := lim_step dX5_plan_45
theorem sX5_plan_46 : lim cal sc 5 cX5_plan ret 46 lv (a1 :: .ref h :: st) M = guK (isCl 4 h) (guK (rk 8 st) (calK (cal 45 [.ref h, a1] M) fun q M' => lim cal sc 5 cX5_plan ret 49 lv (q.toList ++ st) M')) := (lim_step dX5_plan_46).trans (e_virt1 rm_5_194 mq_45)
theorem sX5_plan_49 : lim cal sc 5 cX5_plan ret 49 (v0 :: v1 :: some (.int x) :: l) st M = lim cal sc 5 cX5_plan ret 50 (v0 :: v1 :: some (.int x) :: l) (.int x :: st) M := lim_step dX5_plan_49
theorem sX5_plan_50 : lim cal sc 5 cX5_plan ret 50 lv (a2 :: a1 :: .ref h :: st) M = guK (isCl 4 h) (guK (rk 8 st) (calK (cal 46 [.ref h, a1, a2] M) fun q M' => lim cal sc 5 cX5_plan ret 53 lv (q.toList ++ st) M')) := (lim_step dX5_plan_50).trans (e_virt2 rm_5_197 mq_46)
theorem sX5_plan_53 : lim cal sc 5 cX5_plan (some .int) 53 lv [.int x] M = some (some (.int x), M) := (lim_step dX5_plan_53).trans (e_iret)
theorem sX5_best_0 : lim cal sc 5 cX5_best ret 0 (some (.ref h) :: l) st M = lim cal sc 5 cX5_best ret 1 (some (.ref h) :: l) (.ref h :: st) M := lim_step dX5_best_0
theorem sX5_best_1 : lim cal sc 5 cX5_best ret 1 (v0 :: some (.int x) :: l) st M = lim cal sc 5 cX5_best ret 2 (v0 :: some (.int x) :: l) (.int x :: st) M := lim_step dX5_best_1
theorem sX5_best_2 : lim cal sc 5 cX5_best ret 2 (v0 :: v1 :: some (.int x) :: l) st M = lim cal sc 5 cX5_best ret 3 (v0 :: v1 :: some (.int x) :: l) (.int x :: st) M := lim_step dX5_best_2
theorem sX5_best_3 : lim cal sc 5 cX5_best ret 3 lv (a2 :: a1 :: .ref h :: st) M = guK (isCl 4 h) (guK (rk 8 st) (calK (cal 49 [.ref h, a1, a2] M) fun q M' => lim cal sc 5 cX5_best ret 6 lv (q.toList ++ st) M')) := (lim_step dX5_best_3).trans (e_virt2 rm_5_200 mq_49)
theorem sX5_best_6 : lim cal sc 5 cX5_best ret 6 (v0 :: v1 :: v2 :: v :: l) (.int x :: st) M = lim cal sc 5 cX5_best ret 7 (v0 :: v1 :: v2 :: some (.int x) :: l) st M := (lim_step dX5_best_6).trans (e_istn3)
theorem sX5_best_7 : lim cal sc 5 cX5_best ret 7 (v0 :: v1 :: v2 :: some (.int x) :: l) st M = lim cal sc 5 cX5_best ret 8 (v0 :: v1 :: v2 :: some (.int x) :: l) (.int x :: st) M := lim_step dX5_best_7
theorem sX5_best_8 : lim cal sc 5 cX5_best ret 8 lv (.int x :: st) M = if x < 0 then lim cal sc 5 cX5_best ret 19 lv st M else lim cal sc 5 cX5_best ret 11 lv st M := (lim_step dX5_best_8).trans (e_iflt (t := 19) (by decide))
theorem sX5_best_11 : lim cal sc 5 cX5_best ret 11 (some (.ref h) :: l) st M = lim cal sc 5 cX5_best ret 12 (some (.ref h) :: l) (.ref h :: st) M := lim_step dX5_best_11
theorem sX5_best_12 : lim cal sc 5 cX5_best ret 12 (v0 :: v1 :: v2 :: some (.int x) :: l) st M = lim cal sc 5 cX5_best ret 13 (v0 :: v1 :: v2 :: some (.int x) :: l) (.int x :: st) M := lim_step dX5_best_12
theorem sX5_best_13 : lim cal sc 5 cX5_best ret 13 lv (a1 :: .ref h :: st) M = guK (isCl 4 h) (guK (rk 8 st) (calK (cal 2 [.ref h, a1] M) fun q M' => lim cal sc 5 cX5_best ret 16 lv (q.toList ++ st) M')) := (lim_step dX5_best_13).trans (e_virt1 rm_5_69 mq_2)
theorem sX5_best_16 : lim cal sc 5 cX5_best ret 16 lv st M = lim cal sc 5 cX5_best ret 25 lv st M := (lim_step dX5_best_16).trans (e_goto (t := 25) (by decide))
theorem sX5_best_19 : lim cal sc 5 cX5_best ret 19 (some (.ref h) :: l) st M = lim cal sc 5 cX5_best ret 20 (some (.ref h) :: l) (.ref h :: st) M := lim_step dX5_best_19
theorem sX5_best_20 : lim cal sc 5 cX5_best ret 20 (v0 :: some (.int x) :: l) st M = lim cal sc 5 cX5_best ret 21 (v0 :: some (.int x) :: l) (.int x :: st) M := lim_step dX5_best_20
theorem sX5_best_21 : lim cal sc 5 cX5_best ret 21 (v0 :: v1 :: some (.int x) :: l) st M = lim cal sc 5 cX5_best ret 22 (v0 :: v1 :: some (.int x) :: l) (.int x :: st) M := lim_step dX5_best_21
theorem sX5_best_22 : lim cal sc 5 cX5_best ret 22 lv (a2 :: a1 :: .ref h :: st) M = guK (isCl 4 h) (guK (rk 8 st) (calK (cal 51 [.ref h, a1, a2] M) fun q M' => lim cal sc 5 cX5_best ret 25 lv (q.toList ++ st) M')) := (lim_step dX5_best_22).trans (e_virt2 rm_5_203 mq_51)
theorem sX5_best_25 : lim cal sc 5 cX5_best (some .int) 25 lv [.int x] M = some (some (.int x), M) := (lim_step dX5_best_25).trans (e_iret)
theorem sX5_ith_0 : lim cal sc 5 cX5_ith ret 0 (v0 :: v1 :: v2 :: some (.int x) :: l) st M = lim cal sc 5 cX5_ith ret 1 (v0 :: v1 :: v2 :: some (.int x) :: l) (.int x :: st) M := lim_step dX5_ith_0
theorem sX5_ith_1 : lim cal sc 5 cX5_ith ret 1 lv st M = lim cal sc 5 cX5_ith ret 2 lv (.int 0 :: st) M := (lim_step dX5_ith_1).trans (e_ic k_i_0)
theorem sX5_ith_2 : lim cal sc 5 cX5_ith ret 2 lv st M = lim cal sc 5 cX5_ith ret 3 lv (.int 4 :: st) M := (lim_step dX5_ith_2).trans (e_ic k_i_4)
theorem sX5_ith_3 : lim cal sc 5 cX5_ith ret 3 lv (a3 :: a2 :: a1 :: st) M = guK (rk 8 st) (calK (cal 1 [a1, a2, a3] M) fun q M' => lim cal sc 5 cX5_ith ret 6 lv (q.toList ++ st) M') := (lim_step dX5_ith_3).trans (e_stat3 rm_5_65)
theorem sX5_ith_6 : lim cal sc 5 cX5_ith ret 6 lv (.int x :: st) M = if x = 0 then lim cal sc 5 cX5_ith ret 17 lv st M else lim cal sc 5 cX5_ith ret 9 lv st M := (lim_step dX5_ith_6).trans (e_ifeq (t := 17) (by decide))
theorem sX5_ith_9 : lim cal sc 5 cX5_ith ret 9 (v0 :: v1 :: v2 :: some (.int x) :: l) st M = lim cal sc 5 cX5_ith ret 10 (v0 :: v1 :: v2 :: some (.int x) :: l) (.int x :: st) M := lim_step dX5_ith_9
theorem sX5_ith_10 : lim cal sc 5 cX5_ith ret 10 (v0 :: some (.int x) :: l) st M = lim cal sc 5 cX5_ith ret 11 (v0 :: some (.int x) :: l) (.int x :: st) M := lim_step dX5_ith_10
theorem sX5_ith_11 : lim cal sc 5 cX5_ith ret 11 lv (a1 :: st) M = guK (rk 8 st) (calK (cal 50 [a1] M) fun q M' => lim cal sc 5 cX5_ith ret 14 lv (q.toList ++ st) M') := (lim_step dX5_ith_11).trans (e_stat1 rm_5_206)
theorem sX5_ith_14 : lim cal sc 5 cX5_ith ret 14 lv (.int y :: .int x :: st) M = if x < y then lim cal sc 5 cX5_ith ret 23 lv st M else lim cal sc 5 cX5_ith ret 17 lv st M := (lim_step dX5_ith_14).trans (e_cmplt (t := 23) (by decide))
theorem sX5_ith_17 : lim cal sc 5 cX5_ith ret 17 (some (.ref h) :: l) st M = lim cal sc 5 cX5_ith ret 18 (some (.ref h) :: l) (.ref h :: st) M := lim_step dX5_ith_17
theorem sX5_ith_18 : lim cal sc 5 cX5_ith ret 18 lv st M = lim cal sc 5 cX5_ith ret 19 lv (.int 0 :: st) M := (lim_step dX5_ith_18).trans (e_ic k_i_0)
theorem sX5_ith_19 : lim cal sc 5 cX5_ith ret 19 lv (a1 :: .ref h :: st) M = guK (isCl 4 h) (guK (rk 8 st) (calK (cal 2 [.ref h, a1] M) fun q M' => lim cal sc 5 cX5_ith ret 22 lv (q.toList ++ st) M')) := (lim_step dX5_ith_19).trans (e_virt1 rm_5_69 mq_2)
theorem sX5_ith_22 : lim cal sc 5 cX5_ith (some .int) 22 lv [.int x] M = some (some (.int x), M) := (lim_step dX5_ith_22).trans (e_iret)
theorem sX5_ith_23 : lim cal sc 5 cX5_ith ret 23 (some (.ref h) :: l) st M = lim cal sc 5 cX5_ith ret 24 (some (.ref h) :: l) (.ref h :: st) M := lim_step dX5_ith_23
theorem sX5_ith_24 : lim cal sc 5 cX5_ith ret 24 (v0 :: some (.int x) :: l) st M = lim cal sc 5 cX5_ith ret 25 (v0 :: some (.int x) :: l) (.int x :: st) M := lim_step dX5_ith_24
theorem sX5_ith_25 : lim cal sc 5 cX5_ith ret 25 (v0 :: v1 :: some (.int x) :: l) st M = lim cal sc 5 cX5_ith ret 26 (v0 :: v1 :: some (.int x) :: l) (.int x :: st) M := lim_step dX5_ith_25
theorem sX5_ith_26 : lim cal sc 5 cX5_ith ret 26 lv (a2 :: a1 :: .ref h :: st) M = guK (isCl 4 h) (guK (rk 8 st) (calK (cal 49 [.ref h, a1, a2] M) fun q M' => lim cal sc 5 cX5_ith ret 29 lv (q.toList ++ st) M')) := (lim_step dX5_ith_26).trans (e_virt2 rm_5_200 mq_49)
theorem sX5_ith_29 : lim cal sc 5 cX5_ith ret 29 (v0 :: v1 :: v2 :: v3 :: v :: l) (.int x :: st) M = lim cal sc 5 cX5_ith ret 31 (v0 :: v1 :: v2 :: v3 :: some (.int x) :: l) st M := (lim_step dX5_ith_29).trans (e_ist4)
theorem sX5_ith_31 : lim cal sc 5 cX5_ith ret 31 (v0 :: v1 :: v2 :: v3 :: some (.int x) :: l) st M = lim cal sc 5 cX5_ith ret 33 (v0 :: v1 :: v2 :: v3 :: some (.int x) :: l) (.int x :: st) M := lim_step dX5_ith_31
theorem sX5_ith_33 : lim cal sc 5 cX5_ith ret 33 lv (.int x :: st) M = if x < 0 then lim cal sc 5 cX5_ith ret 43 lv st M else lim cal sc 5 cX5_ith ret 36 lv st M := (lim_step dX5_ith_33).trans (e_iflt (t := 43) (by decide))
theorem sX5_ith_36 : lim cal sc 5 cX5_ith ret 36 (some (.ref h) :: l) st M = lim cal sc 5 cX5_ith ret 37 (some (.ref h) :: l) (.ref h :: st) M := lim_step dX5_ith_36
theorem sX5_ith_37 : lim cal sc 5 cX5_ith ret 37 (v0 :: v1 :: v2 :: v3 :: some (.int x) :: l) st M = lim cal sc 5 cX5_ith ret 39 (v0 :: v1 :: v2 :: v3 :: some (.int x) :: l) (.int x :: st) M := lim_step dX5_ith_37
theorem sX5_ith_39 : lim cal sc 5 cX5_ith ret 39 lv (a1 :: .ref h :: st) M = guK (isCl 4 h) (guK (rk 8 st) (calK (cal 2 [.ref h, a1] M) fun q M' => lim cal sc 5 cX5_ith ret 42 lv (q.toList ++ st) M')) := (lim_step dX5_ith_39).trans (e_virt1 rm_5_69 mq_2)
theorem sX5_ith_42 : lim cal sc 5 cX5_ith (some .int) 42 lv [.int x] M = some (some (.int x), M) := (lim_step dX5_ith_42).trans (e_iret)
theorem sX5_ith_43 : lim cal sc 5 cX5_ith ret 43 (some (.ref h) :: l) st M = lim cal sc 5 cX5_ith ret 44 (some (.ref h) :: l) (.ref h :: st) M := lim_step dX5_ith_43
theorem sX5_ith_44 : lim cal sc 5 cX5_ith ret 44 (v0 :: some (.int x) :: l) st M = lim cal sc 5 cX5_ith ret 45 (v0 :: some (.int x) :: l) (.int x :: st) M := lim_step dX5_ith_44
theorem sX5_ith_45 : lim cal sc 5 cX5_ith ret 45 (v0 :: v1 :: some (.int x) :: l) st M = lim cal sc 5 cX5_ith ret 46 (v0 :: v1 :: some (.int x) :: l) (.int x :: st) M := lim_step dX5_ith_45
theorem sX5_ith_46 : lim cal sc 5 cX5_ith ret 46 lv (a2 :: a1 :: .ref h :: st) M = guK (isCl 4 h) (guK (rk 8 st) (calK (cal 51 [.ref h, a1, a2] M) fun q M' => lim cal sc 5 cX5_ith ret 49 lv (q.toList ++ st) M')) := (lim_step dX5_ith_46).trans (e_virt2 rm_5_203 mq_51)
theorem sX5_ith_49 : lim cal sc 5 cX5_ith ret 49 lv (.int x :: st) M = lim cal sc 5 cX5_ith ret 50 lv st M := lim_step dX5_ith_49
theorem sX5_ith_50 : lim cal sc 5 cX5_ith ret 50 (some (.ref h) :: l) st M = lim cal sc 5 cX5_ith ret 51 (some (.ref h) :: l) (.ref h :: st) M := lim_step dX5_ith_50
theorem sX5_ith_51 : lim cal sc 5 cX5_ith ret 51 lv (.ref h :: st) M = opK (slotV 4 9 h M) fun q => lim cal sc 5 cX5_ith ret 54 lv (q :: st) M := (lim_step dX5_ith_51).trans (e_get (by decide) rf_5_54)
theorem sX5_ith_54 : lim cal sc 5 cX5_ith ret 54 (v0 :: v1 :: v2 :: some (.int x) :: l) st M = lim cal sc 5 cX5_ith ret 55 (v0 :: v1 :: v2 :: some (.int x) :: l) (.int x :: st) M := lim_step dX5_ith_54
theorem sX5_ith_55 : lim cal sc 5 cX5_ith ret 55 lv (.int x :: .ref h :: st) M = opK (arrV9 sc h M) fun q => guK (inb x q.1) (lim cal sc 5 cX5_ith ret 56 lv (.int (q.2 x.toNatClampNeg) :: st) M) := (lim_step dX5_ith_55).trans (e_iald)
theorem sX5_ith_56 : lim cal sc 5 cX5_ith (some .int) 56 lv [.int x] M = some (some (.int x), M) := (lim_step dX5_ith_56).trans (e_iret)
theorem sX5_next_0 : lim cal sc 5 cX5_next ret 0 (v0 :: some (.int x) :: l) st M = lim cal sc 5 cX5_next ret 1 (v0 :: some (.int x) :: l) (.int x :: st) M := lim_step dX5_next_0
theorem sX5_next_1 : lim cal sc 5 cX5_next ret 1 lv (a1 :: st) M = guK (rk 8 st) (calK (cal 24 [a1] M) fun q M' => lim cal sc 5 cX5_next ret 4 lv (q.toList ++ st) M') := (lim_step dX5_next_1).trans (e_stat1 rm_5_139)
theorem sX5_next_4 : lim cal sc 5 cX5_next ret 4 lv (.int x :: st) M = if x = 0 then lim cal sc 5 cX5_next ret 7 lv st M else lim cal sc 5 cX5_next ret 13 lv st M := (lim_step dX5_next_4).trans (e_ifne (t := 13) (by decide))
theorem sX5_next_7 : lim cal sc 5 cX5_next ret 7 (some (.ref h) :: l) st M = lim cal sc 5 cX5_next ret 8 (some (.ref h) :: l) (.ref h :: st) M := lim_step dX5_next_7
theorem sX5_next_8 : lim cal sc 5 cX5_next ret 8 lv st M = lim cal sc 5 cX5_next ret 9 lv (.int 0 :: st) M := (lim_step dX5_next_8).trans (e_ic k_i_0)
theorem sX5_next_9 : lim cal sc 5 cX5_next ret 9 lv (a1 :: .ref h :: st) M = guK (isCl 4 h) (guK (rk 8 st) (calK (cal 2 [.ref h, a1] M) fun q M' => lim cal sc 5 cX5_next ret 12 lv (q.toList ++ st) M')) := (lim_step dX5_next_9).trans (e_virt1 rm_5_69 mq_2)
theorem sX5_next_12 : lim cal sc 5 cX5_next (some .int) 12 lv [.int x] M = some (some (.int x), M) := (lim_step dX5_next_12).trans (e_iret)
theorem sX5_next_13 : lim cal sc 5 cX5_next ret 13 (some (.ref h) :: l) st M = lim cal sc 5 cX5_next ret 14 (some (.ref h) :: l) (.ref h :: st) M := lim_step dX5_next_13
theorem sX5_next_14 : lim cal sc 5 cX5_next ret 14 (v0 :: some (.int x) :: l) st M = lim cal sc 5 cX5_next ret 15 (v0 :: some (.int x) :: l) (.int x :: st) M := lim_step dX5_next_14
theorem sX5_next_15 : lim cal sc 5 cX5_next ret 15 lv (a1 :: .ref h :: st) M = guK (isCl 4 h) (guK (rk 8 st) (calK (cal 25 [.ref h, a1] M) fun q M' => lim cal sc 5 cX5_next ret 18 lv (q.toList ++ st) M')) := (lim_step dX5_next_15).trans (e_virt1 rm_5_142 mq_25)
theorem sX5_next_18 : lim cal sc 5 cX5_next ret 18 lv (.int x :: st) M = if x = 0 then lim cal sc 5 cX5_next ret 27 lv st M else lim cal sc 5 cX5_next ret 21 lv st M := (lim_step dX5_next_18).trans (e_ifeq (t := 27) (by decide))
theorem sX5_next_21 : lim cal sc 5 cX5_next ret 21 (some (.ref h) :: l) st M = lim cal sc 5 cX5_next ret 22 (some (.ref h) :: l) (.ref h :: st) M := lim_step dX5_next_21
theorem sX5_next_22 : lim cal sc 5 cX5_next ret 22 lv st M = lim cal sc 5 cX5_next ret 23 lv (.int 4 :: st) M := (lim_step dX5_next_22).trans (e_ic k_i_4)
theorem sX5_next_23 : lim cal sc 5 cX5_next ret 23 lv (a1 :: .ref h :: st) M = guK (isCl 4 h) (guK (rk 8 st) (calK (cal 2 [.ref h, a1] M) fun q M' => lim cal sc 5 cX5_next ret 26 lv (q.toList ++ st) M')) := (lim_step dX5_next_23).trans (e_virt1 rm_5_69 mq_2)
theorem sX5_next_26 : lim cal sc 5 cX5_next (some .int) 26 lv [.int x] M = some (some (.int x), M) := (lim_step dX5_next_26).trans (e_iret)
theorem sX5_next_27 : lim cal sc 5 cX5_next ret 27 (some (.ref h) :: l) st M = lim cal sc 5 cX5_next ret 28 (some (.ref h) :: l) (.ref h :: st) M := lim_step dX5_next_27
theorem sX5_next_28 : lim cal sc 5 cX5_next ret 28 lv st M = lim cal sc 5 cX5_next ret 29 lv (.int 0 :: st) M := (lim_step dX5_next_28).trans (e_ic k_i_0)
theorem sX5_next_29 : lim cal sc 5 cX5_next ret 29 (v0 :: some (.int x) :: l) st M = lim cal sc 5 cX5_next ret 30 (v0 :: some (.int x) :: l) (.int x :: st) M := lim_step dX5_next_29
theorem sX5_next_30 : lim cal sc 5 cX5_next ret 30 lv (a2 :: a1 :: .ref h :: st) M = guK (isCl 4 h) (guK (rk 8 st) (calK (cal 46 [.ref h, a1, a2] M) fun q M' => lim cal sc 5 cX5_next ret 33 lv (q.toList ++ st) M')) := (lim_step dX5_next_30).trans (e_virt2 rm_5_197 mq_46)
theorem sX5_next_33 : lim cal sc 5 cX5_next ret 33 (v0 :: v1 :: v :: l) (.int x :: st) M = lim cal sc 5 cX5_next ret 34 (v0 :: v1 :: some (.int x) :: l) st M := (lim_step dX5_next_33).trans (e_istn2)
theorem sX5_next_34 : lim cal sc 5 cX5_next ret 34 lv st M = lim cal sc 5 cX5_next ret 35 lv (.int (-1) :: st) M := (lim_step dX5_next_34).trans (e_ic k_i_m1)
theorem sX5_next_35 : lim cal sc 5 cX5_next ret 35 (v0 :: v1 :: v2 :: v :: l) (.int x :: st) M = lim cal sc 5 cX5_next ret 36 (v0 :: v1 :: v2 :: some (.int x) :: l) st M := (lim_step dX5_next_35).trans (e_istn3)
theorem sX5_next_36 : lim cal sc 5 cX5_next ret 36 lv st M = lim cal sc 5 cX5_next ret 37 lv (.int 0 :: st) M := (lim_step dX5_next_36).trans (e_ic k_i_0)
theorem sX5_next_37 : lim cal sc 5 cX5_next ret 37 (v0 :: v1 :: v2 :: v3 :: v :: l) (.int x :: st) M = lim cal sc 5 cX5_next ret 39 (v0 :: v1 :: v2 :: v3 :: some (.int x) :: l) st M := (lim_step dX5_next_37).trans (e_ist4)
theorem sX5_next_39 : lim cal sc 5 cX5_next ret 39 (v0 :: v1 :: v2 :: v3 :: some (.int x) :: l) st M = lim cal sc 5 cX5_next ret 41 (v0 :: v1 :: v2 :: v3 :: some (.int x) :: l) (.int x :: st) M := lim_step dX5_next_39
theorem sX5_next_41 : lim cal sc 5 cX5_next ret 41 (some (.ref h) :: l) st M = lim cal sc 5 cX5_next ret 42 (some (.ref h) :: l) (.ref h :: st) M := lim_step dX5_next_41
theorem sX5_next_42 : lim cal sc 5 cX5_next ret 42 lv (.ref h :: st) M = opK (slotV 4 0 h M) fun q => lim cal sc 5 cX5_next ret 45 lv (q :: st) M := (lim_step dX5_next_42).trans (e_get (by decide) rf_5_10)
theorem sX5_next_45 : lim cal sc 5 cX5_next ret 45 lv (.ref h :: st) M = opK (slotV 0 0 h M) fun q => lim cal sc 5 cX5_next ret 48 lv (q :: st) M := (lim_step dX5_next_45).trans (e_get (by decide) rf_5_73)
theorem sX5_next_48 : lim cal sc 5 cX5_next ret 48 lv (.ref h :: st) M = opK (slotV 1 0 h M) fun q => lim cal sc 5 cX5_next ret 51 lv (q :: st) M := (lim_step dX5_next_48).trans (e_get (by decide) rf_5_76)
theorem sX5_next_51 : lim cal sc 5 cX5_next ret 51 lv (.int y :: .int x :: st) M = if y ≤ x then lim cal sc 5 cX5_next ret 103 lv st M else lim cal sc 5 cX5_next ret 54 lv st M := (lim_step dX5_next_51).trans (e_cmpge (t := 103) (by decide))
theorem sX5_next_54 : lim cal sc 5 cX5_next ret 54 (some (.ref h) :: l) st M = lim cal sc 5 cX5_next ret 55 (some (.ref h) :: l) (.ref h :: st) M := lim_step dX5_next_54
theorem sX5_next_55 : lim cal sc 5 cX5_next ret 55 lv (.ref h :: st) M = opK (slotV 4 0 h M) fun q => lim cal sc 5 cX5_next ret 58 lv (q :: st) M := (lim_step dX5_next_55).trans (e_get (by decide) rf_5_10)
theorem sX5_next_58 : lim cal sc 5 cX5_next ret 58 lv (.ref h :: st) M = opK (slotV 0 0 h M) fun q => lim cal sc 5 cX5_next ret 61 lv (q :: st) M := (lim_step dX5_next_58).trans (e_get (by decide) rf_5_73)
theorem sX5_next_61 : lim cal sc 5 cX5_next ret 61 (v0 :: v1 :: v2 :: v3 :: some (.int x) :: l) st M = lim cal sc 5 cX5_next ret 63 (v0 :: v1 :: v2 :: v3 :: some (.int x) :: l) (.int x :: st) M := lim_step dX5_next_61
theorem sX5_next_63 : lim cal sc 5 cX5_next ret 63 lv (a1 :: .ref h :: st) M = guK (isCl 1 h) (guK (rk 8 st) (calK (cal 14 [.ref h, a1] M) fun q M' => lim cal sc 5 cX5_next ret 66 lv (q.toList ++ st) M')) := (lim_step dX5_next_63).trans (e_virt1 rm_5_104 mq_14)
theorem sX5_next_66 : lim cal sc 5 cX5_next ret 66 lv (.int x :: st) M = if x = 0 then lim cal sc 5 cX5_next ret 97 lv st M else lim cal sc 5 cX5_next ret 69 lv st M := (lim_step dX5_next_66).trans (e_ifeq (t := 97) (by decide))
theorem sX5_next_69 : lim cal sc 5 cX5_next ret 69 (some (.ref h) :: l) st M = lim cal sc 5 cX5_next ret 70 (some (.ref h) :: l) (.ref h :: st) M := lim_step dX5_next_69
theorem sX5_next_70 : lim cal sc 5 cX5_next ret 70 lv (.ref h :: st) M = opK (slotV 4 8 h M) fun q => lim cal sc 5 cX5_next ret 73 lv (q :: st) M := (lim_step dX5_next_70).trans (e_get (by decide) rf_5_51)
theorem sX5_next_73 : lim cal sc 5 cX5_next ret 73 lv st M = lim cal sc 5 cX5_next ret 74 lv (.int 0 :: st) M := (lim_step dX5_next_73).trans (e_ic k_i_0)
theorem sX5_next_74 : lim cal sc 5 cX5_next ret 74 (v0 :: v1 :: v2 :: v3 :: some (.int x) :: l) st M = lim cal sc 5 cX5_next ret 76 (v0 :: v1 :: v2 :: v3 :: some (.int x) :: l) (.int x :: st) M := lim_step dX5_next_74
theorem sX5_next_76 : lim cal sc 5 cX5_next ret 76 lv (.int y :: .int x :: .ref h :: st) M = opK (arrN h) fun q => guK (inb x q) (lim cal sc 5 cX5_next ret 77 lv st (mset M h x.toNatClampNeg y)) := (lim_step dX5_next_76).trans (e_iast)
theorem sX5_next_77 : lim cal sc 5 cX5_next ret 77 (some (.ref h) :: l) st M = lim cal sc 5 cX5_next ret 78 (some (.ref h) :: l) (.ref h :: st) M := lim_step dX5_next_77
theorem sX5_next_78 : lim cal sc 5 cX5_next ret 78 lv st M = lim cal sc 5 cX5_next ret 79 lv (.int 1 :: st) M := (lim_step dX5_next_78).trans (e_ic k_i_1)
theorem sX5_next_79 : lim cal sc 5 cX5_next ret 79 (v0 :: some (.int x) :: l) st M = lim cal sc 5 cX5_next ret 80 (v0 :: some (.int x) :: l) (.int x :: st) M := lim_step dX5_next_79
theorem sX5_next_80 : lim cal sc 5 cX5_next ret 80 lv (a2 :: a1 :: .ref h :: st) M = guK (isCl 4 h) (guK (rk 8 st) (calK (cal 46 [.ref h, a1, a2] M) fun q M' => lim cal sc 5 cX5_next ret 83 lv (q.toList ++ st) M')) := (lim_step dX5_next_80).trans (e_virt2 rm_5_197 mq_46)
theorem sX5_next_83 : lim cal sc 5 cX5_next ret 83 (v0 :: v1 :: v2 :: v3 :: v4 :: v :: l) (.int x :: st) M = lim cal sc 5 cX5_next ret 85 (v0 :: v1 :: v2 :: v3 :: v4 :: some (.int x) :: l) st M := (lim_step dX5_next_83).trans (e_ist5)
theorem sX5_next_85 : lim cal sc 5 cX5_next ret 85 (v0 :: v1 :: v2 :: v3 :: v4 :: some (.int x) :: l) st M = lim cal sc 5 cX5_next ret 87 (v0 :: v1 :: v2 :: v3 :: v4 :: some (.int x) :: l) (.int x :: st) M := lim_step dX5_next_85
theorem sX5_next_87 : lim cal sc 5 cX5_next ret 87 (v0 :: v1 :: some (.int x) :: l) st M = lim cal sc 5 cX5_next ret 88 (v0 :: v1 :: some (.int x) :: l) (.int x :: st) M := lim_step dX5_next_87
theorem sX5_next_88 : lim cal sc 5 cX5_next ret 88 lv (.int y :: .int x :: st) M = if x ≤ y then lim cal sc 5 cX5_next ret 97 lv st M else lim cal sc 5 cX5_next ret 91 lv st M := (lim_step dX5_next_88).trans (e_cmple (t := 97) (by decide))
theorem sX5_next_91 : lim cal sc 5 cX5_next ret 91 (v0 :: v1 :: v2 :: v3 :: v4 :: some (.int x) :: l) st M = lim cal sc 5 cX5_next ret 93 (v0 :: v1 :: v2 :: v3 :: v4 :: some (.int x) :: l) (.int x :: st) M := lim_step dX5_next_91
theorem sX5_next_93 : lim cal sc 5 cX5_next ret 93 (v0 :: v1 :: v :: l) (.int x :: st) M = lim cal sc 5 cX5_next ret 94 (v0 :: v1 :: some (.int x) :: l) st M := (lim_step dX5_next_93).trans (e_istn2)
theorem sX5_next_94 : lim cal sc 5 cX5_next ret 94 (v0 :: v1 :: v2 :: v3 :: some (.int x) :: l) st M = lim cal sc 5 cX5_next ret 96 (v0 :: v1 :: v2 :: v3 :: some (.int x) :: l) (.int x :: st) M := lim_step dX5_next_94
theorem sX5_next_96 : lim cal sc 5 cX5_next ret 96 (v0 :: v1 :: v2 :: v :: l) (.int x :: st) M = lim cal sc 5 cX5_next ret 97 (v0 :: v1 :: v2 :: some (.int x) :: l) st M := (lim_step dX5_next_96).trans (e_istn3)
theorem sX5_next_97 : lim cal sc 5 cX5_next ret 97 (v0 :: v1 :: v2 :: v3 :: some (.int x) :: l) st M = lim cal sc 5 cX5_next ret 100 (v0 :: v1 :: v2 :: v3 :: some (.int (x + 1)) :: l) st M := (lim_step dX5_next_97).trans (e_inc4 k_i_1)
theorem sX5_next_100 : lim cal sc 5 cX5_next ret 100 lv st M = lim cal sc 5 cX5_next ret 39 lv st M := (lim_step dX5_next_100).trans (e_goto (t := 39) (by decide))
theorem sX5_next_103 : lim cal sc 5 cX5_next ret 103 (v0 :: v1 :: v2 :: some (.int x) :: l) st M = lim cal sc 5 cX5_next ret 104 (v0 :: v1 :: v2 :: some (.int x) :: l) (.int x :: st) M := lim_step dX5_next_103
theorem sX5_next_104 : lim cal sc 5 cX5_next (some .int) 104 lv [.int x] M = some (some (.int x), M) := (lim_step dX5_next_104).trans (e_iret)
theorem sX5_foes_0 : lim cal sc 5 cX5_foes ret 0 (v0 :: some (.int x) :: l) st M = lim cal sc 5 cX5_foes ret 1 (v0 :: some (.int x) :: l) (.int x :: st) M := lim_step dX5_foes_0
theorem sX5_foes_1 : lim cal sc 5 cX5_foes ret 1 lv (a1 :: st) M = guK (rk 8 st) (calK (cal 24 [a1] M) fun q M' => lim cal sc 5 cX5_foes ret 4 lv (q.toList ++ st) M') := (lim_step dX5_foes_1).trans (e_stat1 rm_5_139)
theorem sX5_foes_4 : lim cal sc 5 cX5_foes ret 4 lv (.int x :: st) M = if x = 0 then lim cal sc 5 cX5_foes ret 7 lv st M else lim cal sc 5 cX5_foes ret 13 lv st M := (lim_step dX5_foes_4).trans (e_ifne (t := 13) (by decide))
theorem sX5_foes_7 : lim cal sc 5 cX5_foes ret 7 (some (.ref h) :: l) st M = lim cal sc 5 cX5_foes ret 8 (some (.ref h) :: l) (.ref h :: st) M := lim_step dX5_foes_7
theorem sX5_foes_8 : lim cal sc 5 cX5_foes ret 8 lv st M = lim cal sc 5 cX5_foes ret 9 lv (.int 0 :: st) M := (lim_step dX5_foes_8).trans (e_ic k_i_0)
theorem sX5_foes_9 : lim cal sc 5 cX5_foes ret 9 lv (a1 :: .ref h :: st) M = guK (isCl 4 h) (guK (rk 8 st) (calK (cal 2 [.ref h, a1] M) fun q M' => lim cal sc 5 cX5_foes ret 12 lv (q.toList ++ st) M')) := (lim_step dX5_foes_9).trans (e_virt1 rm_5_69 mq_2)
theorem sX5_foes_12 : lim cal sc 5 cX5_foes (some .int) 12 lv [.int x] M = some (some (.int x), M) := (lim_step dX5_foes_12).trans (e_iret)
theorem sX5_foes_13 : lim cal sc 5 cX5_foes ret 13 (some (.ref h) :: l) st M = lim cal sc 5 cX5_foes ret 14 (some (.ref h) :: l) (.ref h :: st) M := lim_step dX5_foes_13
theorem sX5_foes_14 : lim cal sc 5 cX5_foes ret 14 (v0 :: some (.int x) :: l) st M = lim cal sc 5 cX5_foes ret 15 (v0 :: some (.int x) :: l) (.int x :: st) M := lim_step dX5_foes_14
theorem sX5_foes_15 : lim cal sc 5 cX5_foes ret 15 lv (a1 :: .ref h :: st) M = guK (isCl 4 h) (guK (rk 8 st) (calK (cal 25 [.ref h, a1] M) fun q M' => lim cal sc 5 cX5_foes ret 18 lv (q.toList ++ st) M')) := (lim_step dX5_foes_15).trans (e_virt1 rm_5_142 mq_25)
theorem sX5_foes_18 : lim cal sc 5 cX5_foes ret 18 lv (.int x :: st) M = if x = 0 then lim cal sc 5 cX5_foes ret 27 lv st M else lim cal sc 5 cX5_foes ret 21 lv st M := (lim_step dX5_foes_18).trans (e_ifeq (t := 27) (by decide))
theorem sX5_foes_21 : lim cal sc 5 cX5_foes ret 21 (some (.ref h) :: l) st M = lim cal sc 5 cX5_foes ret 22 (some (.ref h) :: l) (.ref h :: st) M := lim_step dX5_foes_21
theorem sX5_foes_22 : lim cal sc 5 cX5_foes ret 22 lv st M = lim cal sc 5 cX5_foes ret 23 lv (.int 4 :: st) M := (lim_step dX5_foes_22).trans (e_ic k_i_4)
theorem sX5_foes_23 : lim cal sc 5 cX5_foes ret 23 lv (a1 :: .ref h :: st) M = guK (isCl 4 h) (guK (rk 8 st) (calK (cal 2 [.ref h, a1] M) fun q M' => lim cal sc 5 cX5_foes ret 26 lv (q.toList ++ st) M')) := (lim_step dX5_foes_23).trans (e_virt1 rm_5_69 mq_2)
theorem sX5_foes_26 : lim cal sc 5 cX5_foes (some .int) 26 lv [.int x] M = some (some (.int x), M) := (lim_step dX5_foes_26).trans (e_iret)
theorem sX5_foes_27 : lim cal sc 5 cX5_foes ret 27 (some (.ref h) :: l) st M = lim cal sc 5 cX5_foes ret 28 (some (.ref h) :: l) (.ref h :: st) M := lim_step dX5_foes_27
theorem sX5_foes_28 : lim cal sc 5 cX5_foes ret 28 (v0 :: some (.int x) :: l) st M = lim cal sc 5 cX5_foes ret 29 (v0 :: some (.int x) :: l) (.int x :: st) M := lim_step dX5_foes_28
theorem sX5_foes_29 : lim cal sc 5 cX5_foes ret 29 lv (a1 :: .ref h :: st) M = guK (isCl 4 h) (guK (rk 8 st) (calK (cal 57 [.ref h, a1] M) fun q M' => lim cal sc 5 cX5_foes ret 32 lv (q.toList ++ st) M')) := (lim_step dX5_foes_29).trans (e_virt1 rm_5_211 mq_57)
theorem sX5_foes_32 : lim cal sc 5 cX5_foes ret 32 (v0 :: v1 :: v :: l) (.int x :: st) M = lim cal sc 5 cX5_foes ret 33 (v0 :: v1 :: some (.int x) :: l) st M := (lim_step dX5_foes_32).trans (e_istn2)
theorem sX5_foes_33 : lim cal sc 5 cX5_foes ret 33 (v0 :: v1 :: some (.int x) :: l) st M = lim cal sc 5 cX5_foes ret 34 (v0 :: v1 :: some (.int x) :: l) (.int x :: st) M := lim_step dX5_foes_33
theorem sX5_foes_34 : lim cal sc 5 cX5_foes ret 34 lv (.int x :: st) M = if x < 0 then lim cal sc 5 cX5_foes ret 41 lv st M else lim cal sc 5 cX5_foes ret 37 lv st M := (lim_step dX5_foes_34).trans (e_iflt (t := 41) (by decide))
theorem sX5_foes_37 : lim cal sc 5 cX5_foes ret 37 (v0 :: v1 :: some (.int x) :: l) st M = lim cal sc 5 cX5_foes ret 38 (v0 :: v1 :: some (.int x) :: l) (.int x :: st) M := lim_step dX5_foes_37
theorem sX5_foes_38 : lim cal sc 5 cX5_foes ret 38 lv st M = lim cal sc 5 cX5_foes ret 46 lv st M := (lim_step dX5_foes_38).trans (e_goto (t := 46) (by decide))
theorem sX5_foes_41 : lim cal sc 5 cX5_foes ret 41 (some (.ref h) :: l) st M = lim cal sc 5 cX5_foes ret 42 (some (.ref h) :: l) (.ref h :: st) M := lim_step dX5_foes_41
theorem sX5_foes_42 : lim cal sc 5 cX5_foes ret 42 lv st M = lim cal sc 5 cX5_foes ret 43 lv (.int 3 :: st) M := (lim_step dX5_foes_42).trans (e_ic k_i_3)
theorem sX5_foes_43 : lim cal sc 5 cX5_foes ret 43 lv (a1 :: .ref h :: st) M = guK (isCl 4 h) (guK (rk 8 st) (calK (cal 2 [.ref h, a1] M) fun q M' => lim cal sc 5 cX5_foes ret 46 lv (q.toList ++ st) M')) := (lim_step dX5_foes_43).trans (e_virt1 rm_5_69 mq_2)
theorem sX5_foes_46 : lim cal sc 5 cX5_foes (some .int) 46 lv [.int x] M = some (some (.int x), M) := (lim_step dX5_foes_46).trans (e_iret)
theorem sX5_kindFor_0 : lim cal sc 5 cX5_kindFor ret 0 (some (.ref h) :: l) st M = lim cal sc 5 cX5_kindFor ret 1 (some (.ref h) :: l) (.ref h :: st) M := lim_step dX5_kindFor_0
theorem sX5_kindFor_1 : lim cal sc 5 cX5_kindFor ret 1 (v0 :: some (.int x) :: l) st M = lim cal sc 5 cX5_kindFor ret 2 (v0 :: some (.int x) :: l) (.int x :: st) M := lim_step dX5_kindFor_1
theorem sX5_kindFor_2 : lim cal sc 5 cX5_kindFor ret 2 lv (a1 :: .ref h :: st) M = guK (isCl 4 h) (guK (rk 8 st) (calK (cal 6 [.ref h, a1] M) fun q M' => lim cal sc 5 cX5_kindFor ret 5 lv (q.toList ++ st) M')) := (lim_step dX5_kindFor_2).trans (e_virt1 rm_5_82 mq_6)
theorem sX5_kindFor_5 : lim cal sc 5 cX5_kindFor ret 5 lv (.int x :: st) M = if x = 0 then lim cal sc 5 cX5_kindFor ret 15 lv st M else lim cal sc 5 cX5_kindFor ret 8 lv st M := (lim_step dX5_kindFor_5).trans (e_ifeq (t := 15) (by decide))
theorem sX5_kindFor_8 : lim cal sc 5 cX5_kindFor ret 8 (v0 :: v1 :: some (.int x) :: l) st M = lim cal sc 5 cX5_kindFor ret 9 (v0 :: v1 :: some (.int x) :: l) (.int x :: st) M := lim_step dX5_kindFor_8
theorem sX5_kindFor_9 : lim cal sc 5 cX5_kindFor ret 9 lv (a1 :: st) M = guK (rk 8 st) (calK (cal 24 [a1] M) fun q M' => lim cal sc 5 cX5_kindFor ret 12 lv (q.toList ++ st) M') := (lim_step dX5_kindFor_9).trans (e_stat1 rm_5_139)
theorem sX5_kindFor_12 : lim cal sc 5 cX5_kindFor ret 12 lv (.int x :: st) M = if x = 0 then lim cal sc 5 cX5_kindFor ret 15 lv st M else lim cal sc 5 cX5_kindFor ret 21 lv st M := (lim_step dX5_kindFor_12).trans (e_ifne (t := 21) (by decide))
theorem sX5_kindFor_15 : lim cal sc 5 cX5_kindFor ret 15 (some (.ref h) :: l) st M = lim cal sc 5 cX5_kindFor ret 16 (some (.ref h) :: l) (.ref h :: st) M := lim_step dX5_kindFor_15
theorem sX5_kindFor_16 : lim cal sc 5 cX5_kindFor ret 16 lv st M = lim cal sc 5 cX5_kindFor ret 17 lv (.int 0 :: st) M := (lim_step dX5_kindFor_16).trans (e_ic k_i_0)
theorem sX5_kindFor_17 : lim cal sc 5 cX5_kindFor ret 17 lv (a1 :: .ref h :: st) M = guK (isCl 4 h) (guK (rk 8 st) (calK (cal 2 [.ref h, a1] M) fun q M' => lim cal sc 5 cX5_kindFor ret 20 lv (q.toList ++ st) M')) := (lim_step dX5_kindFor_17).trans (e_virt1 rm_5_69 mq_2)
theorem sX5_kindFor_20 : lim cal sc 5 cX5_kindFor (some .int) 20 lv [.int x] M = some (some (.int x), M) := (lim_step dX5_kindFor_20).trans (e_iret)
theorem sX5_kindFor_21 : lim cal sc 5 cX5_kindFor ret 21 (some (.ref h) :: l) st M = lim cal sc 5 cX5_kindFor ret 22 (some (.ref h) :: l) (.ref h :: st) M := lim_step dX5_kindFor_21
theorem sX5_kindFor_22 : lim cal sc 5 cX5_kindFor ret 22 lv (.ref h :: st) M = opK (slotV 4 0 h M) fun q => lim cal sc 5 cX5_kindFor ret 25 lv (q :: st) M := (lim_step dX5_kindFor_22).trans (e_get (by decide) rf_5_10)
theorem sX5_kindFor_25 : lim cal sc 5 cX5_kindFor ret 25 lv (.ref h :: st) M = opK (slotV 0 0 h M) fun q => lim cal sc 5 cX5_kindFor ret 28 lv (q :: st) M := (lim_step dX5_kindFor_25).trans (e_get (by decide) rf_5_73)
theorem sX5_kindFor_28 : lim cal sc 5 cX5_kindFor ret 28 (v0 :: some (.int x) :: l) st M = lim cal sc 5 cX5_kindFor ret 29 (v0 :: some (.int x) :: l) (.int x :: st) M := lim_step dX5_kindFor_28
theorem sX5_kindFor_29 : lim cal sc 5 cX5_kindFor ret 29 lv (a1 :: .ref h :: st) M = guK (isCl 1 h) (guK (rk 8 st) (calK (cal 14 [.ref h, a1] M) fun q M' => lim cal sc 5 cX5_kindFor ret 32 lv (q.toList ++ st) M')) := (lim_step dX5_kindFor_29).trans (e_virt1 rm_5_104 mq_14)
theorem sX5_kindFor_32 : lim cal sc 5 cX5_kindFor ret 32 lv (.int x :: st) M = if x = 0 then lim cal sc 5 cX5_kindFor ret 43 lv st M else lim cal sc 5 cX5_kindFor ret 35 lv st M := (lim_step dX5_kindFor_32).trans (e_ifeq (t := 43) (by decide))
theorem sX5_kindFor_35 : lim cal sc 5 cX5_kindFor ret 35 (some (.ref h) :: l) st M = lim cal sc 5 cX5_kindFor ret 36 (some (.ref h) :: l) (.ref h :: st) M := lim_step dX5_kindFor_35
theorem sX5_kindFor_36 : lim cal sc 5 cX5_kindFor ret 36 (v0 :: v1 :: some (.int x) :: l) st M = lim cal sc 5 cX5_kindFor ret 37 (v0 :: v1 :: some (.int x) :: l) (.int x :: st) M := lim_step dX5_kindFor_36
theorem sX5_kindFor_37 : lim cal sc 5 cX5_kindFor ret 37 lv (a1 :: .ref h :: st) M = guK (isCl 4 h) (guK (rk 8 st) (calK (cal 25 [.ref h, a1] M) fun q M' => lim cal sc 5 cX5_kindFor ret 40 lv (q.toList ++ st) M')) := (lim_step dX5_kindFor_37).trans (e_virt1 rm_5_142 mq_25)
theorem sX5_kindFor_40 : lim cal sc 5 cX5_kindFor ret 40 lv (.int x :: st) M = if x = 0 then lim cal sc 5 cX5_kindFor ret 49 lv st M else lim cal sc 5 cX5_kindFor ret 43 lv st M := (lim_step dX5_kindFor_40).trans (e_ifeq (t := 49) (by decide))
theorem sX5_kindFor_43 : lim cal sc 5 cX5_kindFor ret 43 (some (.ref h) :: l) st M = lim cal sc 5 cX5_kindFor ret 44 (some (.ref h) :: l) (.ref h :: st) M := lim_step dX5_kindFor_43
theorem sX5_kindFor_44 : lim cal sc 5 cX5_kindFor ret 44 lv st M = lim cal sc 5 cX5_kindFor ret 45 lv (.int 4 :: st) M := (lim_step dX5_kindFor_44).trans (e_ic k_i_4)
theorem sX5_kindFor_45 : lim cal sc 5 cX5_kindFor ret 45 lv (a1 :: .ref h :: st) M = guK (isCl 4 h) (guK (rk 8 st) (calK (cal 2 [.ref h, a1] M) fun q M' => lim cal sc 5 cX5_kindFor ret 48 lv (q.toList ++ st) M')) := (lim_step dX5_kindFor_45).trans (e_virt1 rm_5_69 mq_2)
theorem sX5_kindFor_48 : lim cal sc 5 cX5_kindFor (some .int) 48 lv [.int x] M = some (some (.int x), M) := (lim_step dX5_kindFor_48).trans (e_iret)
theorem sX5_kindFor_49 : lim cal sc 5 cX5_kindFor ret 49 (some (.ref h) :: l) st M = lim cal sc 5 cX5_kindFor ret 50 (some (.ref h) :: l) (.ref h :: st) M := lim_step dX5_kindFor_49
theorem sX5_kindFor_50 : lim cal sc 5 cX5_kindFor ret 50 lv (.ref h :: st) M = opK (slotV 4 0 h M) fun q => lim cal sc 5 cX5_kindFor ret 53 lv (q :: st) M := (lim_step dX5_kindFor_50).trans (e_get (by decide) rf_5_10)
theorem sX5_kindFor_53 : lim cal sc 5 cX5_kindFor ret 53 lv (.ref h :: st) M = opK (slotV 0 0 h M) fun q => lim cal sc 5 cX5_kindFor ret 56 lv (q :: st) M := (lim_step dX5_kindFor_53).trans (e_get (by decide) rf_5_73)
theorem sX5_kindFor_56 : lim cal sc 5 cX5_kindFor ret 56 (v0 :: some (.int x) :: l) st M = lim cal sc 5 cX5_kindFor ret 57 (v0 :: some (.int x) :: l) (.int x :: st) M := lim_step dX5_kindFor_56
theorem sX5_kindFor_57 : lim cal sc 5 cX5_kindFor ret 57 lv (a1 :: .ref h :: st) M = guK (isCl 1 h) (guK (rk 8 st) (calK (cal 15 [.ref h, a1] M) fun q M' => lim cal sc 5 cX5_kindFor ret 60 lv (q.toList ++ st) M')) := (lim_step dX5_kindFor_57).trans (e_virt1 rm_5_107 mq_15)
theorem sX5_kindFor_60 : lim cal sc 5 cX5_kindFor ret 60 lv (.int x :: st) M = if x = 0 then lim cal sc 5 cX5_kindFor ret 63 lv st M else lim cal sc 5 cX5_kindFor ret 69 lv st M := (lim_step dX5_kindFor_60).trans (e_ifne (t := 69) (by decide))
theorem sX5_kindFor_63 : lim cal sc 5 cX5_kindFor ret 63 (some (.ref h) :: l) st M = lim cal sc 5 cX5_kindFor ret 64 (some (.ref h) :: l) (.ref h :: st) M := lim_step dX5_kindFor_63
theorem sX5_kindFor_64 : lim cal sc 5 cX5_kindFor ret 64 lv st M = lim cal sc 5 cX5_kindFor ret 65 lv (.int 1 :: st) M := (lim_step dX5_kindFor_64).trans (e_ic k_i_1)
theorem sX5_kindFor_65 : lim cal sc 5 cX5_kindFor ret 65 lv (a1 :: .ref h :: st) M = guK (isCl 4 h) (guK (rk 8 st) (calK (cal 2 [.ref h, a1] M) fun q M' => lim cal sc 5 cX5_kindFor ret 68 lv (q.toList ++ st) M')) := (lim_step dX5_kindFor_65).trans (e_virt1 rm_5_69 mq_2)
theorem sX5_kindFor_68 : lim cal sc 5 cX5_kindFor (some .int) 68 lv [.int x] M = some (some (.int x), M) := (lim_step dX5_kindFor_68).trans (e_iret)
theorem sX5_kindFor_69 : lim cal sc 5 cX5_kindFor ret 69 lv st M = lim cal sc 5 cX5_kindFor ret 70 lv (.int 0 :: st) M := (lim_step dX5_kindFor_69).trans (e_ic k_i_0)
theorem sX5_kindFor_70 : lim cal sc 5 cX5_kindFor ret 70 (v0 :: v1 :: v2 :: v :: l) (.int x :: st) M = lim cal sc 5 cX5_kindFor ret 71 (v0 :: v1 :: v2 :: some (.int x) :: l) st M := (lim_step dX5_kindFor_70).trans (e_istn3)
theorem sX5_kindFor_71 : lim cal sc 5 cX5_kindFor ret 71 lv st M = lim cal sc 5 cX5_kindFor ret 72 lv (.int (-1) :: st) M := (lim_step dX5_kindFor_71).trans (e_ic k_i_m1)
theorem sX5_kindFor_72 : lim cal sc 5 cX5_kindFor ret 72 (v0 :: v1 :: v2 :: v3 :: v :: l) (.int x :: st) M = lim cal sc 5 cX5_kindFor ret 74 (v0 :: v1 :: v2 :: v3 :: some (.int x) :: l) st M := (lim_step dX5_kindFor_72).trans (e_ist4)
theorem sX5_kindFor_74 : lim cal sc 5 cX5_kindFor ret 74 lv st M = lim cal sc 5 cX5_kindFor ret 75 lv (.int 0 :: st) M := (lim_step dX5_kindFor_74).trans (e_ic k_i_0)
theorem sX5_kindFor_75 : lim cal sc 5 cX5_kindFor ret 75 (v0 :: v1 :: v2 :: v3 :: v4 :: v :: l) (.int x :: st) M = lim cal sc 5 cX5_kindFor ret 77 (v0 :: v1 :: v2 :: v3 :: v4 :: some (.int x) :: l) st M := (lim_step dX5_kindFor_75).trans (e_ist5)
theorem sX5_kindFor_77 : lim cal sc 5 cX5_kindFor ret 77 (v0 :: v1 :: v2 :: v3 :: v4 :: some (.int x) :: l) st M = lim cal sc 5 cX5_kindFor ret 79 (v0 :: v1 :: v2 :: v3 :: v4 :: some (.int x) :: l) (.int x :: st) M := lim_step dX5_kindFor_77
theorem sX5_kindFor_79 : lim cal sc 5 cX5_kindFor ret 79 lv st M = lim cal sc 5 cX5_kindFor ret 81 lv (.int 6 :: st) M := (lim_step dX5_kindFor_79).trans (e_bi k_b_6)
theorem sX5_kindFor_81 : lim cal sc 5 cX5_kindFor ret 81 lv (.int y :: .int x :: st) M = if y < x then lim cal sc 5 cX5_kindFor ret 114 lv st M else lim cal sc 5 cX5_kindFor ret 84 lv st M := (lim_step dX5_kindFor_81).trans (e_cmpgt (t := 114) (by decide))
theorem sX5_kindFor_84 : lim cal sc 5 cX5_kindFor ret 84 (some (.ref h) :: l) st M = lim cal sc 5 cX5_kindFor ret 85 (some (.ref h) :: l) (.ref h :: st) M := lim_step dX5_kindFor_84
theorem sX5_kindFor_85 : lim cal sc 5 cX5_kindFor ret 85 (v0 :: some (.int x) :: l) st M = lim cal sc 5 cX5_kindFor ret 86 (v0 :: some (.int x) :: l) (.int x :: st) M := lim_step dX5_kindFor_85
theorem sX5_kindFor_86 : lim cal sc 5 cX5_kindFor ret 86 (v0 :: v1 :: v2 :: v3 :: v4 :: some (.int x) :: l) st M = lim cal sc 5 cX5_kindFor ret 88 (v0 :: v1 :: v2 :: v3 :: v4 :: some (.int x) :: l) (.int x :: st) M := lim_step dX5_kindFor_86
theorem sX5_kindFor_88 : lim cal sc 5 cX5_kindFor ret 88 (v0 :: v1 :: some (.int x) :: l) st M = lim cal sc 5 cX5_kindFor ret 89 (v0 :: v1 :: some (.int x) :: l) (.int x :: st) M := lim_step dX5_kindFor_88
theorem sX5_kindFor_89 : lim cal sc 5 cX5_kindFor ret 89 lv (a3 :: a2 :: a1 :: .ref h :: st) M = guK (isCl 4 h) (guK (rk 8 st) (calK (cal 59 [.ref h, a1, a2, a3] M) fun q M' => lim cal sc 5 cX5_kindFor ret 92 lv (q.toList ++ st) M')) := (lim_step dX5_kindFor_89).trans (e_virt3 rm_5_214 mq_59)
theorem sX5_kindFor_92 : lim cal sc 5 cX5_kindFor ret 92 (v0 :: v1 :: v2 :: v3 :: v4 :: v5 :: v :: l) (.int x :: st) M = lim cal sc 5 cX5_kindFor ret 94 (v0 :: v1 :: v2 :: v3 :: v4 :: v5 :: some (.int x) :: l) st M := (lim_step dX5_kindFor_92).trans (e_ist6)
theorem sX5_kindFor_94 : lim cal sc 5 cX5_kindFor ret 94 (v0 :: v1 :: v2 :: v3 :: v4 :: v5 :: some (.int x) :: l) st M = lim cal sc 5 cX5_kindFor ret 96 (v0 :: v1 :: v2 :: v3 :: v4 :: v5 :: some (.int x) :: l) (.int x :: st) M := lim_step dX5_kindFor_94
theorem sX5_kindFor_96 : lim cal sc 5 cX5_kindFor ret 96 (v0 :: v1 :: v2 :: v3 :: some (.int x) :: l) st M = lim cal sc 5 cX5_kindFor ret 98 (v0 :: v1 :: v2 :: v3 :: some (.int x) :: l) (.int x :: st) M := lim_step dX5_kindFor_96
theorem sX5_kindFor_98 : lim cal sc 5 cX5_kindFor ret 98 lv (.int y :: .int x :: st) M = if x ≤ y then lim cal sc 5 cX5_kindFor ret 108 lv st M else lim cal sc 5 cX5_kindFor ret 101 lv st M := (lim_step dX5_kindFor_98).trans (e_cmple (t := 108) (by decide))
theorem sX5_kindFor_101 : lim cal sc 5 cX5_kindFor ret 101 (v0 :: v1 :: v2 :: v3 :: v4 :: v5 :: some (.int x) :: l) st M = lim cal sc 5 cX5_kindFor ret 103 (v0 :: v1 :: v2 :: v3 :: v4 :: v5 :: some (.int x) :: l) (.int x :: st) M := lim_step dX5_kindFor_101
theorem sX5_kindFor_103 : lim cal sc 5 cX5_kindFor ret 103 (v0 :: v1 :: v2 :: v3 :: v :: l) (.int x :: st) M = lim cal sc 5 cX5_kindFor ret 105 (v0 :: v1 :: v2 :: v3 :: some (.int x) :: l) st M := (lim_step dX5_kindFor_103).trans (e_ist4)
theorem sX5_kindFor_105 : lim cal sc 5 cX5_kindFor ret 105 (v0 :: v1 :: v2 :: v3 :: v4 :: some (.int x) :: l) st M = lim cal sc 5 cX5_kindFor ret 107 (v0 :: v1 :: v2 :: v3 :: v4 :: some (.int x) :: l) (.int x :: st) M := lim_step dX5_kindFor_105
theorem sX5_kindFor_107 : lim cal sc 5 cX5_kindFor ret 107 (v0 :: v1 :: v2 :: v :: l) (.int x :: st) M = lim cal sc 5 cX5_kindFor ret 108 (v0 :: v1 :: v2 :: some (.int x) :: l) st M := (lim_step dX5_kindFor_107).trans (e_istn3)
theorem sX5_kindFor_108 : lim cal sc 5 cX5_kindFor ret 108 (v0 :: v1 :: v2 :: v3 :: v4 :: some (.int x) :: l) st M = lim cal sc 5 cX5_kindFor ret 111 (v0 :: v1 :: v2 :: v3 :: v4 :: some (.int (x + 1)) :: l) st M := (lim_step dX5_kindFor_108).trans (e_inc5 k_i_1)
theorem sX5_kindFor_111 : lim cal sc 5 cX5_kindFor ret 111 lv st M = lim cal sc 5 cX5_kindFor ret 77 lv st M := (lim_step dX5_kindFor_111).trans (e_goto (t := 77) (by decide))
theorem sX5_kindFor_114 : lim cal sc 5 cX5_kindFor ret 114 (v0 :: v1 :: v2 :: some (.int x) :: l) st M = lim cal sc 5 cX5_kindFor ret 115 (v0 :: v1 :: v2 :: some (.int x) :: l) (.int x :: st) M := lim_step dX5_kindFor_114
theorem sX5_kindFor_115 : lim cal sc 5 cX5_kindFor (some .int) 115 lv [.int x] M = some (some (.int x), M) := (lim_step dX5_kindFor_115).trans (e_iret)
theorem sX5_rid_0 : lim cal sc 5 cX5_rid ret 0 (v0 :: some (.int x) :: l) st M = lim cal sc 5 cX5_rid ret 1 (v0 :: some (.int x) :: l) (.int x :: st) M := lim_step dX5_rid_0
theorem sX5_rid_1 : lim cal sc 5 cX5_rid ret 1 lv (a1 :: st) M = guK (rk 8 st) (calK (cal 24 [a1] M) fun q M' => lim cal sc 5 cX5_rid ret 4 lv (q.toList ++ st) M') := (lim_step dX5_rid_1).trans (e_stat1 rm_5_139)
theorem sX5_rid_4 : lim cal sc 5 cX5_rid ret 4 lv (.int x :: st) M = if x = 0 then lim cal sc 5 cX5_rid ret 7 lv st M else lim cal sc 5 cX5_rid ret 13 lv st M := (lim_step dX5_rid_4).trans (e_ifne (t := 13) (by decide))
theorem sX5_rid_7 : lim cal sc 5 cX5_rid ret 7 (some (.ref h) :: l) st M = lim cal sc 5 cX5_rid ret 8 (some (.ref h) :: l) (.ref h :: st) M := lim_step dX5_rid_7
theorem sX5_rid_8 : lim cal sc 5 cX5_rid ret 8 lv st M = lim cal sc 5 cX5_rid ret 9 lv (.int 0 :: st) M := (lim_step dX5_rid_8).trans (e_ic k_i_0)
theorem sX5_rid_9 : lim cal sc 5 cX5_rid ret 9 lv (a1 :: .ref h :: st) M = guK (isCl 4 h) (guK (rk 8 st) (calK (cal 2 [.ref h, a1] M) fun q M' => lim cal sc 5 cX5_rid ret 12 lv (q.toList ++ st) M')) := (lim_step dX5_rid_9).trans (e_virt1 rm_5_69 mq_2)
theorem sX5_rid_12 : lim cal sc 5 cX5_rid (some .int) 12 lv [.int x] M = some (some (.int x), M) := (lim_step dX5_rid_12).trans (e_iret)
theorem sX5_rid_13 : lim cal sc 5 cX5_rid ret 13 (some (.ref h) :: l) st M = lim cal sc 5 cX5_rid ret 14 (some (.ref h) :: l) (.ref h :: st) M := lim_step dX5_rid_13
theorem sX5_rid_14 : lim cal sc 5 cX5_rid ret 14 (v0 :: some (.int x) :: l) st M = lim cal sc 5 cX5_rid ret 15 (v0 :: some (.int x) :: l) (.int x :: st) M := lim_step dX5_rid_14
theorem sX5_rid_15 : lim cal sc 5 cX5_rid ret 15 lv (a1 :: .ref h :: st) M = guK (isCl 4 h) (guK (rk 8 st) (calK (cal 25 [.ref h, a1] M) fun q M' => lim cal sc 5 cX5_rid ret 18 lv (q.toList ++ st) M')) := (lim_step dX5_rid_15).trans (e_virt1 rm_5_142 mq_25)
theorem sX5_rid_18 : lim cal sc 5 cX5_rid ret 18 lv (.int x :: st) M = if x = 0 then lim cal sc 5 cX5_rid ret 27 lv st M else lim cal sc 5 cX5_rid ret 21 lv st M := (lim_step dX5_rid_18).trans (e_ifeq (t := 27) (by decide))
theorem sX5_rid_21 : lim cal sc 5 cX5_rid ret 21 (some (.ref h) :: l) st M = lim cal sc 5 cX5_rid ret 22 (some (.ref h) :: l) (.ref h :: st) M := lim_step dX5_rid_21
theorem sX5_rid_22 : lim cal sc 5 cX5_rid ret 22 lv st M = lim cal sc 5 cX5_rid ret 23 lv (.int 4 :: st) M := (lim_step dX5_rid_22).trans (e_ic k_i_4)
theorem sX5_rid_23 : lim cal sc 5 cX5_rid ret 23 lv (a1 :: .ref h :: st) M = guK (isCl 4 h) (guK (rk 8 st) (calK (cal 2 [.ref h, a1] M) fun q M' => lim cal sc 5 cX5_rid ret 26 lv (q.toList ++ st) M')) := (lim_step dX5_rid_23).trans (e_virt1 rm_5_69 mq_2)
theorem sX5_rid_26 : lim cal sc 5 cX5_rid (some .int) 26 lv [.int x] M = some (some (.int x), M) := (lim_step dX5_rid_26).trans (e_iret)
theorem sX5_rid_27 : lim cal sc 5 cX5_rid ret 27 (some (.ref h) :: l) st M = lim cal sc 5 cX5_rid ret 28 (some (.ref h) :: l) (.ref h :: st) M := lim_step dX5_rid_27
theorem sX5_rid_28 : lim cal sc 5 cX5_rid ret 28 lv (.ref h :: st) M = opK (slotV 4 0 h M) fun q => lim cal sc 5 cX5_rid ret 31 lv (q :: st) M := (lim_step dX5_rid_28).trans (e_get (by decide) rf_5_10)
theorem sX5_rid_31 : lim cal sc 5 cX5_rid ret 31 lv (.ref h :: st) M = opK (slotV 0 0 h M) fun q => lim cal sc 5 cX5_rid ret 34 lv (q :: st) M := (lim_step dX5_rid_31).trans (e_get (by decide) rf_5_73)
theorem sX5_rid_34 : lim cal sc 5 cX5_rid ret 34 lv (.ref h :: st) M = guK (isCl 1 h) (guK (rk 8 st) (calK (cal 61 [.ref h] M) fun q M' => lim cal sc 5 cX5_rid ret 37 lv (q.toList ++ st) M')) := (lim_step dX5_rid_34).trans (e_virt0 rm_5_218 mq_61)
theorem sX5_rid_37 : lim cal sc 5 cX5_rid ret 37 (v0 :: v1 :: v :: l) (.int x :: st) M = lim cal sc 5 cX5_rid ret 38 (v0 :: v1 :: some (.int x) :: l) st M := (lim_step dX5_rid_37).trans (e_istn2)
theorem sX5_rid_38 : lim cal sc 5 cX5_rid ret 38 lv st M = lim cal sc 5 cX5_rid ret 39 lv (.int 0 :: st) M := (lim_step dX5_rid_38).trans (e_ic k_i_0)
theorem sX5_rid_39 : lim cal sc 5 cX5_rid ret 39 (v0 :: v1 :: v2 :: v :: l) (.int x :: st) M = lim cal sc 5 cX5_rid ret 40 (v0 :: v1 :: v2 :: some (.int x) :: l) st M := (lim_step dX5_rid_39).trans (e_istn3)
theorem sX5_rid_40 : lim cal sc 5 cX5_rid ret 40 lv st M = lim cal sc 5 cX5_rid ret 41 lv (.int (-1) :: st) M := (lim_step dX5_rid_40).trans (e_ic k_i_m1)
theorem sX5_rid_41 : lim cal sc 5 cX5_rid ret 41 (v0 :: v1 :: v2 :: v3 :: v :: l) (.int x :: st) M = lim cal sc 5 cX5_rid ret 43 (v0 :: v1 :: v2 :: v3 :: some (.int x) :: l) st M := (lim_step dX5_rid_41).trans (e_ist4)
theorem sX5_rid_43 : lim cal sc 5 cX5_rid ret 43 lv st M = lim cal sc 5 cX5_rid ret 44 lv (.int 0 :: st) M := (lim_step dX5_rid_43).trans (e_ic k_i_0)
theorem sX5_rid_44 : lim cal sc 5 cX5_rid ret 44 (v0 :: v1 :: v2 :: v3 :: v4 :: v :: l) (.int x :: st) M = lim cal sc 5 cX5_rid ret 46 (v0 :: v1 :: v2 :: v3 :: v4 :: some (.int x) :: l) st M := (lim_step dX5_rid_44).trans (e_ist5)
theorem sX5_rid_46 : lim cal sc 5 cX5_rid ret 46 (v0 :: v1 :: v2 :: v3 :: v4 :: some (.int x) :: l) st M = lim cal sc 5 cX5_rid ret 48 (v0 :: v1 :: v2 :: v3 :: v4 :: some (.int x) :: l) (.int x :: st) M := lim_step dX5_rid_46
theorem sX5_rid_48 : lim cal sc 5 cX5_rid ret 48 (v0 :: v1 :: some (.int x) :: l) st M = lim cal sc 5 cX5_rid ret 49 (v0 :: v1 :: some (.int x) :: l) (.int x :: st) M := lim_step dX5_rid_48
theorem sX5_rid_49 : lim cal sc 5 cX5_rid ret 49 lv (.int y :: .int x :: st) M = if y < x then lim cal sc 5 cX5_rid ret 90 lv st M else lim cal sc 5 cX5_rid ret 52 lv st M := (lim_step dX5_rid_49).trans (e_cmpgt (t := 90) (by decide))
theorem sX5_rid_52 : lim cal sc 5 cX5_rid ret 52 (v0 :: v1 :: v2 :: v3 :: v4 :: some (.int x) :: l) st M = lim cal sc 5 cX5_rid ret 54 (v0 :: v1 :: v2 :: v3 :: v4 :: some (.int x) :: l) (.int x :: st) M := lim_step dX5_rid_52
theorem sX5_rid_54 : lim cal sc 5 cX5_rid ret 54 (v0 :: v1 :: some (.int x) :: l) st M = lim cal sc 5 cX5_rid ret 55 (v0 :: v1 :: some (.int x) :: l) (.int x :: st) M := lim_step dX5_rid_54
theorem sX5_rid_55 : lim cal sc 5 cX5_rid ret 55 lv st M = lim cal sc 5 cX5_rid ret 56 lv (.int (-1) :: st) M := (lim_step dX5_rid_55).trans (e_ic k_i_m1)
theorem sX5_rid_56 : lim cal sc 5 cX5_rid ret 56 lv (.int y :: .int x :: st) M = lim cal sc 5 cX5_rid ret 57 lv (.int (x ^^^ y) :: st) M := lim_step dX5_rid_56
theorem sX5_rid_57 : lim cal sc 5 cX5_rid ret 57 lv (.int y :: .int x :: st) M = lim cal sc 5 cX5_rid ret 58 lv (.int (x &&& y) :: st) M := lim_step dX5_rid_57
theorem sX5_rid_58 : lim cal sc 5 cX5_rid ret 58 lv (.int x :: st) M = if x = 0 then lim cal sc 5 cX5_rid ret 61 lv st M else lim cal sc 5 cX5_rid ret 84 lv st M := (lim_step dX5_rid_58).trans (e_ifne (t := 84) (by decide))
theorem sX5_rid_61 : lim cal sc 5 cX5_rid ret 61 (some (.ref h) :: l) st M = lim cal sc 5 cX5_rid ret 62 (some (.ref h) :: l) (.ref h :: st) M := lim_step dX5_rid_61
theorem sX5_rid_62 : lim cal sc 5 cX5_rid ret 62 (v0 :: v1 :: v2 :: v3 :: v4 :: some (.int x) :: l) st M = lim cal sc 5 cX5_rid ret 64 (v0 :: v1 :: v2 :: v3 :: v4 :: some (.int x) :: l) (.int x :: st) M := lim_step dX5_rid_62
theorem sX5_rid_64 : lim cal sc 5 cX5_rid ret 64 (v0 :: some (.int x) :: l) st M = lim cal sc 5 cX5_rid ret 65 (v0 :: some (.int x) :: l) (.int x :: st) M := lim_step dX5_rid_64
theorem sX5_rid_65 : lim cal sc 5 cX5_rid ret 65 lv (a2 :: a1 :: .ref h :: st) M = guK (isCl 4 h) (guK (rk 8 st) (calK (cal 62 [.ref h, a1, a2] M) fun q M' => lim cal sc 5 cX5_rid ret 68 lv (q.toList ++ st) M')) := (lim_step dX5_rid_65).trans (e_virt2 rm_5_221 mq_62)
theorem sX5_rid_68 : lim cal sc 5 cX5_rid ret 68 (v0 :: v1 :: v2 :: v3 :: v4 :: v5 :: v :: l) (.int x :: st) M = lim cal sc 5 cX5_rid ret 70 (v0 :: v1 :: v2 :: v3 :: v4 :: v5 :: some (.int x) :: l) st M := (lim_step dX5_rid_68).trans (e_ist6)
theorem sX5_rid_70 : lim cal sc 5 cX5_rid ret 70 (v0 :: v1 :: v2 :: v3 :: v4 :: v5 :: some (.int x) :: l) st M = lim cal sc 5 cX5_rid ret 72 (v0 :: v1 :: v2 :: v3 :: v4 :: v5 :: some (.int x) :: l) (.int x :: st) M := lim_step dX5_rid_70
theorem sX5_rid_72 : lim cal sc 5 cX5_rid ret 72 (v0 :: v1 :: v2 :: v3 :: some (.int x) :: l) st M = lim cal sc 5 cX5_rid ret 74 (v0 :: v1 :: v2 :: v3 :: some (.int x) :: l) (.int x :: st) M := lim_step dX5_rid_72
theorem sX5_rid_74 : lim cal sc 5 cX5_rid ret 74 lv (.int y :: .int x :: st) M = if x ≤ y then lim cal sc 5 cX5_rid ret 84 lv st M else lim cal sc 5 cX5_rid ret 77 lv st M := (lim_step dX5_rid_74).trans (e_cmple (t := 84) (by decide))
theorem sX5_rid_77 : lim cal sc 5 cX5_rid ret 77 (v0 :: v1 :: v2 :: v3 :: v4 :: v5 :: some (.int x) :: l) st M = lim cal sc 5 cX5_rid ret 79 (v0 :: v1 :: v2 :: v3 :: v4 :: v5 :: some (.int x) :: l) (.int x :: st) M := lim_step dX5_rid_77
theorem sX5_rid_79 : lim cal sc 5 cX5_rid ret 79 (v0 :: v1 :: v2 :: v3 :: v :: l) (.int x :: st) M = lim cal sc 5 cX5_rid ret 81 (v0 :: v1 :: v2 :: v3 :: some (.int x) :: l) st M := (lim_step dX5_rid_79).trans (e_ist4)
theorem sX5_rid_81 : lim cal sc 5 cX5_rid ret 81 (v0 :: v1 :: v2 :: v3 :: v4 :: some (.int x) :: l) st M = lim cal sc 5 cX5_rid ret 83 (v0 :: v1 :: v2 :: v3 :: v4 :: some (.int x) :: l) (.int x :: st) M := lim_step dX5_rid_81
theorem sX5_rid_83 : lim cal sc 5 cX5_rid ret 83 (v0 :: v1 :: v2 :: v :: l) (.int x :: st) M = lim cal sc 5 cX5_rid ret 84 (v0 :: v1 :: v2 :: some (.int x) :: l) st M := (lim_step dX5_rid_83).trans (e_istn3)
theorem sX5_rid_84 : lim cal sc 5 cX5_rid ret 84 (v0 :: v1 :: v2 :: v3 :: v4 :: some (.int x) :: l) st M = lim cal sc 5 cX5_rid ret 87 (v0 :: v1 :: v2 :: v3 :: v4 :: some (.int (x + 1)) :: l) st M := (lim_step dX5_rid_84).trans (e_inc5 k_i_1)
theorem sX5_rid_87 : lim cal sc 5 cX5_rid ret 87 lv st M = lim cal sc 5 cX5_rid ret 46 lv st M := (lim_step dX5_rid_87).trans (e_goto (t := 46) (by decide))
theorem sX5_rid_90 : lim cal sc 5 cX5_rid ret 90 (v0 :: v1 :: v2 :: some (.int x) :: l) st M = lim cal sc 5 cX5_rid ret 91 (v0 :: v1 :: v2 :: some (.int x) :: l) (.int x :: st) M := lim_step dX5_rid_90
theorem sX5_rid_91 : lim cal sc 5 cX5_rid (some .int) 91 lv [.int x] M = some (some (.int x), M) := (lim_step dX5_rid_91).trans (e_iret)
theorem sX5_turns_0 : lim cal sc 5 cX5_turns ret 0 (some (.ref h) :: l) st M = lim cal sc 5 cX5_turns ret 1 (some (.ref h) :: l) (.ref h :: st) M := lim_step dX5_turns_0
theorem sX5_turns_1 : lim cal sc 5 cX5_turns ret 1 (v0 :: some (.int x) :: l) st M = lim cal sc 5 cX5_turns ret 2 (v0 :: some (.int x) :: l) (.int x :: st) M := lim_step dX5_turns_1
theorem sX5_turns_2 : lim cal sc 5 cX5_turns ret 2 (v0 :: v1 :: some (.int x) :: l) st M = lim cal sc 5 cX5_turns ret 3 (v0 :: v1 :: some (.int x) :: l) (.int x :: st) M := lim_step dX5_turns_2
theorem sX5_turns_3 : lim cal sc 5 cX5_turns ret 3 lv (a2 :: a1 :: .ref h :: st) M = guK (isCl 4 h) (guK (rk 8 st) (calK (cal 65 [.ref h, a1, a2] M) fun q M' => lim cal sc 5 cX5_turns ret 6 lv (q.toList ++ st) M')) := (lim_step dX5_turns_3).trans (e_virt2 rm_5_224 mq_65)
theorem sX5_turns_6 : lim cal sc 5 cX5_turns ret 6 (v0 :: v1 :: v2 :: v :: l) (.int x :: st) M = lim cal sc 5 cX5_turns ret 7 (v0 :: v1 :: v2 :: some (.int x) :: l) st M := (lim_step dX5_turns_6).trans (e_istn3)
theorem sX5_turns_7 : lim cal sc 5 cX5_turns ret 7 (v0 :: v1 :: v2 :: some (.int x) :: l) st M = lim cal sc 5 cX5_turns ret 8 (v0 :: v1 :: v2 :: some (.int x) :: l) (.int x :: st) M := lim_step dX5_turns_7
theorem sX5_turns_8 : lim cal sc 5 cX5_turns ret 8 lv (.int x :: st) M = if x < 0 then lim cal sc 5 cX5_turns ret 19 lv st M else lim cal sc 5 cX5_turns ret 11 lv st M := (lim_step dX5_turns_8).trans (e_iflt (t := 19) (by decide))
theorem sX5_turns_11 : lim cal sc 5 cX5_turns ret 11 (some (.ref h) :: l) st M = lim cal sc 5 cX5_turns ret 12 (some (.ref h) :: l) (.ref h :: st) M := lim_step dX5_turns_11
theorem sX5_turns_12 : lim cal sc 5 cX5_turns ret 12 (v0 :: v1 :: v2 :: some (.int x) :: l) st M = lim cal sc 5 cX5_turns ret 13 (v0 :: v1 :: v2 :: some (.int x) :: l) (.int x :: st) M := lim_step dX5_turns_12
theorem sX5_turns_13 : lim cal sc 5 cX5_turns ret 13 lv (a1 :: .ref h :: st) M = guK (isCl 4 h) (guK (rk 8 st) (calK (cal 2 [.ref h, a1] M) fun q M' => lim cal sc 5 cX5_turns ret 16 lv (q.toList ++ st) M')) := (lim_step dX5_turns_13).trans (e_virt1 rm_5_69 mq_2)
theorem sX5_turns_16 : lim cal sc 5 cX5_turns ret 16 lv st M = lim cal sc 5 cX5_turns ret 25 lv st M := (lim_step dX5_turns_16).trans (e_goto (t := 25) (by decide))
theorem sX5_turns_19 : lim cal sc 5 cX5_turns ret 19 (some (.ref h) :: l) st M = lim cal sc 5 cX5_turns ret 20 (some (.ref h) :: l) (.ref h :: st) M := lim_step dX5_turns_19
theorem sX5_turns_20 : lim cal sc 5 cX5_turns ret 20 (v0 :: some (.int x) :: l) st M = lim cal sc 5 cX5_turns ret 21 (v0 :: some (.int x) :: l) (.int x :: st) M := lim_step dX5_turns_20
theorem sX5_turns_21 : lim cal sc 5 cX5_turns ret 21 (v0 :: v1 :: some (.int x) :: l) st M = lim cal sc 5 cX5_turns ret 22 (v0 :: v1 :: some (.int x) :: l) (.int x :: st) M := lim_step dX5_turns_21
theorem sX5_turns_22 : lim cal sc 5 cX5_turns ret 22 lv (a2 :: a1 :: .ref h :: st) M = guK (isCl 4 h) (guK (rk 8 st) (calK (cal 66 [.ref h, a1, a2] M) fun q M' => lim cal sc 5 cX5_turns ret 25 lv (q.toList ++ st) M')) := (lim_step dX5_turns_22).trans (e_virt2 rm_5_227 mq_66)
theorem sX5_turns_25 : lim cal sc 5 cX5_turns (some .int) 25 lv [.int x] M = some (some (.int x), M) := (lim_step dX5_turns_25).trans (e_iret)
theorem sX5_first_0 : lim cal sc 5 cX5_first ret 0 (some (.ref h) :: l) st M = lim cal sc 5 cX5_first ret 1 (some (.ref h) :: l) (.ref h :: st) M := lim_step dX5_first_0
theorem sX5_first_1 : lim cal sc 5 cX5_first ret 1 (v0 :: some (.int x) :: l) st M = lim cal sc 5 cX5_first ret 2 (v0 :: some (.int x) :: l) (.int x :: st) M := lim_step dX5_first_1
theorem sX5_first_2 : lim cal sc 5 cX5_first ret 2 (v0 :: v1 :: some (.int x) :: l) st M = lim cal sc 5 cX5_first ret 3 (v0 :: v1 :: some (.int x) :: l) (.int x :: st) M := lim_step dX5_first_2
theorem sX5_first_3 : lim cal sc 5 cX5_first ret 3 lv (a2 :: a1 :: .ref h :: st) M = guK (isCl 4 h) (guK (rk 8 st) (calK (cal 65 [.ref h, a1, a2] M) fun q M' => lim cal sc 5 cX5_first ret 6 lv (q.toList ++ st) M')) := (lim_step dX5_first_3).trans (e_virt2 rm_5_224 mq_65)
theorem sX5_first_6 : lim cal sc 5 cX5_first ret 6 (v0 :: v1 :: v2 :: v :: l) (.int x :: st) M = lim cal sc 5 cX5_first ret 7 (v0 :: v1 :: v2 :: some (.int x) :: l) st M := (lim_step dX5_first_6).trans (e_istn3)
theorem sX5_first_7 : lim cal sc 5 cX5_first ret 7 (v0 :: v1 :: v2 :: some (.int x) :: l) st M = lim cal sc 5 cX5_first ret 8 (v0 :: v1 :: v2 :: some (.int x) :: l) (.int x :: st) M := lim_step dX5_first_7
theorem sX5_first_8 : lim cal sc 5 cX5_first ret 8 lv (.int x :: st) M = if x < 0 then lim cal sc 5 cX5_first ret 17 lv st M else lim cal sc 5 cX5_first ret 11 lv st M := (lim_step dX5_first_8).trans (e_iflt (t := 17) (by decide))
theorem sX5_first_11 : lim cal sc 5 cX5_first ret 11 (some (.ref h) :: l) st M = lim cal sc 5 cX5_first ret 12 (some (.ref h) :: l) (.ref h :: st) M := lim_step dX5_first_11
theorem sX5_first_12 : lim cal sc 5 cX5_first ret 12 (v0 :: v1 :: v2 :: some (.int x) :: l) st M = lim cal sc 5 cX5_first ret 13 (v0 :: v1 :: v2 :: some (.int x) :: l) (.int x :: st) M := lim_step dX5_first_12
theorem sX5_first_13 : lim cal sc 5 cX5_first ret 13 lv (a1 :: .ref h :: st) M = guK (isCl 4 h) (guK (rk 8 st) (calK (cal 2 [.ref h, a1] M) fun q M' => lim cal sc 5 cX5_first ret 16 lv (q.toList ++ st) M')) := (lim_step dX5_first_13).trans (e_virt1 rm_5_69 mq_2)
theorem sX5_first_16 : lim cal sc 5 cX5_first (some .int) 16 lv [.int x] M = some (some (.int x), M) := (lim_step dX5_first_16).trans (e_iret)
theorem sX5_first_17 : lim cal sc 5 cX5_first ret 17 (some (.ref h) :: l) st M = lim cal sc 5 cX5_first ret 18 (some (.ref h) :: l) (.ref h :: st) M := lim_step dX5_first_17
theorem sX5_first_18 : lim cal sc 5 cX5_first ret 18 (v0 :: some (.int x) :: l) st M = lim cal sc 5 cX5_first ret 19 (v0 :: some (.int x) :: l) (.int x :: st) M := lim_step dX5_first_18
theorem sX5_first_19 : lim cal sc 5 cX5_first ret 19 (v0 :: v1 :: some (.int x) :: l) st M = lim cal sc 5 cX5_first ret 20 (v0 :: v1 :: some (.int x) :: l) (.int x :: st) M := lim_step dX5_first_19
theorem sX5_first_20 : lim cal sc 5 cX5_first ret 20 lv (a2 :: a1 :: .ref h :: st) M = guK (isCl 4 h) (guK (rk 8 st) (calK (cal 66 [.ref h, a1, a2] M) fun q M' => lim cal sc 5 cX5_first ret 23 lv (q.toList ++ st) M')) := (lim_step dX5_first_20).trans (e_virt2 rm_5_227 mq_66)
theorem sX5_first_23 : lim cal sc 5 cX5_first ret 23 lv (.int x :: st) M = lim cal sc 5 cX5_first ret 24 lv st M := lim_step dX5_first_23
theorem sX5_first_24 : lim cal sc 5 cX5_first ret 24 (some (.ref h) :: l) st M = lim cal sc 5 cX5_first ret 25 (some (.ref h) :: l) (.ref h :: st) M := lim_step dX5_first_24
theorem sX5_first_25 : lim cal sc 5 cX5_first ret 25 lv (.ref h :: st) M = opK (slotV 4 11 h M) fun q => lim cal sc 5 cX5_first ret 28 lv (q :: st) M := (lim_step dX5_first_25).trans (e_get (by decide) rf_5_60)
theorem sX5_first_28 : lim cal sc 5 cX5_first (some .int) 28 lv [.int x] M = some (some (.int x), M) := (lim_step dX5_first_28).trans (e_iret)
theorem sX5_share_0 : lim cal sc 5 cX5_share ret 0 (v0 :: some (.int x) :: l) st M = lim cal sc 5 cX5_share ret 1 (v0 :: some (.int x) :: l) (.int x :: st) M := lim_step dX5_share_0
theorem sX5_share_1 : lim cal sc 5 cX5_share ret 1 lv st M = lim cal sc 5 cX5_share ret 2 lv (.int 0 :: st) M := (lim_step dX5_share_1).trans (e_ic k_i_0)
theorem sX5_share_2 : lim cal sc 5 cX5_share ret 2 lv st M = lim cal sc 5 cX5_share ret 3 lv (.int 1 :: st) M := (lim_step dX5_share_2).trans (e_ic k_i_1)
theorem sX5_share_3 : lim cal sc 5 cX5_share ret 3 lv (a3 :: a2 :: a1 :: st) M = guK (rk 8 st) (calK (cal 1 [a1, a2, a3] M) fun q M' => lim cal sc 5 cX5_share ret 6 lv (q.toList ++ st) M') := (lim_step dX5_share_3).trans (e_stat3 rm_5_65)
theorem sX5_share_6 : lim cal sc 5 cX5_share ret 6 lv (.int x :: st) M = if x = 0 then lim cal sc 5 cX5_share ret 19 lv st M else lim cal sc 5 cX5_share ret 9 lv st M := (lim_step dX5_share_6).trans (e_ifeq (t := 19) (by decide))
theorem sX5_share_9 : lim cal sc 5 cX5_share ret 9 (v0 :: v1 :: some (.int x) :: l) st M = lim cal sc 5 cX5_share ret 10 (v0 :: v1 :: some (.int x) :: l) (.int x :: st) M := lim_step dX5_share_9
theorem sX5_share_10 : lim cal sc 5 cX5_share ret 10 lv st M = lim cal sc 5 cX5_share ret 11 lv (.int 0 :: st) M := (lim_step dX5_share_10).trans (e_ic k_i_0)
theorem sX5_share_11 : lim cal sc 5 cX5_share ret 11 lv st M = lim cal sc 5 cX5_share ret 13 lv (.int 60 :: st) M := (lim_step dX5_share_11).trans (e_bi k_b_60)
theorem sX5_share_13 : lim cal sc 5 cX5_share ret 13 lv (a3 :: a2 :: a1 :: st) M = guK (rk 8 st) (calK (cal 1 [a1, a2, a3] M) fun q M' => lim cal sc 5 cX5_share ret 16 lv (q.toList ++ st) M') := (lim_step dX5_share_13).trans (e_stat3 rm_5_65)
theorem sX5_share_16 : lim cal sc 5 cX5_share ret 16 lv (.int x :: st) M = if x = 0 then lim cal sc 5 cX5_share ret 19 lv st M else lim cal sc 5 cX5_share ret 25 lv st M := (lim_step dX5_share_16).trans (e_ifne (t := 25) (by decide))
theorem sX5_share_19 : lim cal sc 5 cX5_share ret 19 (some (.ref h) :: l) st M = lim cal sc 5 cX5_share ret 20 (some (.ref h) :: l) (.ref h :: st) M := lim_step dX5_share_19
theorem sX5_share_20 : lim cal sc 5 cX5_share ret 20 lv st M = lim cal sc 5 cX5_share ret 21 lv (.int 0 :: st) M := (lim_step dX5_share_20).trans (e_ic k_i_0)
theorem sX5_share_21 : lim cal sc 5 cX5_share ret 21 lv (a1 :: .ref h :: st) M = guK (isCl 4 h) (guK (rk 8 st) (calK (cal 2 [.ref h, a1] M) fun q M' => lim cal sc 5 cX5_share ret 24 lv (q.toList ++ st) M')) := (lim_step dX5_share_21).trans (e_virt1 rm_5_69 mq_2)
theorem sX5_share_24 : lim cal sc 5 cX5_share (some .int) 24 lv [.int x] M = some (some (.int x), M) := (lim_step dX5_share_24).trans (e_iret)
theorem sX5_share_25 : lim cal sc 5 cX5_share ret 25 (some (.ref h) :: l) st M = lim cal sc 5 cX5_share ret 26 (some (.ref h) :: l) (.ref h :: st) M := lim_step dX5_share_25
theorem sX5_share_26 : lim cal sc 5 cX5_share ret 26 (v0 :: v1 :: some (.int x) :: l) st M = lim cal sc 5 cX5_share ret 27 (v0 :: v1 :: some (.int x) :: l) (.int x :: st) M := lim_step dX5_share_26
theorem sX5_share_27 : lim cal sc 5 cX5_share ret 27 lv (a1 :: .ref h :: st) M = guK (isCl 4 h) (guK (rk 8 st) (calK (cal 25 [.ref h, a1] M) fun q M' => lim cal sc 5 cX5_share ret 30 lv (q.toList ++ st) M')) := (lim_step dX5_share_27).trans (e_virt1 rm_5_142 mq_25)
theorem sX5_share_30 : lim cal sc 5 cX5_share ret 30 lv (.int x :: st) M = if x = 0 then lim cal sc 5 cX5_share ret 39 lv st M else lim cal sc 5 cX5_share ret 33 lv st M := (lim_step dX5_share_30).trans (e_ifeq (t := 39) (by decide))
theorem sX5_share_33 : lim cal sc 5 cX5_share ret 33 (some (.ref h) :: l) st M = lim cal sc 5 cX5_share ret 34 (some (.ref h) :: l) (.ref h :: st) M := lim_step dX5_share_33
theorem sX5_share_34 : lim cal sc 5 cX5_share ret 34 lv st M = lim cal sc 5 cX5_share ret 35 lv (.int 4 :: st) M := (lim_step dX5_share_34).trans (e_ic k_i_4)
theorem sX5_share_35 : lim cal sc 5 cX5_share ret 35 lv (a1 :: .ref h :: st) M = guK (isCl 4 h) (guK (rk 8 st) (calK (cal 2 [.ref h, a1] M) fun q M' => lim cal sc 5 cX5_share ret 38 lv (q.toList ++ st) M')) := (lim_step dX5_share_35).trans (e_virt1 rm_5_69 mq_2)
theorem sX5_share_38 : lim cal sc 5 cX5_share (some .int) 38 lv [.int x] M = some (some (.int x), M) := (lim_step dX5_share_38).trans (e_iret)
theorem sX5_share_39 : lim cal sc 5 cX5_share ret 39 (some (.ref h) :: l) st M = lim cal sc 5 cX5_share ret 40 (some (.ref h) :: l) (.ref h :: st) M := lim_step dX5_share_39
theorem sX5_share_40 : lim cal sc 5 cX5_share ret 40 lv (.ref h :: st) M = opK (slotV 4 6 h M) fun q => lim cal sc 5 cX5_share ret 43 lv (q :: st) M := (lim_step dX5_share_40).trans (e_get (by decide) rf_5_43)
theorem sX5_share_43 : lim cal sc 5 cX5_share ret 43 (some (.ref h) :: l) st M = lim cal sc 5 cX5_share ret 44 (some (.ref h) :: l) (.ref h :: st) M := lim_step dX5_share_43
theorem sX5_share_44 : lim cal sc 5 cX5_share ret 44 lv (.ref h :: st) M = opK (slotV 4 0 h M) fun q => lim cal sc 5 cX5_share ret 47 lv (q :: st) M := (lim_step dX5_share_44).trans (e_get (by decide) rf_5_10)
theorem sX5_share_47 : lim cal sc 5 cX5_share ret 47 lv (.ref h :: st) M = opK (slotV 0 0 h M) fun q => lim cal sc 5 cX5_share ret 50 lv (q :: st) M := (lim_step dX5_share_47).trans (e_get (by decide) rf_5_73)
theorem sX5_share_50 : lim cal sc 5 cX5_share ret 50 lv (a1 :: .ref h :: st) M = guK (isCl 1 h) (guK (rk 8 st) (calK (cal 34 [.ref h, a1] M) fun q M' => lim cal sc 5 cX5_share ret 53 lv (q.toList ++ st) M')) := (lim_step dX5_share_50).trans (e_virt1 rm_5_160 mq_34)
theorem sX5_share_53 : lim cal sc 5 cX5_share ret 53 lv st M = lim cal sc 5 cX5_share ret 54 lv (.int 0 :: st) M := (lim_step dX5_share_53).trans (e_ic k_i_0)
theorem sX5_share_54 : lim cal sc 5 cX5_share ret 54 (v0 :: v1 :: v2 :: v :: l) (.int x :: st) M = lim cal sc 5 cX5_share ret 55 (v0 :: v1 :: v2 :: some (.int x) :: l) st M := (lim_step dX5_share_54).trans (e_istn3)
theorem sX5_share_55 : lim cal sc 5 cX5_share ret 55 lv st M = lim cal sc 5 cX5_share ret 56 lv (.int 0 :: st) M := (lim_step dX5_share_55).trans (e_ic k_i_0)
theorem sX5_share_56 : lim cal sc 5 cX5_share ret 56 (v0 :: v1 :: v2 :: v3 :: v :: l) (.int x :: st) M = lim cal sc 5 cX5_share ret 58 (v0 :: v1 :: v2 :: v3 :: some (.int x) :: l) st M := (lim_step dX5_share_56).trans (e_ist4)
theorem sX5_share_58 : lim cal sc 5 cX5_share ret 58 (v0 :: v1 :: v2 :: v3 :: some (.int x) :: l) st M = lim cal sc 5 cX5_share ret 60 (v0 :: v1 :: v2 :: v3 :: some (.int x) :: l) (.int x :: st) M := lim_step dX5_share_58
theorem sX5_share_60 : lim cal sc 5 cX5_share ret 60 (v0 :: v1 :: some (.int x) :: l) st M = lim cal sc 5 cX5_share ret 61 (v0 :: v1 :: some (.int x) :: l) (.int x :: st) M := lim_step dX5_share_60
theorem sX5_share_61 : lim cal sc 5 cX5_share ret 61 lv (.int y :: .int x :: st) M = if y ≤ x then lim cal sc 5 cX5_share ret 105 lv st M else lim cal sc 5 cX5_share ret 64 lv st M := (lim_step dX5_share_61).trans (e_cmpge (t := 105) (by decide))
theorem sX5_share_64 : lim cal sc 5 cX5_share ret 64 (some (.ref h) :: l) st M = lim cal sc 5 cX5_share ret 65 (some (.ref h) :: l) (.ref h :: st) M := lim_step dX5_share_64
theorem sX5_share_65 : lim cal sc 5 cX5_share ret 65 lv (.ref h :: st) M = opK (slotV 4 6 h M) fun q => lim cal sc 5 cX5_share ret 68 lv (q :: st) M := (lim_step dX5_share_65).trans (e_get (by decide) rf_5_43)
theorem sX5_share_68 : lim cal sc 5 cX5_share ret 68 lv (.ref h :: st) M = opK (slotV 1 9 h M) fun q => lim cal sc 5 cX5_share ret 71 lv (q :: st) M := (lim_step dX5_share_68).trans (e_get (by decide) rf_5_114)
theorem sX5_share_71 : lim cal sc 5 cX5_share ret 71 lv (.int x :: st) M = if x ≤ 0 then lim cal sc 5 cX5_share ret 105 lv st M else lim cal sc 5 cX5_share ret 74 lv st M := (lim_step dX5_share_71).trans (e_ifle (t := 105) (by decide))
theorem sX5_share_74 : lim cal sc 5 cX5_share ret 74 (some (.ref h) :: l) st M = lim cal sc 5 cX5_share ret 75 (some (.ref h) :: l) (.ref h :: st) M := lim_step dX5_share_74
theorem sX5_share_75 : lim cal sc 5 cX5_share ret 75 lv (.ref h :: st) M = opK (slotV 4 6 h M) fun q => lim cal sc 5 cX5_share ret 78 lv (q :: st) M := (lim_step dX5_share_75).trans (e_get (by decide) rf_5_43)
theorem sX5_share_78 : lim cal sc 5 cX5_share ret 78 lv (.ref h :: st) M = guK (isCl 1 h) (guK (rk 8 st) (calK (cal 27 [.ref h] M) fun q M' => lim cal sc 5 cX5_share ret 81 lv (q.toList ++ st) M')) := (lim_step dX5_share_78).trans (e_virt0 rm_5_179 mq_27)
theorem sX5_share_81 : lim cal sc 5 cX5_share ret 81 (v0 :: v1 :: v2 :: v3 :: v4 :: v :: l) (.int x :: st) M = lim cal sc 5 cX5_share ret 83 (v0 :: v1 :: v2 :: v3 :: v4 :: some (.int x) :: l) st M := (lim_step dX5_share_81).trans (e_ist5)
theorem sX5_share_83 : lim cal sc 5 cX5_share ret 83 (some (.ref h) :: l) st M = lim cal sc 5 cX5_share ret 84 (some (.ref h) :: l) (.ref h :: st) M := lim_step dX5_share_83
theorem sX5_share_84 : lim cal sc 5 cX5_share ret 84 lv (.ref h :: st) M = opK (slotV 4 6 h M) fun q => lim cal sc 5 cX5_share ret 87 lv (q :: st) M := (lim_step dX5_share_84).trans (e_get (by decide) rf_5_43)
theorem sX5_share_87 : lim cal sc 5 cX5_share ret 87 (v0 :: some (.int x) :: l) st M = lim cal sc 5 cX5_share ret 88 (v0 :: some (.int x) :: l) (.int x :: st) M := lim_step dX5_share_87
theorem sX5_share_88 : lim cal sc 5 cX5_share ret 88 lv (a1 :: .ref h :: st) M = guK (isCl 1 h) (guK (rk 8 st) (calK (cal 70 [.ref h, a1] M) fun q M' => lim cal sc 5 cX5_share ret 91 lv (q.toList ++ st) M')) := (lim_step dX5_share_88).trans (e_virt1 rm_5_230 mq_70)
theorem sX5_share_91 : lim cal sc 5 cX5_share ret 91 lv (.int x :: st) M = if x = 0 then lim cal sc 5 cX5_share ret 99 lv st M else lim cal sc 5 cX5_share ret 94 lv st M := (lim_step dX5_share_91).trans (e_ifeq (t := 99) (by decide))
theorem sX5_share_94 : lim cal sc 5 cX5_share ret 94 (v0 :: v1 :: v2 :: some (.int x) :: l) st M = lim cal sc 5 cX5_share ret 95 (v0 :: v1 :: v2 :: some (.int x) :: l) (.int x :: st) M := lim_step dX5_share_94
theorem sX5_share_95 : lim cal sc 5 cX5_share ret 95 (v0 :: v1 :: v2 :: v3 :: v4 :: some (.int x) :: l) st M = lim cal sc 5 cX5_share ret 97 (v0 :: v1 :: v2 :: v3 :: v4 :: some (.int x) :: l) (.int x :: st) M := lim_step dX5_share_95
theorem sX5_share_97 : lim cal sc 5 cX5_share ret 97 lv (.int y :: .int x :: st) M = lim cal sc 5 cX5_share ret 98 lv (.int (x + y) :: st) M := lim_step dX5_share_97
theorem sX5_share_98 : lim cal sc 5 cX5_share ret 98 (v0 :: v1 :: v2 :: v :: l) (.int x :: st) M = lim cal sc 5 cX5_share ret 99 (v0 :: v1 :: v2 :: some (.int x) :: l) st M := (lim_step dX5_share_98).trans (e_istn3)
theorem sX5_share_99 : lim cal sc 5 cX5_share ret 99 (v0 :: v1 :: v2 :: v3 :: some (.int x) :: l) st M = lim cal sc 5 cX5_share ret 102 (v0 :: v1 :: v2 :: v3 :: some (.int (x + 1)) :: l) st M := (lim_step dX5_share_99).trans (e_inc4 k_i_1)
theorem sX5_share_102 : lim cal sc 5 cX5_share ret 102 lv st M = lim cal sc 5 cX5_share ret 58 lv st M := (lim_step dX5_share_102).trans (e_goto (t := 58) (by decide))
theorem sX5_share_105 : lim cal sc 5 cX5_share ret 105 (v0 :: v1 :: v2 :: some (.int x) :: l) st M = lim cal sc 5 cX5_share ret 106 (v0 :: v1 :: v2 :: some (.int x) :: l) (.int x :: st) M := lim_step dX5_share_105
theorem sX5_share_106 : lim cal sc 5 cX5_share (some .int) 106 lv [.int x] M = some (some (.int x), M) := (lim_step dX5_share_106).trans (e_iret)
theorem sX5_fits_0 : lim cal sc 5 cX5_fits ret 0 (some (.ref h) :: l) st M = lim cal sc 5 cX5_fits ret 1 (some (.ref h) :: l) (.ref h :: st) M := lim_step dX5_fits_0
theorem sX5_fits_1 : lim cal sc 5 cX5_fits ret 1 (v0 :: some (.int x) :: l) st M = lim cal sc 5 cX5_fits ret 2 (v0 :: some (.int x) :: l) (.int x :: st) M := lim_step dX5_fits_1
theorem sX5_fits_2 : lim cal sc 5 cX5_fits ret 2 (v0 :: v1 :: some (.int x) :: l) st M = lim cal sc 5 cX5_fits ret 3 (v0 :: v1 :: some (.int x) :: l) (.int x :: st) M := lim_step dX5_fits_2
theorem sX5_fits_3 : lim cal sc 5 cX5_fits ret 3 lv (a2 :: a1 :: .ref h :: st) M = guK (isCl 4 h) (guK (rk 8 st) (calK (cal 75 [.ref h, a1, a2] M) fun q M' => lim cal sc 5 cX5_fits ret 6 lv (q.toList ++ st) M')) := (lim_step dX5_fits_3).trans (e_virt2 rm_5_233 mq_75)
theorem sX5_fits_6 : lim cal sc 5 cX5_fits ret 6 (v0 :: v1 :: v2 :: v :: l) (.int x :: st) M = lim cal sc 5 cX5_fits ret 7 (v0 :: v1 :: v2 :: some (.int x) :: l) st M := (lim_step dX5_fits_6).trans (e_istn3)
theorem sX5_fits_7 : lim cal sc 5 cX5_fits ret 7 (v0 :: v1 :: v2 :: some (.int x) :: l) st M = lim cal sc 5 cX5_fits ret 8 (v0 :: v1 :: v2 :: some (.int x) :: l) (.int x :: st) M := lim_step dX5_fits_7
theorem sX5_fits_8 : lim cal sc 5 cX5_fits ret 8 lv (.int x :: st) M = if x < 0 then lim cal sc 5 cX5_fits ret 17 lv st M else lim cal sc 5 cX5_fits ret 11 lv st M := (lim_step dX5_fits_8).trans (e_iflt (t := 17) (by decide))
theorem sX5_fits_11 : lim cal sc 5 cX5_fits ret 11 (some (.ref h) :: l) st M = lim cal sc 5 cX5_fits ret 12 (some (.ref h) :: l) (.ref h :: st) M := lim_step dX5_fits_11
theorem sX5_fits_12 : lim cal sc 5 cX5_fits ret 12 (v0 :: v1 :: v2 :: some (.int x) :: l) st M = lim cal sc 5 cX5_fits ret 13 (v0 :: v1 :: v2 :: some (.int x) :: l) (.int x :: st) M := lim_step dX5_fits_12
theorem sX5_fits_13 : lim cal sc 5 cX5_fits ret 13 lv (a1 :: .ref h :: st) M = guK (isCl 4 h) (guK (rk 8 st) (calK (cal 2 [.ref h, a1] M) fun q M' => lim cal sc 5 cX5_fits ret 16 lv (q.toList ++ st) M')) := (lim_step dX5_fits_13).trans (e_virt1 rm_5_69 mq_2)
theorem sX5_fits_16 : lim cal sc 5 cX5_fits (some .int) 16 lv [.int x] M = some (some (.int x), M) := (lim_step dX5_fits_16).trans (e_iret)
theorem sX5_fits_17 : lim cal sc 5 cX5_fits ret 17 lv st M = lim cal sc 5 cX5_fits ret 18 lv (.int 0 :: st) M := (lim_step dX5_fits_17).trans (e_ic k_i_0)
theorem sX5_fits_18 : lim cal sc 5 cX5_fits ret 18 (v0 :: v1 :: v2 :: v3 :: v :: l) (.int x :: st) M = lim cal sc 5 cX5_fits ret 20 (v0 :: v1 :: v2 :: v3 :: some (.int x) :: l) st M := (lim_step dX5_fits_18).trans (e_ist4)
theorem sX5_fits_20 : lim cal sc 5 cX5_fits ret 20 lv st M = lim cal sc 5 cX5_fits ret 21 lv (.int 0 :: st) M := (lim_step dX5_fits_20).trans (e_ic k_i_0)
theorem sX5_fits_21 : lim cal sc 5 cX5_fits ret 21 (v0 :: v1 :: v2 :: v3 :: v4 :: v :: l) (.int x :: st) M = lim cal sc 5 cX5_fits ret 23 (v0 :: v1 :: v2 :: v3 :: v4 :: some (.int x) :: l) st M := (lim_step dX5_fits_21).trans (e_ist5)
theorem sX5_fits_23 : lim cal sc 5 cX5_fits ret 23 (v0 :: v1 :: v2 :: v3 :: v4 :: some (.int x) :: l) st M = lim cal sc 5 cX5_fits ret 25 (v0 :: v1 :: v2 :: v3 :: v4 :: some (.int x) :: l) (.int x :: st) M := lim_step dX5_fits_23
theorem sX5_fits_25 : lim cal sc 5 cX5_fits ret 25 (some (.ref h) :: l) st M = lim cal sc 5 cX5_fits ret 26 (some (.ref h) :: l) (.ref h :: st) M := lim_step dX5_fits_25
theorem sX5_fits_26 : lim cal sc 5 cX5_fits ret 26 lv (.ref h :: st) M = opK (slotV 4 0 h M) fun q => lim cal sc 5 cX5_fits ret 29 lv (q :: st) M := (lim_step dX5_fits_26).trans (e_get (by decide) rf_5_10)
theorem sX5_fits_29 : lim cal sc 5 cX5_fits ret 29 lv (.ref h :: st) M = opK (slotV 0 0 h M) fun q => lim cal sc 5 cX5_fits ret 32 lv (q :: st) M := (lim_step dX5_fits_29).trans (e_get (by decide) rf_5_73)
theorem sX5_fits_32 : lim cal sc 5 cX5_fits ret 32 lv (.ref h :: st) M = opK (slotV 1 0 h M) fun q => lim cal sc 5 cX5_fits ret 35 lv (q :: st) M := (lim_step dX5_fits_32).trans (e_get (by decide) rf_5_76)
theorem sX5_fits_35 : lim cal sc 5 cX5_fits ret 35 lv (.int y :: .int x :: st) M = if y ≤ x then lim cal sc 5 cX5_fits ret 57 lv st M else lim cal sc 5 cX5_fits ret 38 lv st M := (lim_step dX5_fits_35).trans (e_cmpge (t := 57) (by decide))
theorem sX5_fits_38 : lim cal sc 5 cX5_fits ret 38 (v0 :: v1 :: v2 :: v3 :: some (.int x) :: l) st M = lim cal sc 5 cX5_fits ret 40 (v0 :: v1 :: v2 :: v3 :: some (.int x) :: l) (.int x :: st) M := lim_step dX5_fits_38
theorem sX5_fits_40 : lim cal sc 5 cX5_fits ret 40 (some (.ref h) :: l) st M = lim cal sc 5 cX5_fits ret 41 (some (.ref h) :: l) (.ref h :: st) M := lim_step dX5_fits_40
theorem sX5_fits_41 : lim cal sc 5 cX5_fits ret 41 (v0 :: v1 :: v2 :: v3 :: v4 :: some (.int x) :: l) st M = lim cal sc 5 cX5_fits ret 43 (v0 :: v1 :: v2 :: v3 :: v4 :: some (.int x) :: l) (.int x :: st) M := lim_step dX5_fits_41
theorem sX5_fits_43 : lim cal sc 5 cX5_fits ret 43 (v0 :: some (.int x) :: l) st M = lim cal sc 5 cX5_fits ret 44 (v0 :: some (.int x) :: l) (.int x :: st) M := lim_step dX5_fits_43
theorem sX5_fits_44 : lim cal sc 5 cX5_fits ret 44 (v0 :: v1 :: some (.int x) :: l) st M = lim cal sc 5 cX5_fits ret 45 (v0 :: v1 :: some (.int x) :: l) (.int x :: st) M := lim_step dX5_fits_44
theorem sX5_fits_45 : lim cal sc 5 cX5_fits ret 45 lv (a3 :: a2 :: a1 :: .ref h :: st) M = guK (isCl 4 h) (guK (rk 8 st) (calK (cal 76 [.ref h, a1, a2, a3] M) fun q M' => lim cal sc 5 cX5_fits ret 48 lv (q.toList ++ st) M')) := (lim_step dX5_fits_45).trans (e_virt3 rm_5_236 mq_76)
theorem sX5_fits_48 : lim cal sc 5 cX5_fits ret 48 lv (.int y :: .int x :: st) M = lim cal sc 5 cX5_fits ret 49 lv (.int (x + y) :: st) M := lim_step dX5_fits_48
theorem sX5_fits_49 : lim cal sc 5 cX5_fits ret 49 (v0 :: v1 :: v2 :: v3 :: v :: l) (.int x :: st) M = lim cal sc 5 cX5_fits ret 51 (v0 :: v1 :: v2 :: v3 :: some (.int x) :: l) st M := (lim_step dX5_fits_49).trans (e_ist4)
theorem sX5_fits_51 : lim cal sc 5 cX5_fits ret 51 (v0 :: v1 :: v2 :: v3 :: v4 :: some (.int x) :: l) st M = lim cal sc 5 cX5_fits ret 54 (v0 :: v1 :: v2 :: v3 :: v4 :: some (.int (x + 1)) :: l) st M := (lim_step dX5_fits_51).trans (e_inc5 k_i_1)
theorem sX5_fits_54 : lim cal sc 5 cX5_fits ret 54 lv st M = lim cal sc 5 cX5_fits ret 23 lv st M := (lim_step dX5_fits_54).trans (e_goto (t := 23) (by decide))
theorem sX5_fits_57 : lim cal sc 5 cX5_fits ret 57 (v0 :: v1 :: v2 :: v3 :: some (.int x) :: l) st M = lim cal sc 5 cX5_fits ret 59 (v0 :: v1 :: v2 :: v3 :: some (.int x) :: l) (.int x :: st) M := lim_step dX5_fits_57
theorem sX5_fits_59 : lim cal sc 5 cX5_fits (some .int) 59 lv [.int x] M = some (some (.int x), M) := (lim_step dX5_fits_59).trans (e_iret)
theorem sX5_may_0 : lim cal sc 5 cX5_may ret 0 (some (.ref h) :: l) st M = lim cal sc 5 cX5_may ret 1 (some (.ref h) :: l) (.ref h :: st) M := lim_step dX5_may_0
theorem sX5_may_1 : lim cal sc 5 cX5_may ret 1 (v0 :: some (.int x) :: l) st M = lim cal sc 5 cX5_may ret 2 (v0 :: some (.int x) :: l) (.int x :: st) M := lim_step dX5_may_1
theorem sX5_may_2 : lim cal sc 5 cX5_may ret 2 (v0 :: v1 :: some (.int x) :: l) st M = lim cal sc 5 cX5_may ret 3 (v0 :: v1 :: some (.int x) :: l) (.int x :: st) M := lim_step dX5_may_2
theorem sX5_may_3 : lim cal sc 5 cX5_may ret 3 lv (a2 :: a1 :: .ref h :: st) M = guK (isCl 4 h) (guK (rk 8 st) (calK (cal 75 [.ref h, a1, a2] M) fun q M' => lim cal sc 5 cX5_may ret 6 lv (q.toList ++ st) M')) := (lim_step dX5_may_3).trans (e_virt2 rm_5_233 mq_75)
theorem sX5_may_6 : lim cal sc 5 cX5_may ret 6 (v0 :: v1 :: v2 :: v :: l) (.int x :: st) M = lim cal sc 5 cX5_may ret 7 (v0 :: v1 :: v2 :: some (.int x) :: l) st M := (lim_step dX5_may_6).trans (e_istn3)
theorem sX5_may_7 : lim cal sc 5 cX5_may ret 7 (v0 :: v1 :: v2 :: some (.int x) :: l) st M = lim cal sc 5 cX5_may ret 8 (v0 :: v1 :: v2 :: some (.int x) :: l) (.int x :: st) M := lim_step dX5_may_7
theorem sX5_may_8 : lim cal sc 5 cX5_may ret 8 lv (.int x :: st) M = if x < 0 then lim cal sc 5 cX5_may ret 17 lv st M else lim cal sc 5 cX5_may ret 11 lv st M := (lim_step dX5_may_8).trans (e_iflt (t := 17) (by decide))
theorem sX5_may_11 : lim cal sc 5 cX5_may ret 11 (some (.ref h) :: l) st M = lim cal sc 5 cX5_may ret 12 (some (.ref h) :: l) (.ref h :: st) M := lim_step dX5_may_11
theorem sX5_may_12 : lim cal sc 5 cX5_may ret 12 (v0 :: v1 :: v2 :: some (.int x) :: l) st M = lim cal sc 5 cX5_may ret 13 (v0 :: v1 :: v2 :: some (.int x) :: l) (.int x :: st) M := lim_step dX5_may_12
theorem sX5_may_13 : lim cal sc 5 cX5_may ret 13 lv (a1 :: .ref h :: st) M = guK (isCl 4 h) (guK (rk 8 st) (calK (cal 2 [.ref h, a1] M) fun q M' => lim cal sc 5 cX5_may ret 16 lv (q.toList ++ st) M')) := (lim_step dX5_may_13).trans (e_virt1 rm_5_69 mq_2)
theorem sX5_may_16 : lim cal sc 5 cX5_may (some .int) 16 lv [.int x] M = some (some (.int x), M) := (lim_step dX5_may_16).trans (e_iret)
theorem sX5_may_17 : lim cal sc 5 cX5_may ret 17 lv st M = lim cal sc 5 cX5_may ret 18 lv (.int 0 :: st) M := (lim_step dX5_may_17).trans (e_ic k_i_0)
theorem sX5_may_18 : lim cal sc 5 cX5_may ret 18 (v0 :: v1 :: v2 :: v3 :: v :: l) (.int x :: st) M = lim cal sc 5 cX5_may ret 20 (v0 :: v1 :: v2 :: v3 :: some (.int x) :: l) st M := (lim_step dX5_may_18).trans (e_ist4)
theorem sX5_may_20 : lim cal sc 5 cX5_may ret 20 lv st M = lim cal sc 5 cX5_may ret 21 lv (.int 0 :: st) M := (lim_step dX5_may_20).trans (e_ic k_i_0)
theorem sX5_may_21 : lim cal sc 5 cX5_may ret 21 (v0 :: v1 :: v2 :: v3 :: v4 :: v :: l) (.int x :: st) M = lim cal sc 5 cX5_may ret 23 (v0 :: v1 :: v2 :: v3 :: v4 :: some (.int x) :: l) st M := (lim_step dX5_may_21).trans (e_ist5)
theorem sX5_may_23 : lim cal sc 5 cX5_may ret 23 (v0 :: v1 :: v2 :: v3 :: v4 :: some (.int x) :: l) st M = lim cal sc 5 cX5_may ret 25 (v0 :: v1 :: v2 :: v3 :: v4 :: some (.int x) :: l) (.int x :: st) M := lim_step dX5_may_23
theorem sX5_may_25 : lim cal sc 5 cX5_may ret 25 (some (.ref h) :: l) st M = lim cal sc 5 cX5_may ret 26 (some (.ref h) :: l) (.ref h :: st) M := lim_step dX5_may_25
theorem sX5_may_26 : lim cal sc 5 cX5_may ret 26 lv (.ref h :: st) M = opK (slotV 4 0 h M) fun q => lim cal sc 5 cX5_may ret 29 lv (q :: st) M := (lim_step dX5_may_26).trans (e_get (by decide) rf_5_10)
theorem sX5_may_29 : lim cal sc 5 cX5_may ret 29 lv (.ref h :: st) M = opK (slotV 0 0 h M) fun q => lim cal sc 5 cX5_may ret 32 lv (q :: st) M := (lim_step dX5_may_29).trans (e_get (by decide) rf_5_73)
theorem sX5_may_32 : lim cal sc 5 cX5_may ret 32 lv (.ref h :: st) M = opK (slotV 1 0 h M) fun q => lim cal sc 5 cX5_may ret 35 lv (q :: st) M := (lim_step dX5_may_32).trans (e_get (by decide) rf_5_76)
theorem sX5_may_35 : lim cal sc 5 cX5_may ret 35 lv (.int y :: .int x :: st) M = if y ≤ x then lim cal sc 5 cX5_may ret 64 lv st M else lim cal sc 5 cX5_may ret 38 lv st M := (lim_step dX5_may_35).trans (e_cmpge (t := 64) (by decide))
theorem sX5_may_38 : lim cal sc 5 cX5_may ret 38 (some (.ref h) :: l) st M = lim cal sc 5 cX5_may ret 39 (some (.ref h) :: l) (.ref h :: st) M := lim_step dX5_may_38
theorem sX5_may_39 : lim cal sc 5 cX5_may ret 39 (v0 :: v1 :: v2 :: v3 :: v4 :: some (.int x) :: l) st M = lim cal sc 5 cX5_may ret 41 (v0 :: v1 :: v2 :: v3 :: v4 :: some (.int x) :: l) (.int x :: st) M := lim_step dX5_may_39
theorem sX5_may_41 : lim cal sc 5 cX5_may ret 41 (v0 :: some (.int x) :: l) st M = lim cal sc 5 cX5_may ret 42 (v0 :: some (.int x) :: l) (.int x :: st) M := lim_step dX5_may_41
theorem sX5_may_42 : lim cal sc 5 cX5_may ret 42 (v0 :: v1 :: some (.int x) :: l) st M = lim cal sc 5 cX5_may ret 43 (v0 :: v1 :: some (.int x) :: l) (.int x :: st) M := lim_step dX5_may_42
theorem sX5_may_43 : lim cal sc 5 cX5_may ret 43 lv (a3 :: a2 :: a1 :: .ref h :: st) M = guK (isCl 4 h) (guK (rk 8 st) (calK (cal 76 [.ref h, a1, a2, a3] M) fun q M' => lim cal sc 5 cX5_may ret 46 lv (q.toList ++ st) M')) := (lim_step dX5_may_43).trans (e_virt3 rm_5_236 mq_76)
theorem sX5_may_46 : lim cal sc 5 cX5_may ret 46 lv (.int x :: st) M = if x ≤ 0 then lim cal sc 5 cX5_may ret 58 lv st M else lim cal sc 5 cX5_may ret 49 lv st M := (lim_step dX5_may_46).trans (e_ifle (t := 58) (by decide))
theorem sX5_may_49 : lim cal sc 5 cX5_may ret 49 (v0 :: v1 :: v2 :: v3 :: some (.int x) :: l) st M = lim cal sc 5 cX5_may ret 51 (v0 :: v1 :: v2 :: v3 :: some (.int x) :: l) (.int x :: st) M := lim_step dX5_may_49
theorem sX5_may_51 : lim cal sc 5 cX5_may ret 51 lv st M = lim cal sc 5 cX5_may ret 52 lv (.int 1 :: st) M := (lim_step dX5_may_51).trans (e_ic k_i_1)
theorem sX5_may_52 : lim cal sc 5 cX5_may ret 52 (v0 :: v1 :: v2 :: v3 :: v4 :: some (.int x) :: l) st M = lim cal sc 5 cX5_may ret 54 (v0 :: v1 :: v2 :: v3 :: v4 :: some (.int x) :: l) (.int x :: st) M := lim_step dX5_may_52
theorem sX5_may_54 : lim cal sc 5 cX5_may ret 54 lv (.int y :: .int x :: st) M = lim cal sc 5 cX5_may ret 55 lv (.int (x <<< (y &&& 31)) :: st) M := lim_step dX5_may_54
theorem sX5_may_55 : lim cal sc 5 cX5_may ret 55 lv (.int y :: .int x :: st) M = lim cal sc 5 cX5_may ret 56 lv (.int (x ||| y) :: st) M := lim_step dX5_may_55
theorem sX5_may_56 : lim cal sc 5 cX5_may ret 56 (v0 :: v1 :: v2 :: v3 :: v :: l) (.int x :: st) M = lim cal sc 5 cX5_may ret 58 (v0 :: v1 :: v2 :: v3 :: some (.int x) :: l) st M := (lim_step dX5_may_56).trans (e_ist4)
theorem sX5_may_58 : lim cal sc 5 cX5_may ret 58 (v0 :: v1 :: v2 :: v3 :: v4 :: some (.int x) :: l) st M = lim cal sc 5 cX5_may ret 61 (v0 :: v1 :: v2 :: v3 :: v4 :: some (.int (x + 1)) :: l) st M := (lim_step dX5_may_58).trans (e_inc5 k_i_1)
theorem sX5_may_61 : lim cal sc 5 cX5_may ret 61 lv st M = lim cal sc 5 cX5_may ret 23 lv st M := (lim_step dX5_may_61).trans (e_goto (t := 23) (by decide))
theorem sX5_may_64 : lim cal sc 5 cX5_may ret 64 (v0 :: v1 :: v2 :: v3 :: some (.int x) :: l) st M = lim cal sc 5 cX5_may ret 66 (v0 :: v1 :: v2 :: v3 :: some (.int x) :: l) (.int x :: st) M := lim_step dX5_may_64
theorem sX5_may_66 : lim cal sc 5 cX5_may (some .int) 66 lv [.int x] M = some (some (.int x), M) := (lim_step dX5_may_66).trans (e_iret)
theorem sX5_laid_0 : lim cal sc 5 cX5_laid ret 0 (v0 :: some (.int x) :: l) st M = lim cal sc 5 cX5_laid ret 1 (v0 :: some (.int x) :: l) (.int x :: st) M := lim_step dX5_laid_0
theorem sX5_laid_1 : lim cal sc 5 cX5_laid ret 1 lv st M = lim cal sc 5 cX5_laid ret 2 lv (.int 0 :: st) M := (lim_step dX5_laid_1).trans (e_ic k_i_0)
theorem sX5_laid_2 : lim cal sc 5 cX5_laid ret 2 lv st M = lim cal sc 5 cX5_laid ret 3 lv (.int 1 :: st) M := (lim_step dX5_laid_2).trans (e_ic k_i_1)
theorem sX5_laid_3 : lim cal sc 5 cX5_laid ret 3 lv (a3 :: a2 :: a1 :: st) M = guK (rk 8 st) (calK (cal 1 [a1, a2, a3] M) fun q M' => lim cal sc 5 cX5_laid ret 6 lv (q.toList ++ st) M') := (lim_step dX5_laid_3).trans (e_stat3 rm_5_65)
theorem sX5_laid_6 : lim cal sc 5 cX5_laid ret 6 lv (.int x :: st) M = if x = 0 then lim cal sc 5 cX5_laid ret 9 lv st M else lim cal sc 5 cX5_laid ret 15 lv st M := (lim_step dX5_laid_6).trans (e_ifne (t := 15) (by decide))
theorem sX5_laid_9 : lim cal sc 5 cX5_laid ret 9 (some (.ref h) :: l) st M = lim cal sc 5 cX5_laid ret 10 (some (.ref h) :: l) (.ref h :: st) M := lim_step dX5_laid_9
theorem sX5_laid_10 : lim cal sc 5 cX5_laid ret 10 lv st M = lim cal sc 5 cX5_laid ret 11 lv (.int 0 :: st) M := (lim_step dX5_laid_10).trans (e_ic k_i_0)
theorem sX5_laid_11 : lim cal sc 5 cX5_laid ret 11 lv (a1 :: .ref h :: st) M = guK (isCl 4 h) (guK (rk 8 st) (calK (cal 2 [.ref h, a1] M) fun q M' => lim cal sc 5 cX5_laid ret 14 lv (q.toList ++ st) M')) := (lim_step dX5_laid_11).trans (e_virt1 rm_5_69 mq_2)
theorem sX5_laid_14 : lim cal sc 5 cX5_laid (some .int) 14 lv [.int x] M = some (some (.int x), M) := (lim_step dX5_laid_14).trans (e_iret)
theorem sX5_laid_15 : lim cal sc 5 cX5_laid ret 15 lv st M = lim cal sc 5 cX5_laid ret 16 lv (.int 0 :: st) M := (lim_step dX5_laid_15).trans (e_ic k_i_0)
theorem sX5_laid_16 : lim cal sc 5 cX5_laid ret 16 (v0 :: v1 :: v :: l) (.int x :: st) M = lim cal sc 5 cX5_laid ret 17 (v0 :: v1 :: some (.int x) :: l) st M := (lim_step dX5_laid_16).trans (e_istn2)
theorem sX5_laid_17 : lim cal sc 5 cX5_laid ret 17 lv st M = lim cal sc 5 cX5_laid ret 18 lv (.int 0 :: st) M := (lim_step dX5_laid_17).trans (e_ic k_i_0)
theorem sX5_laid_18 : lim cal sc 5 cX5_laid ret 18 (v0 :: v1 :: v2 :: v :: l) (.int x :: st) M = lim cal sc 5 cX5_laid ret 19 (v0 :: v1 :: v2 :: some (.int x) :: l) st M := (lim_step dX5_laid_18).trans (e_istn3)
theorem sX5_laid_19 : lim cal sc 5 cX5_laid ret 19 (v0 :: v1 :: v2 :: some (.int x) :: l) st M = lim cal sc 5 cX5_laid ret 20 (v0 :: v1 :: v2 :: some (.int x) :: l) (.int x :: st) M := lim_step dX5_laid_19
theorem sX5_laid_20 : lim cal sc 5 cX5_laid ret 20 (some (.ref h) :: l) st M = lim cal sc 5 cX5_laid ret 21 (some (.ref h) :: l) (.ref h :: st) M := lim_step dX5_laid_20
theorem sX5_laid_21 : lim cal sc 5 cX5_laid ret 21 lv (.ref h :: st) M = opK (slotV 4 0 h M) fun q => lim cal sc 5 cX5_laid ret 24 lv (q :: st) M := (lim_step dX5_laid_21).trans (e_get (by decide) rf_5_10)
theorem sX5_laid_24 : lim cal sc 5 cX5_laid ret 24 lv (.ref h :: st) M = opK (slotV 0 0 h M) fun q => lim cal sc 5 cX5_laid ret 27 lv (q :: st) M := (lim_step dX5_laid_24).trans (e_get (by decide) rf_5_73)
theorem sX5_laid_27 : lim cal sc 5 cX5_laid ret 27 lv (.ref h :: st) M = opK (slotV 1 0 h M) fun q => lim cal sc 5 cX5_laid ret 30 lv (q :: st) M := (lim_step dX5_laid_27).trans (e_get (by decide) rf_5_76)
theorem sX5_laid_30 : lim cal sc 5 cX5_laid ret 30 lv (.int y :: .int x :: st) M = if y ≤ x then lim cal sc 5 cX5_laid ret 77 lv st M else lim cal sc 5 cX5_laid ret 33 lv st M := (lim_step dX5_laid_30).trans (e_cmpge (t := 77) (by decide))
theorem sX5_laid_33 : lim cal sc 5 cX5_laid ret 33 (some (.ref h) :: l) st M = lim cal sc 5 cX5_laid ret 34 (some (.ref h) :: l) (.ref h :: st) M := lim_step dX5_laid_33
theorem sX5_laid_34 : lim cal sc 5 cX5_laid ret 34 lv (.ref h :: st) M = opK (slotV 4 0 h M) fun q => lim cal sc 5 cX5_laid ret 37 lv (q :: st) M := (lim_step dX5_laid_34).trans (e_get (by decide) rf_5_10)
theorem sX5_laid_37 : lim cal sc 5 cX5_laid ret 37 lv (.ref h :: st) M = opK (slotV 0 0 h M) fun q => lim cal sc 5 cX5_laid ret 40 lv (q :: st) M := (lim_step dX5_laid_37).trans (e_get (by decide) rf_5_73)
theorem sX5_laid_40 : lim cal sc 5 cX5_laid ret 40 lv (.ref h :: st) M = opK (slotV 1 5 h M) fun q => lim cal sc 5 cX5_laid ret 43 lv (q :: st) M := (lim_step dX5_laid_40).trans (e_get (by decide) rf_5_117)
theorem sX5_laid_43 : lim cal sc 5 cX5_laid ret 43 (v0 :: v1 :: v2 :: some (.int x) :: l) st M = lim cal sc 5 cX5_laid ret 44 (v0 :: v1 :: v2 :: some (.int x) :: l) (.int x :: st) M := lim_step dX5_laid_43
theorem sX5_laid_44 : lim cal sc 5 cX5_laid ret 44 lv (.int x :: .ref h :: st) M = opK (arrV9 sc h M) fun q => guK (inb x q.1) (lim cal sc 5 cX5_laid ret 45 lv (.int (q.2 x.toNatClampNeg) :: st) M) := (lim_step dX5_laid_44).trans (e_iald)
theorem sX5_laid_45 : lim cal sc 5 cX5_laid ret 45 lv st M = lim cal sc 5 cX5_laid ret 46 lv (.int 2 :: st) M := (lim_step dX5_laid_45).trans (e_ic k_i_2)
theorem sX5_laid_46 : lim cal sc 5 cX5_laid ret 46 lv (.int y :: .int x :: st) M = if x = y then lim cal sc 5 cX5_laid ret 49 lv st M else lim cal sc 5 cX5_laid ret 71 lv st M := (lim_step dX5_laid_46).trans (e_cmpne (t := 71) (by decide))
theorem sX5_laid_49 : lim cal sc 5 cX5_laid ret 49 (some (.ref h) :: l) st M = lim cal sc 5 cX5_laid ret 50 (some (.ref h) :: l) (.ref h :: st) M := lim_step dX5_laid_49
theorem sX5_laid_50 : lim cal sc 5 cX5_laid ret 50 lv (.ref h :: st) M = opK (slotV 4 0 h M) fun q => lim cal sc 5 cX5_laid ret 53 lv (q :: st) M := (lim_step dX5_laid_50).trans (e_get (by decide) rf_5_10)
theorem sX5_laid_53 : lim cal sc 5 cX5_laid ret 53 lv (.ref h :: st) M = opK (slotV 0 0 h M) fun q => lim cal sc 5 cX5_laid ret 56 lv (q :: st) M := (lim_step dX5_laid_53).trans (e_get (by decide) rf_5_73)
theorem sX5_laid_56 : lim cal sc 5 cX5_laid ret 56 lv (.ref h :: st) M = opK (slotV 1 4 h M) fun q => lim cal sc 5 cX5_laid ret 59 lv (q :: st) M := (lim_step dX5_laid_56).trans (e_get (by decide) rf_5_239)
theorem sX5_laid_59 : lim cal sc 5 cX5_laid ret 59 (v0 :: v1 :: v2 :: some (.int x) :: l) st M = lim cal sc 5 cX5_laid ret 60 (v0 :: v1 :: v2 :: some (.int x) :: l) (.int x :: st) M := lim_step dX5_laid_59
theorem sX5_laid_60 : lim cal sc 5 cX5_laid ret 60 lv (.int x :: .ref h :: st) M = opK (arrV9 sc h M) fun q => guK (inb x q.1) (lim cal sc 5 cX5_laid ret 61 lv (.int (q.2 x.toNatClampNeg) :: st) M) := (lim_step dX5_laid_60).trans (e_iald)
theorem sX5_laid_61 : lim cal sc 5 cX5_laid ret 61 (v0 :: some (.int x) :: l) st M = lim cal sc 5 cX5_laid ret 62 (v0 :: some (.int x) :: l) (.int x :: st) M := lim_step dX5_laid_61
theorem sX5_laid_62 : lim cal sc 5 cX5_laid ret 62 lv (.int y :: .int x :: st) M = if x = y then lim cal sc 5 cX5_laid ret 65 lv st M else lim cal sc 5 cX5_laid ret 71 lv st M := (lim_step dX5_laid_62).trans (e_cmpne (t := 71) (by decide))
theorem sX5_laid_65 : lim cal sc 5 cX5_laid ret 65 (v0 :: v1 :: some (.int x) :: l) st M = lim cal sc 5 cX5_laid ret 66 (v0 :: v1 :: some (.int x) :: l) (.int x :: st) M := lim_step dX5_laid_65
theorem sX5_laid_66 : lim cal sc 5 cX5_laid ret 66 lv st M = lim cal sc 5 cX5_laid ret 67 lv (.int 1 :: st) M := (lim_step dX5_laid_66).trans (e_ic k_i_1)
theorem sX5_laid_67 : lim cal sc 5 cX5_laid ret 67 (v0 :: v1 :: v2 :: some (.int x) :: l) st M = lim cal sc 5 cX5_laid ret 68 (v0 :: v1 :: v2 :: some (.int x) :: l) (.int x :: st) M := lim_step dX5_laid_67
theorem sX5_laid_68 : lim cal sc 5 cX5_laid ret 68 lv (.int y :: .int x :: st) M = lim cal sc 5 cX5_laid ret 69 lv (.int (x <<< (y &&& 31)) :: st) M := lim_step dX5_laid_68
theorem sX5_laid_69 : lim cal sc 5 cX5_laid ret 69 lv (.int y :: .int x :: st) M = lim cal sc 5 cX5_laid ret 70 lv (.int (x ||| y) :: st) M := lim_step dX5_laid_69
theorem sX5_laid_70 : lim cal sc 5 cX5_laid ret 70 (v0 :: v1 :: v :: l) (.int x :: st) M = lim cal sc 5 cX5_laid ret 71 (v0 :: v1 :: some (.int x) :: l) st M := (lim_step dX5_laid_70).trans (e_istn2)
theorem sX5_laid_71 : lim cal sc 5 cX5_laid ret 71 (v0 :: v1 :: v2 :: some (.int x) :: l) st M = lim cal sc 5 cX5_laid ret 74 (v0 :: v1 :: v2 :: some (.int (x + 1)) :: l) st M := (lim_step dX5_laid_71).trans (e_inc3 k_i_1)
theorem sX5_laid_74 : lim cal sc 5 cX5_laid ret 74 lv st M = lim cal sc 5 cX5_laid ret 19 lv st M := (lim_step dX5_laid_74).trans (e_goto (t := 19) (by decide))
theorem sX5_laid_77 : lim cal sc 5 cX5_laid ret 77 (v0 :: v1 :: some (.int x) :: l) st M = lim cal sc 5 cX5_laid ret 78 (v0 :: v1 :: some (.int x) :: l) (.int x :: st) M := lim_step dX5_laid_77
theorem sX5_laid_78 : lim cal sc 5 cX5_laid (some .int) 78 lv [.int x] M = some (some (.int x), M) := (lim_step dX5_laid_78).trans (e_iret)
theorem sX5_room_0 : lim cal sc 5 cX5_room ret 0 (some (.ref h) :: l) st M = lim cal sc 5 cX5_room ret 1 (some (.ref h) :: l) (.ref h :: st) M := lim_step dX5_room_0
theorem sX5_room_1 : lim cal sc 5 cX5_room ret 1 (v0 :: some (.int x) :: l) st M = lim cal sc 5 cX5_room ret 2 (v0 :: some (.int x) :: l) (.int x :: st) M := lim_step dX5_room_1
theorem sX5_room_2 : lim cal sc 5 cX5_room ret 2 lv (a1 :: .ref h :: st) M = guK (isCl 4 h) (guK (rk 8 st) (calK (cal 43 [.ref h, a1] M) fun q M' => lim cal sc 5 cX5_room ret 5 lv (q.toList ++ st) M')) := (lim_step dX5_room_2).trans (e_virt1 rm_5_188 mq_43)
theorem sX5_room_5 : lim cal sc 5 cX5_room ret 5 lv (.int x :: st) M = if x = 0 then lim cal sc 5 cX5_room ret 8 lv st M else lim cal sc 5 cX5_room ret 14 lv st M := (lim_step dX5_room_5).trans (e_ifne (t := 14) (by decide))
theorem sX5_room_8 : lim cal sc 5 cX5_room ret 8 (some (.ref h) :: l) st M = lim cal sc 5 cX5_room ret 9 (some (.ref h) :: l) (.ref h :: st) M := lim_step dX5_room_8
theorem sX5_room_9 : lim cal sc 5 cX5_room ret 9 lv st M = lim cal sc 5 cX5_room ret 10 lv (.int 0 :: st) M := (lim_step dX5_room_9).trans (e_ic k_i_0)
theorem sX5_room_10 : lim cal sc 5 cX5_room ret 10 lv (a1 :: .ref h :: st) M = guK (isCl 4 h) (guK (rk 8 st) (calK (cal 2 [.ref h, a1] M) fun q M' => lim cal sc 5 cX5_room ret 13 lv (q.toList ++ st) M')) := (lim_step dX5_room_10).trans (e_virt1 rm_5_69 mq_2)
theorem sX5_room_13 : lim cal sc 5 cX5_room (some .int) 13 lv [.int x] M = some (some (.int x), M) := (lim_step dX5_room_13).trans (e_iret)
theorem sX5_room_14 : lim cal sc 5 cX5_room ret 14 (some (.ref h) :: l) st M = lim cal sc 5 cX5_room ret 15 (some (.ref h) :: l) (.ref h :: st) M := lim_step dX5_room_14
theorem sX5_room_15 : lim cal sc 5 cX5_room ret 15 (v0 :: some (.int x) :: l) st M = lim cal sc 5 cX5_room ret 16 (v0 :: some (.int x) :: l) (.int x :: st) M := lim_step dX5_room_15
theorem sX5_room_16 : lim cal sc 5 cX5_room ret 16 lv (a1 :: .ref h :: st) M = guK (isCl 4 h) (guK (rk 8 st) (calK (cal 44 [.ref h, a1] M) fun q M' => lim cal sc 5 cX5_room ret 19 lv (q.toList ++ st) M')) := (lim_step dX5_room_16).trans (e_virt1 rm_5_191 mq_44)
theorem sX5_room_19 : lim cal sc 5 cX5_room ret 19 lv (.int x :: st) M = if x = 0 then lim cal sc 5 cX5_room ret 31 lv st M else lim cal sc 5 cX5_room ret 22 lv st M := (lim_step dX5_room_19).trans (e_ifeq (t := 31) (by decide))
theorem sX5_room_22 : lim cal sc 5 cX5_room ret 22 (some (.ref h) :: l) st M = lim cal sc 5 cX5_room ret 23 (some (.ref h) :: l) (.ref h :: st) M := lim_step dX5_room_22
theorem sX5_room_23 : lim cal sc 5 cX5_room ret 23 lv st M = lim cal sc 5 cX5_room ret 25 lv (.int 10 :: st) M := (lim_step dX5_room_23).trans (e_bi k_b_10)
theorem sX5_room_25 : lim cal sc 5 cX5_room ret 25 lv (a1 :: .ref h :: st) M = guK (isCl 4 h) (guK (rk 8 st) (calK (cal 25 [.ref h, a1] M) fun q M' => lim cal sc 5 cX5_room ret 28 lv (q.toList ++ st) M')) := (lim_step dX5_room_25).trans (e_virt1 rm_5_142 mq_25)
theorem sX5_room_28 : lim cal sc 5 cX5_room ret 28 lv (.int x :: st) M = if x = 0 then lim cal sc 5 cX5_room ret 37 lv st M else lim cal sc 5 cX5_room ret 31 lv st M := (lim_step dX5_room_28).trans (e_ifeq (t := 37) (by decide))
theorem sX5_room_31 : lim cal sc 5 cX5_room ret 31 (some (.ref h) :: l) st M = lim cal sc 5 cX5_room ret 32 (some (.ref h) :: l) (.ref h :: st) M := lim_step dX5_room_31
theorem sX5_room_32 : lim cal sc 5 cX5_room ret 32 lv st M = lim cal sc 5 cX5_room ret 33 lv (.int 4 :: st) M := (lim_step dX5_room_32).trans (e_ic k_i_4)
theorem sX5_room_33 : lim cal sc 5 cX5_room ret 33 lv (a1 :: .ref h :: st) M = guK (isCl 4 h) (guK (rk 8 st) (calK (cal 2 [.ref h, a1] M) fun q M' => lim cal sc 5 cX5_room ret 36 lv (q.toList ++ st) M')) := (lim_step dX5_room_33).trans (e_virt1 rm_5_69 mq_2)
theorem sX5_room_36 : lim cal sc 5 cX5_room (some .int) 36 lv [.int x] M = some (some (.int x), M) := (lim_step dX5_room_36).trans (e_iret)
theorem sX5_room_37 : lim cal sc 5 cX5_room ret 37 (some (.ref h) :: l) st M = lim cal sc 5 cX5_room ret 38 (some (.ref h) :: l) (.ref h :: st) M := lim_step dX5_room_37
theorem sX5_room_38 : lim cal sc 5 cX5_room ret 38 (v0 :: some (.int x) :: l) st M = lim cal sc 5 cX5_room ret 39 (v0 :: some (.int x) :: l) (.int x :: st) M := lim_step dX5_room_38
theorem sX5_room_39 : lim cal sc 5 cX5_room ret 39 lv (a1 :: .ref h :: st) M = guK (isCl 4 h) (guK (rk 8 st) (calK (cal 45 [.ref h, a1] M) fun q M' => lim cal sc 5 cX5_room ret 42 lv (q.toList ++ st) M')) := (lim_step dX5_room_39).trans (e_virt1 rm_5_194 mq_45)
theorem sX5_room_42 : lim cal sc 5 cX5_room ret 42 (v0 :: v1 :: v :: l) (.int x :: st) M = lim cal sc 5 cX5_room ret 43 (v0 :: v1 :: some (.int x) :: l) st M := (lim_step dX5_room_42).trans (e_istn2)
theorem sX5_room_43 : lim cal sc 5 cX5_room ret 43 lv st M = lim cal sc 5 cX5_room ret 44 lv (.int 1 :: st) M := (lim_step dX5_room_43).trans (e_ic k_i_1)
theorem sX5_room_44 : lim cal sc 5 cX5_room ret 44 (v0 :: v1 :: v2 :: v :: l) (.int x :: st) M = lim cal sc 5 cX5_room ret 45 (v0 :: v1 :: v2 :: some (.int x) :: l) st M := (lim_step dX5_room_44).trans (e_istn3)
theorem sX5_room_45 : lim cal sc 5 cX5_room ret 45 (v0 :: v1 :: v2 :: some (.int x) :: l) st M = lim cal sc 5 cX5_room ret 46 (v0 :: v1 :: v2 :: some (.int x) :: l) (.int x :: st) M := lim_step dX5_room_45
theorem sX5_room_46 : lim cal sc 5 cX5_room ret 46 lv st M = lim cal sc 5 cX5_room ret 48 lv (.int 40 :: st) M := (lim_step dX5_room_46).trans (e_bi k_b_40)
theorem sX5_room_48 : lim cal sc 5 cX5_room ret 48 lv (.int y :: .int x :: st) M = if y < x then lim cal sc 5 cX5_room ret 68 lv st M else lim cal sc 5 cX5_room ret 51 lv st M := (lim_step dX5_room_48).trans (e_cmpgt (t := 68) (by decide))
theorem sX5_room_51 : lim cal sc 5 cX5_room ret 51 (some (.ref h) :: l) st M = lim cal sc 5 cX5_room ret 52 (some (.ref h) :: l) (.ref h :: st) M := lim_step dX5_room_51
theorem sX5_room_52 : lim cal sc 5 cX5_room ret 52 (v0 :: v1 :: some (.int x) :: l) st M = lim cal sc 5 cX5_room ret 53 (v0 :: v1 :: some (.int x) :: l) (.int x :: st) M := lim_step dX5_room_52
theorem sX5_room_53 : lim cal sc 5 cX5_room ret 53 (v0 :: v1 :: v2 :: some (.int x) :: l) st M = lim cal sc 5 cX5_room ret 54 (v0 :: v1 :: v2 :: some (.int x) :: l) (.int x :: st) M := lim_step dX5_room_53
theorem sX5_room_54 : lim cal sc 5 cX5_room ret 54 lv (a2 :: a1 :: .ref h :: st) M = guK (isCl 4 h) (guK (rk 8 st) (calK (cal 81 [.ref h, a1, a2] M) fun q M' => lim cal sc 5 cX5_room ret 57 lv (q.toList ++ st) M')) := (lim_step dX5_room_54).trans (e_virt2 rm_5_242 mq_81)
theorem sX5_room_57 : lim cal sc 5 cX5_room ret 57 lv (.int x :: st) M = if x = 0 then lim cal sc 5 cX5_room ret 62 lv st M else lim cal sc 5 cX5_room ret 60 lv st M := (lim_step dX5_room_57).trans (e_ifeq (t := 62) (by decide))
theorem sX5_room_60 : lim cal sc 5 cX5_room ret 60 (v0 :: v1 :: v2 :: some (.int x) :: l) st M = lim cal sc 5 cX5_room ret 61 (v0 :: v1 :: v2 :: some (.int x) :: l) (.int x :: st) M := lim_step dX5_room_60
theorem sX5_room_61 : lim cal sc 5 cX5_room (some .int) 61 lv [.int x] M = some (some (.int x), M) := (lim_step dX5_room_61).trans (e_iret)
theorem sX5_room_62 : lim cal sc 5 cX5_room ret 62 (v0 :: v1 :: v2 :: some (.int x) :: l) st M = lim cal sc 5 cX5_room ret 65 (v0 :: v1 :: v2 :: some (.int (x + 1)) :: l) st M := (lim_step dX5_room_62).trans (e_inc3 k_i_1)
theorem sX5_room_65 : lim cal sc 5 cX5_room ret 65 lv st M = lim cal sc 5 cX5_room ret 45 lv st M := (lim_step dX5_room_65).trans (e_goto (t := 45) (by decide))
theorem sX5_room_68 : lim cal sc 5 cX5_room ret 68 (some (.ref h) :: l) st M = lim cal sc 5 cX5_room ret 69 (some (.ref h) :: l) (.ref h :: st) M := lim_step dX5_room_68
theorem sX5_room_69 : lim cal sc 5 cX5_room ret 69 lv st M = lim cal sc 5 cX5_room ret 70 lv (.int 3 :: st) M := (lim_step dX5_room_69).trans (e_ic k_i_3)
theorem sX5_room_70 : lim cal sc 5 cX5_room ret 70 lv (a1 :: .ref h :: st) M = guK (isCl 4 h) (guK (rk 8 st) (calK (cal 2 [.ref h, a1] M) fun q M' => lim cal sc 5 cX5_room ret 73 lv (q.toList ++ st) M')) := (lim_step dX5_room_70).trans (e_virt1 rm_5_69 mq_2)
theorem sX5_room_73 : lim cal sc 5 cX5_room (some .int) 73 lv [.int x] M = some (some (.int x), M) := (lim_step dX5_room_73).trans (e_iret)
theorem sX5_starves_0 : lim cal sc 5 cX5_starves ret 0 (v0 :: some (.int x) :: l) st M = lim cal sc 5 cX5_starves ret 1 (v0 :: some (.int x) :: l) (.int x :: st) M := lim_step dX5_starves_0
theorem sX5_starves_1 : lim cal sc 5 cX5_starves ret 1 lv (a1 :: st) M = guK (rk 8 st) (calK (cal 24 [a1] M) fun q M' => lim cal sc 5 cX5_starves ret 4 lv (q.toList ++ st) M') := (lim_step dX5_starves_1).trans (e_stat1 rm_5_139)
theorem sX5_starves_4 : lim cal sc 5 cX5_starves ret 4 lv (.int x :: st) M = if x = 0 then lim cal sc 5 cX5_starves ret 7 lv st M else lim cal sc 5 cX5_starves ret 13 lv st M := (lim_step dX5_starves_4).trans (e_ifne (t := 13) (by decide))
theorem sX5_starves_7 : lim cal sc 5 cX5_starves ret 7 (some (.ref h) :: l) st M = lim cal sc 5 cX5_starves ret 8 (some (.ref h) :: l) (.ref h :: st) M := lim_step dX5_starves_7
theorem sX5_starves_8 : lim cal sc 5 cX5_starves ret 8 lv st M = lim cal sc 5 cX5_starves ret 9 lv (.int 0 :: st) M := (lim_step dX5_starves_8).trans (e_ic k_i_0)
theorem sX5_starves_9 : lim cal sc 5 cX5_starves ret 9 lv (a1 :: .ref h :: st) M = guK (isCl 4 h) (guK (rk 8 st) (calK (cal 2 [.ref h, a1] M) fun q M' => lim cal sc 5 cX5_starves ret 12 lv (q.toList ++ st) M')) := (lim_step dX5_starves_9).trans (e_virt1 rm_5_69 mq_2)
theorem sX5_starves_12 : lim cal sc 5 cX5_starves (some .int) 12 lv [.int x] M = some (some (.int x), M) := (lim_step dX5_starves_12).trans (e_iret)
theorem sX5_starves_13 : lim cal sc 5 cX5_starves ret 13 (some (.ref h) :: l) st M = lim cal sc 5 cX5_starves ret 14 (some (.ref h) :: l) (.ref h :: st) M := lim_step dX5_starves_13
theorem sX5_starves_14 : lim cal sc 5 cX5_starves ret 14 (v0 :: some (.int x) :: l) st M = lim cal sc 5 cX5_starves ret 15 (v0 :: some (.int x) :: l) (.int x :: st) M := lim_step dX5_starves_14
theorem sX5_starves_15 : lim cal sc 5 cX5_starves ret 15 lv (a1 :: .ref h :: st) M = guK (isCl 4 h) (guK (rk 8 st) (calK (cal 25 [.ref h, a1] M) fun q M' => lim cal sc 5 cX5_starves ret 18 lv (q.toList ++ st) M')) := (lim_step dX5_starves_15).trans (e_virt1 rm_5_142 mq_25)
theorem sX5_starves_18 : lim cal sc 5 cX5_starves ret 18 lv (.int x :: st) M = if x = 0 then lim cal sc 5 cX5_starves ret 27 lv st M else lim cal sc 5 cX5_starves ret 21 lv st M := (lim_step dX5_starves_18).trans (e_ifeq (t := 27) (by decide))
theorem sX5_starves_21 : lim cal sc 5 cX5_starves ret 21 (some (.ref h) :: l) st M = lim cal sc 5 cX5_starves ret 22 (some (.ref h) :: l) (.ref h :: st) M := lim_step dX5_starves_21
theorem sX5_starves_22 : lim cal sc 5 cX5_starves ret 22 lv st M = lim cal sc 5 cX5_starves ret 23 lv (.int 4 :: st) M := (lim_step dX5_starves_22).trans (e_ic k_i_4)
theorem sX5_starves_23 : lim cal sc 5 cX5_starves ret 23 lv (a1 :: .ref h :: st) M = guK (isCl 4 h) (guK (rk 8 st) (calK (cal 2 [.ref h, a1] M) fun q M' => lim cal sc 5 cX5_starves ret 26 lv (q.toList ++ st) M')) := (lim_step dX5_starves_23).trans (e_virt1 rm_5_69 mq_2)
theorem sX5_starves_26 : lim cal sc 5 cX5_starves (some .int) 26 lv [.int x] M = some (some (.int x), M) := (lim_step dX5_starves_26).trans (e_iret)
theorem sX5_starves_27 : lim cal sc 5 cX5_starves ret 27 (some (.ref h) :: l) st M = lim cal sc 5 cX5_starves ret 28 (some (.ref h) :: l) (.ref h :: st) M := lim_step dX5_starves_27
theorem sX5_starves_28 : lim cal sc 5 cX5_starves ret 28 lv (.ref h :: st) M = opK (slotV 4 6 h M) fun q => lim cal sc 5 cX5_starves ret 31 lv (q :: st) M := (lim_step dX5_starves_28).trans (e_get (by decide) rf_5_43)
theorem sX5_starves_31 : lim cal sc 5 cX5_starves ret 31 (some (.ref h) :: l) st M = lim cal sc 5 cX5_starves ret 32 (some (.ref h) :: l) (.ref h :: st) M := lim_step dX5_starves_31
theorem sX5_starves_32 : lim cal sc 5 cX5_starves ret 32 lv (.ref h :: st) M = opK (slotV 4 0 h M) fun q => lim cal sc 5 cX5_starves ret 35 lv (q :: st) M := (lim_step dX5_starves_32).trans (e_get (by decide) rf_5_10)
theorem sX5_starves_35 : lim cal sc 5 cX5_starves ret 35 lv (.ref h :: st) M = opK (slotV 0 0 h M) fun q => lim cal sc 5 cX5_starves ret 38 lv (q :: st) M := (lim_step dX5_starves_35).trans (e_get (by decide) rf_5_73)
theorem sX5_starves_38 : lim cal sc 5 cX5_starves ret 38 lv (a1 :: .ref h :: st) M = guK (isCl 1 h) (guK (rk 8 st) (calK (cal 34 [.ref h, a1] M) fun q M' => lim cal sc 5 cX5_starves ret 41 lv (q.toList ++ st) M')) := (lim_step dX5_starves_38).trans (e_virt1 rm_5_160 mq_34)
theorem sX5_starves_41 : lim cal sc 5 cX5_starves ret 41 lv st M = lim cal sc 5 cX5_starves ret 43 lv (.int 9 :: st) M := (lim_step dX5_starves_41).trans (e_bi k_b_9)
theorem sX5_starves_43 : lim cal sc 5 cX5_starves ret 43 (v0 :: v1 :: v :: l) (.int x :: st) M = lim cal sc 5 cX5_starves ret 44 (v0 :: v1 :: some (.int x) :: l) st M := (lim_step dX5_starves_43).trans (e_istn2)
theorem sX5_starves_44 : lim cal sc 5 cX5_starves ret 44 lv st M = lim cal sc 5 cX5_starves ret 45 lv (.int 0 :: st) M := (lim_step dX5_starves_44).trans (e_ic k_i_0)
theorem sX5_starves_45 : lim cal sc 5 cX5_starves ret 45 (v0 :: v1 :: v2 :: v :: l) (.int x :: st) M = lim cal sc 5 cX5_starves ret 46 (v0 :: v1 :: v2 :: some (.int x) :: l) st M := (lim_step dX5_starves_45).trans (e_istn3)
theorem sX5_starves_46 : lim cal sc 5 cX5_starves ret 46 (v0 :: v1 :: v2 :: some (.int x) :: l) st M = lim cal sc 5 cX5_starves ret 47 (v0 :: v1 :: v2 :: some (.int x) :: l) (.int x :: st) M := lim_step dX5_starves_46
theorem sX5_starves_47 : lim cal sc 5 cX5_starves ret 47 (v0 :: some (.int x) :: l) st M = lim cal sc 5 cX5_starves ret 48 (v0 :: some (.int x) :: l) (.int x :: st) M := lim_step dX5_starves_47
theorem sX5_starves_48 : lim cal sc 5 cX5_starves ret 48 lv (.int y :: .int x :: st) M = if y ≤ x then lim cal sc 5 cX5_starves ret 101 lv st M else lim cal sc 5 cX5_starves ret 51 lv st M := (lim_step dX5_starves_48).trans (e_cmpge (t := 101) (by decide))
theorem sX5_starves_51 : lim cal sc 5 cX5_starves ret 51 (some (.ref h) :: l) st M = lim cal sc 5 cX5_starves ret 52 (some (.ref h) :: l) (.ref h :: st) M := lim_step dX5_starves_51
theorem sX5_starves_52 : lim cal sc 5 cX5_starves ret 52 lv (.ref h :: st) M = opK (slotV 4 6 h M) fun q => lim cal sc 5 cX5_starves ret 55 lv (q :: st) M := (lim_step dX5_starves_52).trans (e_get (by decide) rf_5_43)
theorem sX5_starves_55 : lim cal sc 5 cX5_starves ret 55 lv (.ref h :: st) M = opK (slotV 1 9 h M) fun q => lim cal sc 5 cX5_starves ret 58 lv (q :: st) M := (lim_step dX5_starves_55).trans (e_get (by decide) rf_5_114)
theorem sX5_starves_58 : lim cal sc 5 cX5_starves ret 58 lv (.int x :: st) M = if x ≤ 0 then lim cal sc 5 cX5_starves ret 101 lv st M else lim cal sc 5 cX5_starves ret 61 lv st M := (lim_step dX5_starves_58).trans (e_ifle (t := 101) (by decide))
theorem sX5_starves_61 : lim cal sc 5 cX5_starves ret 61 (some (.ref h) :: l) st M = lim cal sc 5 cX5_starves ret 62 (some (.ref h) :: l) (.ref h :: st) M := lim_step dX5_starves_61
theorem sX5_starves_62 : lim cal sc 5 cX5_starves ret 62 lv (.ref h :: st) M = opK (slotV 4 6 h M) fun q => lim cal sc 5 cX5_starves ret 65 lv (q :: st) M := (lim_step dX5_starves_62).trans (e_get (by decide) rf_5_43)
theorem sX5_starves_65 : lim cal sc 5 cX5_starves ret 65 lv (.ref h :: st) M = guK (isCl 1 h) (guK (rk 8 st) (calK (cal 16 [.ref h] M) fun q M' => lim cal sc 5 cX5_starves ret 68 lv (q.toList ++ st) M')) := (lim_step dX5_starves_65).trans (e_virt0 rm_5_151 mq_16)
theorem sX5_starves_68 : lim cal sc 5 cX5_starves ret 68 (v0 :: v1 :: v2 :: v3 :: v :: l) (.int x :: st) M = lim cal sc 5 cX5_starves ret 70 (v0 :: v1 :: v2 :: v3 :: some (.int x) :: l) st M := (lim_step dX5_starves_68).trans (e_ist4)
theorem sX5_starves_70 : lim cal sc 5 cX5_starves ret 70 (some (.ref h) :: l) st M = lim cal sc 5 cX5_starves ret 71 (some (.ref h) :: l) (.ref h :: st) M := lim_step dX5_starves_70
theorem sX5_starves_71 : lim cal sc 5 cX5_starves ret 71 lv (.ref h :: st) M = opK (slotV 4 6 h M) fun q => lim cal sc 5 cX5_starves ret 74 lv (q :: st) M := (lim_step dX5_starves_71).trans (e_get (by decide) rf_5_43)
theorem sX5_starves_74 : lim cal sc 5 cX5_starves ret 74 lv (.ref h :: st) M = guK (isCl 1 h) (guK (rk 8 st) (calK (cal 27 [.ref h] M) fun q M' => lim cal sc 5 cX5_starves ret 77 lv (q.toList ++ st) M')) := (lim_step dX5_starves_74).trans (e_virt0 rm_5_179 mq_27)
theorem sX5_starves_77 : lim cal sc 5 cX5_starves ret 77 lv (.int x :: st) M = lim cal sc 5 cX5_starves ret 78 lv st M := lim_step dX5_starves_77
theorem sX5_starves_78 : lim cal sc 5 cX5_starves ret 78 (some (.ref h) :: l) st M = lim cal sc 5 cX5_starves ret 79 (some (.ref h) :: l) (.ref h :: st) M := lim_step dX5_starves_78
theorem sX5_starves_79 : lim cal sc 5 cX5_starves ret 79 lv (.ref h :: st) M = opK (slotV 4 6 h M) fun q => lim cal sc 5 cX5_starves ret 82 lv (q :: st) M := (lim_step dX5_starves_79).trans (e_get (by decide) rf_5_43)
theorem sX5_starves_82 : lim cal sc 5 cX5_starves ret 82 lv (.ref h :: st) M = opK (slotV 1 12 h M) fun q => lim cal sc 5 cX5_starves ret 85 lv (q :: st) M := (lim_step dX5_starves_82).trans (e_get (by decide) rf_5_182)
theorem sX5_starves_85 : lim cal sc 5 cX5_starves ret 85 lv (.int x :: st) M = if x < 0 then lim cal sc 5 cX5_starves ret 95 lv st M else lim cal sc 5 cX5_starves ret 88 lv st M := (lim_step dX5_starves_85).trans (e_iflt (t := 95) (by decide))
theorem sX5_starves_88 : lim cal sc 5 cX5_starves ret 88 (v0 :: v1 :: some (.int x) :: l) st M = lim cal sc 5 cX5_starves ret 89 (v0 :: v1 :: some (.int x) :: l) (.int x :: st) M := lim_step dX5_starves_88
theorem sX5_starves_89 : lim cal sc 5 cX5_starves ret 89 (v0 :: v1 :: v2 :: v3 :: some (.int x) :: l) st M = lim cal sc 5 cX5_starves ret 91 (v0 :: v1 :: v2 :: v3 :: some (.int x) :: l) (.int x :: st) M := lim_step dX5_starves_89
theorem sX5_starves_91 : lim cal sc 5 cX5_starves ret 91 lv (.int y :: .int x :: st) M = guK (rk 8 st) (lim cal sc 5 cX5_starves ret 94 lv (.int (if y < x then y else x) :: st) M) := (lim_step dX5_starves_91).trans (e_min rm_5_245)
theorem sX5_starves_94 : lim cal sc 5 cX5_starves ret 94 (v0 :: v1 :: v :: l) (.int x :: st) M = lim cal sc 5 cX5_starves ret 95 (v0 :: v1 :: some (.int x) :: l) st M := (lim_step dX5_starves_94).trans (e_istn2)
theorem sX5_starves_95 : lim cal sc 5 cX5_starves ret 95 (v0 :: v1 :: v2 :: some (.int x) :: l) st M = lim cal sc 5 cX5_starves ret 98 (v0 :: v1 :: v2 :: some (.int (x + 1)) :: l) st M := (lim_step dX5_starves_95).trans (e_inc3 k_i_1)
theorem sX5_starves_98 : lim cal sc 5 cX5_starves ret 98 lv st M = lim cal sc 5 cX5_starves ret 46 lv st M := (lim_step dX5_starves_98).trans (e_goto (t := 46) (by decide))
theorem sX5_starves_101 : lim cal sc 5 cX5_starves ret 101 (v0 :: v1 :: some (.int x) :: l) st M = lim cal sc 5 cX5_starves ret 102 (v0 :: v1 :: some (.int x) :: l) (.int x :: st) M := lim_step dX5_starves_101
theorem sX5_starves_102 : lim cal sc 5 cX5_starves (some .int) 102 lv [.int x] M = some (some (.int x), M) := (lim_step dX5_starves_102).trans (e_iret)
theorem sX5_lent_0 : lim cal sc 5 cX5_lent ret 0 (v0 :: some (.int x) :: l) st M = lim cal sc 5 cX5_lent ret 1 (v0 :: some (.int x) :: l) (.int x :: st) M := lim_step dX5_lent_0
theorem sX5_lent_1 : lim cal sc 5 cX5_lent ret 1 lv st M = lim cal sc 5 cX5_lent ret 2 lv (.int 1 :: st) M := (lim_step dX5_lent_1).trans (e_ic k_i_1)
theorem sX5_lent_2 : lim cal sc 5 cX5_lent ret 2 lv st M = lim cal sc 5 cX5_lent ret 4 lv (.int 12 :: st) M := (lim_step dX5_lent_2).trans (e_bi k_b_12)
theorem sX5_lent_4 : lim cal sc 5 cX5_lent ret 4 lv (a3 :: a2 :: a1 :: st) M = guK (rk 8 st) (calK (cal 1 [a1, a2, a3] M) fun q M' => lim cal sc 5 cX5_lent ret 7 lv (q.toList ++ st) M') := (lim_step dX5_lent_4).trans (e_stat3 rm_5_65)
theorem sX5_lent_7 : lim cal sc 5 cX5_lent ret 7 lv (.int x :: st) M = if x = 0 then lim cal sc 5 cX5_lent ret 10 lv st M else lim cal sc 5 cX5_lent ret 16 lv st M := (lim_step dX5_lent_7).trans (e_ifne (t := 16) (by decide))
theorem sX5_lent_10 : lim cal sc 5 cX5_lent ret 10 (some (.ref h) :: l) st M = lim cal sc 5 cX5_lent ret 11 (some (.ref h) :: l) (.ref h :: st) M := lim_step dX5_lent_10
theorem sX5_lent_11 : lim cal sc 5 cX5_lent ret 11 lv st M = lim cal sc 5 cX5_lent ret 12 lv (.int 0 :: st) M := (lim_step dX5_lent_11).trans (e_ic k_i_0)
theorem sX5_lent_12 : lim cal sc 5 cX5_lent ret 12 lv (a1 :: .ref h :: st) M = guK (isCl 4 h) (guK (rk 8 st) (calK (cal 2 [.ref h, a1] M) fun q M' => lim cal sc 5 cX5_lent ret 15 lv (q.toList ++ st) M')) := (lim_step dX5_lent_12).trans (e_virt1 rm_5_69 mq_2)
theorem sX5_lent_15 : lim cal sc 5 cX5_lent (some .int) 15 lv [.int x] M = some (some (.int x), M) := (lim_step dX5_lent_15).trans (e_iret)
theorem sX5_lent_16 : lim cal sc 5 cX5_lent ret 16 (some (.ref h) :: l) st M = lim cal sc 5 cX5_lent ret 17 (some (.ref h) :: l) (.ref h :: st) M := lim_step dX5_lent_16
theorem sX5_lent_17 : lim cal sc 5 cX5_lent ret 17 lv (.ref h :: st) M = opK (slotV 4 0 h M) fun q => lim cal sc 5 cX5_lent ret 20 lv (q :: st) M := (lim_step dX5_lent_17).trans (e_get (by decide) rf_5_10)
theorem sX5_lent_20 : lim cal sc 5 cX5_lent ret 20 lv (.ref h :: st) M = opK (slotV 0 0 h M) fun q => lim cal sc 5 cX5_lent ret 23 lv (q :: st) M := (lim_step dX5_lent_20).trans (e_get (by decide) rf_5_73)
theorem sX5_lent_23 : lim cal sc 5 cX5_lent ret 23 lv (.ref h :: st) M = opK (slotV 1 0 h M) fun q => lim cal sc 5 cX5_lent ret 26 lv (q :: st) M := (lim_step dX5_lent_23).trans (e_get (by decide) rf_5_76)
theorem sX5_lent_26 : lim cal sc 5 cX5_lent ret 26 (v0 :: v1 :: v :: l) (.int x :: st) M = lim cal sc 5 cX5_lent ret 27 (v0 :: v1 :: some (.int x) :: l) st M := (lim_step dX5_lent_26).trans (e_istn2)
theorem sX5_lent_27 : lim cal sc 5 cX5_lent ret 27 (some (.ref h) :: l) st M = lim cal sc 5 cX5_lent ret 28 (some (.ref h) :: l) (.ref h :: st) M := lim_step dX5_lent_27
theorem sX5_lent_28 : lim cal sc 5 cX5_lent ret 28 (v0 :: some (.int x) :: l) st M = lim cal sc 5 cX5_lent ret 29 (v0 :: some (.int x) :: l) (.int x :: st) M := lim_step dX5_lent_28
theorem sX5_lent_29 : lim cal sc 5 cX5_lent ret 29 lv (a1 :: .ref h :: st) M = guK (isCl 4 h) (guK (rk 8 st) (calK (cal 25 [.ref h, a1] M) fun q M' => lim cal sc 5 cX5_lent ret 32 lv (q.toList ++ st) M')) := (lim_step dX5_lent_29).trans (e_virt1 rm_5_142 mq_25)
theorem sX5_lent_32 : lim cal sc 5 cX5_lent ret 32 lv (.int x :: st) M = if x = 0 then lim cal sc 5 cX5_lent ret 35 lv st M else lim cal sc 5 cX5_lent ret 39 lv st M := (lim_step dX5_lent_32).trans (e_ifne (t := 39) (by decide))
theorem sX5_lent_35 : lim cal sc 5 cX5_lent ret 35 (v0 :: v1 :: some (.int x) :: l) st M = lim cal sc 5 cX5_lent ret 36 (v0 :: v1 :: some (.int x) :: l) (.int x :: st) M := lim_step dX5_lent_35
theorem sX5_lent_36 : lim cal sc 5 cX5_lent ret 36 lv (.int x :: st) M = if 0 < x then lim cal sc 5 cX5_lent ret 45 lv st M else lim cal sc 5 cX5_lent ret 39 lv st M := (lim_step dX5_lent_36).trans (e_ifgt (t := 45) (by decide))
theorem sX5_lent_39 : lim cal sc 5 cX5_lent ret 39 (some (.ref h) :: l) st M = lim cal sc 5 cX5_lent ret 40 (some (.ref h) :: l) (.ref h :: st) M := lim_step dX5_lent_39
theorem sX5_lent_40 : lim cal sc 5 cX5_lent ret 40 lv st M = lim cal sc 5 cX5_lent ret 41 lv (.int 4 :: st) M := (lim_step dX5_lent_40).trans (e_ic k_i_4)
theorem sX5_lent_41 : lim cal sc 5 cX5_lent ret 41 lv (a1 :: .ref h :: st) M = guK (isCl 4 h) (guK (rk 8 st) (calK (cal 2 [.ref h, a1] M) fun q M' => lim cal sc 5 cX5_lent ret 44 lv (q.toList ++ st) M')) := (lim_step dX5_lent_41).trans (e_virt1 rm_5_69 mq_2)
theorem sX5_lent_44 : lim cal sc 5 cX5_lent (some .int) 44 lv [.int x] M = some (some (.int x), M) := (lim_step dX5_lent_44).trans (e_iret)
theorem sX5_lent_45 : lim cal sc 5 cX5_lent ret 45 lv st M = lim cal sc 5 cX5_lent ret 46 lv (.int 0 :: st) M := (lim_step dX5_lent_45).trans (e_ic k_i_0)
theorem sX5_lent_46 : lim cal sc 5 cX5_lent ret 46 (v0 :: v1 :: v2 :: v :: l) (.int x :: st) M = lim cal sc 5 cX5_lent ret 47 (v0 :: v1 :: v2 :: some (.int x) :: l) st M := (lim_step dX5_lent_46).trans (e_istn3)
theorem sX5_lent_47 : lim cal sc 5 cX5_lent ret 47 lv st M = lim cal sc 5 cX5_lent ret 48 lv (.int 0 :: st) M := (lim_step dX5_lent_47).trans (e_ic k_i_0)
theorem sX5_lent_48 : lim cal sc 5 cX5_lent ret 48 (v0 :: v1 :: v2 :: v3 :: v :: l) (.int x :: st) M = lim cal sc 5 cX5_lent ret 50 (v0 :: v1 :: v2 :: v3 :: some (.int x) :: l) st M := (lim_step dX5_lent_48).trans (e_ist4)
theorem sX5_lent_50 : lim cal sc 5 cX5_lent ret 50 (v0 :: v1 :: v2 :: v3 :: some (.int x) :: l) st M = lim cal sc 5 cX5_lent ret 52 (v0 :: v1 :: v2 :: v3 :: some (.int x) :: l) (.int x :: st) M := lim_step dX5_lent_50
theorem sX5_lent_52 : lim cal sc 5 cX5_lent ret 52 (v0 :: some (.int x) :: l) st M = lim cal sc 5 cX5_lent ret 53 (v0 :: some (.int x) :: l) (.int x :: st) M := lim_step dX5_lent_52
theorem sX5_lent_53 : lim cal sc 5 cX5_lent ret 53 lv (.int y :: .int x :: st) M = if y ≤ x then lim cal sc 5 cX5_lent ret 125 lv st M else lim cal sc 5 cX5_lent ret 56 lv st M := (lim_step dX5_lent_53).trans (e_cmpge (t := 125) (by decide))
theorem sX5_lent_56 : lim cal sc 5 cX5_lent ret 56 (some (.ref h) :: l) st M = lim cal sc 5 cX5_lent ret 57 (some (.ref h) :: l) (.ref h :: st) M := lim_step dX5_lent_56
theorem sX5_lent_57 : lim cal sc 5 cX5_lent ret 57 lv (.ref h :: st) M = opK (slotV 4 0 h M) fun q => lim cal sc 5 cX5_lent ret 60 lv (q :: st) M := (lim_step dX5_lent_57).trans (e_get (by decide) rf_5_10)
theorem sX5_lent_60 : lim cal sc 5 cX5_lent ret 60 lv (.ref h :: st) M = guK (isCl 0 h) (guK (rk 8 st) (calK (cal 84 [.ref h] M) fun q M' => lim cal sc 5 cX5_lent ret 63 lv (q.toList ++ st) M')) := (lim_step dX5_lent_60).trans (e_virt0 rm_5_250 mq_84)
theorem sX5_lent_63 : lim cal sc 5 cX5_lent ret 63 (v0 :: v1 :: some (.int x) :: l) st M = lim cal sc 5 cX5_lent ret 64 (v0 :: v1 :: some (.int x) :: l) (.int x :: st) M := lim_step dX5_lent_63
theorem sX5_lent_64 : lim cal sc 5 cX5_lent ret 64 lv (.int y :: .int x :: st) M = guK (decide (¬ y = 0)) (lim cal sc 5 cX5_lent ret 65 lv (.int (x - x / y * y) :: st) M) := (lim_step dX5_lent_64).trans (e_rem)
theorem sX5_lent_65 : lim cal sc 5 cX5_lent ret 65 (v0 :: v1 :: v2 :: v3 :: v4 :: v :: l) (.int x :: st) M = lim cal sc 5 cX5_lent ret 67 (v0 :: v1 :: v2 :: v3 :: v4 :: some (.int x) :: l) st M := (lim_step dX5_lent_65).trans (e_ist5)
theorem sX5_lent_67 : lim cal sc 5 cX5_lent ret 67 (some (.ref h) :: l) st M = lim cal sc 5 cX5_lent ret 68 (some (.ref h) :: l) (.ref h :: st) M := lim_step dX5_lent_67
theorem sX5_lent_68 : lim cal sc 5 cX5_lent ret 68 lv (.ref h :: st) M = opK (slotV 4 0 h M) fun q => lim cal sc 5 cX5_lent ret 71 lv (q :: st) M := (lim_step dX5_lent_68).trans (e_get (by decide) rf_5_10)
theorem sX5_lent_71 : lim cal sc 5 cX5_lent ret 71 lv (.ref h :: st) M = opK (slotV 0 0 h M) fun q => lim cal sc 5 cX5_lent ret 74 lv (q :: st) M := (lim_step dX5_lent_71).trans (e_get (by decide) rf_5_73)
theorem sX5_lent_74 : lim cal sc 5 cX5_lent ret 74 (v0 :: v1 :: v2 :: v3 :: v4 :: some (.int x) :: l) st M = lim cal sc 5 cX5_lent ret 76 (v0 :: v1 :: v2 :: v3 :: v4 :: some (.int x) :: l) (.int x :: st) M := lim_step dX5_lent_74
theorem sX5_lent_76 : lim cal sc 5 cX5_lent ret 76 lv (a1 :: .ref h :: st) M = guK (isCl 1 h) (guK (rk 8 st) (calK (cal 14 [.ref h, a1] M) fun q M' => lim cal sc 5 cX5_lent ret 79 lv (q.toList ++ st) M')) := (lim_step dX5_lent_76).trans (e_virt1 rm_5_104 mq_14)
theorem sX5_lent_79 : lim cal sc 5 cX5_lent ret 79 lv (.int x :: st) M = if x = 0 then lim cal sc 5 cX5_lent ret 109 lv st M else lim cal sc 5 cX5_lent ret 82 lv st M := (lim_step dX5_lent_79).trans (e_ifeq (t := 109) (by decide))
theorem sX5_lent_82 : lim cal sc 5 cX5_lent ret 82 (some (.ref h) :: l) st M = lim cal sc 5 cX5_lent ret 83 (some (.ref h) :: l) (.ref h :: st) M := lim_step dX5_lent_82
theorem sX5_lent_83 : lim cal sc 5 cX5_lent ret 83 lv (.ref h :: st) M = opK (slotV 4 0 h M) fun q => lim cal sc 5 cX5_lent ret 86 lv (q :: st) M := (lim_step dX5_lent_83).trans (e_get (by decide) rf_5_10)
theorem sX5_lent_86 : lim cal sc 5 cX5_lent ret 86 lv (.ref h :: st) M = opK (slotV 0 0 h M) fun q => lim cal sc 5 cX5_lent ret 89 lv (q :: st) M := (lim_step dX5_lent_86).trans (e_get (by decide) rf_5_73)
theorem sX5_lent_89 : lim cal sc 5 cX5_lent ret 89 (v0 :: v1 :: v2 :: v3 :: v4 :: some (.int x) :: l) st M = lim cal sc 5 cX5_lent ret 91 (v0 :: v1 :: v2 :: v3 :: v4 :: some (.int x) :: l) (.int x :: st) M := lim_step dX5_lent_89
theorem sX5_lent_91 : lim cal sc 5 cX5_lent ret 91 lv (a1 :: .ref h :: st) M = guK (isCl 1 h) (guK (rk 8 st) (calK (cal 15 [.ref h, a1] M) fun q M' => lim cal sc 5 cX5_lent ret 94 lv (q.toList ++ st) M')) := (lim_step dX5_lent_91).trans (e_virt1 rm_5_107 mq_15)
theorem sX5_lent_94 : lim cal sc 5 cX5_lent ret 94 lv (.int x :: st) M = if x = 0 then lim cal sc 5 cX5_lent ret 109 lv st M else lim cal sc 5 cX5_lent ret 97 lv st M := (lim_step dX5_lent_94).trans (e_ifeq (t := 109) (by decide))
theorem sX5_lent_97 : lim cal sc 5 cX5_lent ret 97 (some (.ref h) :: l) st M = lim cal sc 5 cX5_lent ret 98 (some (.ref h) :: l) (.ref h :: st) M := lim_step dX5_lent_97
theorem sX5_lent_98 : lim cal sc 5 cX5_lent ret 98 lv (.ref h :: st) M = opK (slotV 4 0 h M) fun q => lim cal sc 5 cX5_lent ret 101 lv (q :: st) M := (lim_step dX5_lent_98).trans (e_get (by decide) rf_5_10)
theorem sX5_lent_101 : lim cal sc 5 cX5_lent ret 101 lv (.ref h :: st) M = opK (slotV 0 0 h M) fun q => lim cal sc 5 cX5_lent ret 104 lv (q :: st) M := (lim_step dX5_lent_101).trans (e_get (by decide) rf_5_73)
theorem sX5_lent_104 : lim cal sc 5 cX5_lent ret 104 (v0 :: v1 :: v2 :: v3 :: v4 :: some (.int x) :: l) st M = lim cal sc 5 cX5_lent ret 106 (v0 :: v1 :: v2 :: v3 :: v4 :: some (.int x) :: l) (.int x :: st) M := lim_step dX5_lent_104
theorem sX5_lent_106 : lim cal sc 5 cX5_lent ret 106 lv (a1 :: .ref h :: st) M = guK (isCl 1 h) (guK (rk 8 st) (calK (cal 17 [.ref h, a1] M) fun q M' => lim cal sc 5 cX5_lent ret 109 lv (q.toList ++ st) M')) := (lim_step dX5_lent_106).trans (e_virt1 rm_5_110 mq_17)
theorem sX5_lent_109 : lim cal sc 5 cX5_lent ret 109 (v0 :: v1 :: v2 :: some (.int x) :: l) st M = lim cal sc 5 cX5_lent ret 110 (v0 :: v1 :: v2 :: some (.int x) :: l) (.int x :: st) M := lim_step dX5_lent_109
theorem sX5_lent_110 : lim cal sc 5 cX5_lent ret 110 (some (.ref h) :: l) st M = lim cal sc 5 cX5_lent ret 111 (some (.ref h) :: l) (.ref h :: st) M := lim_step dX5_lent_110
theorem sX5_lent_111 : lim cal sc 5 cX5_lent ret 111 lv (.ref h :: st) M = opK (slotV 4 0 h M) fun q => lim cal sc 5 cX5_lent ret 114 lv (q :: st) M := (lim_step dX5_lent_111).trans (e_get (by decide) rf_5_10)
theorem sX5_lent_114 : lim cal sc 5 cX5_lent ret 114 lv (.ref h :: st) M = guK (isCl 0 h) (guK (rk 8 st) (calK (cal 26 [.ref h] M) fun q M' => lim cal sc 5 cX5_lent ret 117 lv (q.toList ++ st) M')) := (lim_step dX5_lent_114).trans (e_virt0 rm_5_145 mq_26)
theorem sX5_lent_117 : lim cal sc 5 cX5_lent ret 117 lv (.int y :: .int x :: st) M = lim cal sc 5 cX5_lent ret 118 lv (.int (x + y) :: st) M := lim_step dX5_lent_117
theorem sX5_lent_118 : lim cal sc 5 cX5_lent ret 118 (v0 :: v1 :: v2 :: v :: l) (.int x :: st) M = lim cal sc 5 cX5_lent ret 119 (v0 :: v1 :: v2 :: some (.int x) :: l) st M := (lim_step dX5_lent_118).trans (e_istn3)
theorem sX5_lent_119 : lim cal sc 5 cX5_lent ret 119 (v0 :: v1 :: v2 :: v3 :: some (.int x) :: l) st M = lim cal sc 5 cX5_lent ret 122 (v0 :: v1 :: v2 :: v3 :: some (.int (x + 1)) :: l) st M := (lim_step dX5_lent_119).trans (e_inc4 k_i_1)
theorem sX5_lent_122 : lim cal sc 5 cX5_lent ret 122 lv st M = lim cal sc 5 cX5_lent ret 50 lv st M := (lim_step dX5_lent_122).trans (e_goto (t := 50) (by decide))
theorem sX5_lent_125 : lim cal sc 5 cX5_lent ret 125 (v0 :: v1 :: v2 :: some (.int x) :: l) st M = lim cal sc 5 cX5_lent ret 126 (v0 :: v1 :: v2 :: some (.int x) :: l) (.int x :: st) M := lim_step dX5_lent_125
theorem sX5_lent_126 : lim cal sc 5 cX5_lent (some .int) 126 lv [.int x] M = some (some (.int x), M) := (lim_step dX5_lent_126).trans (e_iret)
theorem sX5_seed_0 : lim cal sc 5 cX5_seed ret 0 (some (.ref h) :: l) st M = lim cal sc 5 cX5_seed ret 1 (some (.ref h) :: l) (.ref h :: st) M := lim_step dX5_seed_0
theorem sX5_seed_1 : lim cal sc 5 cX5_seed ret 1 lv (.ref h :: st) M = opK (slotV 4 0 h M) fun q => lim cal sc 5 cX5_seed ret 4 lv (q :: st) M := (lim_step dX5_seed_1).trans (e_get (by decide) rf_5_10)
theorem sX5_seed_4 : lim cal sc 5 cX5_seed ret 4 lv (.ref h :: st) M = opK (slotV 0 2 h M) fun q => lim cal sc 5 cX5_seed ret 7 lv (q :: st) M := (lim_step dX5_seed_4).trans (e_get (by decide) rf_5_253)
theorem sX5_seed_7 : lim cal sc 5 cX5_seed ret 7 (v0 :: v1 :: v :: l) (.int x :: st) M = lim cal sc 5 cX5_seed ret 8 (v0 :: v1 :: some (.int x) :: l) st M := (lim_step dX5_seed_7).trans (e_istn2)
theorem sX5_seed_8 : lim cal sc 5 cX5_seed ret 8 (some (.ref h) :: l) st M = lim cal sc 5 cX5_seed ret 9 (some (.ref h) :: l) (.ref h :: st) M := lim_step dX5_seed_8
theorem sX5_seed_9 : lim cal sc 5 cX5_seed ret 9 lv (.ref h :: st) M = opK (slotV 4 0 h M) fun q => lim cal sc 5 cX5_seed ret 12 lv (q :: st) M := (lim_step dX5_seed_9).trans (e_get (by decide) rf_5_10)
theorem sX5_seed_12 : lim cal sc 5 cX5_seed ret 12 (v0 :: some (.int x) :: l) st M = lim cal sc 5 cX5_seed ret 13 (v0 :: some (.int x) :: l) (.int x :: st) M := lim_step dX5_seed_12
theorem sX5_seed_13 : lim cal sc 5 cX5_seed ret 13 lv (.int x :: .ref h :: st) M = guK (isInt 0 2 h) (lim cal sc 5 cX5_seed ret 16 lv st (mset M h 2 x)) := (lim_step dX5_seed_13).trans (e_put rf_5_253 rfl)
theorem sX5_seed_16 : lim cal sc 5 cX5_seed ret 16 (v0 :: v1 :: some (.int x) :: l) st M = lim cal sc 5 cX5_seed ret 17 (v0 :: v1 :: some (.int x) :: l) (.int x :: st) M := lim_step dX5_seed_16
theorem sX5_seed_17 : lim cal sc 5 cX5_seed (some .int) 17 lv [.int x] M = some (some (.int x), M) := (lim_step dX5_seed_17).trans (e_iret)
theorem sX5_feed_0 : lim cal sc 5 cX5_feed ret 0 (v0 :: v1 :: some (.int x) :: l) st M = lim cal sc 5 cX5_feed ret 1 (v0 :: v1 :: some (.int x) :: l) (.int x :: st) M := lim_step dX5_feed_0
theorem sX5_feed_1 : lim cal sc 5 cX5_feed ret 1 lv st M = lim cal sc 5 cX5_feed ret 2 lv (.int 1 :: st) M := (lim_step dX5_feed_1).trans (e_ic k_i_1)
theorem sX5_feed_2 : lim cal sc 5 cX5_feed ret 2 lv st M = lim cal sc 5 cX5_feed ret 3 lv (.int 4 :: st) M := (lim_step dX5_feed_2).trans (e_ic k_i_4)
theorem sX5_feed_3 : lim cal sc 5 cX5_feed ret 3 lv (a3 :: a2 :: a1 :: st) M = guK (rk 8 st) (calK (cal 1 [a1, a2, a3] M) fun q M' => lim cal sc 5 cX5_feed ret 6 lv (q.toList ++ st) M') := (lim_step dX5_feed_3).trans (e_stat3 rm_5_65)
theorem sX5_feed_6 : lim cal sc 5 cX5_feed ret 6 lv (.int x :: st) M = if x = 0 then lim cal sc 5 cX5_feed ret 9 lv st M else lim cal sc 5 cX5_feed ret 15 lv st M := (lim_step dX5_feed_6).trans (e_ifne (t := 15) (by decide))
theorem sX5_feed_9 : lim cal sc 5 cX5_feed ret 9 (some (.ref h) :: l) st M = lim cal sc 5 cX5_feed ret 10 (some (.ref h) :: l) (.ref h :: st) M := lim_step dX5_feed_9
theorem sX5_feed_10 : lim cal sc 5 cX5_feed ret 10 lv st M = lim cal sc 5 cX5_feed ret 11 lv (.int 0 :: st) M := (lim_step dX5_feed_10).trans (e_ic k_i_0)
theorem sX5_feed_11 : lim cal sc 5 cX5_feed ret 11 lv (a1 :: .ref h :: st) M = guK (isCl 4 h) (guK (rk 8 st) (calK (cal 2 [.ref h, a1] M) fun q M' => lim cal sc 5 cX5_feed ret 14 lv (q.toList ++ st) M')) := (lim_step dX5_feed_11).trans (e_virt1 rm_5_69 mq_2)
theorem sX5_feed_14 : lim cal sc 5 cX5_feed (some .int) 14 lv [.int x] M = some (some (.int x), M) := (lim_step dX5_feed_14).trans (e_iret)
theorem sX5_feed_15 : lim cal sc 5 cX5_feed ret 15 (some (.ref h) :: l) st M = lim cal sc 5 cX5_feed ret 16 (some (.ref h) :: l) (.ref h :: st) M := lim_step dX5_feed_15
theorem sX5_feed_16 : lim cal sc 5 cX5_feed ret 16 lv (.ref h :: st) M = opK (slotV 4 3 h M) fun q => lim cal sc 5 cX5_feed ret 19 lv (q :: st) M := (lim_step dX5_feed_16).trans (e_get (by decide) rf_5_26)
theorem sX5_feed_19 : lim cal sc 5 cX5_feed ret 19 lv (.ref h :: st) M = opK (slotV 3 1 h M) fun q => lim cal sc 5 cX5_feed ret 22 lv (q :: st) M := (lim_step dX5_feed_19).trans (e_get (by decide) rf_5_256)
theorem sX5_feed_22 : lim cal sc 5 cX5_feed ret 22 (v0 :: v1 :: some (.int x) :: l) st M = lim cal sc 5 cX5_feed ret 23 (v0 :: v1 :: some (.int x) :: l) (.int x :: st) M := lim_step dX5_feed_22
theorem sX5_feed_23 : lim cal sc 5 cX5_feed ret 23 lv (.int y :: .int x :: st) M = lim cal sc 5 cX5_feed ret 24 lv (.int (x + y) :: st) M := lim_step dX5_feed_23
theorem sX5_feed_24 : lim cal sc 5 cX5_feed ret 24 lv st M = lim cal sc 5 cX5_feed ret 26 lv (.int 120 :: st) M := (lim_step dX5_feed_24).trans (e_bi k_b_120)
theorem sX5_feed_26 : lim cal sc 5 cX5_feed ret 26 lv (.int y :: .int x :: st) M = if x ≤ y then lim cal sc 5 cX5_feed ret 35 lv st M else lim cal sc 5 cX5_feed ret 29 lv st M := (lim_step dX5_feed_26).trans (e_cmple (t := 35) (by decide))
theorem sX5_feed_29 : lim cal sc 5 cX5_feed ret 29 (some (.ref h) :: l) st M = lim cal sc 5 cX5_feed ret 30 (some (.ref h) :: l) (.ref h :: st) M := lim_step dX5_feed_29
theorem sX5_feed_30 : lim cal sc 5 cX5_feed ret 30 lv st M = lim cal sc 5 cX5_feed ret 31 lv (.int 1 :: st) M := (lim_step dX5_feed_30).trans (e_ic k_i_1)
theorem sX5_feed_31 : lim cal sc 5 cX5_feed ret 31 lv (a1 :: .ref h :: st) M = guK (isCl 4 h) (guK (rk 8 st) (calK (cal 2 [.ref h, a1] M) fun q M' => lim cal sc 5 cX5_feed ret 34 lv (q.toList ++ st) M')) := (lim_step dX5_feed_31).trans (e_virt1 rm_5_69 mq_2)
theorem sX5_feed_34 : lim cal sc 5 cX5_feed (some .int) 34 lv [.int x] M = some (some (.int x), M) := (lim_step dX5_feed_34).trans (e_iret)
theorem sX5_feed_35 : lim cal sc 5 cX5_feed ret 35 (v0 :: v1 :: some (.int x) :: l) st M = lim cal sc 5 cX5_feed ret 36 (v0 :: v1 :: some (.int x) :: l) (.int x :: st) M := lim_step dX5_feed_35
theorem sX5_feed_36 : lim cal sc 5 cX5_feed ret 36 lv st M = lim cal sc 5 cX5_feed ret 37 lv (.int 1 :: st) M := (lim_step dX5_feed_36).trans (e_ic k_i_1)
theorem sX5_feed_37 : lim cal sc 5 cX5_feed ret 37 lv (.int y :: .int x :: st) M = lim cal sc 5 cX5_feed ret 38 lv (.int (x - y) :: st) M := lim_step dX5_feed_37
theorem sX5_feed_38 : lim cal sc 5 cX5_feed ret 38 (v0 :: v1 :: v2 :: v :: l) (.int x :: st) M = lim cal sc 5 cX5_feed ret 39 (v0 :: v1 :: v2 :: some (.int x) :: l) st M := (lim_step dX5_feed_38).trans (e_istn3)
theorem sX5_feed_39 : lim cal sc 5 cX5_feed ret 39 (v0 :: v1 :: v2 :: some (.int x) :: l) st M = lim cal sc 5 cX5_feed ret 40 (v0 :: v1 :: v2 :: some (.int x) :: l) (.int x :: st) M := lim_step dX5_feed_39
theorem sX5_feed_40 : lim cal sc 5 cX5_feed ret 40 lv (.int x :: st) M = if x < 0 then lim cal sc 5 cX5_feed ret 66 lv st M else lim cal sc 5 cX5_feed ret 43 lv st M := (lim_step dX5_feed_40).trans (e_iflt (t := 66) (by decide))
theorem sX5_feed_43 : lim cal sc 5 cX5_feed ret 43 (some (.ref h) :: l) st M = lim cal sc 5 cX5_feed ret 44 (some (.ref h) :: l) (.ref h :: st) M := lim_step dX5_feed_43
theorem sX5_feed_44 : lim cal sc 5 cX5_feed ret 44 lv (.ref h :: st) M = opK (slotV 4 3 h M) fun q => lim cal sc 5 cX5_feed ret 47 lv (q :: st) M := (lim_step dX5_feed_44).trans (e_get (by decide) rf_5_26)
theorem sX5_feed_47 : lim cal sc 5 cX5_feed ret 47 (v0 :: some (.int x) :: l) st M = lim cal sc 5 cX5_feed ret 48 (v0 :: some (.int x) :: l) (.int x :: st) M := lim_step dX5_feed_47
theorem sX5_feed_48 : lim cal sc 5 cX5_feed ret 48 lv st M = lim cal sc 5 cX5_feed ret 50 lv (.int 8 :: st) M := (lim_step dX5_feed_48).trans (e_bi k_b_8)
theorem sX5_feed_50 : lim cal sc 5 cX5_feed ret 50 (v0 :: v1 :: v2 :: some (.int x) :: l) st M = lim cal sc 5 cX5_feed ret 51 (v0 :: v1 :: v2 :: some (.int x) :: l) (.int x :: st) M := lim_step dX5_feed_50
theorem sX5_feed_51 : lim cal sc 5 cX5_feed ret 51 lv (.int y :: .int x :: st) M = lim cal sc 5 cX5_feed ret 52 lv (.int (x * y) :: st) M := lim_step dX5_feed_51
theorem sX5_feed_52 : lim cal sc 5 cX5_feed ret 52 lv (.int y :: .int x :: st) M = lim cal sc 5 cX5_feed ret 53 lv (.int (x.toUInt32 >>> (y.toUInt32 &&& Int32.toUInt32 31)).toInt32 :: st) M := lim_step dX5_feed_52
theorem sX5_feed_53 : lim cal sc 5 cX5_feed ret 53 lv st M = lim cal sc 5 cX5_feed ret 56 lv (.int 255 :: st) M := (lim_step dX5_feed_53).trans (e_si k_s_255)
theorem sX5_feed_56 : lim cal sc 5 cX5_feed ret 56 lv (.int y :: .int x :: st) M = lim cal sc 5 cX5_feed ret 57 lv (.int (x &&& y) :: st) M := lim_step dX5_feed_56
theorem sX5_feed_57 : lim cal sc 5 cX5_feed ret 57 lv (a1 :: .ref h :: st) M = guK (isCl 3 h) (guK (rk 8 st) (calK (cal 87 [.ref h, a1] M) fun q M' => lim cal sc 5 cX5_feed ret 60 lv (q.toList ++ st) M')) := (lim_step dX5_feed_57).trans (e_virt1 rm_5_259 mq_87)
theorem sX5_feed_60 : lim cal sc 5 cX5_feed ret 60 (v0 :: v1 :: v2 :: some (.int x) :: l) st M = lim cal sc 5 cX5_feed ret 63 (v0 :: v1 :: v2 :: some (.int (x + (-1))) :: l) st M := (lim_step dX5_feed_60).trans (e_inc3 k_i_m1)
theorem sX5_feed_63 : lim cal sc 5 cX5_feed ret 63 lv st M = lim cal sc 5 cX5_feed ret 39 lv st M := (lim_step dX5_feed_63).trans (e_goto (t := 39) (by decide))
theorem sX5_feed_66 : lim cal sc 5 cX5_feed ret 66 (some (.ref h) :: l) st M = lim cal sc 5 cX5_feed ret 67 (some (.ref h) :: l) (.ref h :: st) M := lim_step dX5_feed_66
theorem sX5_feed_67 : lim cal sc 5 cX5_feed ret 67 lv (.ref h :: st) M = opK (slotV 4 3 h M) fun q => lim cal sc 5 cX5_feed ret 70 lv (q :: st) M := (lim_step dX5_feed_67).trans (e_get (by decide) rf_5_26)
theorem sX5_feed_70 : lim cal sc 5 cX5_feed ret 70 lv (.ref h :: st) M = opK (slotV 3 1 h M) fun q => lim cal sc 5 cX5_feed ret 73 lv (q :: st) M := (lim_step dX5_feed_70).trans (e_get (by decide) rf_5_256)
theorem sX5_feed_73 : lim cal sc 5 cX5_feed (some .int) 73 lv [.int x] M = some (some (.int x), M) := (lim_step dX5_feed_73).trans (e_iret)
theorem sX5_wipe_0 : lim cal sc 5 cX5_wipe ret 0 (some (.ref h) :: l) st M = lim cal sc 5 cX5_wipe ret 1 (some (.ref h) :: l) (.ref h :: st) M := lim_step dX5_wipe_0
theorem sX5_wipe_1 : lim cal sc 5 cX5_wipe ret 1 lv (.ref h :: st) M = opK (slotV 4 3 h M) fun q => lim cal sc 5 cX5_wipe ret 4 lv (q :: st) M := (lim_step dX5_wipe_1).trans (e_get (by decide) rf_5_26)
theorem sX5_wipe_4 : lim cal sc 5 cX5_wipe ret 4 lv (.ref h :: st) M = opK (slotV 3 1 h M) fun q => lim cal sc 5 cX5_wipe ret 7 lv (q :: st) M := (lim_step dX5_wipe_4).trans (e_get (by decide) rf_5_256)
theorem sX5_wipe_7 : lim cal sc 5 cX5_wipe ret 7 (v0 :: v :: l) (.int x :: st) M = lim cal sc 5 cX5_wipe ret 8 (v0 :: some (.int x) :: l) st M := (lim_step dX5_wipe_7).trans (e_istn1)
theorem sX5_wipe_8 : lim cal sc 5 cX5_wipe ret 8 (some (.ref h) :: l) st M = lim cal sc 5 cX5_wipe ret 9 (some (.ref h) :: l) (.ref h :: st) M := lim_step dX5_wipe_8
theorem sX5_wipe_9 : lim cal sc 5 cX5_wipe ret 9 lv (.ref h :: st) M = opK (slotV 4 3 h M) fun q => lim cal sc 5 cX5_wipe ret 12 lv (q :: st) M := (lim_step dX5_wipe_9).trans (e_get (by decide) rf_5_26)
theorem sX5_wipe_12 : lim cal sc 5 cX5_wipe ret 12 lv st M = lim cal sc 5 cX5_wipe ret 13 lv (.int 0 :: st) M := (lim_step dX5_wipe_12).trans (e_ic k_i_0)
theorem sX5_wipe_13 : lim cal sc 5 cX5_wipe ret 13 lv (.int x :: .ref h :: st) M = guK (isInt 3 1 h) (lim cal sc 5 cX5_wipe ret 16 lv st (mset M h 1 x)) := (lim_step dX5_wipe_13).trans (e_put rf_5_256 rfl)
theorem sX5_wipe_16 : lim cal sc 5 cX5_wipe ret 16 (v0 :: some (.int x) :: l) st M = lim cal sc 5 cX5_wipe ret 17 (v0 :: some (.int x) :: l) (.int x :: st) M := lim_step dX5_wipe_16
theorem sX5_wipe_17 : lim cal sc 5 cX5_wipe (some .int) 17 lv [.int x] M = some (some (.int x), M) := (lim_step dX5_wipe_17).trans (e_iret)
theorem sX5_text_0 : lim cal sc 5 cX5_text ret 0 (some (.ref h) :: l) st M = lim cal sc 5 cX5_text ret 1 (some (.ref h) :: l) (.ref h :: st) M := lim_step dX5_text_0
theorem sX5_text_1 : lim cal sc 5 cX5_text ret 1 lv (.ref h :: st) M = opK (slotV 4 6 h M) fun q => lim cal sc 5 cX5_text ret 4 lv (q :: st) M := (lim_step dX5_text_1).trans (e_get (by decide) rf_5_43)
theorem sX5_text_4 : lim cal sc 5 cX5_text ret 4 (some (.ref h) :: l) st M = lim cal sc 5 cX5_text ret 5 (some (.ref h) :: l) (.ref h :: st) M := lim_step dX5_text_4
theorem sX5_text_5 : lim cal sc 5 cX5_text ret 5 lv (.ref h :: st) M = opK (slotV 4 0 h M) fun q => lim cal sc 5 cX5_text ret 8 lv (q :: st) M := (lim_step dX5_text_5).trans (e_get (by decide) rf_5_10)
theorem sX5_text_8 : lim cal sc 5 cX5_text ret 8 lv (.ref h :: st) M = opK (slotV 0 0 h M) fun q => lim cal sc 5 cX5_text ret 11 lv (q :: st) M := (lim_step dX5_text_8).trans (e_get (by decide) rf_5_73)
theorem sX5_text_11 : lim cal sc 5 cX5_text ret 11 lv (a1 :: .ref h :: st) M = guK (isCl 1 h) (guK (rk 8 st) (calK (cal 34 [.ref h, a1] M) fun q M' => lim cal sc 5 cX5_text ret 14 lv (q.toList ++ st) M')) := (lim_step dX5_text_11).trans (e_virt1 rm_5_160 mq_34)
theorem sX5_text_14 : lim cal sc 5 cX5_text ret 14 (some (.ref h) :: l) st M = lim cal sc 5 cX5_text ret 15 (some (.ref h) :: l) (.ref h :: st) M := lim_step dX5_text_14
theorem sX5_text_15 : lim cal sc 5 cX5_text ret 15 lv (.ref h :: st) M = opK (slotV 4 3 h M) fun q => lim cal sc 5 cX5_text ret 18 lv (q :: st) M := (lim_step dX5_text_15).trans (e_get (by decide) rf_5_26)
theorem sX5_text_18 : lim cal sc 5 cX5_text ret 18 (some (.ref h) :: l) st M = lim cal sc 5 cX5_text ret 19 (some (.ref h) :: l) (.ref h :: st) M := lim_step dX5_text_18
theorem sX5_text_19 : lim cal sc 5 cX5_text ret 19 lv (.ref h :: st) M = opK (slotV 4 6 h M) fun q => lim cal sc 5 cX5_text ret 22 lv (q :: st) M := (lim_step dX5_text_19).trans (e_get (by decide) rf_5_43)
theorem sX5_text_22 : lim cal sc 5 cX5_text ret 22 lv (a1 :: .ref h :: st) M = guK (isCl 3 h) (guK (rk 8 st) (calK (cal 90 [.ref h, a1] M) fun q M' => lim cal sc 5 cX5_text ret 25 lv (q.toList ++ st) M')) := (lim_step dX5_text_22).trans (e_virt1 rm_5_262 mq_90)
theorem sX5_text_25 : lim cal sc 5 cX5_text ret 25 (v0 :: v :: l) (.int x :: st) M = lim cal sc 5 cX5_text ret 26 (v0 :: some (.int x) :: l) st M := (lim_step dX5_text_25).trans (e_istn1)
theorem sX5_text_26 : lim cal sc 5 cX5_text ret 26 (v0 :: some (.int x) :: l) st M = lim cal sc 5 cX5_text ret 27 (v0 :: some (.int x) :: l) (.int x :: st) M := lim_step dX5_text_26
theorem sX5_text_27 : lim cal sc 5 cX5_text ret 27 lv (.int x :: st) M = if x < 0 then lim cal sc 5 cX5_text ret 44 lv st M else lim cal sc 5 cX5_text ret 30 lv st M := (lim_step dX5_text_27).trans (e_iflt (t := 44) (by decide))
theorem sX5_text_30 : lim cal sc 5 cX5_text ret 30 (some (.ref h) :: l) st M = lim cal sc 5 cX5_text ret 31 (some (.ref h) :: l) (.ref h :: st) M := lim_step dX5_text_30
theorem sX5_text_31 : lim cal sc 5 cX5_text ret 31 lv (.ref h :: st) M = opK (slotV 4 0 h M) fun q => lim cal sc 5 cX5_text ret 34 lv (q :: st) M := (lim_step dX5_text_31).trans (e_get (by decide) rf_5_10)
theorem sX5_text_34 : lim cal sc 5 cX5_text ret 34 lv (.ref h :: st) M = opK (slotV 0 0 h M) fun q => lim cal sc 5 cX5_text ret 37 lv (q :: st) M := (lim_step dX5_text_34).trans (e_get (by decide) rf_5_73)
theorem sX5_text_37 : lim cal sc 5 cX5_text ret 37 (some (.ref h) :: l) st M = lim cal sc 5 cX5_text ret 38 (some (.ref h) :: l) (.ref h :: st) M := lim_step dX5_text_37
theorem sX5_text_38 : lim cal sc 5 cX5_text ret 38 lv (.ref h :: st) M = opK (slotV 4 6 h M) fun q => lim cal sc 5 cX5_text ret 41 lv (q :: st) M := (lim_step dX5_text_38).trans (e_get (by decide) rf_5_43)
theorem sX5_text_41 : lim cal sc 5 cX5_text ret 41 lv (a1 :: .ref h :: st) M = guK (isCl 1 h) (guK (rk 8 st) (calK (cal 34 [.ref h, a1] M) fun q M' => lim cal sc 5 cX5_text ret 44 lv (q.toList ++ st) M')) := (lim_step dX5_text_41).trans (e_virt1 rm_5_160 mq_34)
theorem sX5_text_44 : lim cal sc 5 cX5_text ret 44 (some (.ref h) :: l) st M = lim cal sc 5 cX5_text ret 45 (some (.ref h) :: l) (.ref h :: st) M := lim_step dX5_text_44
theorem sX5_text_45 : lim cal sc 5 cX5_text ret 45 lv (.ref h :: st) M = opK (slotV 4 3 h M) fun q => lim cal sc 5 cX5_text ret 48 lv (q :: st) M := (lim_step dX5_text_45).trans (e_get (by decide) rf_5_26)
theorem sX5_text_48 : lim cal sc 5 cX5_text ret 48 lv st M = lim cal sc 5 cX5_text ret 49 lv (.int 0 :: st) M := (lim_step dX5_text_48).trans (e_ic k_i_0)
theorem sX5_text_49 : lim cal sc 5 cX5_text ret 49 lv (.int x :: .ref h :: st) M = guK (isInt 3 1 h) (lim cal sc 5 cX5_text ret 52 lv st (mset M h 1 x)) := (lim_step dX5_text_49).trans (e_put rf_5_256 rfl)
theorem sX5_text_52 : lim cal sc 5 cX5_text ret 52 (v0 :: some (.int x) :: l) st M = lim cal sc 5 cX5_text ret 53 (v0 :: some (.int x) :: l) (.int x :: st) M := lim_step dX5_text_52
theorem sX5_text_53 : lim cal sc 5 cX5_text (some .int) 53 lv [.int x] M = some (some (.int x), M) := (lim_step dX5_text_53).trans (e_iret)
theorem sX5_hold_0 : lim cal sc 5 cX5_hold ret 0 (v0 :: some (.int x) :: l) st M = lim cal sc 5 cX5_hold ret 1 (v0 :: some (.int x) :: l) (.int x :: st) M := lim_step dX5_hold_0
theorem sX5_hold_1 : lim cal sc 5 cX5_hold ret 1 lv st M = lim cal sc 5 cX5_hold ret 2 lv (.int 0 :: st) M := (lim_step dX5_hold_1).trans (e_ic k_i_0)
theorem sX5_hold_2 : lim cal sc 5 cX5_hold ret 2 lv st M = lim cal sc 5 cX5_hold ret 4 lv (.int 9 :: st) M := (lim_step dX5_hold_2).trans (e_bi k_b_9)
theorem sX5_hold_4 : lim cal sc 5 cX5_hold ret 4 lv (a3 :: a2 :: a1 :: st) M = guK (rk 8 st) (calK (cal 1 [a1, a2, a3] M) fun q M' => lim cal sc 5 cX5_hold ret 7 lv (q.toList ++ st) M') := (lim_step dX5_hold_4).trans (e_stat3 rm_5_65)
theorem sX5_hold_7 : lim cal sc 5 cX5_hold ret 7 lv (.int x :: st) M = if x = 0 then lim cal sc 5 cX5_hold ret 23 lv st M else lim cal sc 5 cX5_hold ret 10 lv st M := (lim_step dX5_hold_7).trans (e_ifeq (t := 23) (by decide))
theorem sX5_hold_10 : lim cal sc 5 cX5_hold ret 10 (v0 :: v1 :: some (.int x) :: l) st M = lim cal sc 5 cX5_hold ret 11 (v0 :: v1 :: some (.int x) :: l) (.int x :: st) M := lim_step dX5_hold_10
theorem sX5_hold_11 : lim cal sc 5 cX5_hold ret 11 lv st M = lim cal sc 5 cX5_hold ret 12 lv (.int (-1) :: st) M := (lim_step dX5_hold_11).trans (e_ic k_i_m1)
theorem sX5_hold_12 : lim cal sc 5 cX5_hold ret 12 lv (.int y :: .int x :: st) M = if x = y then lim cal sc 5 cX5_hold ret 29 lv st M else lim cal sc 5 cX5_hold ret 15 lv st M := (lim_step dX5_hold_12).trans (e_cmpeq (t := 29) (by decide))
theorem sX5_hold_15 : lim cal sc 5 cX5_hold ret 15 (some (.ref h) :: l) st M = lim cal sc 5 cX5_hold ret 16 (some (.ref h) :: l) (.ref h :: st) M := lim_step dX5_hold_15
theorem sX5_hold_16 : lim cal sc 5 cX5_hold ret 16 (v0 :: v1 :: some (.int x) :: l) st M = lim cal sc 5 cX5_hold ret 17 (v0 :: v1 :: some (.int x) :: l) (.int x :: st) M := lim_step dX5_hold_16
theorem sX5_hold_17 : lim cal sc 5 cX5_hold ret 17 lv (a1 :: .ref h :: st) M = guK (isCl 4 h) (guK (rk 8 st) (calK (cal 6 [.ref h, a1] M) fun q M' => lim cal sc 5 cX5_hold ret 20 lv (q.toList ++ st) M')) := (lim_step dX5_hold_17).trans (e_virt1 rm_5_82 mq_6)
theorem sX5_hold_20 : lim cal sc 5 cX5_hold ret 20 lv (.int x :: st) M = if x = 0 then lim cal sc 5 cX5_hold ret 23 lv st M else lim cal sc 5 cX5_hold ret 29 lv st M := (lim_step dX5_hold_20).trans (e_ifne (t := 29) (by decide))
theorem sX5_hold_23 : lim cal sc 5 cX5_hold ret 23 (some (.ref h) :: l) st M = lim cal sc 5 cX5_hold ret 24 (some (.ref h) :: l) (.ref h :: st) M := lim_step dX5_hold_23
theorem sX5_hold_24 : lim cal sc 5 cX5_hold ret 24 lv st M = lim cal sc 5 cX5_hold ret 25 lv (.int 0 :: st) M := (lim_step dX5_hold_24).trans (e_ic k_i_0)
theorem sX5_hold_25 : lim cal sc 5 cX5_hold ret 25 lv (a1 :: .ref h :: st) M = guK (isCl 4 h) (guK (rk 8 st) (calK (cal 2 [.ref h, a1] M) fun q M' => lim cal sc 5 cX5_hold ret 28 lv (q.toList ++ st) M')) := (lim_step dX5_hold_25).trans (e_virt1 rm_5_69 mq_2)
theorem sX5_hold_28 : lim cal sc 5 cX5_hold (some .int) 28 lv [.int x] M = some (some (.int x), M) := (lim_step dX5_hold_28).trans (e_iret)
theorem sX5_hold_29 : lim cal sc 5 cX5_hold ret 29 (some (.ref h) :: l) st M = lim cal sc 5 cX5_hold ret 30 (some (.ref h) :: l) (.ref h :: st) M := lim_step dX5_hold_29
theorem sX5_hold_30 : lim cal sc 5 cX5_hold ret 30 lv (.ref h :: st) M = opK (slotV 4 0 h M) fun q => lim cal sc 5 cX5_hold ret 33 lv (q :: st) M := (lim_step dX5_hold_30).trans (e_get (by decide) rf_5_10)
theorem sX5_hold_33 : lim cal sc 5 cX5_hold ret 33 lv (.ref h :: st) M = opK (slotV 0 8 h M) fun q => lim cal sc 5 cX5_hold ret 36 lv (q :: st) M := (lim_step dX5_hold_33).trans (e_get (by decide) rf_5_266)
theorem sX5_hold_36 : lim cal sc 5 cX5_hold ret 36 (v0 :: some (.int x) :: l) st M = lim cal sc 5 cX5_hold ret 37 (v0 :: some (.int x) :: l) (.int x :: st) M := lim_step dX5_hold_36
theorem sX5_hold_37 : lim cal sc 5 cX5_hold ret 37 (v0 :: v1 :: some (.int x) :: l) st M = lim cal sc 5 cX5_hold ret 38 (v0 :: v1 :: some (.int x) :: l) (.int x :: st) M := lim_step dX5_hold_37
theorem sX5_hold_38 : lim cal sc 5 cX5_hold ret 38 lv (.int y :: .int x :: .ref h :: st) M = opK (arrN h) fun q => guK (inb x q) (lim cal sc 5 cX5_hold ret 39 lv st (mset M h x.toNatClampNeg y)) := (lim_step dX5_hold_38).trans (e_iast)
theorem sX5_hold_39 : lim cal sc 5 cX5_hold ret 39 lv st M = lim cal sc 5 cX5_hold ret 40 lv (.int 1 :: st) M := (lim_step dX5_hold_39).trans (e_ic k_i_1)
theorem sX5_hold_40 : lim cal sc 5 cX5_hold (some .int) 40 lv [.int x] M = some (some (.int x), M) := (lim_step dX5_hold_40).trans (e_iret)
theorem sX5_as_0 : lim cal sc 5 cX5_as ret 0 (v0 :: some (.int x) :: l) st M = lim cal sc 5 cX5_as ret 1 (v0 :: some (.int x) :: l) (.int x :: st) M := lim_step dX5_as_0
theorem sX5_as_1 : lim cal sc 5 cX5_as ret 1 lv st M = lim cal sc 5 cX5_as ret 2 lv (.int 0 :: st) M := (lim_step dX5_as_1).trans (e_ic k_i_0)
theorem sX5_as_2 : lim cal sc 5 cX5_as ret 2 lv st M = lim cal sc 5 cX5_as ret 4 lv (.int 9 :: st) M := (lim_step dX5_as_2).trans (e_bi k_b_9)
theorem sX5_as_4 : lim cal sc 5 cX5_as ret 4 lv (a3 :: a2 :: a1 :: st) M = guK (rk 8 st) (calK (cal 1 [a1, a2, a3] M) fun q M' => lim cal sc 5 cX5_as ret 7 lv (q.toList ++ st) M') := (lim_step dX5_as_4).trans (e_stat3 rm_5_65)
theorem sX5_as_7 : lim cal sc 5 cX5_as ret 7 lv (.int x :: st) M = if x = 0 then lim cal sc 5 cX5_as ret 20 lv st M else lim cal sc 5 cX5_as ret 10 lv st M := (lim_step dX5_as_7).trans (e_ifeq (t := 20) (by decide))
theorem sX5_as_10 : lim cal sc 5 cX5_as ret 10 (v0 :: v1 :: some (.int x) :: l) st M = lim cal sc 5 cX5_as ret 11 (v0 :: v1 :: some (.int x) :: l) (.int x :: st) M := lim_step dX5_as_10
theorem sX5_as_11 : lim cal sc 5 cX5_as ret 11 lv st M = lim cal sc 5 cX5_as ret 12 lv (.int 0 :: st) M := (lim_step dX5_as_11).trans (e_ic k_i_0)
theorem sX5_as_12 : lim cal sc 5 cX5_as ret 12 lv st M = lim cal sc 5 cX5_as ret 14 lv (.int 6 :: st) M := (lim_step dX5_as_12).trans (e_bi k_b_6)
theorem sX5_as_14 : lim cal sc 5 cX5_as ret 14 lv (a3 :: a2 :: a1 :: st) M = guK (rk 8 st) (calK (cal 1 [a1, a2, a3] M) fun q M' => lim cal sc 5 cX5_as ret 17 lv (q.toList ++ st) M') := (lim_step dX5_as_14).trans (e_stat3 rm_5_65)
theorem sX5_as_17 : lim cal sc 5 cX5_as ret 17 lv (.int x :: st) M = if x = 0 then lim cal sc 5 cX5_as ret 20 lv st M else lim cal sc 5 cX5_as ret 26 lv st M := (lim_step dX5_as_17).trans (e_ifne (t := 26) (by decide))
theorem sX5_as_20 : lim cal sc 5 cX5_as ret 20 (some (.ref h) :: l) st M = lim cal sc 5 cX5_as ret 21 (some (.ref h) :: l) (.ref h :: st) M := lim_step dX5_as_20
theorem sX5_as_21 : lim cal sc 5 cX5_as ret 21 lv st M = lim cal sc 5 cX5_as ret 22 lv (.int 0 :: st) M := (lim_step dX5_as_21).trans (e_ic k_i_0)
theorem sX5_as_22 : lim cal sc 5 cX5_as ret 22 lv (a1 :: .ref h :: st) M = guK (isCl 4 h) (guK (rk 8 st) (calK (cal 2 [.ref h, a1] M) fun q M' => lim cal sc 5 cX5_as ret 25 lv (q.toList ++ st) M')) := (lim_step dX5_as_22).trans (e_virt1 rm_5_69 mq_2)
theorem sX5_as_25 : lim cal sc 5 cX5_as (some .int) 25 lv [.int x] M = some (some (.int x), M) := (lim_step dX5_as_25).trans (e_iret)
theorem sX5_as_26 : lim cal sc 5 cX5_as ret 26 (some (.ref h) :: l) st M = lim cal sc 5 cX5_as ret 27 (some (.ref h) :: l) (.ref h :: st) M := lim_step dX5_as_26
theorem sX5_as_27 : lim cal sc 5 cX5_as ret 27 lv (.ref h :: st) M = opK (slotV 4 0 h M) fun q => lim cal sc 5 cX5_as ret 30 lv (q :: st) M := (lim_step dX5_as_27).trans (e_get (by decide) rf_5_10)
theorem sX5_as_30 : lim cal sc 5 cX5_as ret 30 lv (.ref h :: st) M = opK (slotV 0 8 h M) fun q => lim cal sc 5 cX5_as ret 33 lv (q :: st) M := (lim_step dX5_as_30).trans (e_get (by decide) rf_5_266)
theorem sX5_as_33 : lim cal sc 5 cX5_as ret 33 (v0 :: some (.int x) :: l) st M = lim cal sc 5 cX5_as ret 34 (v0 :: some (.int x) :: l) (.int x :: st) M := lim_step dX5_as_33
theorem sX5_as_34 : lim cal sc 5 cX5_as ret 34 lv (.int x :: .ref h :: st) M = opK (arrV9 sc h M) fun q => guK (inb x q.1) (lim cal sc 5 cX5_as ret 35 lv (.int (q.2 x.toNatClampNeg) :: st) M) := (lim_step dX5_as_34).trans (e_iald)
theorem sX5_as_35 : lim cal sc 5 cX5_as ret 35 (v0 :: v1 :: v2 :: v :: l) (.int x :: st) M = lim cal sc 5 cX5_as ret 36 (v0 :: v1 :: v2 :: some (.int x) :: l) st M := (lim_step dX5_as_35).trans (e_istn3)
theorem sX5_as_36 : lim cal sc 5 cX5_as ret 36 (some (.ref h) :: l) st M = lim cal sc 5 cX5_as ret 37 (some (.ref h) :: l) (.ref h :: st) M := lim_step dX5_as_36
theorem sX5_as_37 : lim cal sc 5 cX5_as ret 37 (v0 :: v1 :: v2 :: some (.int x) :: l) st M = lim cal sc 5 cX5_as ret 38 (v0 :: v1 :: v2 :: some (.int x) :: l) (.int x :: st) M := lim_step dX5_as_37
theorem sX5_as_38 : lim cal sc 5 cX5_as ret 38 lv (a1 :: .ref h :: st) M = guK (isCl 4 h) (guK (rk 8 st) (calK (cal 6 [.ref h, a1] M) fun q M' => lim cal sc 5 cX5_as ret 41 lv (q.toList ++ st) M')) := (lim_step dX5_as_38).trans (e_virt1 rm_5_82 mq_6)
theorem sX5_as_41 : lim cal sc 5 cX5_as ret 41 lv (.int x :: st) M = if x = 0 then lim cal sc 5 cX5_as ret 44 lv st M else lim cal sc 5 cX5_as ret 50 lv st M := (lim_step dX5_as_41).trans (e_ifne (t := 50) (by decide))
theorem sX5_as_44 : lim cal sc 5 cX5_as ret 44 (some (.ref h) :: l) st M = lim cal sc 5 cX5_as ret 45 (some (.ref h) :: l) (.ref h :: st) M := lim_step dX5_as_44
theorem sX5_as_45 : lim cal sc 5 cX5_as ret 45 lv st M = lim cal sc 5 cX5_as ret 46 lv (.int 5 :: st) M := (lim_step dX5_as_45).trans (e_ic k_i_5)
theorem sX5_as_46 : lim cal sc 5 cX5_as ret 46 lv (a1 :: .ref h :: st) M = guK (isCl 4 h) (guK (rk 8 st) (calK (cal 2 [.ref h, a1] M) fun q M' => lim cal sc 5 cX5_as ret 49 lv (q.toList ++ st) M')) := (lim_step dX5_as_46).trans (e_virt1 rm_5_69 mq_2)
theorem sX5_as_49 : lim cal sc 5 cX5_as (some .int) 49 lv [.int x] M = some (some (.int x), M) := (lim_step dX5_as_49).trans (e_iret)
theorem sX5_as_50 : lim cal sc 5 cX5_as ret 50 (some (.ref h) :: l) st M = lim cal sc 5 cX5_as ret 51 (some (.ref h) :: l) (.ref h :: st) M := lim_step dX5_as_50
theorem sX5_as_51 : lim cal sc 5 cX5_as ret 51 lv (.ref h :: st) M = opK (slotV 4 0 h M) fun q => lim cal sc 5 cX5_as ret 54 lv (q :: st) M := (lim_step dX5_as_51).trans (e_get (by decide) rf_5_10)
theorem sX5_as_54 : lim cal sc 5 cX5_as ret 54 lv (.ref h :: st) M = opK (slotV 0 0 h M) fun q => lim cal sc 5 cX5_as ret 57 lv (q :: st) M := (lim_step dX5_as_54).trans (e_get (by decide) rf_5_73)
theorem sX5_as_57 : lim cal sc 5 cX5_as ret 57 lv (.ref h :: st) M = opK (slotV 1 1 h M) fun q => lim cal sc 5 cX5_as ret 60 lv (q :: st) M := (lim_step dX5_as_57).trans (e_get (by decide) rf_5_269)
theorem sX5_as_60 : lim cal sc 5 cX5_as ret 60 (v0 :: v1 :: v2 :: some (.int x) :: l) st M = lim cal sc 5 cX5_as ret 61 (v0 :: v1 :: v2 :: some (.int x) :: l) (.int x :: st) M := lim_step dX5_as_60
theorem sX5_as_61 : lim cal sc 5 cX5_as ret 61 lv (.int x :: .ref h :: st) M = opK (arrV9 sc h M) fun q => guK (inb x q.1) (lim cal sc 5 cX5_as ret 62 lv (.int (q.2 x.toNatClampNeg) :: st) M) := (lim_step dX5_as_61).trans (e_iald)
theorem sX5_as_62 : lim cal sc 5 cX5_as ret 62 (v0 :: v1 :: some (.int x) :: l) st M = lim cal sc 5 cX5_as ret 63 (v0 :: v1 :: some (.int x) :: l) (.int x :: st) M := lim_step dX5_as_62
theorem sX5_as_63 : lim cal sc 5 cX5_as ret 63 lv (a2 :: a1 :: st) M = guK (rk 8 st) (calK (cal 115 [a1, a2] M) fun q M' => lim cal sc 5 cX5_as ret 66 lv (q.toList ++ st) M') := (lim_step dX5_as_63).trans (e_stat2 rm_5_272)
theorem sX5_as_66 : lim cal sc 5 cX5_as ret 66 lv (.int x :: st) M = if x = 0 then lim cal sc 5 cX5_as ret 73 lv st M else lim cal sc 5 cX5_as ret 69 lv st M := (lim_step dX5_as_66).trans (e_ifeq (t := 73) (by decide))
theorem sX5_as_69 : lim cal sc 5 cX5_as ret 69 (v0 :: v1 :: v2 :: some (.int x) :: l) st M = lim cal sc 5 cX5_as ret 70 (v0 :: v1 :: v2 :: some (.int x) :: l) (.int x :: st) M := lim_step dX5_as_69
theorem sX5_as_70 : lim cal sc 5 cX5_as ret 70 lv st M = lim cal sc 5 cX5_as ret 78 lv st M := (lim_step dX5_as_70).trans (e_goto (t := 78) (by decide))
theorem sX5_as_73 : lim cal sc 5 cX5_as ret 73 (some (.ref h) :: l) st M = lim cal sc 5 cX5_as ret 74 (some (.ref h) :: l) (.ref h :: st) M := lim_step dX5_as_73
theorem sX5_as_74 : lim cal sc 5 cX5_as ret 74 lv st M = lim cal sc 5 cX5_as ret 75 lv (.int 2 :: st) M := (lim_step dX5_as_74).trans (e_ic k_i_2)
theorem sX5_as_75 : lim cal sc 5 cX5_as ret 75 lv (a1 :: .ref h :: st) M = guK (isCl 4 h) (guK (rk 8 st) (calK (cal 2 [.ref h, a1] M) fun q M' => lim cal sc 5 cX5_as ret 78 lv (q.toList ++ st) M')) := (lim_step dX5_as_75).trans (e_virt1 rm_5_69 mq_2)
theorem sX5_as_78 : lim cal sc 5 cX5_as (some .int) 78 lv [.int x] M = some (some (.int x), M) := (lim_step dX5_as_78).trans (e_iret)
theorem sX5_sheet_0 : lim cal sc 5 cX5_sheet ret 0 (v0 :: some (.int x) :: l) st M = lim cal sc 5 cX5_sheet ret 1 (v0 :: some (.int x) :: l) (.int x :: st) M := lim_step dX5_sheet_0
theorem sX5_sheet_1 : lim cal sc 5 cX5_sheet ret 1 lv (a1 :: st) M = guK (rk 8 st) (calK (cal 117 [a1] M) fun q M' => lim cal sc 5 cX5_sheet ret 4 lv (q.toList ++ st) M') := (lim_step dX5_sheet_1).trans (e_stat1 rm_5_277)
theorem sX5_sheet_4 : lim cal sc 5 cX5_sheet ret 4 lv (.int x :: st) M = if x = 0 then lim cal sc 5 cX5_sheet ret 29 lv st M else lim cal sc 5 cX5_sheet ret 7 lv st M := (lim_step dX5_sheet_4).trans (e_ifeq (t := 29) (by decide))
theorem sX5_sheet_7 : lim cal sc 5 cX5_sheet ret 7 (v0 :: v1 :: some (.int x) :: l) st M = lim cal sc 5 cX5_sheet ret 8 (v0 :: v1 :: some (.int x) :: l) (.int x :: st) M := lim_step dX5_sheet_7
theorem sX5_sheet_8 : lim cal sc 5 cX5_sheet ret 8 lv (.int x :: st) M = if x = 0 then lim cal sc 5 cX5_sheet ret 35 lv st M else lim cal sc 5 cX5_sheet ret 11 lv st M := (lim_step dX5_sheet_8).trans (e_ifeq (t := 35) (by decide))
theorem sX5_sheet_11 : lim cal sc 5 cX5_sheet ret 11 (v0 :: v1 :: some (.int x) :: l) st M = lim cal sc 5 cX5_sheet ret 12 (v0 :: v1 :: some (.int x) :: l) (.int x :: st) M := lim_step dX5_sheet_11
theorem sX5_sheet_12 : lim cal sc 5 cX5_sheet ret 12 lv st M = lim cal sc 5 cX5_sheet ret 14 lv (.int 8 :: st) M := (lim_step dX5_sheet_12).trans (e_bi k_b_8)
theorem sX5_sheet_14 : lim cal sc 5 cX5_sheet ret 14 lv (.int y :: .int x :: st) M = if x = y then lim cal sc 5 cX5_sheet ret 35 lv st M else lim cal sc 5 cX5_sheet ret 17 lv st M := (lim_step dX5_sheet_14).trans (e_cmpeq (t := 35) (by decide))
theorem sX5_sheet_17 : lim cal sc 5 cX5_sheet ret 17 (v0 :: v1 :: some (.int x) :: l) st M = lim cal sc 5 cX5_sheet ret 18 (v0 :: v1 :: some (.int x) :: l) (.int x :: st) M := lim_step dX5_sheet_17
theorem sX5_sheet_18 : lim cal sc 5 cX5_sheet ret 18 lv st M = lim cal sc 5 cX5_sheet ret 20 lv (.int 16 :: st) M := (lim_step dX5_sheet_18).trans (e_bi k_b_16)
theorem sX5_sheet_20 : lim cal sc 5 cX5_sheet ret 20 lv (.int y :: .int x :: st) M = if x = y then lim cal sc 5 cX5_sheet ret 35 lv st M else lim cal sc 5 cX5_sheet ret 23 lv st M := (lim_step dX5_sheet_20).trans (e_cmpeq (t := 35) (by decide))
theorem sX5_sheet_23 : lim cal sc 5 cX5_sheet ret 23 (v0 :: v1 :: some (.int x) :: l) st M = lim cal sc 5 cX5_sheet ret 24 (v0 :: v1 :: some (.int x) :: l) (.int x :: st) M := lim_step dX5_sheet_23
theorem sX5_sheet_24 : lim cal sc 5 cX5_sheet ret 24 lv st M = lim cal sc 5 cX5_sheet ret 26 lv (.int 32 :: st) M := (lim_step dX5_sheet_24).trans (e_bi k_b_32)
theorem sX5_sheet_26 : lim cal sc 5 cX5_sheet ret 26 lv (.int y :: .int x :: st) M = if x = y then lim cal sc 5 cX5_sheet ret 35 lv st M else lim cal sc 5 cX5_sheet ret 29 lv st M := (lim_step dX5_sheet_26).trans (e_cmpeq (t := 35) (by decide))
theorem sX5_sheet_29 : lim cal sc 5 cX5_sheet ret 29 (some (.ref h) :: l) st M = lim cal sc 5 cX5_sheet ret 30 (some (.ref h) :: l) (.ref h :: st) M := lim_step dX5_sheet_29
theorem sX5_sheet_30 : lim cal sc 5 cX5_sheet ret 30 lv st M = lim cal sc 5 cX5_sheet ret 31 lv (.int 0 :: st) M := (lim_step dX5_sheet_30).trans (e_ic k_i_0)
theorem sX5_sheet_31 : lim cal sc 5 cX5_sheet ret 31 lv (a1 :: .ref h :: st) M = guK (isCl 4 h) (guK (rk 8 st) (calK (cal 2 [.ref h, a1] M) fun q M' => lim cal sc 5 cX5_sheet ret 34 lv (q.toList ++ st) M')) := (lim_step dX5_sheet_31).trans (e_virt1 rm_5_69 mq_2)
theorem sX5_sheet_34 : lim cal sc 5 cX5_sheet (some .int) 34 lv [.int x] M = some (some (.int x), M) := (lim_step dX5_sheet_34).trans (e_iret)
theorem sX5_sheet_35 : lim cal sc 5 cX5_sheet ret 35 (v0 :: v1 :: v2 :: some (.int x) :: l) st M = lim cal sc 5 cX5_sheet ret 36 (v0 :: v1 :: v2 :: some (.int x) :: l) (.int x :: st) M := lim_step dX5_sheet_35
theorem sX5_sheet_36 : lim cal sc 5 cX5_sheet ret 36 lv (.int x :: st) M = if 0 ≤ x then lim cal sc 5 cX5_sheet ret 46 lv st M else lim cal sc 5 cX5_sheet ret 39 lv st M := (lim_step dX5_sheet_36).trans (e_ifge (t := 46) (by decide))
theorem sX5_sheet_39 : lim cal sc 5 cX5_sheet ret 39 (some (.ref h) :: l) st M = lim cal sc 5 cX5_sheet ret 40 (some (.ref h) :: l) (.ref h :: st) M := lim_step dX5_sheet_39
theorem sX5_sheet_40 : lim cal sc 5 cX5_sheet ret 40 lv st M = lim cal sc 5 cX5_sheet ret 42 lv (.int 6 :: st) M := (lim_step dX5_sheet_40).trans (e_bi k_b_6)
theorem sX5_sheet_42 : lim cal sc 5 cX5_sheet ret 42 lv (a1 :: .ref h :: st) M = guK (isCl 4 h) (guK (rk 8 st) (calK (cal 2 [.ref h, a1] M) fun q M' => lim cal sc 5 cX5_sheet ret 45 lv (q.toList ++ st) M')) := (lim_step dX5_sheet_42).trans (e_virt1 rm_5_69 mq_2)
theorem sX5_sheet_45 : lim cal sc 5 cX5_sheet (some .int) 45 lv [.int x] M = some (some (.int x), M) := (lim_step dX5_sheet_45).trans (e_iret)
theorem sX5_sheet_46 : lim cal sc 5 cX5_sheet ret 46 (v0 :: v1 :: v2 :: some (.int x) :: l) st M = lim cal sc 5 cX5_sheet ret 47 (v0 :: v1 :: v2 :: some (.int x) :: l) (.int x :: st) M := lim_step dX5_sheet_46
theorem sX5_sheet_47 : lim cal sc 5 cX5_sheet ret 47 lv st M = lim cal sc 5 cX5_sheet ret 49 lv (.int 40 :: st) M := (lim_step dX5_sheet_47).trans (e_bi k_b_40)
theorem sX5_sheet_49 : lim cal sc 5 cX5_sheet ret 49 lv (.int y :: .int x :: st) M = if x ≤ y then lim cal sc 5 cX5_sheet ret 58 lv st M else lim cal sc 5 cX5_sheet ret 52 lv st M := (lim_step dX5_sheet_49).trans (e_cmple (t := 58) (by decide))
theorem sX5_sheet_52 : lim cal sc 5 cX5_sheet ret 52 (some (.ref h) :: l) st M = lim cal sc 5 cX5_sheet ret 53 (some (.ref h) :: l) (.ref h :: st) M := lim_step dX5_sheet_52
theorem sX5_sheet_53 : lim cal sc 5 cX5_sheet ret 53 lv st M = lim cal sc 5 cX5_sheet ret 54 lv (.int 0 :: st) M := (lim_step dX5_sheet_53).trans (e_ic k_i_0)
theorem sX5_sheet_54 : lim cal sc 5 cX5_sheet ret 54 lv (a1 :: .ref h :: st) M = guK (isCl 4 h) (guK (rk 8 st) (calK (cal 2 [.ref h, a1] M) fun q M' => lim cal sc 5 cX5_sheet ret 57 lv (q.toList ++ st) M')) := (lim_step dX5_sheet_54).trans (e_virt1 rm_5_69 mq_2)
theorem sX5_sheet_57 : lim cal sc 5 cX5_sheet (some .int) 57 lv [.int x] M = some (some (.int x), M) := (lim_step dX5_sheet_57).trans (e_iret)
theorem sX5_sheet_58 : lim cal sc 5 cX5_sheet ret 58 (some (.ref h) :: l) st M = lim cal sc 5 cX5_sheet ret 59 (some (.ref h) :: l) (.ref h :: st) M := lim_step dX5_sheet_58
theorem sX5_sheet_59 : lim cal sc 5 cX5_sheet ret 59 lv (.ref h :: st) M = opK (slotV 4 4 h M) fun q => lim cal sc 5 cX5_sheet ret 62 lv (q :: st) M := (lim_step dX5_sheet_59).trans (e_get (by decide) rf_5_32)
theorem sX5_sheet_62 : lim cal sc 5 cX5_sheet ret 62 (v0 :: some (.int x) :: l) st M = lim cal sc 5 cX5_sheet ret 63 (v0 :: some (.int x) :: l) (.int x :: st) M := lim_step dX5_sheet_62
theorem sX5_sheet_63 : lim cal sc 5 cX5_sheet ret 63 lv (.int x :: .ref h :: st) M = opK (arrR h) fun q => guK (inb x q.length) (lim cal sc 5 cX5_sheet ret 64 lv (.ref (q.getD x.toNatClampNeg 0) :: st) M) := (lim_step dX5_sheet_63).trans (e_aald)
theorem sX5_sheet_64 : lim cal sc 5 cX5_sheet ret 64 (v0 :: v1 :: some (.int x) :: l) st M = lim cal sc 5 cX5_sheet ret 65 (v0 :: v1 :: some (.int x) :: l) (.int x :: st) M := lim_step dX5_sheet_64
theorem sX5_sheet_65 : lim cal sc 5 cX5_sheet ret 65 (v0 :: v1 :: v2 :: some (.int x) :: l) st M = lim cal sc 5 cX5_sheet ret 66 (v0 :: v1 :: v2 :: some (.int x) :: l) (.int x :: st) M := lim_step dX5_sheet_65
theorem sX5_sheet_66 : lim cal sc 5 cX5_sheet ret 66 lv (a2 :: a1 :: .ref h :: st) M = guK (isCl 2 h) (guK (rk 8 st) (calK (cal 118 [.ref h, a1, a2] M) fun q M' => lim cal sc 5 cX5_sheet ret 69 lv (q.toList ++ st) M')) := (lim_step dX5_sheet_66).trans (e_virt2 rm_5_280 mq_118)
theorem sX5_sheet_69 : lim cal sc 5 cX5_sheet ret 69 (some (.ref h) :: l) st M = lim cal sc 5 cX5_sheet ret 70 (some (.ref h) :: l) (.ref h :: st) M := lim_step dX5_sheet_69
theorem sX5_sheet_70 : lim cal sc 5 cX5_sheet ret 70 lv (.ref h :: st) M = opK (slotV 4 4 h M) fun q => lim cal sc 5 cX5_sheet ret 73 lv (q :: st) M := (lim_step dX5_sheet_70).trans (e_get (by decide) rf_5_32)
theorem sX5_sheet_73 : lim cal sc 5 cX5_sheet ret 73 (v0 :: some (.int x) :: l) st M = lim cal sc 5 cX5_sheet ret 74 (v0 :: some (.int x) :: l) (.int x :: st) M := lim_step dX5_sheet_73
theorem sX5_sheet_74 : lim cal sc 5 cX5_sheet ret 74 lv (.int x :: .ref h :: st) M = opK (arrR h) fun q => guK (inb x q.length) (lim cal sc 5 cX5_sheet ret 75 lv (.ref (q.getD x.toNatClampNeg 0) :: st) M) := (lim_step dX5_sheet_74).trans (e_aald)
theorem sX5_sheet_75 : lim cal sc 5 cX5_sheet ret 75 lv (.ref h :: st) M = opK (slotV 2 1 h M) fun q => lim cal sc 5 cX5_sheet ret 78 lv (q :: st) M := (lim_step dX5_sheet_75).trans (e_get (by decide) rf_5_284)
theorem sX5_sheet_78 : lim cal sc 5 cX5_sheet (some .int) 78 lv [.int x] M = some (some (.int x), M) := (lim_step dX5_sheet_78).trans (e_iret)
theorem sX5_write_0 : lim cal sc 5 cX5_write ret 0 (v0 :: some (.int x) :: l) st M = lim cal sc 5 cX5_write ret 1 (v0 :: some (.int x) :: l) (.int x :: st) M := lim_step dX5_write_0
theorem sX5_write_1 : lim cal sc 5 cX5_write ret 1 lv (a1 :: st) M = guK (rk 8 st) (calK (cal 117 [a1] M) fun q M' => lim cal sc 5 cX5_write ret 4 lv (q.toList ++ st) M') := (lim_step dX5_write_1).trans (e_stat1 rm_5_277)
theorem sX5_write_4 : lim cal sc 5 cX5_write ret 4 lv (.int x :: st) M = if x = 0 then lim cal sc 5 cX5_write ret 7 lv st M else lim cal sc 5 cX5_write ret 13 lv st M := (lim_step dX5_write_4).trans (e_ifne (t := 13) (by decide))
theorem sX5_write_7 : lim cal sc 5 cX5_write ret 7 (some (.ref h) :: l) st M = lim cal sc 5 cX5_write ret 8 (some (.ref h) :: l) (.ref h :: st) M := lim_step dX5_write_7
theorem sX5_write_8 : lim cal sc 5 cX5_write ret 8 lv st M = lim cal sc 5 cX5_write ret 9 lv (.int 0 :: st) M := (lim_step dX5_write_8).trans (e_ic k_i_0)
theorem sX5_write_9 : lim cal sc 5 cX5_write ret 9 lv (a1 :: .ref h :: st) M = guK (isCl 4 h) (guK (rk 8 st) (calK (cal 2 [.ref h, a1] M) fun q M' => lim cal sc 5 cX5_write ret 12 lv (q.toList ++ st) M')) := (lim_step dX5_write_9).trans (e_virt1 rm_5_69 mq_2)
theorem sX5_write_12 : lim cal sc 5 cX5_write (some .int) 12 lv [.int x] M = some (some (.int x), M) := (lim_step dX5_write_12).trans (e_iret)
theorem sX5_write_13 : lim cal sc 5 cX5_write ret 13 (some (.ref h) :: l) st M = lim cal sc 5 cX5_write ret 14 (some (.ref h) :: l) (.ref h :: st) M := lim_step dX5_write_13
theorem sX5_write_14 : lim cal sc 5 cX5_write ret 14 lv (.ref h :: st) M = opK (slotV 4 4 h M) fun q => lim cal sc 5 cX5_write ret 17 lv (q :: st) M := (lim_step dX5_write_14).trans (e_get (by decide) rf_5_32)
theorem sX5_write_17 : lim cal sc 5 cX5_write ret 17 (v0 :: some (.int x) :: l) st M = lim cal sc 5 cX5_write ret 18 (v0 :: some (.int x) :: l) (.int x :: st) M := lim_step dX5_write_17
theorem sX5_write_18 : lim cal sc 5 cX5_write ret 18 lv (.int x :: .ref h :: st) M = opK (arrR h) fun q => guK (inb x q.length) (lim cal sc 5 cX5_write ret 19 lv (.ref (q.getD x.toNatClampNeg 0) :: st) M) := (lim_step dX5_write_18).trans (e_aald)
theorem sX5_write_19 : lim cal sc 5 cX5_write ret 19 lv (.ref h :: st) M = guK (isCl 2 h) (guK (rk 8 st) (calK (cal 120 [.ref h] M) fun q M' => lim cal sc 5 cX5_write ret 22 lv (q.toList ++ st) M')) := (lim_step dX5_write_19).trans (e_virt0 rm_5_285 mq_120)
theorem sX5_write_22 : lim cal sc 5 cX5_write ret 22 lv (.int x :: st) M = if x = 0 then lim cal sc 5 cX5_write ret 31 lv st M else lim cal sc 5 cX5_write ret 25 lv st M := (lim_step dX5_write_22).trans (e_ifeq (t := 31) (by decide))
theorem sX5_write_25 : lim cal sc 5 cX5_write ret 25 (some (.ref h) :: l) st M = lim cal sc 5 cX5_write ret 26 (some (.ref h) :: l) (.ref h :: st) M := lim_step dX5_write_25
theorem sX5_write_26 : lim cal sc 5 cX5_write ret 26 lv st M = lim cal sc 5 cX5_write ret 27 lv (.int 5 :: st) M := (lim_step dX5_write_26).trans (e_ic k_i_5)
theorem sX5_write_27 : lim cal sc 5 cX5_write ret 27 lv (a1 :: .ref h :: st) M = guK (isCl 4 h) (guK (rk 8 st) (calK (cal 2 [.ref h, a1] M) fun q M' => lim cal sc 5 cX5_write ret 30 lv (q.toList ++ st) M')) := (lim_step dX5_write_27).trans (e_virt1 rm_5_69 mq_2)
theorem sX5_write_30 : lim cal sc 5 cX5_write (some .int) 30 lv [.int x] M = some (some (.int x), M) := (lim_step dX5_write_30).trans (e_iret)
theorem sX5_write_31 : lim cal sc 5 cX5_write ret 31 (v0 :: v1 :: some (.int x) :: l) st M = lim cal sc 5 cX5_write ret 32 (v0 :: v1 :: some (.int x) :: l) (.int x :: st) M := lim_step dX5_write_31
theorem sX5_write_32 : lim cal sc 5 cX5_write ret 32 lv st M = lim cal sc 5 cX5_write ret 33 lv (.int 0 :: st) M := (lim_step dX5_write_32).trans (e_ic k_i_0)
theorem sX5_write_33 : lim cal sc 5 cX5_write ret 33 (some (.ref h) :: l) st M = lim cal sc 5 cX5_write ret 34 (some (.ref h) :: l) (.ref h :: st) M := lim_step dX5_write_33
theorem sX5_write_34 : lim cal sc 5 cX5_write ret 34 lv (.ref h :: st) M = opK (slotV 4 4 h M) fun q => lim cal sc 5 cX5_write ret 37 lv (q :: st) M := (lim_step dX5_write_34).trans (e_get (by decide) rf_5_32)
theorem sX5_write_37 : lim cal sc 5 cX5_write ret 37 (v0 :: some (.int x) :: l) st M = lim cal sc 5 cX5_write ret 38 (v0 :: some (.int x) :: l) (.int x :: st) M := lim_step dX5_write_37
theorem sX5_write_38 : lim cal sc 5 cX5_write ret 38 lv (.int x :: .ref h :: st) M = opK (arrR h) fun q => guK (inb x q.length) (lim cal sc 5 cX5_write ret 39 lv (.ref (q.getD x.toNatClampNeg 0) :: st) M) := (lim_step dX5_write_38).trans (e_aald)
theorem sX5_write_39 : lim cal sc 5 cX5_write ret 39 lv (.ref h :: st) M = opK (slotV 2 1 h M) fun q => lim cal sc 5 cX5_write ret 42 lv (q :: st) M := (lim_step dX5_write_39).trans (e_get (by decide) rf_5_284)
theorem sX5_write_42 : lim cal sc 5 cX5_write ret 42 lv st M = lim cal sc 5 cX5_write ret 43 lv (.int 1 :: st) M := (lim_step dX5_write_42).trans (e_ic k_i_1)
theorem sX5_write_43 : lim cal sc 5 cX5_write ret 43 lv (.int y :: .int x :: st) M = lim cal sc 5 cX5_write ret 44 lv (.int (x - y) :: st) M := lim_step dX5_write_43
theorem sX5_write_44 : lim cal sc 5 cX5_write ret 44 lv (a3 :: a2 :: a1 :: st) M = guK (rk 8 st) (calK (cal 1 [a1, a2, a3] M) fun q M' => lim cal sc 5 cX5_write ret 47 lv (q.toList ++ st) M') := (lim_step dX5_write_44).trans (e_stat3 rm_5_65)
theorem sX5_write_47 : lim cal sc 5 cX5_write ret 47 lv (.int x :: st) M = if x = 0 then lim cal sc 5 cX5_write ret 50 lv st M else lim cal sc 5 cX5_write ret 56 lv st M := (lim_step dX5_write_47).trans (e_ifne (t := 56) (by decide))
theorem sX5_write_50 : lim cal sc 5 cX5_write ret 50 (some (.ref h) :: l) st M = lim cal sc 5 cX5_write ret 51 (some (.ref h) :: l) (.ref h :: st) M := lim_step dX5_write_50
theorem sX5_write_51 : lim cal sc 5 cX5_write ret 51 lv st M = lim cal sc 5 cX5_write ret 52 lv (.int 0 :: st) M := (lim_step dX5_write_51).trans (e_ic k_i_0)
theorem sX5_write_52 : lim cal sc 5 cX5_write ret 52 lv (a1 :: .ref h :: st) M = guK (isCl 4 h) (guK (rk 8 st) (calK (cal 2 [.ref h, a1] M) fun q M' => lim cal sc 5 cX5_write ret 55 lv (q.toList ++ st) M')) := (lim_step dX5_write_52).trans (e_virt1 rm_5_69 mq_2)
theorem sX5_write_55 : lim cal sc 5 cX5_write (some .int) 55 lv [.int x] M = some (some (.int x), M) := (lim_step dX5_write_55).trans (e_iret)
theorem sX5_write_56 : lim cal sc 5 cX5_write ret 56 (some (.ref h) :: l) st M = lim cal sc 5 cX5_write ret 57 (some (.ref h) :: l) (.ref h :: st) M := lim_step dX5_write_56
theorem sX5_write_57 : lim cal sc 5 cX5_write ret 57 lv (.ref h :: st) M = opK (slotV 4 4 h M) fun q => lim cal sc 5 cX5_write ret 60 lv (q :: st) M := (lim_step dX5_write_57).trans (e_get (by decide) rf_5_32)
theorem sX5_write_60 : lim cal sc 5 cX5_write ret 60 (v0 :: some (.int x) :: l) st M = lim cal sc 5 cX5_write ret 61 (v0 :: some (.int x) :: l) (.int x :: st) M := lim_step dX5_write_60
theorem sX5_write_61 : lim cal sc 5 cX5_write ret 61 lv (.int x :: .ref h :: st) M = opK (arrR h) fun q => guK (inb x q.length) (lim cal sc 5 cX5_write ret 62 lv (.ref (q.getD x.toNatClampNeg 0) :: st) M) := (lim_step dX5_write_61).trans (e_aald)
theorem sX5_write_62 : lim cal sc 5 cX5_write ret 62 (v0 :: v1 :: some (.int x) :: l) st M = lim cal sc 5 cX5_write ret 63 (v0 :: v1 :: some (.int x) :: l) (.int x :: st) M := lim_step dX5_write_62
theorem sX5_write_63 : lim cal sc 5 cX5_write ret 63 (v0 :: v1 :: v2 :: some (.int x) :: l) st M = lim cal sc 5 cX5_write ret 64 (v0 :: v1 :: v2 :: some (.int x) :: l) (.int x :: st) M := lim_step dX5_write_63
theorem sX5_write_64 : lim cal sc 5 cX5_write ret 64 lv (a2 :: a1 :: .ref h :: st) M = guK (isCl 2 h) (guK (rk 8 st) (calK (cal 121 [.ref h, a1, a2] M) fun q M' => lim cal sc 5 cX5_write ret 67 lv (q.toList ++ st) M')) := (lim_step dX5_write_64).trans (e_virt2 rm_5_289 mq_121)
theorem sX5_write_67 : lim cal sc 5 cX5_write ret 67 lv st M = lim cal sc 5 cX5_write ret 68 lv (.int 1 :: st) M := (lim_step dX5_write_67).trans (e_ic k_i_1)
theorem sX5_write_68 : lim cal sc 5 cX5_write (some .int) 68 lv [.int x] M = some (some (.int x), M) := (lim_step dX5_write_68).trans (e_iret)
theorem sX5_copy_0 : lim cal sc 5 cX5_copy ret 0 (v0 :: some (.int x) :: l) st M = lim cal sc 5 cX5_copy ret 1 (v0 :: some (.int x) :: l) (.int x :: st) M := lim_step dX5_copy_0
theorem sX5_copy_1 : lim cal sc 5 cX5_copy ret 1 lv (a1 :: st) M = guK (rk 8 st) (calK (cal 117 [a1] M) fun q M' => lim cal sc 5 cX5_copy ret 4 lv (q.toList ++ st) M') := (lim_step dX5_copy_1).trans (e_stat1 rm_5_277)
theorem sX5_copy_4 : lim cal sc 5 cX5_copy ret 4 lv (.int x :: st) M = if x = 0 then lim cal sc 5 cX5_copy ret 14 lv st M else lim cal sc 5 cX5_copy ret 7 lv st M := (lim_step dX5_copy_4).trans (e_ifeq (t := 14) (by decide))
theorem sX5_copy_7 : lim cal sc 5 cX5_copy ret 7 (v0 :: v1 :: v2 :: some (.int x) :: l) st M = lim cal sc 5 cX5_copy ret 8 (v0 :: v1 :: v2 :: some (.int x) :: l) (.int x :: st) M := lim_step dX5_copy_7
theorem sX5_copy_8 : lim cal sc 5 cX5_copy ret 8 lv (a1 :: st) M = guK (rk 8 st) (calK (cal 117 [a1] M) fun q M' => lim cal sc 5 cX5_copy ret 11 lv (q.toList ++ st) M') := (lim_step dX5_copy_8).trans (e_stat1 rm_5_277)
theorem sX5_copy_11 : lim cal sc 5 cX5_copy ret 11 lv (.int x :: st) M = if x = 0 then lim cal sc 5 cX5_copy ret 14 lv st M else lim cal sc 5 cX5_copy ret 20 lv st M := (lim_step dX5_copy_11).trans (e_ifne (t := 20) (by decide))
theorem sX5_copy_14 : lim cal sc 5 cX5_copy ret 14 (some (.ref h) :: l) st M = lim cal sc 5 cX5_copy ret 15 (some (.ref h) :: l) (.ref h :: st) M := lim_step dX5_copy_14
theorem sX5_copy_15 : lim cal sc 5 cX5_copy ret 15 lv st M = lim cal sc 5 cX5_copy ret 16 lv (.int 0 :: st) M := (lim_step dX5_copy_15).trans (e_ic k_i_0)
theorem sX5_copy_16 : lim cal sc 5 cX5_copy ret 16 lv (a1 :: .ref h :: st) M = guK (isCl 4 h) (guK (rk 8 st) (calK (cal 2 [.ref h, a1] M) fun q M' => lim cal sc 5 cX5_copy ret 19 lv (q.toList ++ st) M')) := (lim_step dX5_copy_16).trans (e_virt1 rm_5_69 mq_2)
theorem sX5_copy_19 : lim cal sc 5 cX5_copy (some .int) 19 lv [.int x] M = some (some (.int x), M) := (lim_step dX5_copy_19).trans (e_iret)
theorem sX5_copy_20 : lim cal sc 5 cX5_copy ret 20 (some (.ref h) :: l) st M = lim cal sc 5 cX5_copy ret 21 (some (.ref h) :: l) (.ref h :: st) M := lim_step dX5_copy_20
theorem sX5_copy_21 : lim cal sc 5 cX5_copy ret 21 lv (.ref h :: st) M = opK (slotV 4 4 h M) fun q => lim cal sc 5 cX5_copy ret 24 lv (q :: st) M := (lim_step dX5_copy_21).trans (e_get (by decide) rf_5_32)
theorem sX5_copy_24 : lim cal sc 5 cX5_copy ret 24 (v0 :: some (.int x) :: l) st M = lim cal sc 5 cX5_copy ret 25 (v0 :: some (.int x) :: l) (.int x :: st) M := lim_step dX5_copy_24
theorem sX5_copy_25 : lim cal sc 5 cX5_copy ret 25 lv (.int x :: .ref h :: st) M = opK (arrR h) fun q => guK (inb x q.length) (lim cal sc 5 cX5_copy ret 26 lv (.ref (q.getD x.toNatClampNeg 0) :: st) M) := (lim_step dX5_copy_25).trans (e_aald)
theorem sX5_copy_26 : lim cal sc 5 cX5_copy ret 26 (v0 :: v1 :: v2 :: v3 :: v4 :: v5 :: v :: l) (.ref h :: st) M = lim cal sc 5 cX5_copy ret 28 (v0 :: v1 :: v2 :: v3 :: v4 :: v5 :: some (.ref h) :: l) st M := (lim_step dX5_copy_26).trans (e_ast6)
theorem sX5_copy_28 : lim cal sc 5 cX5_copy ret 28 (some (.ref h) :: l) st M = lim cal sc 5 cX5_copy ret 29 (some (.ref h) :: l) (.ref h :: st) M := lim_step dX5_copy_28
theorem sX5_copy_29 : lim cal sc 5 cX5_copy ret 29 lv (.ref h :: st) M = opK (slotV 4 4 h M) fun q => lim cal sc 5 cX5_copy ret 32 lv (q :: st) M := (lim_step dX5_copy_29).trans (e_get (by decide) rf_5_32)
theorem sX5_copy_32 : lim cal sc 5 cX5_copy ret 32 (v0 :: v1 :: v2 :: some (.int x) :: l) st M = lim cal sc 5 cX5_copy ret 33 (v0 :: v1 :: v2 :: some (.int x) :: l) (.int x :: st) M := lim_step dX5_copy_32
theorem sX5_copy_33 : lim cal sc 5 cX5_copy ret 33 lv (.int x :: .ref h :: st) M = opK (arrR h) fun q => guK (inb x q.length) (lim cal sc 5 cX5_copy ret 34 lv (.ref (q.getD x.toNatClampNeg 0) :: st) M) := (lim_step dX5_copy_33).trans (e_aald)
theorem sX5_copy_34 : lim cal sc 5 cX5_copy ret 34 (v0 :: v1 :: v2 :: v3 :: v4 :: v5 :: v6 :: v :: l) (.ref h :: st) M = lim cal sc 5 cX5_copy ret 36 (v0 :: v1 :: v2 :: v3 :: v4 :: v5 :: v6 :: some (.ref h) :: l) st M := (lim_step dX5_copy_34).trans (e_ast7)
theorem sX5_copy_36 : lim cal sc 5 cX5_copy ret 36 (v0 :: v1 :: v2 :: v3 :: v4 :: v5 :: some (.ref h) :: l) st M = lim cal sc 5 cX5_copy ret 38 (v0 :: v1 :: v2 :: v3 :: v4 :: v5 :: some (.ref h) :: l) (.ref h :: st) M := lim_step dX5_copy_36
theorem sX5_copy_38 : lim cal sc 5 cX5_copy ret 38 lv (.ref h :: st) M = guK (isCl 2 h) (guK (rk 8 st) (calK (cal 120 [.ref h] M) fun q M' => lim cal sc 5 cX5_copy ret 41 lv (q.toList ++ st) M')) := (lim_step dX5_copy_38).trans (e_virt0 rm_5_285 mq_120)
theorem sX5_copy_41 : lim cal sc 5 cX5_copy ret 41 lv (.int x :: st) M = if x = 0 then lim cal sc 5 cX5_copy ret 44 lv st M else lim cal sc 5 cX5_copy ret 52 lv st M := (lim_step dX5_copy_41).trans (e_ifne (t := 52) (by decide))
theorem sX5_copy_44 : lim cal sc 5 cX5_copy ret 44 (v0 :: v1 :: v2 :: v3 :: v4 :: v5 :: v6 :: some (.ref h) :: l) st M = lim cal sc 5 cX5_copy ret 46 (v0 :: v1 :: v2 :: v3 :: v4 :: v5 :: v6 :: some (.ref h) :: l) (.ref h :: st) M := lim_step dX5_copy_44
theorem sX5_copy_46 : lim cal sc 5 cX5_copy ret 46 lv (.ref h :: st) M = guK (isCl 2 h) (guK (rk 8 st) (calK (cal 120 [.ref h] M) fun q M' => lim cal sc 5 cX5_copy ret 49 lv (q.toList ++ st) M')) := (lim_step dX5_copy_46).trans (e_virt0 rm_5_285 mq_120)
theorem sX5_copy_49 : lim cal sc 5 cX5_copy ret 49 lv (.int x :: st) M = if x = 0 then lim cal sc 5 cX5_copy ret 58 lv st M else lim cal sc 5 cX5_copy ret 52 lv st M := (lim_step dX5_copy_49).trans (e_ifeq (t := 58) (by decide))
theorem sX5_copy_52 : lim cal sc 5 cX5_copy ret 52 (some (.ref h) :: l) st M = lim cal sc 5 cX5_copy ret 53 (some (.ref h) :: l) (.ref h :: st) M := lim_step dX5_copy_52
theorem sX5_copy_53 : lim cal sc 5 cX5_copy ret 53 lv st M = lim cal sc 5 cX5_copy ret 54 lv (.int 5 :: st) M := (lim_step dX5_copy_53).trans (e_ic k_i_5)
theorem sX5_copy_54 : lim cal sc 5 cX5_copy ret 54 lv (a1 :: .ref h :: st) M = guK (isCl 4 h) (guK (rk 8 st) (calK (cal 2 [.ref h, a1] M) fun q M' => lim cal sc 5 cX5_copy ret 57 lv (q.toList ++ st) M')) := (lim_step dX5_copy_54).trans (e_virt1 rm_5_69 mq_2)
theorem sX5_copy_57 : lim cal sc 5 cX5_copy (some .int) 57 lv [.int x] M = some (some (.int x), M) := (lim_step dX5_copy_57).trans (e_iret)
theorem sX5_copy_58 : lim cal sc 5 cX5_copy ret 58 (v0 :: v1 :: v2 :: v3 :: v4 :: v5 :: some (.ref h) :: l) st M = lim cal sc 5 cX5_copy ret 60 (v0 :: v1 :: v2 :: v3 :: v4 :: v5 :: some (.ref h) :: l) (.ref h :: st) M := lim_step dX5_copy_58
theorem sX5_copy_60 : lim cal sc 5 cX5_copy ret 60 lv (.ref h :: st) M = opK (slotV 2 0 h M) fun q => lim cal sc 5 cX5_copy ret 63 lv (q :: st) M := (lim_step dX5_copy_60).trans (e_get (by decide) rf_5_292)
theorem sX5_copy_63 : lim cal sc 5 cX5_copy ret 63 (v0 :: v1 :: v2 :: v3 :: v4 :: v5 :: v6 :: some (.ref h) :: l) st M = lim cal sc 5 cX5_copy ret 65 (v0 :: v1 :: v2 :: v3 :: v4 :: v5 :: v6 :: some (.ref h) :: l) (.ref h :: st) M := lim_step dX5_copy_63
theorem sX5_copy_65 : lim cal sc 5 cX5_copy ret 65 lv (.ref h :: st) M = opK (slotV 2 0 h M) fun q => lim cal sc 5 cX5_copy ret 68 lv (q :: st) M := (lim_step dX5_copy_65).trans (e_get (by decide) rf_5_292)
theorem sX5_copy_68 : lim cal sc 5 cX5_copy ret 68 lv (.int y :: .int x :: st) M = if x = y then lim cal sc 5 cX5_copy ret 77 lv st M else lim cal sc 5 cX5_copy ret 71 lv st M := (lim_step dX5_copy_68).trans (e_cmpeq (t := 77) (by decide))
theorem sX5_copy_71 : lim cal sc 5 cX5_copy ret 71 (some (.ref h) :: l) st M = lim cal sc 5 cX5_copy ret 72 (some (.ref h) :: l) (.ref h :: st) M := lim_step dX5_copy_71
theorem sX5_copy_72 : lim cal sc 5 cX5_copy ret 72 lv st M = lim cal sc 5 cX5_copy ret 73 lv (.int 2 :: st) M := (lim_step dX5_copy_72).trans (e_ic k_i_2)
theorem sX5_copy_73 : lim cal sc 5 cX5_copy ret 73 lv (a1 :: .ref h :: st) M = guK (isCl 4 h) (guK (rk 8 st) (calK (cal 2 [.ref h, a1] M) fun q M' => lim cal sc 5 cX5_copy ret 76 lv (q.toList ++ st) M')) := (lim_step dX5_copy_73).trans (e_virt1 rm_5_69 mq_2)
theorem sX5_copy_76 : lim cal sc 5 cX5_copy (some .int) 76 lv [.int x] M = some (some (.int x), M) := (lim_step dX5_copy_76).trans (e_iret)
theorem sX5_copy_77 : lim cal sc 5 cX5_copy ret 77 (v0 :: v1 :: v2 :: v3 :: v4 :: v5 :: some (.ref h) :: l) st M = lim cal sc 5 cX5_copy ret 79 (v0 :: v1 :: v2 :: v3 :: v4 :: v5 :: some (.ref h) :: l) (.ref h :: st) M := lim_step dX5_copy_77
theorem sX5_copy_79 : lim cal sc 5 cX5_copy ret 79 (v0 :: v1 :: some (.int x) :: l) st M = lim cal sc 5 cX5_copy ret 80 (v0 :: v1 :: some (.int x) :: l) (.int x :: st) M := lim_step dX5_copy_79
theorem sX5_copy_80 : lim cal sc 5 cX5_copy ret 80 (v0 :: v1 :: v2 :: v3 :: v4 :: some (.int x) :: l) st M = lim cal sc 5 cX5_copy ret 82 (v0 :: v1 :: v2 :: v3 :: v4 :: some (.int x) :: l) (.int x :: st) M := lim_step dX5_copy_80
theorem sX5_copy_82 : lim cal sc 5 cX5_copy ret 82 lv (a2 :: a1 :: .ref h :: st) M = guK (isCl 2 h) (guK (rk 8 st) (calK (cal 123 [.ref h, a1, a2] M) fun q M' => lim cal sc 5 cX5_copy ret 85 lv (q.toList ++ st) M')) := (lim_step dX5_copy_82).trans (e_virt2 rm_5_295 mq_123)
theorem sX5_copy_85 : lim cal sc 5 cX5_copy ret 85 lv (.int x :: st) M = if x = 0 then lim cal sc 5 cX5_copy ret 100 lv st M else lim cal sc 5 cX5_copy ret 88 lv st M := (lim_step dX5_copy_85).trans (e_ifeq (t := 100) (by decide))
theorem sX5_copy_88 : lim cal sc 5 cX5_copy ret 88 (v0 :: v1 :: v2 :: v3 :: v4 :: v5 :: v6 :: some (.ref h) :: l) st M = lim cal sc 5 cX5_copy ret 90 (v0 :: v1 :: v2 :: v3 :: v4 :: v5 :: v6 :: some (.ref h) :: l) (.ref h :: st) M := lim_step dX5_copy_88
theorem sX5_copy_90 : lim cal sc 5 cX5_copy ret 90 (v0 :: v1 :: v2 :: v3 :: some (.int x) :: l) st M = lim cal sc 5 cX5_copy ret 92 (v0 :: v1 :: v2 :: v3 :: some (.int x) :: l) (.int x :: st) M := lim_step dX5_copy_90
theorem sX5_copy_92 : lim cal sc 5 cX5_copy ret 92 (v0 :: v1 :: v2 :: v3 :: v4 :: some (.int x) :: l) st M = lim cal sc 5 cX5_copy ret 94 (v0 :: v1 :: v2 :: v3 :: v4 :: some (.int x) :: l) (.int x :: st) M := lim_step dX5_copy_92
theorem sX5_copy_94 : lim cal sc 5 cX5_copy ret 94 lv (a2 :: a1 :: .ref h :: st) M = guK (isCl 2 h) (guK (rk 8 st) (calK (cal 123 [.ref h, a1, a2] M) fun q M' => lim cal sc 5 cX5_copy ret 97 lv (q.toList ++ st) M')) := (lim_step dX5_copy_94).trans (e_virt2 rm_5_295 mq_123)
theorem sX5_copy_97 : lim cal sc 5 cX5_copy ret 97 lv (.int x :: st) M = if x = 0 then lim cal sc 5 cX5_copy ret 100 lv st M else lim cal sc 5 cX5_copy ret 106 lv st M := (lim_step dX5_copy_97).trans (e_ifne (t := 106) (by decide))
theorem sX5_copy_100 : lim cal sc 5 cX5_copy ret 100 (some (.ref h) :: l) st M = lim cal sc 5 cX5_copy ret 101 (some (.ref h) :: l) (.ref h :: st) M := lim_step dX5_copy_100
theorem sX5_copy_101 : lim cal sc 5 cX5_copy ret 101 lv st M = lim cal sc 5 cX5_copy ret 102 lv (.int 0 :: st) M := (lim_step dX5_copy_101).trans (e_ic k_i_0)
theorem sX5_copy_102 : lim cal sc 5 cX5_copy ret 102 lv (a1 :: .ref h :: st) M = guK (isCl 4 h) (guK (rk 8 st) (calK (cal 2 [.ref h, a1] M) fun q M' => lim cal sc 5 cX5_copy ret 105 lv (q.toList ++ st) M')) := (lim_step dX5_copy_102).trans (e_virt1 rm_5_69 mq_2)
theorem sX5_copy_105 : lim cal sc 5 cX5_copy (some .int) 105 lv [.int x] M = some (some (.int x), M) := (lim_step dX5_copy_105).trans (e_iret)
theorem sX5_copy_106 : lim cal sc 5 cX5_copy ret 106 (v0 :: v1 :: v2 :: v3 :: v4 :: v5 :: some (.ref h) :: l) st M = lim cal sc 5 cX5_copy ret 108 (v0 :: v1 :: v2 :: v3 :: v4 :: v5 :: some (.ref h) :: l) (.ref h :: st) M := lim_step dX5_copy_106
theorem sX5_copy_108 : lim cal sc 5 cX5_copy ret 108 lv (.ref h :: st) M = opK (slotV 2 2 h M) fun q => lim cal sc 5 cX5_copy ret 111 lv (q :: st) M := (lim_step dX5_copy_108).trans (e_get (by decide) rf_5_298)
theorem sX5_copy_111 : lim cal sc 5 cX5_copy ret 111 (v0 :: v1 :: some (.int x) :: l) st M = lim cal sc 5 cX5_copy ret 112 (v0 :: v1 :: some (.int x) :: l) (.int x :: st) M := lim_step dX5_copy_111
theorem sX5_copy_112 : lim cal sc 5 cX5_copy ret 112 (v0 :: v1 :: v2 :: v3 :: v4 :: v5 :: v6 :: some (.ref h) :: l) st M = lim cal sc 5 cX5_copy ret 114 (v0 :: v1 :: v2 :: v3 :: v4 :: v5 :: v6 :: some (.ref h) :: l) (.ref h :: st) M := lim_step dX5_copy_112
theorem sX5_copy_114 : lim cal sc 5 cX5_copy ret 114 lv (.ref h :: st) M = opK (slotV 2 2 h M) fun q => lim cal sc 5 cX5_copy ret 117 lv (q :: st) M := (lim_step dX5_copy_114).trans (e_get (by decide) rf_5_298)
theorem sX5_copy_117 : lim cal sc 5 cX5_copy ret 117 (v0 :: v1 :: v2 :: v3 :: some (.int x) :: l) st M = lim cal sc 5 cX5_copy ret 119 (v0 :: v1 :: v2 :: v3 :: some (.int x) :: l) (.int x :: st) M := lim_step dX5_copy_117
theorem sX5_copy_119 : lim cal sc 5 cX5_copy ret 119 (v0 :: v1 :: v2 :: v3 :: v4 :: some (.int x) :: l) st M = lim cal sc 5 cX5_copy ret 121 (v0 :: v1 :: v2 :: v3 :: v4 :: some (.int x) :: l) (.int x :: st) M := lim_step dX5_copy_119
theorem sX5_copy_121 : lim cal sc 5 cX5_copy ret 121 lv (.int z :: .int y :: .ref h2 :: .int x :: .ref h :: st) M = guK (cpy9 h h2 x y z) (guK (rk 8 st) (lim cal sc 5 cX5_copy ret 124 lv st (mrow M h2 (va_cpy (M h) (M h2) x.toNatClampNeg y.toNatClampNeg z.toNatClampNeg)))) := (lim_step dX5_copy_121).trans (e_copy rm_5_301)
theorem sX5_copy_124 : lim cal sc 5 cX5_copy ret 124 (v0 :: v1 :: v2 :: v3 :: v4 :: some (.int x) :: l) st M = lim cal sc 5 cX5_copy ret 126 (v0 :: v1 :: v2 :: v3 :: v4 :: some (.int x) :: l) (.int x :: st) M := lim_step dX5_copy_124
theorem sX5_copy_126 : lim cal sc 5 cX5_copy (some .int) 126 lv [.int x] M = some (some (.int x), M) := (lim_step dX5_copy_126).trans (e_iret)
theorem sX5_load_0 : lim cal sc 5 cX5_load ret 0 (v0 :: some (.int x) :: l) st M = lim cal sc 5 cX5_load ret 1 (v0 :: some (.int x) :: l) (.int x :: st) M := lim_step dX5_load_0
theorem sX5_load_1 : lim cal sc 5 cX5_load ret 1 lv (a1 :: st) M = guK (rk 8 st) (calK (cal 117 [a1] M) fun q M' => lim cal sc 5 cX5_load ret 4 lv (q.toList ++ st) M') := (lim_step dX5_load_1).trans (e_stat1 rm_5_277)
theorem sX5_load_4 : lim cal sc 5 cX5_load ret 4 lv (.int x :: st) M = if x = 0 then lim cal sc 5 cX5_load ret 7 lv st M else lim cal sc 5 cX5_load ret 13 lv st M := (lim_step dX5_load_4).trans (e_ifne (t := 13) (by decide))
theorem sX5_load_7 : lim cal sc 5 cX5_load ret 7 (some (.ref h) :: l) st M = lim cal sc 5 cX5_load ret 8 (some (.ref h) :: l) (.ref h :: st) M := lim_step dX5_load_7
theorem sX5_load_8 : lim cal sc 5 cX5_load ret 8 lv st M = lim cal sc 5 cX5_load ret 9 lv (.int 0 :: st) M := (lim_step dX5_load_8).trans (e_ic k_i_0)
theorem sX5_load_9 : lim cal sc 5 cX5_load ret 9 lv (a1 :: .ref h :: st) M = guK (isCl 4 h) (guK (rk 8 st) (calK (cal 2 [.ref h, a1] M) fun q M' => lim cal sc 5 cX5_load ret 12 lv (q.toList ++ st) M')) := (lim_step dX5_load_9).trans (e_virt1 rm_5_69 mq_2)
theorem sX5_load_12 : lim cal sc 5 cX5_load (some .int) 12 lv [.int x] M = some (some (.int x), M) := (lim_step dX5_load_12).trans (e_iret)
theorem sX5_load_13 : lim cal sc 5 cX5_load ret 13 (some (.ref h) :: l) st M = lim cal sc 5 cX5_load ret 14 (some (.ref h) :: l) (.ref h :: st) M := lim_step dX5_load_13
theorem sX5_load_14 : lim cal sc 5 cX5_load ret 14 lv (.ref h :: st) M = opK (slotV 4 4 h M) fun q => lim cal sc 5 cX5_load ret 17 lv (q :: st) M := (lim_step dX5_load_14).trans (e_get (by decide) rf_5_32)
theorem sX5_load_17 : lim cal sc 5 cX5_load ret 17 (v0 :: some (.int x) :: l) st M = lim cal sc 5 cX5_load ret 18 (v0 :: some (.int x) :: l) (.int x :: st) M := lim_step dX5_load_17
theorem sX5_load_18 : lim cal sc 5 cX5_load ret 18 lv (.int x :: .ref h :: st) M = opK (arrR h) fun q => guK (inb x q.length) (lim cal sc 5 cX5_load ret 19 lv (.ref (q.getD x.toNatClampNeg 0) :: st) M) := (lim_step dX5_load_18).trans (e_aald)
theorem sX5_load_19 : lim cal sc 5 cX5_load ret 19 lv (.ref h :: st) M = guK (isCl 2 h) (guK (rk 8 st) (calK (cal 120 [.ref h] M) fun q M' => lim cal sc 5 cX5_load ret 22 lv (q.toList ++ st) M')) := (lim_step dX5_load_19).trans (e_virt0 rm_5_285 mq_120)
theorem sX5_load_22 : lim cal sc 5 cX5_load ret 22 lv (.int x :: st) M = if x = 0 then lim cal sc 5 cX5_load ret 31 lv st M else lim cal sc 5 cX5_load ret 25 lv st M := (lim_step dX5_load_22).trans (e_ifeq (t := 31) (by decide))
theorem sX5_load_25 : lim cal sc 5 cX5_load ret 25 (some (.ref h) :: l) st M = lim cal sc 5 cX5_load ret 26 (some (.ref h) :: l) (.ref h :: st) M := lim_step dX5_load_25
theorem sX5_load_26 : lim cal sc 5 cX5_load ret 26 lv st M = lim cal sc 5 cX5_load ret 27 lv (.int 5 :: st) M := (lim_step dX5_load_26).trans (e_ic k_i_5)
theorem sX5_load_27 : lim cal sc 5 cX5_load ret 27 lv (a1 :: .ref h :: st) M = guK (isCl 4 h) (guK (rk 8 st) (calK (cal 2 [.ref h, a1] M) fun q M' => lim cal sc 5 cX5_load ret 30 lv (q.toList ++ st) M')) := (lim_step dX5_load_27).trans (e_virt1 rm_5_69 mq_2)
theorem sX5_load_30 : lim cal sc 5 cX5_load (some .int) 30 lv [.int x] M = some (some (.int x), M) := (lim_step dX5_load_30).trans (e_iret)
theorem sX5_load_31 : lim cal sc 5 cX5_load ret 31 (some (.ref h) :: l) st M = lim cal sc 5 cX5_load ret 32 (some (.ref h) :: l) (.ref h :: st) M := lim_step dX5_load_31
theorem sX5_load_32 : lim cal sc 5 cX5_load ret 32 lv (.ref h :: st) M = opK (slotV 4 4 h M) fun q => lim cal sc 5 cX5_load ret 35 lv (q :: st) M := (lim_step dX5_load_32).trans (e_get (by decide) rf_5_32)
theorem sX5_load_35 : lim cal sc 5 cX5_load ret 35 (v0 :: some (.int x) :: l) st M = lim cal sc 5 cX5_load ret 36 (v0 :: some (.int x) :: l) (.int x :: st) M := lim_step dX5_load_35
theorem sX5_load_36 : lim cal sc 5 cX5_load ret 36 lv (.int x :: .ref h :: st) M = opK (arrR h) fun q => guK (inb x q.length) (lim cal sc 5 cX5_load ret 37 lv (.ref (q.getD x.toNatClampNeg 0) :: st) M) := (lim_step dX5_load_36).trans (e_aald)
theorem sX5_load_37 : lim cal sc 5 cX5_load ret 37 lv (.ref h :: st) M = opK (slotV 2 1 h M) fun q => lim cal sc 5 cX5_load ret 40 lv (q :: st) M := (lim_step dX5_load_37).trans (e_get (by decide) rf_5_284)
theorem sX5_load_40 : lim cal sc 5 cX5_load ret 40 (some (.ref h) :: l) st M = lim cal sc 5 cX5_load ret 41 (some (.ref h) :: l) (.ref h :: st) M := lim_step dX5_load_40
theorem sX5_load_41 : lim cal sc 5 cX5_load ret 41 lv (.ref h :: st) M = opK (slotV 4 0 h M) fun q => lim cal sc 5 cX5_load ret 44 lv (q :: st) M := (lim_step dX5_load_41).trans (e_get (by decide) rf_5_10)
theorem sX5_load_44 : lim cal sc 5 cX5_load ret 44 lv (.ref h :: st) M = opK (slotV 0 0 h M) fun q => lim cal sc 5 cX5_load ret 47 lv (q :: st) M := (lim_step dX5_load_44).trans (e_get (by decide) rf_5_73)
theorem sX5_load_47 : lim cal sc 5 cX5_load ret 47 lv (.ref h :: st) M = opK (slotV 1 0 h M) fun q => lim cal sc 5 cX5_load ret 50 lv (q :: st) M := (lim_step dX5_load_47).trans (e_get (by decide) rf_5_76)
theorem sX5_load_50 : lim cal sc 5 cX5_load ret 50 lv (.int y :: .int x :: st) M = guK (rk 8 st) (lim cal sc 5 cX5_load ret 53 lv (.int (if y < x then y else x) :: st) M) := (lim_step dX5_load_50).trans (e_min rm_5_245)
theorem sX5_load_53 : lim cal sc 5 cX5_load ret 53 (v0 :: v1 :: v :: l) (.int x :: st) M = lim cal sc 5 cX5_load ret 54 (v0 :: v1 :: some (.int x) :: l) st M := (lim_step dX5_load_53).trans (e_istn2)
theorem sX5_load_54 : lim cal sc 5 cX5_load ret 54 lv st M = lim cal sc 5 cX5_load ret 55 lv (.int 0 :: st) M := (lim_step dX5_load_54).trans (e_ic k_i_0)
theorem sX5_load_55 : lim cal sc 5 cX5_load ret 55 (v0 :: v1 :: v2 :: v :: l) (.int x :: st) M = lim cal sc 5 cX5_load ret 56 (v0 :: v1 :: v2 :: some (.int x) :: l) st M := (lim_step dX5_load_55).trans (e_istn3)
theorem sX5_load_56 : lim cal sc 5 cX5_load ret 56 (v0 :: v1 :: v2 :: some (.int x) :: l) st M = lim cal sc 5 cX5_load ret 57 (v0 :: v1 :: v2 :: some (.int x) :: l) (.int x :: st) M := lim_step dX5_load_56
theorem sX5_load_57 : lim cal sc 5 cX5_load ret 57 (v0 :: v1 :: some (.int x) :: l) st M = lim cal sc 5 cX5_load ret 58 (v0 :: v1 :: some (.int x) :: l) (.int x :: st) M := lim_step dX5_load_57
theorem sX5_load_58 : lim cal sc 5 cX5_load ret 58 lv (.int y :: .int x :: st) M = if y ≤ x then lim cal sc 5 cX5_load ret 110 lv st M else lim cal sc 5 cX5_load ret 61 lv st M := (lim_step dX5_load_58).trans (e_cmpge (t := 110) (by decide))
theorem sX5_load_61 : lim cal sc 5 cX5_load ret 61 (some (.ref h) :: l) st M = lim cal sc 5 cX5_load ret 62 (some (.ref h) :: l) (.ref h :: st) M := lim_step dX5_load_61
theorem sX5_load_62 : lim cal sc 5 cX5_load ret 62 lv (.ref h :: st) M = opK (slotV 4 4 h M) fun q => lim cal sc 5 cX5_load ret 65 lv (q :: st) M := (lim_step dX5_load_62).trans (e_get (by decide) rf_5_32)
theorem sX5_load_65 : lim cal sc 5 cX5_load ret 65 (v0 :: some (.int x) :: l) st M = lim cal sc 5 cX5_load ret 66 (v0 :: some (.int x) :: l) (.int x :: st) M := lim_step dX5_load_65
theorem sX5_load_66 : lim cal sc 5 cX5_load ret 66 lv (.int x :: .ref h :: st) M = opK (arrR h) fun q => guK (inb x q.length) (lim cal sc 5 cX5_load ret 67 lv (.ref (q.getD x.toNatClampNeg 0) :: st) M) := (lim_step dX5_load_66).trans (e_aald)
theorem sX5_load_67 : lim cal sc 5 cX5_load ret 67 lv (.ref h :: st) M = opK (slotV 2 2 h M) fun q => lim cal sc 5 cX5_load ret 70 lv (q :: st) M := (lim_step dX5_load_67).trans (e_get (by decide) rf_5_298)
theorem sX5_load_70 : lim cal sc 5 cX5_load ret 70 (v0 :: v1 :: v2 :: some (.int x) :: l) st M = lim cal sc 5 cX5_load ret 71 (v0 :: v1 :: v2 :: some (.int x) :: l) (.int x :: st) M := lim_step dX5_load_70
theorem sX5_load_71 : lim cal sc 5 cX5_load ret 71 lv (.int x :: .ref h :: st) M = opK (arrV9 sc h M) fun q => guK (inb x q.1) (lim cal sc 5 cX5_load ret 72 lv (.int (q.2 x.toNatClampNeg) :: st) M) := (lim_step dX5_load_71).trans (e_iald)
theorem sX5_load_72 : lim cal sc 5 cX5_load ret 72 lv st M = lim cal sc 5 cX5_load ret 73 lv (.int 0 :: st) M := (lim_step dX5_load_72).trans (e_ic k_i_0)
theorem sX5_load_73 : lim cal sc 5 cX5_load ret 73 lv st M = lim cal sc 5 cX5_load ret 75 lv (.int 99 :: st) M := (lim_step dX5_load_73).trans (e_bi k_b_99)
theorem sX5_load_75 : lim cal sc 5 cX5_load ret 75 lv (a3 :: a2 :: a1 :: st) M = guK (rk 8 st) (calK (cal 1 [a1, a2, a3] M) fun q M' => lim cal sc 5 cX5_load ret 78 lv (q.toList ++ st) M') := (lim_step dX5_load_75).trans (e_stat3 rm_5_65)
theorem sX5_load_78 : lim cal sc 5 cX5_load ret 78 lv (.int x :: st) M = if x = 0 then lim cal sc 5 cX5_load ret 110 lv st M else lim cal sc 5 cX5_load ret 81 lv st M := (lim_step dX5_load_78).trans (e_ifeq (t := 110) (by decide))
theorem sX5_load_81 : lim cal sc 5 cX5_load ret 81 (some (.ref h) :: l) st M = lim cal sc 5 cX5_load ret 82 (some (.ref h) :: l) (.ref h :: st) M := lim_step dX5_load_81
theorem sX5_load_82 : lim cal sc 5 cX5_load ret 82 lv (.ref h :: st) M = opK (slotV 4 0 h M) fun q => lim cal sc 5 cX5_load ret 85 lv (q :: st) M := (lim_step dX5_load_82).trans (e_get (by decide) rf_5_10)
theorem sX5_load_85 : lim cal sc 5 cX5_load ret 85 lv (.ref h :: st) M = opK (slotV 0 0 h M) fun q => lim cal sc 5 cX5_load ret 88 lv (q :: st) M := (lim_step dX5_load_85).trans (e_get (by decide) rf_5_73)
theorem sX5_load_88 : lim cal sc 5 cX5_load ret 88 lv (.ref h :: st) M = opK (slotV 1 3 h M) fun q => lim cal sc 5 cX5_load ret 91 lv (q :: st) M := (lim_step dX5_load_88).trans (e_get (by decide) rf_5_185)
theorem sX5_load_91 : lim cal sc 5 cX5_load ret 91 (v0 :: v1 :: v2 :: some (.int x) :: l) st M = lim cal sc 5 cX5_load ret 92 (v0 :: v1 :: v2 :: some (.int x) :: l) (.int x :: st) M := lim_step dX5_load_91
theorem sX5_load_92 : lim cal sc 5 cX5_load ret 92 (some (.ref h) :: l) st M = lim cal sc 5 cX5_load ret 93 (some (.ref h) :: l) (.ref h :: st) M := lim_step dX5_load_92
theorem sX5_load_93 : lim cal sc 5 cX5_load ret 93 lv (.ref h :: st) M = opK (slotV 4 4 h M) fun q => lim cal sc 5 cX5_load ret 96 lv (q :: st) M := (lim_step dX5_load_93).trans (e_get (by decide) rf_5_32)
theorem sX5_load_96 : lim cal sc 5 cX5_load ret 96 (v0 :: some (.int x) :: l) st M = lim cal sc 5 cX5_load ret 97 (v0 :: some (.int x) :: l) (.int x :: st) M := lim_step dX5_load_96
theorem sX5_load_97 : lim cal sc 5 cX5_load ret 97 lv (.int x :: .ref h :: st) M = opK (arrR h) fun q => guK (inb x q.length) (lim cal sc 5 cX5_load ret 98 lv (.ref (q.getD x.toNatClampNeg 0) :: st) M) := (lim_step dX5_load_97).trans (e_aald)
theorem sX5_load_98 : lim cal sc 5 cX5_load ret 98 lv (.ref h :: st) M = opK (slotV 2 2 h M) fun q => lim cal sc 5 cX5_load ret 101 lv (q :: st) M := (lim_step dX5_load_98).trans (e_get (by decide) rf_5_298)
theorem sX5_load_101 : lim cal sc 5 cX5_load ret 101 (v0 :: v1 :: v2 :: some (.int x) :: l) st M = lim cal sc 5 cX5_load ret 102 (v0 :: v1 :: v2 :: some (.int x) :: l) (.int x :: st) M := lim_step dX5_load_101
theorem sX5_load_102 : lim cal sc 5 cX5_load ret 102 lv (.int x :: .ref h :: st) M = opK (arrV9 sc h M) fun q => guK (inb x q.1) (lim cal sc 5 cX5_load ret 103 lv (.int (q.2 x.toNatClampNeg) :: st) M) := (lim_step dX5_load_102).trans (e_iald)
theorem sX5_load_103 : lim cal sc 5 cX5_load ret 103 lv (.int y :: .int x :: .ref h :: st) M = opK (arrN h) fun q => guK (inb x q) (lim cal sc 5 cX5_load ret 104 lv st (mset M h x.toNatClampNeg y)) := (lim_step dX5_load_103).trans (e_iast)
theorem sX5_load_104 : lim cal sc 5 cX5_load ret 104 (v0 :: v1 :: v2 :: some (.int x) :: l) st M = lim cal sc 5 cX5_load ret 107 (v0 :: v1 :: v2 :: some (.int (x + 1)) :: l) st M := (lim_step dX5_load_104).trans (e_inc3 k_i_1)
theorem sX5_load_107 : lim cal sc 5 cX5_load ret 107 lv st M = lim cal sc 5 cX5_load ret 56 lv st M := (lim_step dX5_load_107).trans (e_goto (t := 56) (by decide))
theorem sX5_load_110 : lim cal sc 5 cX5_load ret 110 (v0 :: v1 :: v2 :: some (.int x) :: l) st M = lim cal sc 5 cX5_load ret 111 (v0 :: v1 :: v2 :: some (.int x) :: l) (.int x :: st) M := lim_step dX5_load_110
theorem sX5_load_111 : lim cal sc 5 cX5_load (some .int) 111 lv [.int x] M = some (some (.int x), M) := (lim_step dX5_load_111).trans (e_iret)
theorem sX5_judge_0 : lim cal sc 5 cX5_judge ret 0 (v0 :: some (.int x) :: l) st M = lim cal sc 5 cX5_judge ret 1 (v0 :: some (.int x) :: l) (.int x :: st) M := lim_step dX5_judge_0
theorem sX5_judge_1 : lim cal sc 5 cX5_judge ret 1 lv (a1 :: st) M = guK (rk 8 st) (calK (cal 117 [a1] M) fun q M' => lim cal sc 5 cX5_judge ret 4 lv (q.toList ++ st) M') := (lim_step dX5_judge_1).trans (e_stat1 rm_5_277)
theorem sX5_judge_4 : lim cal sc 5 cX5_judge ret 4 lv (.int x :: st) M = if x = 0 then lim cal sc 5 cX5_judge ret 7 lv st M else lim cal sc 5 cX5_judge ret 13 lv st M := (lim_step dX5_judge_4).trans (e_ifne (t := 13) (by decide))
theorem sX5_judge_7 : lim cal sc 5 cX5_judge ret 7 (some (.ref h) :: l) st M = lim cal sc 5 cX5_judge ret 8 (some (.ref h) :: l) (.ref h :: st) M := lim_step dX5_judge_7
theorem sX5_judge_8 : lim cal sc 5 cX5_judge ret 8 lv st M = lim cal sc 5 cX5_judge ret 9 lv (.int 0 :: st) M := (lim_step dX5_judge_8).trans (e_ic k_i_0)
theorem sX5_judge_9 : lim cal sc 5 cX5_judge ret 9 lv (a1 :: .ref h :: st) M = guK (isCl 4 h) (guK (rk 8 st) (calK (cal 2 [.ref h, a1] M) fun q M' => lim cal sc 5 cX5_judge ret 12 lv (q.toList ++ st) M')) := (lim_step dX5_judge_9).trans (e_virt1 rm_5_69 mq_2)
theorem sX5_judge_12 : lim cal sc 5 cX5_judge (some .int) 12 lv [.int x] M = some (some (.int x), M) := (lim_step dX5_judge_12).trans (e_iret)
theorem sX5_judge_13 : lim cal sc 5 cX5_judge ret 13 (some (.ref h) :: l) st M = lim cal sc 5 cX5_judge ret 14 (some (.ref h) :: l) (.ref h :: st) M := lim_step dX5_judge_13
theorem sX5_judge_14 : lim cal sc 5 cX5_judge ret 14 lv (.ref h :: st) M = opK (slotV 4 4 h M) fun q => lim cal sc 5 cX5_judge ret 17 lv (q :: st) M := (lim_step dX5_judge_14).trans (e_get (by decide) rf_5_32)
theorem sX5_judge_17 : lim cal sc 5 cX5_judge ret 17 (v0 :: some (.int x) :: l) st M = lim cal sc 5 cX5_judge ret 18 (v0 :: some (.int x) :: l) (.int x :: st) M := lim_step dX5_judge_17
theorem sX5_judge_18 : lim cal sc 5 cX5_judge ret 18 lv (.int x :: .ref h :: st) M = opK (arrR h) fun q => guK (inb x q.length) (lim cal sc 5 cX5_judge ret 19 lv (.ref (q.getD x.toNatClampNeg 0) :: st) M) := (lim_step dX5_judge_18).trans (e_aald)
theorem sX5_judge_19 : lim cal sc 5 cX5_judge ret 19 (v0 :: v1 :: v :: l) (.ref h :: st) M = lim cal sc 5 cX5_judge ret 20 (v0 :: v1 :: some (.ref h) :: l) st M := (lim_step dX5_judge_19).trans (e_astn2)
theorem sX5_judge_20 : lim cal sc 5 cX5_judge ret 20 (v0 :: v1 :: some (.ref h) :: l) st M = lim cal sc 5 cX5_judge ret 21 (v0 :: v1 :: some (.ref h) :: l) (.ref h :: st) M := lim_step dX5_judge_20
theorem sX5_judge_21 : lim cal sc 5 cX5_judge ret 21 lv (.ref h :: st) M = guK (isCl 2 h) (guK (rk 8 st) (calK (cal 120 [.ref h] M) fun q M' => lim cal sc 5 cX5_judge ret 24 lv (q.toList ++ st) M')) := (lim_step dX5_judge_21).trans (e_virt0 rm_5_285 mq_120)
theorem sX5_judge_24 : lim cal sc 5 cX5_judge ret 24 lv (.int x :: st) M = if x = 0 then lim cal sc 5 cX5_judge ret 33 lv st M else lim cal sc 5 cX5_judge ret 27 lv st M := (lim_step dX5_judge_24).trans (e_ifeq (t := 33) (by decide))
theorem sX5_judge_27 : lim cal sc 5 cX5_judge ret 27 (some (.ref h) :: l) st M = lim cal sc 5 cX5_judge ret 28 (some (.ref h) :: l) (.ref h :: st) M := lim_step dX5_judge_27
theorem sX5_judge_28 : lim cal sc 5 cX5_judge ret 28 lv st M = lim cal sc 5 cX5_judge ret 29 lv (.int 5 :: st) M := (lim_step dX5_judge_28).trans (e_ic k_i_5)
theorem sX5_judge_29 : lim cal sc 5 cX5_judge ret 29 lv (a1 :: .ref h :: st) M = guK (isCl 4 h) (guK (rk 8 st) (calK (cal 2 [.ref h, a1] M) fun q M' => lim cal sc 5 cX5_judge ret 32 lv (q.toList ++ st) M')) := (lim_step dX5_judge_29).trans (e_virt1 rm_5_69 mq_2)
theorem sX5_judge_32 : lim cal sc 5 cX5_judge (some .int) 32 lv [.int x] M = some (some (.int x), M) := (lim_step dX5_judge_32).trans (e_iret)
theorem sX5_judge_33 : lim cal sc 5 cX5_judge ret 33 (some (.ref h) :: l) st M = lim cal sc 5 cX5_judge ret 34 (some (.ref h) :: l) (.ref h :: st) M := lim_step dX5_judge_33
theorem sX5_judge_34 : lim cal sc 5 cX5_judge ret 34 (v0 :: v1 :: some (.ref h) :: l) st M = lim cal sc 5 cX5_judge ret 35 (v0 :: v1 :: some (.ref h) :: l) (.ref h :: st) M := lim_step dX5_judge_34
theorem sX5_judge_35 : lim cal sc 5 cX5_judge ret 35 lv (.ref h :: st) M = opK (slotV 2 1 h M) fun q => lim cal sc 5 cX5_judge ret 38 lv (q :: st) M := (lim_step dX5_judge_35).trans (e_get (by decide) rf_5_284)
theorem sX5_judge_38 : lim cal sc 5 cX5_judge ret 38 lv (a1 :: .ref h :: st) M = guK (isCl 4 h) (guK (rk 8 st) (calK (cal 25 [.ref h, a1] M) fun q M' => lim cal sc 5 cX5_judge ret 41 lv (q.toList ++ st) M')) := (lim_step dX5_judge_38).trans (e_virt1 rm_5_142 mq_25)
theorem sX5_judge_41 : lim cal sc 5 cX5_judge ret 41 lv (.int x :: st) M = if x = 0 then lim cal sc 5 cX5_judge ret 50 lv st M else lim cal sc 5 cX5_judge ret 44 lv st M := (lim_step dX5_judge_41).trans (e_ifeq (t := 50) (by decide))
theorem sX5_judge_44 : lim cal sc 5 cX5_judge ret 44 (some (.ref h) :: l) st M = lim cal sc 5 cX5_judge ret 45 (some (.ref h) :: l) (.ref h :: st) M := lim_step dX5_judge_44
theorem sX5_judge_45 : lim cal sc 5 cX5_judge ret 45 lv st M = lim cal sc 5 cX5_judge ret 46 lv (.int 4 :: st) M := (lim_step dX5_judge_45).trans (e_ic k_i_4)
theorem sX5_judge_46 : lim cal sc 5 cX5_judge ret 46 lv (a1 :: .ref h :: st) M = guK (isCl 4 h) (guK (rk 8 st) (calK (cal 2 [.ref h, a1] M) fun q M' => lim cal sc 5 cX5_judge ret 49 lv (q.toList ++ st) M')) := (lim_step dX5_judge_46).trans (e_virt1 rm_5_69 mq_2)
theorem sX5_judge_49 : lim cal sc 5 cX5_judge (some .int) 49 lv [.int x] M = some (some (.int x), M) := (lim_step dX5_judge_49).trans (e_iret)
theorem sX5_judge_50 : lim cal sc 5 cX5_judge ret 50 (some (.ref h) :: l) st M = lim cal sc 5 cX5_judge ret 51 (some (.ref h) :: l) (.ref h :: st) M := lim_step dX5_judge_50
theorem sX5_judge_51 : lim cal sc 5 cX5_judge ret 51 lv (.ref h :: st) M = opK (slotV 4 6 h M) fun q => lim cal sc 5 cX5_judge ret 54 lv (q :: st) M := (lim_step dX5_judge_51).trans (e_get (by decide) rf_5_43)
theorem sX5_judge_54 : lim cal sc 5 cX5_judge ret 54 (some (.ref h) :: l) st M = lim cal sc 5 cX5_judge ret 55 (some (.ref h) :: l) (.ref h :: st) M := lim_step dX5_judge_54
theorem sX5_judge_55 : lim cal sc 5 cX5_judge ret 55 lv (.ref h :: st) M = opK (slotV 4 0 h M) fun q => lim cal sc 5 cX5_judge ret 58 lv (q :: st) M := (lim_step dX5_judge_55).trans (e_get (by decide) rf_5_10)
theorem sX5_judge_58 : lim cal sc 5 cX5_judge ret 58 lv (.ref h :: st) M = opK (slotV 0 0 h M) fun q => lim cal sc 5 cX5_judge ret 61 lv (q :: st) M := (lim_step dX5_judge_58).trans (e_get (by decide) rf_5_73)
theorem sX5_judge_61 : lim cal sc 5 cX5_judge ret 61 lv (a1 :: .ref h :: st) M = guK (isCl 1 h) (guK (rk 8 st) (calK (cal 34 [.ref h, a1] M) fun q M' => lim cal sc 5 cX5_judge ret 64 lv (q.toList ++ st) M')) := (lim_step dX5_judge_61).trans (e_virt1 rm_5_160 mq_34)
theorem sX5_judge_64 : lim cal sc 5 cX5_judge ret 64 lv st M = lim cal sc 5 cX5_judge ret 65 lv (.int 0 :: st) M := (lim_step dX5_judge_64).trans (e_ic k_i_0)
theorem sX5_judge_65 : lim cal sc 5 cX5_judge ret 65 (v0 :: v1 :: v2 :: v :: l) (.int x :: st) M = lim cal sc 5 cX5_judge ret 66 (v0 :: v1 :: v2 :: some (.int x) :: l) st M := (lim_step dX5_judge_65).trans (e_istn3)
theorem sX5_judge_66 : lim cal sc 5 cX5_judge ret 66 (v0 :: v1 :: v2 :: some (.int x) :: l) st M = lim cal sc 5 cX5_judge ret 67 (v0 :: v1 :: v2 :: some (.int x) :: l) (.int x :: st) M := lim_step dX5_judge_66
theorem sX5_judge_67 : lim cal sc 5 cX5_judge ret 67 (v0 :: v1 :: some (.ref h) :: l) st M = lim cal sc 5 cX5_judge ret 68 (v0 :: v1 :: some (.ref h) :: l) (.ref h :: st) M := lim_step dX5_judge_67
theorem sX5_judge_68 : lim cal sc 5 cX5_judge ret 68 lv (.ref h :: st) M = opK (slotV 2 1 h M) fun q => lim cal sc 5 cX5_judge ret 71 lv (q :: st) M := (lim_step dX5_judge_68).trans (e_get (by decide) rf_5_284)
theorem sX5_judge_71 : lim cal sc 5 cX5_judge ret 71 lv (.int y :: .int x :: st) M = if y ≤ x then lim cal sc 5 cX5_judge ret 118 lv st M else lim cal sc 5 cX5_judge ret 74 lv st M := (lim_step dX5_judge_71).trans (e_cmpge (t := 118) (by decide))
theorem sX5_judge_74 : lim cal sc 5 cX5_judge ret 74 (some (.ref h) :: l) st M = lim cal sc 5 cX5_judge ret 75 (some (.ref h) :: l) (.ref h :: st) M := lim_step dX5_judge_74
theorem sX5_judge_75 : lim cal sc 5 cX5_judge ret 75 lv (.ref h :: st) M = opK (slotV 4 6 h M) fun q => lim cal sc 5 cX5_judge ret 78 lv (q :: st) M := (lim_step dX5_judge_75).trans (e_get (by decide) rf_5_43)
theorem sX5_judge_78 : lim cal sc 5 cX5_judge ret 78 lv (.ref h :: st) M = guK (isCl 1 h) (guK (rk 8 st) (calK (cal 27 [.ref h] M) fun q M' => lim cal sc 5 cX5_judge ret 81 lv (q.toList ++ st) M')) := (lim_step dX5_judge_78).trans (e_virt0 rm_5_179 mq_27)
theorem sX5_judge_81 : lim cal sc 5 cX5_judge ret 81 (v0 :: v1 :: v2 :: v3 :: v :: l) (.int x :: st) M = lim cal sc 5 cX5_judge ret 83 (v0 :: v1 :: v2 :: v3 :: some (.int x) :: l) st M := (lim_step dX5_judge_81).trans (e_ist4)
theorem sX5_judge_83 : lim cal sc 5 cX5_judge ret 83 (v0 :: v1 :: some (.ref h) :: l) st M = lim cal sc 5 cX5_judge ret 84 (v0 :: v1 :: some (.ref h) :: l) (.ref h :: st) M := lim_step dX5_judge_83
theorem sX5_judge_84 : lim cal sc 5 cX5_judge ret 84 lv (.ref h :: st) M = opK (slotV 2 2 h M) fun q => lim cal sc 5 cX5_judge ret 87 lv (q :: st) M := (lim_step dX5_judge_84).trans (e_get (by decide) rf_5_298)
theorem sX5_judge_87 : lim cal sc 5 cX5_judge ret 87 (v0 :: v1 :: v2 :: some (.int x) :: l) st M = lim cal sc 5 cX5_judge ret 88 (v0 :: v1 :: v2 :: some (.int x) :: l) (.int x :: st) M := lim_step dX5_judge_87
theorem sX5_judge_88 : lim cal sc 5 cX5_judge ret 88 lv (.int x :: .ref h :: st) M = opK (arrV9 sc h M) fun q => guK (inb x q.1) (lim cal sc 5 cX5_judge ret 89 lv (.int (q.2 x.toNatClampNeg) :: st) M) := (lim_step dX5_judge_88).trans (e_iald)
theorem sX5_judge_89 : lim cal sc 5 cX5_judge ret 89 (some (.ref h) :: l) st M = lim cal sc 5 cX5_judge ret 90 (some (.ref h) :: l) (.ref h :: st) M := lim_step dX5_judge_89
theorem sX5_judge_90 : lim cal sc 5 cX5_judge ret 90 lv (.ref h :: st) M = opK (slotV 4 6 h M) fun q => lim cal sc 5 cX5_judge ret 93 lv (q :: st) M := (lim_step dX5_judge_90).trans (e_get (by decide) rf_5_43)
theorem sX5_judge_93 : lim cal sc 5 cX5_judge ret 93 lv (.ref h :: st) M = opK (slotV 1 12 h M) fun q => lim cal sc 5 cX5_judge ret 96 lv (q :: st) M := (lim_step dX5_judge_93).trans (e_get (by decide) rf_5_182)
theorem sX5_judge_96 : lim cal sc 5 cX5_judge ret 96 lv (.int x :: st) M = if x < 0 then lim cal sc 5 cX5_judge ret 104 lv st M else lim cal sc 5 cX5_judge ret 99 lv st M := (lim_step dX5_judge_96).trans (e_iflt (t := 104) (by decide))
theorem sX5_judge_99 : lim cal sc 5 cX5_judge ret 99 (v0 :: v1 :: v2 :: v3 :: some (.int x) :: l) st M = lim cal sc 5 cX5_judge ret 101 (v0 :: v1 :: v2 :: v3 :: some (.int x) :: l) (.int x :: st) M := lim_step dX5_judge_99
theorem sX5_judge_101 : lim cal sc 5 cX5_judge ret 101 lv st M = lim cal sc 5 cX5_judge ret 105 lv st M := (lim_step dX5_judge_101).trans (e_goto (t := 105) (by decide))
theorem sX5_judge_104 : lim cal sc 5 cX5_judge ret 104 lv st M = lim cal sc 5 cX5_judge ret 105 lv (.int (-1) :: st) M := (lim_step dX5_judge_104).trans (e_ic k_i_m1)
theorem sX5_judge_105 : lim cal sc 5 cX5_judge ret 105 lv (.int y :: .int x :: st) M = if x = y then lim cal sc 5 cX5_judge ret 112 lv st M else lim cal sc 5 cX5_judge ret 108 lv st M := (lim_step dX5_judge_105).trans (e_cmpeq (t := 112) (by decide))
theorem sX5_judge_108 : lim cal sc 5 cX5_judge ret 108 lv st M = lim cal sc 5 cX5_judge ret 109 lv (.int 1 :: st) M := (lim_step dX5_judge_108).trans (e_ic k_i_1)
theorem sX5_judge_109 : lim cal sc 5 cX5_judge ret 109 (v0 :: v1 :: v2 :: some (.int x) :: l) st M = lim cal sc 5 cX5_judge ret 110 (v0 :: v1 :: v2 :: some (.int x) :: l) (.int x :: st) M := lim_step dX5_judge_109
theorem sX5_judge_110 : lim cal sc 5 cX5_judge ret 110 lv (.int y :: .int x :: st) M = lim cal sc 5 cX5_judge ret 111 lv (.int (x + y) :: st) M := lim_step dX5_judge_110
theorem sX5_judge_111 : lim cal sc 5 cX5_judge (some .int) 111 lv [.int x] M = some (some (.int x), M) := (lim_step dX5_judge_111).trans (e_iret)
theorem sX5_judge_112 : lim cal sc 5 cX5_judge ret 112 (v0 :: v1 :: v2 :: some (.int x) :: l) st M = lim cal sc 5 cX5_judge ret 115 (v0 :: v1 :: v2 :: some (.int (x + 1)) :: l) st M := (lim_step dX5_judge_112).trans (e_inc3 k_i_1)
theorem sX5_judge_115 : lim cal sc 5 cX5_judge ret 115 lv st M = lim cal sc 5 cX5_judge ret 66 lv st M := (lim_step dX5_judge_115).trans (e_goto (t := 66) (by decide))
theorem sX5_judge_118 : lim cal sc 5 cX5_judge ret 118 lv st M = lim cal sc 5 cX5_judge ret 119 lv (.int 0 :: st) M := (lim_step dX5_judge_118).trans (e_ic k_i_0)
theorem sX5_judge_119 : lim cal sc 5 cX5_judge (some .int) 119 lv [.int x] M = some (some (.int x), M) := (lim_step dX5_judge_119).trans (e_iret)
theorem sX5_image_0 : lim cal sc 5 cX5_image ret 0 (some (.ref h) :: l) st M = lim cal sc 5 cX5_image ret 1 (some (.ref h) :: l) (.ref h :: st) M := lim_step dX5_image_0
theorem sX5_image_1 : lim cal sc 5 cX5_image ret 1 lv (.ref h :: st) M = opK (slotV 4 1 h M) fun q => lim cal sc 5 cX5_image ret 4 lv (q :: st) M := (lim_step dX5_image_1).trans (e_get (by decide) rf_5_16)
theorem sX5_image_4 : lim cal sc 5 cX5_image ret 4 (some (.ref h) :: l) st M = lim cal sc 5 cX5_image ret 5 (some (.ref h) :: l) (.ref h :: st) M := lim_step dX5_image_4
theorem sX5_image_5 : lim cal sc 5 cX5_image ret 5 lv (.ref h :: st) M = opK (slotV 4 0 h M) fun q => lim cal sc 5 cX5_image ret 8 lv (q :: st) M := (lim_step dX5_image_5).trans (e_get (by decide) rf_5_10)
theorem sX5_image_8 : lim cal sc 5 cX5_image ret 8 lv (a1 :: .ref h :: st) M = guK (isCl 0 h) (guK (rk 8 st) (calK (cal 127 [.ref h, a1] M) fun q M' => lim cal sc 5 cX5_image ret 11 lv (q.toList ++ st) M')) := (lim_step dX5_image_8).trans (e_virt1 rm_5_307 mq_127)
theorem sX5_image_11 : lim cal sc 5 cX5_image ret 11 (some (.ref h) :: l) st M = lim cal sc 5 cX5_image ret 12 (some (.ref h) :: l) (.ref h :: st) M := lim_step dX5_image_11
theorem sX5_image_12 : lim cal sc 5 cX5_image ret 12 lv st M = lim cal sc 5 cX5_image ret 13 lv (.int 1 :: st) M := (lim_step dX5_image_12).trans (e_ic k_i_1)
theorem sX5_image_13 : lim cal sc 5 cX5_image ret 13 lv (.int x :: .ref h :: st) M = guK (isInt 4 2 h) (guK (narB .boolean x) (lim cal sc 5 cX5_image ret 16 lv st (mset M h 2 x))) := (lim_step dX5_image_13).trans (e_putz rf_5_19 rfl)
theorem sX5_image_16 : lim cal sc 5 cX5_image ret 16 lv st M = lim cal sc 5 cX5_image ret 17 lv (.int 1 :: st) M := (lim_step dX5_image_16).trans (e_ic k_i_1)
theorem sX5_image_17 : lim cal sc 5 cX5_image (some .int) 17 lv [.int x] M = some (some (.int x), M) := (lim_step dX5_image_17).trans (e_iret)
end SR
