section SR
variable {cal : Cal} {sc : Scr} {lv : Lv} {st : List Value} {M : Mem} {ret : Option FieldType} {x y z w u : Int32} {h h2 : Nat} {v v0 v1 v2 v3 v4 v5 v6 v7 v8 v9 v10 v11 : Option Value} {l : Lv} {a1 a2 a3 a4 a5 : Value}
theorem sX6_turnsFrom_0 : lim cal sc 6 cX6_turnsFrom ret 0 (v0 :: some (.int x) :: l) st M = lim cal sc 6 cX6_turnsFrom ret 1 (v0 :: some (.int x) :: l) (.int x :: st) M := lim_step dX6_turnsFrom_0
theorem sX6_turnsFrom_1 : lim cal sc 6 cX6_turnsFrom ret 1 (v0 :: v1 :: some (.int x) :: l) st M = lim cal sc 6 cX6_turnsFrom ret 2 (v0 :: v1 :: some (.int x) :: l) (.int x :: st) M := lim_step dX6_turnsFrom_1
theorem sX6_turnsFrom_2 : lim cal sc 6 cX6_turnsFrom ret 2 lv (.int y :: .int x :: st) M = if x = y then lim cal sc 6 cX6_turnsFrom ret 5 lv st M else lim cal sc 6 cX6_turnsFrom ret 25 lv st M := (lim_step dX6_turnsFrom_2).trans (e_cmpne (t := 25) (by decide))
theorem sX6_turnsFrom_5 : lim cal sc 6 cX6_turnsFrom ret 5 (some (.ref h) :: l) st M = lim cal sc 6 cX6_turnsFrom ret 6 (some (.ref h) :: l) (.ref h :: st) M := lim_step dX6_turnsFrom_5
theorem sX6_turnsFrom_6 : lim cal sc 6 cX6_turnsFrom ret 6 (v0 :: some (.int x) :: l) st M = lim cal sc 6 cX6_turnsFrom ret 7 (v0 :: some (.int x) :: l) (.int x :: st) M := lim_step dX6_turnsFrom_6
theorem sX6_turnsFrom_7 : lim cal sc 6 cX6_turnsFrom ret 7 lv (a1 :: .ref h :: st) M = guK (isCl 5 h) (guK (rk 8 st) (calK (cal 202 [.ref h, a1] M) fun q M' => lim cal sc 6 cX6_turnsFrom ret 10 lv (q.toList ++ st) M')) := (lim_step dX6_turnsFrom_7).trans (e_virt1 rm_6_247 mq_202)
theorem sX6_turnsFrom_10 : lim cal sc 6 cX6_turnsFrom ret 10 (some (.ref h) :: l) st M = lim cal sc 6 cX6_turnsFrom ret 11 (some (.ref h) :: l) (.ref h :: st) M := lim_step dX6_turnsFrom_10
theorem sX6_turnsFrom_11 : lim cal sc 6 cX6_turnsFrom ret 11 (v0 :: v1 :: v2 :: some (.int x) :: l) st M = lim cal sc 6 cX6_turnsFrom ret 12 (v0 :: v1 :: v2 :: some (.int x) :: l) (.int x :: st) M := lim_step dX6_turnsFrom_11
theorem sX6_turnsFrom_12 : lim cal sc 6 cX6_turnsFrom ret 12 lv (a1 :: .ref h :: st) M = guK (isCl 5 h) (guK (rk 8 st) (calK (cal 203 [.ref h, a1] M) fun q M' => lim cal sc 6 cX6_turnsFrom ret 15 lv (q.toList ++ st) M')) := (lim_step dX6_turnsFrom_12).trans (e_virt1 rm_6_250 mq_203)
theorem sX6_turnsFrom_15 : lim cal sc 6 cX6_turnsFrom ret 15 (v0 :: v1 :: v2 :: v3 :: v :: l) (.int x :: st) M = lim cal sc 6 cX6_turnsFrom ret 17 (v0 :: v1 :: v2 :: v3 :: some (.int x) :: l) st M := (lim_step dX6_turnsFrom_15).trans (e_ist4)
theorem sX6_turnsFrom_17 : lim cal sc 6 cX6_turnsFrom ret 17 (some (.ref h) :: l) st M = lim cal sc 6 cX6_turnsFrom ret 18 (some (.ref h) :: l) (.ref h :: st) M := lim_step dX6_turnsFrom_17
theorem sX6_turnsFrom_18 : lim cal sc 6 cX6_turnsFrom ret 18 (v0 :: some (.int x) :: l) st M = lim cal sc 6 cX6_turnsFrom ret 19 (v0 :: some (.int x) :: l) (.int x :: st) M := lim_step dX6_turnsFrom_18
theorem sX6_turnsFrom_19 : lim cal sc 6 cX6_turnsFrom ret 19 lv (a1 :: .ref h :: st) M = guK (isCl 5 h) (guK (rk 8 st) (calK (cal 204 [.ref h, a1] M) fun q M' => lim cal sc 6 cX6_turnsFrom ret 22 lv (q.toList ++ st) M')) := (lim_step dX6_turnsFrom_19).trans (e_virt1 rm_6_253 mq_204)
theorem sX6_turnsFrom_22 : lim cal sc 6 cX6_turnsFrom ret 22 (v0 :: v1 :: v2 :: v3 :: some (.int x) :: l) st M = lim cal sc 6 cX6_turnsFrom ret 24 (v0 :: v1 :: v2 :: v3 :: some (.int x) :: l) (.int x :: st) M := lim_step dX6_turnsFrom_22
theorem sX6_turnsFrom_24 : lim cal sc 6 cX6_turnsFrom (some .int) 24 lv [.int x] M = some (some (.int x), M) := (lim_step dX6_turnsFrom_24).trans (e_iret)
theorem sX6_turnsFrom_25 : lim cal sc 6 cX6_turnsFrom ret 25 (v0 :: some (.int x) :: l) st M = lim cal sc 6 cX6_turnsFrom ret 26 (v0 :: some (.int x) :: l) (.int x :: st) M := lim_step dX6_turnsFrom_25
theorem sX6_turnsFrom_26 : lim cal sc 6 cX6_turnsFrom ret 26 lv st M = lim cal sc 6 cX6_turnsFrom ret 27 lv (.int 2 :: st) M := (lim_step dX6_turnsFrom_26).trans (e_ic k_i_2)
theorem sX6_turnsFrom_27 : lim cal sc 6 cX6_turnsFrom ret 27 lv (.int y :: .int x :: st) M = guK (decide (¬ y = 0)) (lim cal sc 6 cX6_turnsFrom ret 28 lv (.int (x - x / y * y) :: st) M) := (lim_step dX6_turnsFrom_27).trans (e_rem)
theorem sX6_turnsFrom_28 : lim cal sc 6 cX6_turnsFrom ret 28 (v0 :: v1 :: v2 :: v3 :: v :: l) (.int x :: st) M = lim cal sc 6 cX6_turnsFrom ret 30 (v0 :: v1 :: v2 :: v3 :: some (.int x) :: l) st M := (lim_step dX6_turnsFrom_28).trans (e_ist4)
theorem sX6_turnsFrom_30 : lim cal sc 6 cX6_turnsFrom ret 30 lv st M = lim cal sc 6 cX6_turnsFrom ret 31 lv (.int 0 :: st) M := (lim_step dX6_turnsFrom_30).trans (e_ic k_i_0)
theorem sX6_turnsFrom_31 : lim cal sc 6 cX6_turnsFrom ret 31 (v0 :: v1 :: v2 :: v3 :: v4 :: v :: l) (.int x :: st) M = lim cal sc 6 cX6_turnsFrom ret 33 (v0 :: v1 :: v2 :: v3 :: v4 :: some (.int x) :: l) st M := (lim_step dX6_turnsFrom_31).trans (e_ist5)
theorem sX6_turnsFrom_33 : lim cal sc 6 cX6_turnsFrom ret 33 lv st M = lim cal sc 6 cX6_turnsFrom ret 35 lv (.int (-2) :: st) M := (lim_step dX6_turnsFrom_33).trans (e_bi k_b_m2)
theorem sX6_turnsFrom_35 : lim cal sc 6 cX6_turnsFrom ret 35 (v0 :: v1 :: v2 :: v3 :: v4 :: v5 :: v :: l) (.int x :: st) M = lim cal sc 6 cX6_turnsFrom ret 37 (v0 :: v1 :: v2 :: v3 :: v4 :: v5 :: some (.int x) :: l) st M := (lim_step dX6_turnsFrom_35).trans (e_ist6)
theorem sX6_turnsFrom_37 : lim cal sc 6 cX6_turnsFrom ret 37 lv st M = lim cal sc 6 cX6_turnsFrom ret 38 lv (.int (-1) :: st) M := (lim_step dX6_turnsFrom_37).trans (e_ic k_i_m1)
theorem sX6_turnsFrom_38 : lim cal sc 6 cX6_turnsFrom ret 38 (v0 :: v1 :: v2 :: v3 :: v4 :: v5 :: v6 :: v :: l) (.int x :: st) M = lim cal sc 6 cX6_turnsFrom ret 40 (v0 :: v1 :: v2 :: v3 :: v4 :: v5 :: v6 :: some (.int x) :: l) st M := (lim_step dX6_turnsFrom_38).trans (e_ist7)
theorem sX6_turnsFrom_40 : lim cal sc 6 cX6_turnsFrom ret 40 (v0 :: v1 :: v2 :: v3 :: v4 :: v5 :: v6 :: some (.int x) :: l) st M = lim cal sc 6 cX6_turnsFrom ret 42 (v0 :: v1 :: v2 :: v3 :: v4 :: v5 :: v6 :: some (.int x) :: l) (.int x :: st) M := lim_step dX6_turnsFrom_40
theorem sX6_turnsFrom_42 : lim cal sc 6 cX6_turnsFrom ret 42 (some (.ref h) :: l) st M = lim cal sc 6 cX6_turnsFrom ret 43 (some (.ref h) :: l) (.ref h :: st) M := lim_step dX6_turnsFrom_42
theorem sX6_turnsFrom_43 : lim cal sc 6 cX6_turnsFrom ret 43 lv (.ref h :: st) M = opK (slotV 5 0 h M) fun q => lim cal sc 6 cX6_turnsFrom ret 46 lv (q :: st) M := (lim_step dX6_turnsFrom_43).trans (e_get (by decide) rf_6_9)
theorem sX6_turnsFrom_46 : lim cal sc 6 cX6_turnsFrom ret 46 lv st M = lim cal sc 6 cX6_turnsFrom ret 47 lv (.int 3 :: st) M := (lim_step dX6_turnsFrom_46).trans (e_ic k_i_3)
theorem sX6_turnsFrom_47 : lim cal sc 6 cX6_turnsFrom ret 47 lv (.int x :: .ref h :: st) M = opK (arrV9 sc h M) fun q => guK (inb x q.1) (lim cal sc 6 cX6_turnsFrom ret 48 lv (.int (q.2 x.toNatClampNeg) :: st) M) := (lim_step dX6_turnsFrom_47).trans (e_iald)
theorem sX6_turnsFrom_48 : lim cal sc 6 cX6_turnsFrom ret 48 lv (.int y :: .int x :: st) M = if y ≤ x then lim cal sc 6 cX6_turnsFrom ret 220 lv st M else lim cal sc 6 cX6_turnsFrom ret 51 lv st M := (lim_step dX6_turnsFrom_48).trans (e_cmpge (t := 220) (by decide))
theorem sX6_turnsFrom_51 : lim cal sc 6 cX6_turnsFrom ret 51 (v0 :: v1 :: v2 :: v3 :: v4 :: v5 :: v6 :: some (.int x) :: l) st M = lim cal sc 6 cX6_turnsFrom ret 53 (v0 :: v1 :: v2 :: v3 :: v4 :: v5 :: v6 :: some (.int x) :: l) (.int x :: st) M := lim_step dX6_turnsFrom_51
theorem sX6_turnsFrom_53 : lim cal sc 6 cX6_turnsFrom ret 53 lv (.int x :: st) M = if x < 0 then lim cal sc 6 cX6_turnsFrom ret 87 lv st M else lim cal sc 6 cX6_turnsFrom ret 56 lv st M := (lim_step dX6_turnsFrom_53).trans (e_iflt (t := 87) (by decide))
theorem sX6_turnsFrom_56 : lim cal sc 6 cX6_turnsFrom ret 56 (some (.ref h) :: l) st M = lim cal sc 6 cX6_turnsFrom ret 57 (some (.ref h) :: l) (.ref h :: st) M := lim_step dX6_turnsFrom_56
theorem sX6_turnsFrom_57 : lim cal sc 6 cX6_turnsFrom ret 57 (v0 :: v1 :: v2 :: v3 :: v4 :: v5 :: v6 :: some (.int x) :: l) st M = lim cal sc 6 cX6_turnsFrom ret 59 (v0 :: v1 :: v2 :: v3 :: v4 :: v5 :: v6 :: some (.int x) :: l) (.int x :: st) M := lim_step dX6_turnsFrom_57
theorem sX6_turnsFrom_59 : lim cal sc 6 cX6_turnsFrom ret 59 lv st M = lim cal sc 6 cX6_turnsFrom ret 60 lv (.int 0 :: st) M := (lim_step dX6_turnsFrom_59).trans (e_ic k_i_0)
theorem sX6_turnsFrom_60 : lim cal sc 6 cX6_turnsFrom ret 60 lv (a2 :: a1 :: .ref h :: st) M = guK (isCl 5 h) (guK (rk 8 st) (calK (cal 152 [.ref h, a1, a2] M) fun q M' => lim cal sc 6 cX6_turnsFrom ret 63 lv (q.toList ++ st) M')) := (lim_step dX6_turnsFrom_60).trans (e_virt2 rm_6_125 mq_152)
theorem sX6_turnsFrom_63 : lim cal sc 6 cX6_turnsFrom ret 63 lv (.int x :: st) M = if x = 0 then lim cal sc 6 cX6_turnsFrom ret 91 lv st M else lim cal sc 6 cX6_turnsFrom ret 66 lv st M := (lim_step dX6_turnsFrom_63).trans (e_ifeq (t := 91) (by decide))
theorem sX6_turnsFrom_66 : lim cal sc 6 cX6_turnsFrom ret 66 (some (.ref h) :: l) st M = lim cal sc 6 cX6_turnsFrom ret 67 (some (.ref h) :: l) (.ref h :: st) M := lim_step dX6_turnsFrom_66
theorem sX6_turnsFrom_67 : lim cal sc 6 cX6_turnsFrom ret 67 (v0 :: v1 :: v2 :: v3 :: v4 :: v5 :: v6 :: some (.int x) :: l) st M = lim cal sc 6 cX6_turnsFrom ret 69 (v0 :: v1 :: v2 :: v3 :: v4 :: v5 :: v6 :: some (.int x) :: l) (.int x :: st) M := lim_step dX6_turnsFrom_67
theorem sX6_turnsFrom_69 : lim cal sc 6 cX6_turnsFrom ret 69 lv st M = lim cal sc 6 cX6_turnsFrom ret 70 lv (.int 3 :: st) M := (lim_step dX6_turnsFrom_69).trans (e_ic k_i_3)
theorem sX6_turnsFrom_70 : lim cal sc 6 cX6_turnsFrom ret 70 lv (a2 :: a1 :: .ref h :: st) M = guK (isCl 5 h) (guK (rk 8 st) (calK (cal 142 [.ref h, a1, a2] M) fun q M' => lim cal sc 6 cX6_turnsFrom ret 73 lv (q.toList ++ st) M')) := (lim_step dX6_turnsFrom_70).trans (e_virt2 rm_6_98 mq_142)
theorem sX6_turnsFrom_73 : lim cal sc 6 cX6_turnsFrom ret 73 (v0 :: v1 :: v2 :: v3 :: some (.int x) :: l) st M = lim cal sc 6 cX6_turnsFrom ret 75 (v0 :: v1 :: v2 :: v3 :: some (.int x) :: l) (.int x :: st) M := lim_step dX6_turnsFrom_73
theorem sX6_turnsFrom_75 : lim cal sc 6 cX6_turnsFrom ret 75 lv (.int y :: .int x :: st) M = if x = y then lim cal sc 6 cX6_turnsFrom ret 78 lv st M else lim cal sc 6 cX6_turnsFrom ret 91 lv st M := (lim_step dX6_turnsFrom_75).trans (e_cmpne (t := 91) (by decide))
theorem sX6_turnsFrom_78 : lim cal sc 6 cX6_turnsFrom ret 78 (some (.ref h) :: l) st M = lim cal sc 6 cX6_turnsFrom ret 79 (some (.ref h) :: l) (.ref h :: st) M := lim_step dX6_turnsFrom_78
theorem sX6_turnsFrom_79 : lim cal sc 6 cX6_turnsFrom ret 79 (v0 :: v1 :: v2 :: v3 :: v4 :: v5 :: v6 :: some (.int x) :: l) st M = lim cal sc 6 cX6_turnsFrom ret 81 (v0 :: v1 :: v2 :: v3 :: v4 :: v5 :: v6 :: some (.int x) :: l) (.int x :: st) M := lim_step dX6_turnsFrom_79
theorem sX6_turnsFrom_81 : lim cal sc 6 cX6_turnsFrom ret 81 lv (a1 :: .ref h :: st) M = guK (isCl 5 h) (guK (rk 8 st) (calK (cal 153 [.ref h, a1] M) fun q M' => lim cal sc 6 cX6_turnsFrom ret 84 lv (q.toList ++ st) M')) := (lim_step dX6_turnsFrom_81).trans (e_virt1 rm_6_137 mq_153)
theorem sX6_turnsFrom_84 : lim cal sc 6 cX6_turnsFrom ret 84 lv (.int x :: st) M = if x = 0 then lim cal sc 6 cX6_turnsFrom ret 91 lv st M else lim cal sc 6 cX6_turnsFrom ret 87 lv st M := (lim_step dX6_turnsFrom_84).trans (e_ifeq (t := 91) (by decide))
theorem sX6_turnsFrom_87 : lim cal sc 6 cX6_turnsFrom ret 87 lv st M = lim cal sc 6 cX6_turnsFrom ret 88 lv (.int 1 :: st) M := (lim_step dX6_turnsFrom_87).trans (e_ic k_i_1)
theorem sX6_turnsFrom_88 : lim cal sc 6 cX6_turnsFrom ret 88 lv st M = lim cal sc 6 cX6_turnsFrom ret 92 lv st M := (lim_step dX6_turnsFrom_88).trans (e_goto (t := 92) (by decide))
theorem sX6_turnsFrom_91 : lim cal sc 6 cX6_turnsFrom ret 91 lv st M = lim cal sc 6 cX6_turnsFrom ret 92 lv (.int 0 :: st) M := (lim_step dX6_turnsFrom_91).trans (e_ic k_i_0)
theorem sX6_turnsFrom_92 : lim cal sc 6 cX6_turnsFrom ret 92 (v0 :: v1 :: v2 :: v3 :: v4 :: v5 :: v6 :: v7 :: v :: l) (.int x :: st) M = lim cal sc 6 cX6_turnsFrom ret 94 (v0 :: v1 :: v2 :: v3 :: v4 :: v5 :: v6 :: v7 :: some (.int x) :: l) st M := (lim_step dX6_turnsFrom_92).trans (e_ist8)
theorem sX6_turnsFrom_94 : lim cal sc 6 cX6_turnsFrom ret 94 (v0 :: v1 :: v2 :: v3 :: v4 :: v5 :: v6 :: v7 :: some (.int x) :: l) st M = lim cal sc 6 cX6_turnsFrom ret 96 (v0 :: v1 :: v2 :: v3 :: v4 :: v5 :: v6 :: v7 :: some (.int x) :: l) (.int x :: st) M := lim_step dX6_turnsFrom_94
theorem sX6_turnsFrom_96 : lim cal sc 6 cX6_turnsFrom ret 96 lv (.int x :: st) M = if x = 0 then lim cal sc 6 cX6_turnsFrom ret 214 lv st M else lim cal sc 6 cX6_turnsFrom ret 99 lv st M := (lim_step dX6_turnsFrom_96).trans (e_ifeq (t := 214) (by decide))
theorem sX6_turnsFrom_99 : lim cal sc 6 cX6_turnsFrom ret 99 (some (.ref h) :: l) st M = lim cal sc 6 cX6_turnsFrom ret 100 (some (.ref h) :: l) (.ref h :: st) M := lim_step dX6_turnsFrom_99
theorem sX6_turnsFrom_100 : lim cal sc 6 cX6_turnsFrom ret 100 (v0 :: some (.int x) :: l) st M = lim cal sc 6 cX6_turnsFrom ret 101 (v0 :: some (.int x) :: l) (.int x :: st) M := lim_step dX6_turnsFrom_100
theorem sX6_turnsFrom_101 : lim cal sc 6 cX6_turnsFrom ret 101 lv (a1 :: .ref h :: st) M = guK (isCl 5 h) (guK (rk 8 st) (calK (cal 202 [.ref h, a1] M) fun q M' => lim cal sc 6 cX6_turnsFrom ret 104 lv (q.toList ++ st) M')) := (lim_step dX6_turnsFrom_101).trans (e_virt1 rm_6_247 mq_202)
theorem sX6_turnsFrom_104 : lim cal sc 6 cX6_turnsFrom ret 104 (v0 :: v1 :: v2 :: v3 :: v4 :: v5 :: v6 :: some (.int x) :: l) st M = lim cal sc 6 cX6_turnsFrom ret 106 (v0 :: v1 :: v2 :: v3 :: v4 :: v5 :: v6 :: some (.int x) :: l) (.int x :: st) M := lim_step dX6_turnsFrom_104
theorem sX6_turnsFrom_106 : lim cal sc 6 cX6_turnsFrom ret 106 lv (.int x :: st) M = if 0 ≤ x then lim cal sc 6 cX6_turnsFrom ret 113 lv st M else lim cal sc 6 cX6_turnsFrom ret 109 lv st M := (lim_step dX6_turnsFrom_106).trans (e_ifge (t := 113) (by decide))
theorem sX6_turnsFrom_109 : lim cal sc 6 cX6_turnsFrom ret 109 lv st M = lim cal sc 6 cX6_turnsFrom ret 110 lv (.int 0 :: st) M := (lim_step dX6_turnsFrom_109).trans (e_ic k_i_0)
theorem sX6_turnsFrom_110 : lim cal sc 6 cX6_turnsFrom ret 110 lv st M = lim cal sc 6 cX6_turnsFrom ret 119 lv st M := (lim_step dX6_turnsFrom_110).trans (e_goto (t := 119) (by decide))
theorem sX6_turnsFrom_113 : lim cal sc 6 cX6_turnsFrom ret 113 (some (.ref h) :: l) st M = lim cal sc 6 cX6_turnsFrom ret 114 (some (.ref h) :: l) (.ref h :: st) M := lim_step dX6_turnsFrom_113
theorem sX6_turnsFrom_114 : lim cal sc 6 cX6_turnsFrom ret 114 (v0 :: v1 :: v2 :: v3 :: v4 :: v5 :: v6 :: some (.int x) :: l) st M = lim cal sc 6 cX6_turnsFrom ret 116 (v0 :: v1 :: v2 :: v3 :: v4 :: v5 :: v6 :: some (.int x) :: l) (.int x :: st) M := lim_step dX6_turnsFrom_114
theorem sX6_turnsFrom_116 : lim cal sc 6 cX6_turnsFrom ret 116 lv (a1 :: .ref h :: st) M = guK (isCl 5 h) (guK (rk 8 st) (calK (cal 155 [.ref h, a1] M) fun q M' => lim cal sc 6 cX6_turnsFrom ret 119 lv (q.toList ++ st) M')) := (lim_step dX6_turnsFrom_116).trans (e_virt1 rm_6_140 mq_155)
theorem sX6_turnsFrom_119 : lim cal sc 6 cX6_turnsFrom ret 119 (v0 :: v1 :: v2 :: v3 :: v4 :: v5 :: v6 :: v7 :: v8 :: v :: l) (.int x :: st) M = lim cal sc 6 cX6_turnsFrom ret 121 (v0 :: v1 :: v2 :: v3 :: v4 :: v5 :: v6 :: v7 :: v8 :: some (.int x) :: l) st M := (lim_step dX6_turnsFrom_119).trans (e_ist9)
theorem sX6_turnsFrom_121 : lim cal sc 6 cX6_turnsFrom ret 121 (some (.ref h) :: l) st M = lim cal sc 6 cX6_turnsFrom ret 122 (some (.ref h) :: l) (.ref h :: st) M := lim_step dX6_turnsFrom_121
theorem sX6_turnsFrom_122 : lim cal sc 6 cX6_turnsFrom ret 122 lv st M = lim cal sc 6 cX6_turnsFrom ret 123 lv (.int 1 :: st) M := (lim_step dX6_turnsFrom_122).trans (e_ic k_i_1)
theorem sX6_turnsFrom_123 : lim cal sc 6 cX6_turnsFrom ret 123 lv (a1 :: .ref h :: st) M = guK (isCl 5 h) (guK (rk 8 st) (calK (cal 203 [.ref h, a1] M) fun q M' => lim cal sc 6 cX6_turnsFrom ret 126 lv (q.toList ++ st) M')) := (lim_step dX6_turnsFrom_123).trans (e_virt1 rm_6_250 mq_203)
theorem sX6_turnsFrom_126 : lim cal sc 6 cX6_turnsFrom ret 126 (some (.ref h) :: l) st M = lim cal sc 6 cX6_turnsFrom ret 127 (some (.ref h) :: l) (.ref h :: st) M := lim_step dX6_turnsFrom_126
theorem sX6_turnsFrom_127 : lim cal sc 6 cX6_turnsFrom ret 127 (v0 :: some (.int x) :: l) st M = lim cal sc 6 cX6_turnsFrom ret 128 (v0 :: some (.int x) :: l) (.int x :: st) M := lim_step dX6_turnsFrom_127
theorem sX6_turnsFrom_128 : lim cal sc 6 cX6_turnsFrom ret 128 lv st M = lim cal sc 6 cX6_turnsFrom ret 129 lv (.int 1 :: st) M := (lim_step dX6_turnsFrom_128).trans (e_ic k_i_1)
theorem sX6_turnsFrom_129 : lim cal sc 6 cX6_turnsFrom ret 129 lv (.int y :: .int x :: st) M = lim cal sc 6 cX6_turnsFrom ret 130 lv (.int (x + y) :: st) M := lim_step dX6_turnsFrom_129
theorem sX6_turnsFrom_130 : lim cal sc 6 cX6_turnsFrom ret 130 (v0 :: v1 :: some (.int x) :: l) st M = lim cal sc 6 cX6_turnsFrom ret 131 (v0 :: v1 :: some (.int x) :: l) (.int x :: st) M := lim_step dX6_turnsFrom_130
theorem sX6_turnsFrom_131 : lim cal sc 6 cX6_turnsFrom ret 131 (v0 :: v1 :: v2 :: some (.int x) :: l) st M = lim cal sc 6 cX6_turnsFrom ret 132 (v0 :: v1 :: v2 :: some (.int x) :: l) (.int x :: st) M := lim_step dX6_turnsFrom_131
theorem sX6_turnsFrom_132 : lim cal sc 6 cX6_turnsFrom ret 132 lv st M = lim cal sc 6 cX6_turnsFrom ret 133 lv (.int 1 :: st) M := (lim_step dX6_turnsFrom_132).trans (e_ic k_i_1)
theorem sX6_turnsFrom_133 : lim cal sc 6 cX6_turnsFrom ret 133 lv (.int y :: .int x :: st) M = lim cal sc 6 cX6_turnsFrom ret 134 lv (.int (x - y) :: st) M := lim_step dX6_turnsFrom_133
theorem sX6_turnsFrom_134 : lim cal sc 6 cX6_turnsFrom ret 134 lv (a3 :: a2 :: a1 :: .ref h :: st) M = guK (isCl 5 h) (guK (rk 8 st) (calK (cal 201 [.ref h, a1, a2, a3] M) fun q M' => lim cal sc 6 cX6_turnsFrom ret 137 lv (q.toList ++ st) M')) := (lim_step dX6_turnsFrom_134).trans (e_virt3 rm_6_256 mq_201)
theorem sX6_turnsFrom_137 : lim cal sc 6 cX6_turnsFrom ret 137 lv (.int y :: .int x :: st) M = lim cal sc 6 cX6_turnsFrom ret 138 lv (.int (x + y) :: st) M := lim_step dX6_turnsFrom_137
theorem sX6_turnsFrom_138 : lim cal sc 6 cX6_turnsFrom ret 138 (v0 :: v1 :: v2 :: v3 :: v4 :: v5 :: v6 :: v7 :: v8 :: v9 :: v :: l) (.int x :: st) M = lim cal sc 6 cX6_turnsFrom ret 140 (v0 :: v1 :: v2 :: v3 :: v4 :: v5 :: v6 :: v7 :: v8 :: v9 :: some (.int x) :: l) st M := (lim_step dX6_turnsFrom_138).trans (e_ist10)
theorem sX6_turnsFrom_140 : lim cal sc 6 cX6_turnsFrom ret 140 (some (.ref h) :: l) st M = lim cal sc 6 cX6_turnsFrom ret 141 (some (.ref h) :: l) (.ref h :: st) M := lim_step dX6_turnsFrom_140
theorem sX6_turnsFrom_141 : lim cal sc 6 cX6_turnsFrom ret 141 (v0 :: some (.int x) :: l) st M = lim cal sc 6 cX6_turnsFrom ret 142 (v0 :: some (.int x) :: l) (.int x :: st) M := lim_step dX6_turnsFrom_141
theorem sX6_turnsFrom_142 : lim cal sc 6 cX6_turnsFrom ret 142 lv (a1 :: .ref h :: st) M = guK (isCl 5 h) (guK (rk 8 st) (calK (cal 204 [.ref h, a1] M) fun q M' => lim cal sc 6 cX6_turnsFrom ret 145 lv (q.toList ++ st) M')) := (lim_step dX6_turnsFrom_142).trans (e_virt1 rm_6_253 mq_204)
theorem sX6_turnsFrom_145 : lim cal sc 6 cX6_turnsFrom ret 145 (v0 :: v1 :: v2 :: v3 :: v4 :: v5 :: some (.int x) :: l) st M = lim cal sc 6 cX6_turnsFrom ret 147 (v0 :: v1 :: v2 :: v3 :: v4 :: v5 :: some (.int x) :: l) (.int x :: st) M := lim_step dX6_turnsFrom_145
theorem sX6_turnsFrom_147 : lim cal sc 6 cX6_turnsFrom ret 147 lv st M = lim cal sc 6 cX6_turnsFrom ret 149 lv (.int (-2) :: st) M := (lim_step dX6_turnsFrom_147).trans (e_bi k_b_m2)
theorem sX6_turnsFrom_149 : lim cal sc 6 cX6_turnsFrom ret 149 lv (.int y :: .int x :: st) M = if x = y then lim cal sc 6 cX6_turnsFrom ret 179 lv st M else lim cal sc 6 cX6_turnsFrom ret 152 lv st M := (lim_step dX6_turnsFrom_149).trans (e_cmpeq (t := 179) (by decide))
theorem sX6_turnsFrom_152 : lim cal sc 6 cX6_turnsFrom ret 152 (v0 :: v1 :: v2 :: v3 :: v4 :: v5 :: v6 :: v7 :: v8 :: some (.int x) :: l) st M = lim cal sc 6 cX6_turnsFrom ret 154 (v0 :: v1 :: v2 :: v3 :: v4 :: v5 :: v6 :: v7 :: v8 :: some (.int x) :: l) (.int x :: st) M := lim_step dX6_turnsFrom_152
theorem sX6_turnsFrom_154 : lim cal sc 6 cX6_turnsFrom ret 154 lv (.int x :: st) M = if x < 0 then lim cal sc 6 cX6_turnsFrom ret 183 lv st M else lim cal sc 6 cX6_turnsFrom ret 157 lv st M := (lim_step dX6_turnsFrom_154).trans (e_iflt (t := 183) (by decide))
theorem sX6_turnsFrom_157 : lim cal sc 6 cX6_turnsFrom ret 157 (v0 :: v1 :: v2 :: v3 :: some (.int x) :: l) st M = lim cal sc 6 cX6_turnsFrom ret 159 (v0 :: v1 :: v2 :: v3 :: some (.int x) :: l) (.int x :: st) M := lim_step dX6_turnsFrom_157
theorem sX6_turnsFrom_159 : lim cal sc 6 cX6_turnsFrom ret 159 lv (.int x :: st) M = if x = 0 then lim cal sc 6 cX6_turnsFrom ret 162 lv st M else lim cal sc 6 cX6_turnsFrom ret 172 lv st M := (lim_step dX6_turnsFrom_159).trans (e_ifne (t := 172) (by decide))
theorem sX6_turnsFrom_162 : lim cal sc 6 cX6_turnsFrom ret 162 (v0 :: v1 :: v2 :: v3 :: v4 :: v5 :: v6 :: v7 :: v8 :: v9 :: some (.int x) :: l) st M = lim cal sc 6 cX6_turnsFrom ret 164 (v0 :: v1 :: v2 :: v3 :: v4 :: v5 :: v6 :: v7 :: v8 :: v9 :: some (.int x) :: l) (.int x :: st) M := lim_step dX6_turnsFrom_162
theorem sX6_turnsFrom_164 : lim cal sc 6 cX6_turnsFrom ret 164 (v0 :: v1 :: v2 :: v3 :: v4 :: some (.int x) :: l) st M = lim cal sc 6 cX6_turnsFrom ret 166 (v0 :: v1 :: v2 :: v3 :: v4 :: some (.int x) :: l) (.int x :: st) M := lim_step dX6_turnsFrom_164
theorem sX6_turnsFrom_166 : lim cal sc 6 cX6_turnsFrom ret 166 lv (.int y :: .int x :: st) M = if x ≤ y then lim cal sc 6 cX6_turnsFrom ret 183 lv st M else lim cal sc 6 cX6_turnsFrom ret 169 lv st M := (lim_step dX6_turnsFrom_166).trans (e_cmple (t := 183) (by decide))
theorem sX6_turnsFrom_169 : lim cal sc 6 cX6_turnsFrom ret 169 lv st M = lim cal sc 6 cX6_turnsFrom ret 179 lv st M := (lim_step dX6_turnsFrom_169).trans (e_goto (t := 179) (by decide))
theorem sX6_turnsFrom_172 : lim cal sc 6 cX6_turnsFrom ret 172 (v0 :: v1 :: v2 :: v3 :: v4 :: v5 :: v6 :: v7 :: v8 :: v9 :: some (.int x) :: l) st M = lim cal sc 6 cX6_turnsFrom ret 174 (v0 :: v1 :: v2 :: v3 :: v4 :: v5 :: v6 :: v7 :: v8 :: v9 :: some (.int x) :: l) (.int x :: st) M := lim_step dX6_turnsFrom_172
theorem sX6_turnsFrom_174 : lim cal sc 6 cX6_turnsFrom ret 174 (v0 :: v1 :: v2 :: v3 :: v4 :: some (.int x) :: l) st M = lim cal sc 6 cX6_turnsFrom ret 176 (v0 :: v1 :: v2 :: v3 :: v4 :: some (.int x) :: l) (.int x :: st) M := lim_step dX6_turnsFrom_174
theorem sX6_turnsFrom_176 : lim cal sc 6 cX6_turnsFrom ret 176 lv (.int y :: .int x :: st) M = if y ≤ x then lim cal sc 6 cX6_turnsFrom ret 183 lv st M else lim cal sc 6 cX6_turnsFrom ret 179 lv st M := (lim_step dX6_turnsFrom_176).trans (e_cmpge (t := 183) (by decide))
theorem sX6_turnsFrom_179 : lim cal sc 6 cX6_turnsFrom ret 179 lv st M = lim cal sc 6 cX6_turnsFrom ret 180 lv (.int 1 :: st) M := (lim_step dX6_turnsFrom_179).trans (e_ic k_i_1)
theorem sX6_turnsFrom_180 : lim cal sc 6 cX6_turnsFrom ret 180 lv st M = lim cal sc 6 cX6_turnsFrom ret 184 lv st M := (lim_step dX6_turnsFrom_180).trans (e_goto (t := 184) (by decide))
theorem sX6_turnsFrom_183 : lim cal sc 6 cX6_turnsFrom ret 183 lv st M = lim cal sc 6 cX6_turnsFrom ret 184 lv (.int 0 :: st) M := (lim_step dX6_turnsFrom_183).trans (e_ic k_i_0)
theorem sX6_turnsFrom_184 : lim cal sc 6 cX6_turnsFrom ret 184 (v0 :: v1 :: v2 :: v3 :: v4 :: v5 :: v6 :: v7 :: v8 :: v9 :: v10 :: v :: l) (.int x :: st) M = lim cal sc 6 cX6_turnsFrom ret 186 (v0 :: v1 :: v2 :: v3 :: v4 :: v5 :: v6 :: v7 :: v8 :: v9 :: v10 :: some (.int x) :: l) st M := (lim_step dX6_turnsFrom_184).trans (e_ist11)
theorem sX6_turnsFrom_186 : lim cal sc 6 cX6_turnsFrom ret 186 (v0 :: v1 :: v2 :: v3 :: v4 :: v5 :: v6 :: v7 :: v8 :: v9 :: v10 :: some (.int x) :: l) st M = lim cal sc 6 cX6_turnsFrom ret 188 (v0 :: v1 :: v2 :: v3 :: v4 :: v5 :: v6 :: v7 :: v8 :: v9 :: v10 :: some (.int x) :: l) (.int x :: st) M := lim_step dX6_turnsFrom_186
theorem sX6_turnsFrom_188 : lim cal sc 6 cX6_turnsFrom ret 188 lv (.int x :: st) M = if x = 0 then lim cal sc 6 cX6_turnsFrom ret 196 lv st M else lim cal sc 6 cX6_turnsFrom ret 191 lv st M := (lim_step dX6_turnsFrom_188).trans (e_ifeq (t := 196) (by decide))
theorem sX6_turnsFrom_191 : lim cal sc 6 cX6_turnsFrom ret 191 (v0 :: v1 :: v2 :: v3 :: v4 :: v5 :: v6 :: v7 :: v8 :: v9 :: some (.int x) :: l) st M = lim cal sc 6 cX6_turnsFrom ret 193 (v0 :: v1 :: v2 :: v3 :: v4 :: v5 :: v6 :: v7 :: v8 :: v9 :: some (.int x) :: l) (.int x :: st) M := lim_step dX6_turnsFrom_191
theorem sX6_turnsFrom_193 : lim cal sc 6 cX6_turnsFrom ret 193 lv st M = lim cal sc 6 cX6_turnsFrom ret 198 lv st M := (lim_step dX6_turnsFrom_193).trans (e_goto (t := 198) (by decide))
theorem sX6_turnsFrom_196 : lim cal sc 6 cX6_turnsFrom ret 196 (v0 :: v1 :: v2 :: v3 :: v4 :: some (.int x) :: l) st M = lim cal sc 6 cX6_turnsFrom ret 198 (v0 :: v1 :: v2 :: v3 :: v4 :: some (.int x) :: l) (.int x :: st) M := lim_step dX6_turnsFrom_196
theorem sX6_turnsFrom_198 : lim cal sc 6 cX6_turnsFrom ret 198 (v0 :: v1 :: v2 :: v3 :: v4 :: v :: l) (.int x :: st) M = lim cal sc 6 cX6_turnsFrom ret 200 (v0 :: v1 :: v2 :: v3 :: v4 :: some (.int x) :: l) st M := (lim_step dX6_turnsFrom_198).trans (e_ist5)
theorem sX6_turnsFrom_200 : lim cal sc 6 cX6_turnsFrom ret 200 (v0 :: v1 :: v2 :: v3 :: v4 :: v5 :: v6 :: v7 :: v8 :: v9 :: v10 :: some (.int x) :: l) st M = lim cal sc 6 cX6_turnsFrom ret 202 (v0 :: v1 :: v2 :: v3 :: v4 :: v5 :: v6 :: v7 :: v8 :: v9 :: v10 :: some (.int x) :: l) (.int x :: st) M := lim_step dX6_turnsFrom_200
theorem sX6_turnsFrom_202 : lim cal sc 6 cX6_turnsFrom ret 202 lv (.int x :: st) M = if x = 0 then lim cal sc 6 cX6_turnsFrom ret 210 lv st M else lim cal sc 6 cX6_turnsFrom ret 205 lv st M := (lim_step dX6_turnsFrom_202).trans (e_ifeq (t := 210) (by decide))
theorem sX6_turnsFrom_205 : lim cal sc 6 cX6_turnsFrom ret 205 (v0 :: v1 :: v2 :: v3 :: v4 :: v5 :: v6 :: some (.int x) :: l) st M = lim cal sc 6 cX6_turnsFrom ret 207 (v0 :: v1 :: v2 :: v3 :: v4 :: v5 :: v6 :: some (.int x) :: l) (.int x :: st) M := lim_step dX6_turnsFrom_205
theorem sX6_turnsFrom_207 : lim cal sc 6 cX6_turnsFrom ret 207 lv st M = lim cal sc 6 cX6_turnsFrom ret 212 lv st M := (lim_step dX6_turnsFrom_207).trans (e_goto (t := 212) (by decide))
theorem sX6_turnsFrom_210 : lim cal sc 6 cX6_turnsFrom ret 210 (v0 :: v1 :: v2 :: v3 :: v4 :: v5 :: some (.int x) :: l) st M = lim cal sc 6 cX6_turnsFrom ret 212 (v0 :: v1 :: v2 :: v3 :: v4 :: v5 :: some (.int x) :: l) (.int x :: st) M := lim_step dX6_turnsFrom_210
theorem sX6_turnsFrom_212 : lim cal sc 6 cX6_turnsFrom ret 212 (v0 :: v1 :: v2 :: v3 :: v4 :: v5 :: v :: l) (.int x :: st) M = lim cal sc 6 cX6_turnsFrom ret 214 (v0 :: v1 :: v2 :: v3 :: v4 :: v5 :: some (.int x) :: l) st M := (lim_step dX6_turnsFrom_212).trans (e_ist6)
theorem sX6_turnsFrom_214 : lim cal sc 6 cX6_turnsFrom ret 214 (v0 :: v1 :: v2 :: v3 :: v4 :: v5 :: v6 :: some (.int x) :: l) st M = lim cal sc 6 cX6_turnsFrom ret 217 (v0 :: v1 :: v2 :: v3 :: v4 :: v5 :: v6 :: some (.int (x + 1)) :: l) st M := (lim_step dX6_turnsFrom_214).trans (e_inc7 k_i_1)
theorem sX6_turnsFrom_217 : lim cal sc 6 cX6_turnsFrom ret 217 lv st M = lim cal sc 6 cX6_turnsFrom ret 40 lv st M := (lim_step dX6_turnsFrom_217).trans (e_goto (t := 40) (by decide))
theorem sX6_turnsFrom_220 : lim cal sc 6 cX6_turnsFrom ret 220 (some (.ref h) :: l) st M = lim cal sc 6 cX6_turnsFrom ret 221 (some (.ref h) :: l) (.ref h :: st) M := lim_step dX6_turnsFrom_220
theorem sX6_turnsFrom_221 : lim cal sc 6 cX6_turnsFrom ret 221 (v0 :: v1 :: v2 :: v3 :: v4 :: v5 :: some (.int x) :: l) st M = lim cal sc 6 cX6_turnsFrom ret 223 (v0 :: v1 :: v2 :: v3 :: v4 :: v5 :: some (.int x) :: l) (.int x :: st) M := lim_step dX6_turnsFrom_221
theorem sX6_turnsFrom_223 : lim cal sc 6 cX6_turnsFrom ret 223 lv (.int x :: .ref h :: st) M = guK (isInt 5 14 h) (lim cal sc 6 cX6_turnsFrom ret 226 lv st (mset M h 14 x)) := (lim_step dX6_turnsFrom_223).trans (e_put rf_6_259 rfl)
theorem sX6_turnsFrom_226 : lim cal sc 6 cX6_turnsFrom ret 226 (v0 :: v1 :: v2 :: v3 :: v4 :: some (.int x) :: l) st M = lim cal sc 6 cX6_turnsFrom ret 228 (v0 :: v1 :: v2 :: v3 :: v4 :: some (.int x) :: l) (.int x :: st) M := lim_step dX6_turnsFrom_226
theorem sX6_turnsFrom_228 : lim cal sc 6 cX6_turnsFrom (some .int) 228 lv [.int x] M = some (some (.int x), M) := (lim_step dX6_turnsFrom_228).trans (e_iret)
theorem sX6_refusesTurns_0 : lim cal sc 6 cX6_refusesTurns ret 0 (v0 :: some (.int x) :: l) st M = lim cal sc 6 cX6_refusesTurns ret 1 (v0 :: some (.int x) :: l) (.int x :: st) M := lim_step dX6_refusesTurns_0
theorem sX6_refusesTurns_1 : lim cal sc 6 cX6_refusesTurns ret 1 lv st M = lim cal sc 6 cX6_refusesTurns ret 2 lv (.int 1 :: st) M := (lim_step dX6_refusesTurns_1).trans (e_ic k_i_1)
theorem sX6_refusesTurns_2 : lim cal sc 6 cX6_refusesTurns ret 2 lv st M = lim cal sc 6 cX6_refusesTurns ret 3 lv (.int 4 :: st) M := (lim_step dX6_refusesTurns_2).trans (e_ic k_i_4)
theorem sX6_refusesTurns_3 : lim cal sc 6 cX6_refusesTurns ret 3 lv (a3 :: a2 :: a1 :: st) M = guK (rk 8 st) (calK (cal 136 [a1, a2, a3] M) fun q M' => lim cal sc 6 cX6_refusesTurns ret 6 lv (q.toList ++ st) M') := (lim_step dX6_refusesTurns_3).trans (e_stat3 rm_6_74)
theorem sX6_refusesTurns_6 : lim cal sc 6 cX6_refusesTurns ret 6 lv (.int x :: st) M = if x = 0 then lim cal sc 6 cX6_refusesTurns ret 19 lv st M else lim cal sc 6 cX6_refusesTurns ret 9 lv st M := (lim_step dX6_refusesTurns_6).trans (e_ifeq (t := 19) (by decide))
theorem sX6_refusesTurns_9 : lim cal sc 6 cX6_refusesTurns ret 9 (v0 :: v1 :: some (.int x) :: l) st M = lim cal sc 6 cX6_refusesTurns ret 10 (v0 :: v1 :: some (.int x) :: l) (.int x :: st) M := lim_step dX6_refusesTurns_9
theorem sX6_refusesTurns_10 : lim cal sc 6 cX6_refusesTurns ret 10 (v0 :: some (.int x) :: l) st M = lim cal sc 6 cX6_refusesTurns ret 11 (v0 :: some (.int x) :: l) (.int x :: st) M := lim_step dX6_refusesTurns_10
theorem sX6_refusesTurns_11 : lim cal sc 6 cX6_refusesTurns ret 11 lv st M = lim cal sc 6 cX6_refusesTurns ret 13 lv (.int 60 :: st) M := (lim_step dX6_refusesTurns_11).trans (e_bi k_b_60)
theorem sX6_refusesTurns_13 : lim cal sc 6 cX6_refusesTurns ret 13 lv (a3 :: a2 :: a1 :: st) M = guK (rk 8 st) (calK (cal 136 [a1, a2, a3] M) fun q M' => lim cal sc 6 cX6_refusesTurns ret 16 lv (q.toList ++ st) M') := (lim_step dX6_refusesTurns_13).trans (e_stat3 rm_6_74)
theorem sX6_refusesTurns_16 : lim cal sc 6 cX6_refusesTurns ret 16 lv (.int x :: st) M = if x = 0 then lim cal sc 6 cX6_refusesTurns ret 19 lv st M else lim cal sc 6 cX6_refusesTurns ret 24 lv st M := (lim_step dX6_refusesTurns_16).trans (e_ifne (t := 24) (by decide))
theorem sX6_refusesTurns_19 : lim cal sc 6 cX6_refusesTurns ret 19 lv st M = lim cal sc 6 cX6_refusesTurns ret 21 lv (.int (-1000001) :: st) M := (lim_step dX6_refusesTurns_19).trans (e_ldc rc_6_69)
theorem sX6_refusesTurns_21 : lim cal sc 6 cX6_refusesTurns ret 21 lv st M = lim cal sc 6 cX6_refusesTurns ret 38 lv st M := (lim_step dX6_refusesTurns_21).trans (e_goto (t := 38) (by decide))
theorem sX6_refusesTurns_24 : lim cal sc 6 cX6_refusesTurns ret 24 (some (.ref h) :: l) st M = lim cal sc 6 cX6_refusesTurns ret 25 (some (.ref h) :: l) (.ref h :: st) M := lim_step dX6_refusesTurns_24
theorem sX6_refusesTurns_25 : lim cal sc 6 cX6_refusesTurns ret 25 (v0 :: v1 :: some (.int x) :: l) st M = lim cal sc 6 cX6_refusesTurns ret 26 (v0 :: v1 :: some (.int x) :: l) (.int x :: st) M := lim_step dX6_refusesTurns_25
theorem sX6_refusesTurns_26 : lim cal sc 6 cX6_refusesTurns ret 26 lv (a1 :: .ref h :: st) M = guK (isCl 5 h) (guK (rk 8 st) (calK (cal 163 [.ref h, a1] M) fun q M' => lim cal sc 6 cX6_refusesTurns ret 29 lv (q.toList ++ st) M')) := (lim_step dX6_refusesTurns_26).trans (e_virt1 rm_6_176 mq_163)
theorem sX6_refusesTurns_29 : lim cal sc 6 cX6_refusesTurns ret 29 lv (.int x :: st) M = if x = 0 then lim cal sc 6 cX6_refusesTurns ret 37 lv st M else lim cal sc 6 cX6_refusesTurns ret 32 lv st M := (lim_step dX6_refusesTurns_29).trans (e_ifeq (t := 37) (by decide))
theorem sX6_refusesTurns_32 : lim cal sc 6 cX6_refusesTurns ret 32 lv st M = lim cal sc 6 cX6_refusesTurns ret 34 lv (.int (-1000005) :: st) M := (lim_step dX6_refusesTurns_32).trans (e_ldc rc_6_136)
theorem sX6_refusesTurns_34 : lim cal sc 6 cX6_refusesTurns ret 34 lv st M = lim cal sc 6 cX6_refusesTurns ret 38 lv st M := (lim_step dX6_refusesTurns_34).trans (e_goto (t := 38) (by decide))
theorem sX6_refusesTurns_37 : lim cal sc 6 cX6_refusesTurns ret 37 lv st M = lim cal sc 6 cX6_refusesTurns ret 38 lv (.int 0 :: st) M := (lim_step dX6_refusesTurns_37).trans (e_ic k_i_0)
theorem sX6_refusesTurns_38 : lim cal sc 6 cX6_refusesTurns (some .int) 38 lv [.int x] M = some (some (.int x), M) := (lim_step dX6_refusesTurns_38).trans (e_iret)
theorem sX6_turns_0 : lim cal sc 6 cX6_turns ret 0 (some (.ref h) :: l) st M = lim cal sc 6 cX6_turns ret 1 (some (.ref h) :: l) (.ref h :: st) M := lim_step dX6_turns_0
theorem sX6_turns_1 : lim cal sc 6 cX6_turns ret 1 (v0 :: some (.int x) :: l) st M = lim cal sc 6 cX6_turns ret 2 (v0 :: some (.int x) :: l) (.int x :: st) M := lim_step dX6_turns_1
theorem sX6_turns_2 : lim cal sc 6 cX6_turns ret 2 (v0 :: v1 :: some (.int x) :: l) st M = lim cal sc 6 cX6_turns ret 3 (v0 :: v1 :: some (.int x) :: l) (.int x :: st) M := lim_step dX6_turns_2
theorem sX6_turns_3 : lim cal sc 6 cX6_turns ret 3 lv (a2 :: a1 :: .ref h :: st) M = guK (isCl 5 h) (guK (rk 8 st) (calK (cal 200 [.ref h, a1, a2] M) fun q M' => lim cal sc 6 cX6_turns ret 6 lv (q.toList ++ st) M')) := (lim_step dX6_turns_3).trans (e_virt2 rm_6_262 mq_200)
theorem sX6_turns_6 : lim cal sc 6 cX6_turns ret 6 (v0 :: v1 :: v2 :: v :: l) (.int x :: st) M = lim cal sc 6 cX6_turns ret 7 (v0 :: v1 :: v2 :: some (.int x) :: l) st M := (lim_step dX6_turns_6).trans (e_istn3)
theorem sX6_turns_7 : lim cal sc 6 cX6_turns ret 7 (v0 :: v1 :: v2 :: some (.int x) :: l) st M = lim cal sc 6 cX6_turns ret 8 (v0 :: v1 :: v2 :: some (.int x) :: l) (.int x :: st) M := lim_step dX6_turns_7
theorem sX6_turns_8 : lim cal sc 6 cX6_turns ret 8 lv (.int x :: st) M = if x = 0 then lim cal sc 6 cX6_turns ret 19 lv st M else lim cal sc 6 cX6_turns ret 11 lv st M := (lim_step dX6_turns_8).trans (e_ifeq (t := 19) (by decide))
theorem sX6_turns_11 : lim cal sc 6 cX6_turns ret 11 (some (.ref h) :: l) st M = lim cal sc 6 cX6_turns ret 12 (some (.ref h) :: l) (.ref h :: st) M := lim_step dX6_turns_11
theorem sX6_turns_12 : lim cal sc 6 cX6_turns ret 12 (v0 :: v1 :: v2 :: some (.int x) :: l) st M = lim cal sc 6 cX6_turns ret 13 (v0 :: v1 :: v2 :: some (.int x) :: l) (.int x :: st) M := lim_step dX6_turns_12
theorem sX6_turns_13 : lim cal sc 6 cX6_turns ret 13 lv (a1 :: .ref h :: st) M = guK (isCl 5 h) (guK (rk 8 st) (calK (cal 137 [.ref h, a1] M) fun q M' => lim cal sc 6 cX6_turns ret 16 lv (q.toList ++ st) M')) := (lim_step dX6_turns_13).trans (e_virt1 rm_6_86 mq_137)
theorem sX6_turns_16 : lim cal sc 6 cX6_turns ret 16 lv st M = lim cal sc 6 cX6_turns ret 26 lv st M := (lim_step dX6_turns_16).trans (e_goto (t := 26) (by decide))
theorem sX6_turns_19 : lim cal sc 6 cX6_turns ret 19 (some (.ref h) :: l) st M = lim cal sc 6 cX6_turns ret 20 (some (.ref h) :: l) (.ref h :: st) M := lim_step dX6_turns_19
theorem sX6_turns_20 : lim cal sc 6 cX6_turns ret 20 lv st M = lim cal sc 6 cX6_turns ret 21 lv (.int 0 :: st) M := (lim_step dX6_turns_20).trans (e_ic k_i_0)
theorem sX6_turns_21 : lim cal sc 6 cX6_turns ret 21 (v0 :: some (.int x) :: l) st M = lim cal sc 6 cX6_turns ret 22 (v0 :: some (.int x) :: l) (.int x :: st) M := lim_step dX6_turns_21
theorem sX6_turns_22 : lim cal sc 6 cX6_turns ret 22 (v0 :: v1 :: some (.int x) :: l) st M = lim cal sc 6 cX6_turns ret 23 (v0 :: v1 :: some (.int x) :: l) (.int x :: st) M := lim_step dX6_turns_22
theorem sX6_turns_23 : lim cal sc 6 cX6_turns ret 23 lv (a3 :: a2 :: a1 :: .ref h :: st) M = guK (isCl 5 h) (guK (rk 8 st) (calK (cal 201 [.ref h, a1, a2, a3] M) fun q M' => lim cal sc 6 cX6_turns ret 26 lv (q.toList ++ st) M')) := (lim_step dX6_turns_23).trans (e_virt3 rm_6_256 mq_201)
theorem sX6_turns_26 : lim cal sc 6 cX6_turns (some .int) 26 lv [.int x] M = some (some (.int x), M) := (lim_step dX6_turns_26).trans (e_iret)
theorem sX6_first_0 : lim cal sc 6 cX6_first ret 0 (some (.ref h) :: l) st M = lim cal sc 6 cX6_first ret 1 (some (.ref h) :: l) (.ref h :: st) M := lim_step dX6_first_0
theorem sX6_first_1 : lim cal sc 6 cX6_first ret 1 (v0 :: some (.int x) :: l) st M = lim cal sc 6 cX6_first ret 2 (v0 :: some (.int x) :: l) (.int x :: st) M := lim_step dX6_first_1
theorem sX6_first_2 : lim cal sc 6 cX6_first ret 2 (v0 :: v1 :: some (.int x) :: l) st M = lim cal sc 6 cX6_first ret 3 (v0 :: v1 :: some (.int x) :: l) (.int x :: st) M := lim_step dX6_first_2
theorem sX6_first_3 : lim cal sc 6 cX6_first ret 3 lv (a2 :: a1 :: .ref h :: st) M = guK (isCl 5 h) (guK (rk 8 st) (calK (cal 200 [.ref h, a1, a2] M) fun q M' => lim cal sc 6 cX6_first ret 6 lv (q.toList ++ st) M')) := (lim_step dX6_first_3).trans (e_virt2 rm_6_262 mq_200)
theorem sX6_first_6 : lim cal sc 6 cX6_first ret 6 (v0 :: v1 :: v2 :: v :: l) (.int x :: st) M = lim cal sc 6 cX6_first ret 7 (v0 :: v1 :: v2 :: some (.int x) :: l) st M := (lim_step dX6_first_6).trans (e_istn3)
theorem sX6_first_7 : lim cal sc 6 cX6_first ret 7 (v0 :: v1 :: v2 :: some (.int x) :: l) st M = lim cal sc 6 cX6_first ret 8 (v0 :: v1 :: v2 :: some (.int x) :: l) (.int x :: st) M := lim_step dX6_first_7
theorem sX6_first_8 : lim cal sc 6 cX6_first ret 8 lv (.int x :: st) M = if x = 0 then lim cal sc 6 cX6_first ret 17 lv st M else lim cal sc 6 cX6_first ret 11 lv st M := (lim_step dX6_first_8).trans (e_ifeq (t := 17) (by decide))
theorem sX6_first_11 : lim cal sc 6 cX6_first ret 11 (some (.ref h) :: l) st M = lim cal sc 6 cX6_first ret 12 (some (.ref h) :: l) (.ref h :: st) M := lim_step dX6_first_11
theorem sX6_first_12 : lim cal sc 6 cX6_first ret 12 (v0 :: v1 :: v2 :: some (.int x) :: l) st M = lim cal sc 6 cX6_first ret 13 (v0 :: v1 :: v2 :: some (.int x) :: l) (.int x :: st) M := lim_step dX6_first_12
theorem sX6_first_13 : lim cal sc 6 cX6_first ret 13 lv (a1 :: .ref h :: st) M = guK (isCl 5 h) (guK (rk 8 st) (calK (cal 137 [.ref h, a1] M) fun q M' => lim cal sc 6 cX6_first ret 16 lv (q.toList ++ st) M')) := (lim_step dX6_first_13).trans (e_virt1 rm_6_86 mq_137)
theorem sX6_first_16 : lim cal sc 6 cX6_first (some .int) 16 lv [.int x] M = some (some (.int x), M) := (lim_step dX6_first_16).trans (e_iret)
theorem sX6_first_17 : lim cal sc 6 cX6_first ret 17 (some (.ref h) :: l) st M = lim cal sc 6 cX6_first ret 18 (some (.ref h) :: l) (.ref h :: st) M := lim_step dX6_first_17
theorem sX6_first_18 : lim cal sc 6 cX6_first ret 18 lv st M = lim cal sc 6 cX6_first ret 19 lv (.int 0 :: st) M := (lim_step dX6_first_18).trans (e_ic k_i_0)
theorem sX6_first_19 : lim cal sc 6 cX6_first ret 19 (v0 :: some (.int x) :: l) st M = lim cal sc 6 cX6_first ret 20 (v0 :: some (.int x) :: l) (.int x :: st) M := lim_step dX6_first_19
theorem sX6_first_20 : lim cal sc 6 cX6_first ret 20 (v0 :: v1 :: some (.int x) :: l) st M = lim cal sc 6 cX6_first ret 21 (v0 :: v1 :: some (.int x) :: l) (.int x :: st) M := lim_step dX6_first_20
theorem sX6_first_21 : lim cal sc 6 cX6_first ret 21 lv (a3 :: a2 :: a1 :: .ref h :: st) M = guK (isCl 5 h) (guK (rk 8 st) (calK (cal 201 [.ref h, a1, a2, a3] M) fun q M' => lim cal sc 6 cX6_first ret 24 lv (q.toList ++ st) M')) := (lim_step dX6_first_21).trans (e_virt3 rm_6_256 mq_201)
theorem sX6_first_24 : lim cal sc 6 cX6_first ret 24 lv st M = lim cal sc 6 cX6_first ret 26 lv (.int (-1000001) :: st) M := (lim_step dX6_first_24).trans (e_ldc rc_6_69)
theorem sX6_first_26 : lim cal sc 6 cX6_first ret 26 lv (.int y :: .int x :: st) M = if x = y then lim cal sc 6 cX6_first ret 29 lv st M else lim cal sc 6 cX6_first ret 33 lv st M := (lim_step dX6_first_26).trans (e_cmpne (t := 33) (by decide))
theorem sX6_first_29 : lim cal sc 6 cX6_first ret 29 lv st M = lim cal sc 6 cX6_first ret 30 lv (.int (-1) :: st) M := (lim_step dX6_first_29).trans (e_ic k_i_m1)
theorem sX6_first_30 : lim cal sc 6 cX6_first ret 30 lv st M = lim cal sc 6 cX6_first ret 37 lv st M := (lim_step dX6_first_30).trans (e_goto (t := 37) (by decide))
theorem sX6_first_33 : lim cal sc 6 cX6_first ret 33 (some (.ref h) :: l) st M = lim cal sc 6 cX6_first ret 34 (some (.ref h) :: l) (.ref h :: st) M := lim_step dX6_first_33
theorem sX6_first_34 : lim cal sc 6 cX6_first ret 34 lv (.ref h :: st) M = opK (slotV 5 14 h M) fun q => lim cal sc 6 cX6_first ret 37 lv (q :: st) M := (lim_step dX6_first_34).trans (e_get (by decide) rf_6_259)
theorem sX6_first_37 : lim cal sc 6 cX6_first (some .int) 37 lv [.int x] M = some (some (.int x), M) := (lim_step dX6_first_37).trans (e_iret)
theorem sX6_share_0 : lim cal sc 6 cX6_share ret 0 (v0 :: some (.int x) :: l) st M = lim cal sc 6 cX6_share ret 1 (v0 :: some (.int x) :: l) (.int x :: st) M := lim_step dX6_share_0
theorem sX6_share_1 : lim cal sc 6 cX6_share ret 1 lv st M = lim cal sc 6 cX6_share ret 2 lv (.int 0 :: st) M := (lim_step dX6_share_1).trans (e_ic k_i_0)
theorem sX6_share_2 : lim cal sc 6 cX6_share ret 2 lv st M = lim cal sc 6 cX6_share ret 3 lv (.int 1 :: st) M := (lim_step dX6_share_2).trans (e_ic k_i_1)
theorem sX6_share_3 : lim cal sc 6 cX6_share ret 3 lv (a3 :: a2 :: a1 :: st) M = guK (rk 8 st) (calK (cal 136 [a1, a2, a3] M) fun q M' => lim cal sc 6 cX6_share ret 6 lv (q.toList ++ st) M') := (lim_step dX6_share_3).trans (e_stat3 rm_6_74)
theorem sX6_share_6 : lim cal sc 6 cX6_share ret 6 lv (.int x :: st) M = if x = 0 then lim cal sc 6 cX6_share ret 19 lv st M else lim cal sc 6 cX6_share ret 9 lv st M := (lim_step dX6_share_6).trans (e_ifeq (t := 19) (by decide))
theorem sX6_share_9 : lim cal sc 6 cX6_share ret 9 (v0 :: v1 :: some (.int x) :: l) st M = lim cal sc 6 cX6_share ret 10 (v0 :: v1 :: some (.int x) :: l) (.int x :: st) M := lim_step dX6_share_9
theorem sX6_share_10 : lim cal sc 6 cX6_share ret 10 lv st M = lim cal sc 6 cX6_share ret 11 lv (.int 0 :: st) M := (lim_step dX6_share_10).trans (e_ic k_i_0)
theorem sX6_share_11 : lim cal sc 6 cX6_share ret 11 lv st M = lim cal sc 6 cX6_share ret 13 lv (.int 60 :: st) M := (lim_step dX6_share_11).trans (e_bi k_b_60)
theorem sX6_share_13 : lim cal sc 6 cX6_share ret 13 lv (a3 :: a2 :: a1 :: st) M = guK (rk 8 st) (calK (cal 136 [a1, a2, a3] M) fun q M' => lim cal sc 6 cX6_share ret 16 lv (q.toList ++ st) M') := (lim_step dX6_share_13).trans (e_stat3 rm_6_74)
theorem sX6_share_16 : lim cal sc 6 cX6_share ret 16 lv (.int x :: st) M = if x = 0 then lim cal sc 6 cX6_share ret 19 lv st M else lim cal sc 6 cX6_share ret 26 lv st M := (lim_step dX6_share_16).trans (e_ifne (t := 26) (by decide))
theorem sX6_share_19 : lim cal sc 6 cX6_share ret 19 (some (.ref h) :: l) st M = lim cal sc 6 cX6_share ret 20 (some (.ref h) :: l) (.ref h :: st) M := lim_step dX6_share_19
theorem sX6_share_20 : lim cal sc 6 cX6_share ret 20 lv st M = lim cal sc 6 cX6_share ret 22 lv (.int (-1000001) :: st) M := (lim_step dX6_share_20).trans (e_ldc rc_6_69)
theorem sX6_share_22 : lim cal sc 6 cX6_share ret 22 lv (a1 :: .ref h :: st) M = guK (isCl 5 h) (guK (rk 8 st) (calK (cal 137 [.ref h, a1] M) fun q M' => lim cal sc 6 cX6_share ret 25 lv (q.toList ++ st) M')) := (lim_step dX6_share_22).trans (e_virt1 rm_6_86 mq_137)
theorem sX6_share_25 : lim cal sc 6 cX6_share (some .int) 25 lv [.int x] M = some (some (.int x), M) := (lim_step dX6_share_25).trans (e_iret)
theorem sX6_share_26 : lim cal sc 6 cX6_share ret 26 (some (.ref h) :: l) st M = lim cal sc 6 cX6_share ret 27 (some (.ref h) :: l) (.ref h :: st) M := lim_step dX6_share_26
theorem sX6_share_27 : lim cal sc 6 cX6_share ret 27 (v0 :: v1 :: some (.int x) :: l) st M = lim cal sc 6 cX6_share ret 28 (v0 :: v1 :: some (.int x) :: l) (.int x :: st) M := lim_step dX6_share_27
theorem sX6_share_28 : lim cal sc 6 cX6_share ret 28 lv (a1 :: .ref h :: st) M = guK (isCl 5 h) (guK (rk 8 st) (calK (cal 163 [.ref h, a1] M) fun q M' => lim cal sc 6 cX6_share ret 31 lv (q.toList ++ st) M')) := (lim_step dX6_share_28).trans (e_virt1 rm_6_176 mq_163)
theorem sX6_share_31 : lim cal sc 6 cX6_share ret 31 lv (.int x :: st) M = if x = 0 then lim cal sc 6 cX6_share ret 41 lv st M else lim cal sc 6 cX6_share ret 34 lv st M := (lim_step dX6_share_31).trans (e_ifeq (t := 41) (by decide))
theorem sX6_share_34 : lim cal sc 6 cX6_share ret 34 (some (.ref h) :: l) st M = lim cal sc 6 cX6_share ret 35 (some (.ref h) :: l) (.ref h :: st) M := lim_step dX6_share_34
theorem sX6_share_35 : lim cal sc 6 cX6_share ret 35 lv st M = lim cal sc 6 cX6_share ret 37 lv (.int (-1000005) :: st) M := (lim_step dX6_share_35).trans (e_ldc rc_6_136)
theorem sX6_share_37 : lim cal sc 6 cX6_share ret 37 lv (a1 :: .ref h :: st) M = guK (isCl 5 h) (guK (rk 8 st) (calK (cal 137 [.ref h, a1] M) fun q M' => lim cal sc 6 cX6_share ret 40 lv (q.toList ++ st) M')) := (lim_step dX6_share_37).trans (e_virt1 rm_6_86 mq_137)
theorem sX6_share_40 : lim cal sc 6 cX6_share (some .int) 40 lv [.int x] M = some (some (.int x), M) := (lim_step dX6_share_40).trans (e_iret)
theorem sX6_share_41 : lim cal sc 6 cX6_share ret 41 (some (.ref h) :: l) st M = lim cal sc 6 cX6_share ret 42 (some (.ref h) :: l) (.ref h :: st) M := lim_step dX6_share_41
theorem sX6_share_42 : lim cal sc 6 cX6_share ret 42 lv (.ref h :: st) M = opK (slotV 5 0 h M) fun q => lim cal sc 6 cX6_share ret 45 lv (q :: st) M := (lim_step dX6_share_42).trans (e_get (by decide) rf_6_9)
theorem sX6_share_45 : lim cal sc 6 cX6_share ret 45 (some (.ref h) :: l) st M = lim cal sc 6 cX6_share ret 46 (some (.ref h) :: l) (.ref h :: st) M := lim_step dX6_share_45
theorem sX6_share_46 : lim cal sc 6 cX6_share ret 46 lv (.ref h :: st) M = opK (slotV 5 2 h M) fun q => lim cal sc 6 cX6_share ret 49 lv (q :: st) M := (lim_step dX6_share_46).trans (e_get (by decide) rf_6_16)
theorem sX6_share_49 : lim cal sc 6 cX6_share ret 49 lv (a2 :: a1 :: st) M = guK (rk 8 st) (calK (cal 171 [a1, a2] M) fun q M' => lim cal sc 6 cX6_share ret 52 lv (q.toList ++ st) M') := (lim_step dX6_share_49).trans (e_stat2 rm_6_70)
theorem sX6_share_52 : lim cal sc 6 cX6_share ret 52 lv st M = lim cal sc 6 cX6_share ret 53 lv (.int 0 :: st) M := (lim_step dX6_share_52).trans (e_ic k_i_0)
theorem sX6_share_53 : lim cal sc 6 cX6_share ret 53 (v0 :: v1 :: v2 :: v :: l) (.int x :: st) M = lim cal sc 6 cX6_share ret 54 (v0 :: v1 :: v2 :: some (.int x) :: l) st M := (lim_step dX6_share_53).trans (e_istn3)
theorem sX6_share_54 : lim cal sc 6 cX6_share ret 54 lv st M = lim cal sc 6 cX6_share ret 55 lv (.int 0 :: st) M := (lim_step dX6_share_54).trans (e_ic k_i_0)
theorem sX6_share_55 : lim cal sc 6 cX6_share ret 55 (v0 :: v1 :: v2 :: v3 :: v :: l) (.int x :: st) M = lim cal sc 6 cX6_share ret 57 (v0 :: v1 :: v2 :: v3 :: some (.int x) :: l) st M := (lim_step dX6_share_55).trans (e_ist4)
theorem sX6_share_57 : lim cal sc 6 cX6_share ret 57 (v0 :: v1 :: v2 :: v3 :: some (.int x) :: l) st M = lim cal sc 6 cX6_share ret 59 (v0 :: v1 :: v2 :: v3 :: some (.int x) :: l) (.int x :: st) M := lim_step dX6_share_57
theorem sX6_share_59 : lim cal sc 6 cX6_share ret 59 (v0 :: v1 :: some (.int x) :: l) st M = lim cal sc 6 cX6_share ret 60 (v0 :: v1 :: some (.int x) :: l) (.int x :: st) M := lim_step dX6_share_59
theorem sX6_share_60 : lim cal sc 6 cX6_share ret 60 lv (.int y :: .int x :: st) M = if y ≤ x then lim cal sc 6 cX6_share ret 104 lv st M else lim cal sc 6 cX6_share ret 63 lv st M := (lim_step dX6_share_60).trans (e_cmpge (t := 104) (by decide))
theorem sX6_share_63 : lim cal sc 6 cX6_share ret 63 (some (.ref h) :: l) st M = lim cal sc 6 cX6_share ret 64 (some (.ref h) :: l) (.ref h :: st) M := lim_step dX6_share_63
theorem sX6_share_64 : lim cal sc 6 cX6_share ret 64 lv (.ref h :: st) M = guK (isCl 5 h) (guK (rk 8 st) (calK (cal 165 [.ref h] M) fun q M' => lim cal sc 6 cX6_share ret 67 lv (q.toList ++ st) M')) := (lim_step dX6_share_64).trans (e_virt0 rm_6_173 mq_165)
theorem sX6_share_67 : lim cal sc 6 cX6_share ret 67 (v0 :: v1 :: v2 :: v3 :: v4 :: v :: l) (.int x :: st) M = lim cal sc 6 cX6_share ret 69 (v0 :: v1 :: v2 :: v3 :: v4 :: some (.int x) :: l) st M := (lim_step dX6_share_67).trans (e_ist5)
theorem sX6_share_69 : lim cal sc 6 cX6_share ret 69 (v0 :: v1 :: v2 :: some (.int x) :: l) st M = lim cal sc 6 cX6_share ret 70 (v0 :: v1 :: v2 :: some (.int x) :: l) (.int x :: st) M := lim_step dX6_share_69
theorem sX6_share_70 : lim cal sc 6 cX6_share ret 70 (some (.ref h) :: l) st M = lim cal sc 6 cX6_share ret 71 (some (.ref h) :: l) (.ref h :: st) M := lim_step dX6_share_70
theorem sX6_share_71 : lim cal sc 6 cX6_share ret 71 lv (.ref h :: st) M = opK (slotV 5 5 h M) fun q => lim cal sc 6 cX6_share ret 74 lv (q :: st) M := (lim_step dX6_share_71).trans (e_get (by decide) rf_6_157)
theorem sX6_share_74 : lim cal sc 6 cX6_share ret 74 lv (.int x :: st) M = if x < 0 then lim cal sc 6 cX6_share ret 95 lv st M else lim cal sc 6 cX6_share ret 77 lv st M := (lim_step dX6_share_74).trans (e_iflt (t := 95) (by decide))
theorem sX6_share_77 : lim cal sc 6 cX6_share ret 77 (some (.ref h) :: l) st M = lim cal sc 6 cX6_share ret 78 (some (.ref h) :: l) (.ref h :: st) M := lim_step dX6_share_77
theorem sX6_share_78 : lim cal sc 6 cX6_share ret 78 (some (.ref h) :: l) st M = lim cal sc 6 cX6_share ret 79 (some (.ref h) :: l) (.ref h :: st) M := lim_step dX6_share_78
theorem sX6_share_79 : lim cal sc 6 cX6_share ret 79 lv (.ref h :: st) M = opK (slotV 5 5 h M) fun q => lim cal sc 6 cX6_share ret 82 lv (q :: st) M := (lim_step dX6_share_79).trans (e_get (by decide) rf_6_157)
theorem sX6_share_82 : lim cal sc 6 cX6_share ret 82 lv st M = lim cal sc 6 cX6_share ret 83 lv (.int 3 :: st) M := (lim_step dX6_share_82).trans (e_ic k_i_3)
theorem sX6_share_83 : lim cal sc 6 cX6_share ret 83 lv (a2 :: a1 :: .ref h :: st) M = guK (isCl 5 h) (guK (rk 8 st) (calK (cal 142 [.ref h, a1, a2] M) fun q M' => lim cal sc 6 cX6_share ret 86 lv (q.toList ++ st) M')) := (lim_step dX6_share_83).trans (e_virt2 rm_6_98 mq_142)
theorem sX6_share_86 : lim cal sc 6 cX6_share ret 86 (v0 :: some (.int x) :: l) st M = lim cal sc 6 cX6_share ret 87 (v0 :: some (.int x) :: l) (.int x :: st) M := lim_step dX6_share_86
theorem sX6_share_87 : lim cal sc 6 cX6_share ret 87 lv (.int y :: .int x :: st) M = if x = y then lim cal sc 6 cX6_share ret 90 lv st M else lim cal sc 6 cX6_share ret 95 lv st M := (lim_step dX6_share_87).trans (e_cmpne (t := 95) (by decide))
theorem sX6_share_90 : lim cal sc 6 cX6_share ret 90 (v0 :: v1 :: v2 :: v3 :: v4 :: some (.int x) :: l) st M = lim cal sc 6 cX6_share ret 92 (v0 :: v1 :: v2 :: v3 :: v4 :: some (.int x) :: l) (.int x :: st) M := lim_step dX6_share_90
theorem sX6_share_92 : lim cal sc 6 cX6_share ret 92 lv st M = lim cal sc 6 cX6_share ret 96 lv st M := (lim_step dX6_share_92).trans (e_goto (t := 96) (by decide))
theorem sX6_share_95 : lim cal sc 6 cX6_share ret 95 lv st M = lim cal sc 6 cX6_share ret 96 lv (.int 0 :: st) M := (lim_step dX6_share_95).trans (e_ic k_i_0)
theorem sX6_share_96 : lim cal sc 6 cX6_share ret 96 lv (.int y :: .int x :: st) M = lim cal sc 6 cX6_share ret 97 lv (.int (x + y) :: st) M := lim_step dX6_share_96
theorem sX6_share_97 : lim cal sc 6 cX6_share ret 97 (v0 :: v1 :: v2 :: v :: l) (.int x :: st) M = lim cal sc 6 cX6_share ret 98 (v0 :: v1 :: v2 :: some (.int x) :: l) st M := (lim_step dX6_share_97).trans (e_istn3)
theorem sX6_share_98 : lim cal sc 6 cX6_share ret 98 (v0 :: v1 :: v2 :: v3 :: some (.int x) :: l) st M = lim cal sc 6 cX6_share ret 101 (v0 :: v1 :: v2 :: v3 :: some (.int (x + 1)) :: l) st M := (lim_step dX6_share_98).trans (e_inc4 k_i_1)
theorem sX6_share_101 : lim cal sc 6 cX6_share ret 101 lv st M = lim cal sc 6 cX6_share ret 57 lv st M := (lim_step dX6_share_101).trans (e_goto (t := 57) (by decide))
theorem sX6_share_104 : lim cal sc 6 cX6_share ret 104 (some (.ref h) :: l) st M = lim cal sc 6 cX6_share ret 105 (some (.ref h) :: l) (.ref h :: st) M := lim_step dX6_share_104
theorem sX6_share_105 : lim cal sc 6 cX6_share ret 105 (v0 :: v1 :: v2 :: some (.int x) :: l) st M = lim cal sc 6 cX6_share ret 106 (v0 :: v1 :: v2 :: some (.int x) :: l) (.int x :: st) M := lim_step dX6_share_105
theorem sX6_share_106 : lim cal sc 6 cX6_share ret 106 lv (a1 :: .ref h :: st) M = guK (isCl 5 h) (guK (rk 8 st) (calK (cal 172 [.ref h, a1] M) fun q M' => lim cal sc 6 cX6_share ret 109 lv (q.toList ++ st) M')) := (lim_step dX6_share_106).trans (e_virt1 rm_6_182 mq_172)
theorem sX6_share_109 : lim cal sc 6 cX6_share (some .int) 109 lv [.int x] M = some (some (.int x), M) := (lim_step dX6_share_109).trans (e_iret)
theorem sX6_firstEgg_0 : lim cal sc 6 cX6_firstEgg ret 0 lv st M = lim cal sc 6 cX6_firstEgg ret 1 lv (.int (-1) :: st) M := (lim_step dX6_firstEgg_0).trans (e_ic k_i_m1)
theorem sX6_firstEgg_1 : lim cal sc 6 cX6_firstEgg ret 1 (v0 :: v1 :: v2 :: v3 :: v :: l) (.int x :: st) M = lim cal sc 6 cX6_firstEgg ret 3 (v0 :: v1 :: v2 :: v3 :: some (.int x) :: l) st M := (lim_step dX6_firstEgg_1).trans (e_ist4)
theorem sX6_firstEgg_3 : lim cal sc 6 cX6_firstEgg ret 3 lv st M = lim cal sc 6 cX6_firstEgg ret 4 lv (.int 0 :: st) M := (lim_step dX6_firstEgg_3).trans (e_ic k_i_0)
theorem sX6_firstEgg_4 : lim cal sc 6 cX6_firstEgg ret 4 (v0 :: v1 :: v2 :: v3 :: v4 :: v :: l) (.int x :: st) M = lim cal sc 6 cX6_firstEgg ret 6 (v0 :: v1 :: v2 :: v3 :: v4 :: some (.int x) :: l) st M := (lim_step dX6_firstEgg_4).trans (e_ist5)
theorem sX6_firstEgg_6 : lim cal sc 6 cX6_firstEgg ret 6 (v0 :: v1 :: v2 :: v3 :: v4 :: some (.int x) :: l) st M = lim cal sc 6 cX6_firstEgg ret 8 (v0 :: v1 :: v2 :: v3 :: v4 :: some (.int x) :: l) (.int x :: st) M := lim_step dX6_firstEgg_6
theorem sX6_firstEgg_8 : lim cal sc 6 cX6_firstEgg ret 8 (v0 :: v1 :: v2 :: some (.int x) :: l) st M = lim cal sc 6 cX6_firstEgg ret 9 (v0 :: v1 :: v2 :: some (.int x) :: l) (.int x :: st) M := lim_step dX6_firstEgg_8
theorem sX6_firstEgg_9 : lim cal sc 6 cX6_firstEgg ret 9 lv (.int y :: .int x :: st) M = if y ≤ x then lim cal sc 6 cX6_firstEgg ret 92 lv st M else lim cal sc 6 cX6_firstEgg ret 12 lv st M := (lim_step dX6_firstEgg_9).trans (e_cmpge (t := 92) (by decide))
theorem sX6_firstEgg_12 : lim cal sc 6 cX6_firstEgg ret 12 (v0 :: v1 :: v2 :: v3 :: some (.int x) :: l) st M = lim cal sc 6 cX6_firstEgg ret 14 (v0 :: v1 :: v2 :: v3 :: some (.int x) :: l) (.int x :: st) M := lim_step dX6_firstEgg_12
theorem sX6_firstEgg_14 : lim cal sc 6 cX6_firstEgg ret 14 lv (.int x :: st) M = if 0 ≤ x then lim cal sc 6 cX6_firstEgg ret 92 lv st M else lim cal sc 6 cX6_firstEgg ret 17 lv st M := (lim_step dX6_firstEgg_14).trans (e_ifge (t := 92) (by decide))
theorem sX6_firstEgg_17 : lim cal sc 6 cX6_firstEgg ret 17 (v0 :: v1 :: v2 :: v3 :: v4 :: some (.int x) :: l) st M = lim cal sc 6 cX6_firstEgg ret 19 (v0 :: v1 :: v2 :: v3 :: v4 :: some (.int x) :: l) (.int x :: st) M := lim_step dX6_firstEgg_17
theorem sX6_firstEgg_19 : lim cal sc 6 cX6_firstEgg ret 19 lv (.int x :: st) M = if x = 0 then lim cal sc 6 cX6_firstEgg ret 22 lv st M else lim cal sc 6 cX6_firstEgg ret 26 lv st M := (lim_step dX6_firstEgg_19).trans (e_ifne (t := 26) (by decide))
theorem sX6_firstEgg_22 : lim cal sc 6 cX6_firstEgg ret 22 (v0 :: some (.int x) :: l) st M = lim cal sc 6 cX6_firstEgg ret 23 (v0 :: some (.int x) :: l) (.int x :: st) M := lim_step dX6_firstEgg_22
theorem sX6_firstEgg_23 : lim cal sc 6 cX6_firstEgg ret 23 lv st M = lim cal sc 6 cX6_firstEgg ret 27 lv st M := (lim_step dX6_firstEgg_23).trans (e_goto (t := 27) (by decide))
theorem sX6_firstEgg_26 : lim cal sc 6 cX6_firstEgg ret 26 (v0 :: v1 :: some (.int x) :: l) st M = lim cal sc 6 cX6_firstEgg ret 27 (v0 :: v1 :: some (.int x) :: l) (.int x :: st) M := lim_step dX6_firstEgg_26
theorem sX6_firstEgg_27 : lim cal sc 6 cX6_firstEgg ret 27 (v0 :: v1 :: v2 :: v3 :: v4 :: v5 :: v :: l) (.int x :: st) M = lim cal sc 6 cX6_firstEgg ret 29 (v0 :: v1 :: v2 :: v3 :: v4 :: v5 :: some (.int x) :: l) st M := (lim_step dX6_firstEgg_27).trans (e_ist6)
theorem sX6_firstEgg_29 : lim cal sc 6 cX6_firstEgg ret 29 (v0 :: v1 :: v2 :: v3 :: v4 :: some (.int x) :: l) st M = lim cal sc 6 cX6_firstEgg ret 31 (v0 :: v1 :: v2 :: v3 :: v4 :: some (.int x) :: l) (.int x :: st) M := lim_step dX6_firstEgg_29
theorem sX6_firstEgg_31 : lim cal sc 6 cX6_firstEgg ret 31 lv st M = lim cal sc 6 cX6_firstEgg ret 32 lv (.int 2 :: st) M := (lim_step dX6_firstEgg_31).trans (e_ic k_i_2)
theorem sX6_firstEgg_32 : lim cal sc 6 cX6_firstEgg ret 32 lv (.int y :: .int x :: st) M = if y ≤ x then lim cal sc 6 cX6_firstEgg ret 56 lv st M else lim cal sc 6 cX6_firstEgg ret 35 lv st M := (lim_step dX6_firstEgg_32).trans (e_cmpge (t := 56) (by decide))
theorem sX6_firstEgg_35 : lim cal sc 6 cX6_firstEgg ret 35 (some (.ref h) :: l) st M = lim cal sc 6 cX6_firstEgg ret 36 (some (.ref h) :: l) (.ref h :: st) M := lim_step dX6_firstEgg_35
theorem sX6_firstEgg_36 : lim cal sc 6 cX6_firstEgg ret 36 (v0 :: v1 :: v2 :: v3 :: v4 :: v5 :: some (.int x) :: l) st M = lim cal sc 6 cX6_firstEgg ret 38 (v0 :: v1 :: v2 :: v3 :: v4 :: v5 :: some (.int x) :: l) (.int x :: st) M := lim_step dX6_firstEgg_36
theorem sX6_firstEgg_38 : lim cal sc 6 cX6_firstEgg ret 38 lv (a1 :: .ref h :: st) M = guK (isCl 5 h) (guK (rk 8 st) (calK (cal 153 [.ref h, a1] M) fun q M' => lim cal sc 6 cX6_firstEgg ret 41 lv (q.toList ++ st) M')) := (lim_step dX6_firstEgg_38).trans (e_virt1 rm_6_137 mq_153)
theorem sX6_firstEgg_41 : lim cal sc 6 cX6_firstEgg ret 41 lv (.int x :: st) M = if x = 0 then lim cal sc 6 cX6_firstEgg ret 56 lv st M else lim cal sc 6 cX6_firstEgg ret 44 lv st M := (lim_step dX6_firstEgg_41).trans (e_ifeq (t := 56) (by decide))
theorem sX6_firstEgg_44 : lim cal sc 6 cX6_firstEgg ret 44 lv st M = lim cal sc 6 cX6_firstEgg ret 45 lv (.int (-1) :: st) M := (lim_step dX6_firstEgg_44).trans (e_ic k_i_m1)
theorem sX6_firstEgg_45 : lim cal sc 6 cX6_firstEgg ret 45 (some (.ref h) :: l) st M = lim cal sc 6 cX6_firstEgg ret 46 (some (.ref h) :: l) (.ref h :: st) M := lim_step dX6_firstEgg_45
theorem sX6_firstEgg_46 : lim cal sc 6 cX6_firstEgg ret 46 (v0 :: v1 :: v2 :: v3 :: v4 :: v5 :: some (.int x) :: l) st M = lim cal sc 6 cX6_firstEgg ret 48 (v0 :: v1 :: v2 :: v3 :: v4 :: v5 :: some (.int x) :: l) (.int x :: st) M := lim_step dX6_firstEgg_46
theorem sX6_firstEgg_48 : lim cal sc 6 cX6_firstEgg ret 48 lv (a1 :: .ref h :: st) M = guK (isCl 5 h) (guK (rk 8 st) (calK (cal 155 [.ref h, a1] M) fun q M' => lim cal sc 6 cX6_firstEgg ret 51 lv (q.toList ++ st) M')) := (lim_step dX6_firstEgg_48).trans (e_virt1 rm_6_140 mq_155)
theorem sX6_firstEgg_51 : lim cal sc 6 cX6_firstEgg ret 51 lv (.int y :: .int x :: st) M = guK (rk 8 st) (lim cal sc 6 cX6_firstEgg ret 54 lv (.int (if y < x then y else x) :: st) M) := (lim_step dX6_firstEgg_51).trans (e_min rm_6_143)
theorem sX6_firstEgg_54 : lim cal sc 6 cX6_firstEgg ret 54 (v0 :: v1 :: v2 :: v3 :: v :: l) (.int x :: st) M = lim cal sc 6 cX6_firstEgg ret 56 (v0 :: v1 :: v2 :: v3 :: some (.int x) :: l) st M := (lim_step dX6_firstEgg_54).trans (e_ist4)
theorem sX6_firstEgg_56 : lim cal sc 6 cX6_firstEgg ret 56 (some (.ref h) :: l) st M = lim cal sc 6 cX6_firstEgg ret 57 (some (.ref h) :: l) (.ref h :: st) M := lim_step dX6_firstEgg_56
theorem sX6_firstEgg_57 : lim cal sc 6 cX6_firstEgg ret 57 lv (.ref h :: st) M = guK (isCl 5 h) (guK (rk 8 st) (calK (cal 165 [.ref h] M) fun q M' => lim cal sc 6 cX6_firstEgg ret 60 lv (q.toList ++ st) M')) := (lim_step dX6_firstEgg_57).trans (e_virt0 rm_6_173 mq_165)
theorem sX6_firstEgg_60 : lim cal sc 6 cX6_firstEgg ret 60 (v0 :: v1 :: v2 :: v3 :: v4 :: v5 :: v6 :: v :: l) (.int x :: st) M = lim cal sc 6 cX6_firstEgg ret 62 (v0 :: v1 :: v2 :: v3 :: v4 :: v5 :: v6 :: some (.int x) :: l) st M := (lim_step dX6_firstEgg_60).trans (e_ist7)
theorem sX6_firstEgg_62 : lim cal sc 6 cX6_firstEgg ret 62 (some (.ref h) :: l) st M = lim cal sc 6 cX6_firstEgg ret 63 (some (.ref h) :: l) (.ref h :: st) M := lim_step dX6_firstEgg_62
theorem sX6_firstEgg_63 : lim cal sc 6 cX6_firstEgg ret 63 lv (.ref h :: st) M = opK (slotV 5 5 h M) fun q => lim cal sc 6 cX6_firstEgg ret 66 lv (q :: st) M := (lim_step dX6_firstEgg_63).trans (e_get (by decide) rf_6_157)
theorem sX6_firstEgg_66 : lim cal sc 6 cX6_firstEgg ret 66 (v0 :: some (.int x) :: l) st M = lim cal sc 6 cX6_firstEgg ret 67 (v0 :: some (.int x) :: l) (.int x :: st) M := lim_step dX6_firstEgg_66
theorem sX6_firstEgg_67 : lim cal sc 6 cX6_firstEgg ret 67 lv (.int y :: .int x :: st) M = if x = y then lim cal sc 6 cX6_firstEgg ret 78 lv st M else lim cal sc 6 cX6_firstEgg ret 70 lv st M := (lim_step dX6_firstEgg_67).trans (e_cmpeq (t := 78) (by decide))
theorem sX6_firstEgg_70 : lim cal sc 6 cX6_firstEgg ret 70 (some (.ref h) :: l) st M = lim cal sc 6 cX6_firstEgg ret 71 (some (.ref h) :: l) (.ref h :: st) M := lim_step dX6_firstEgg_70
theorem sX6_firstEgg_71 : lim cal sc 6 cX6_firstEgg ret 71 lv (.ref h :: st) M = opK (slotV 5 5 h M) fun q => lim cal sc 6 cX6_firstEgg ret 74 lv (q :: st) M := (lim_step dX6_firstEgg_71).trans (e_get (by decide) rf_6_157)
theorem sX6_firstEgg_74 : lim cal sc 6 cX6_firstEgg ret 74 (v0 :: v1 :: some (.int x) :: l) st M = lim cal sc 6 cX6_firstEgg ret 75 (v0 :: v1 :: some (.int x) :: l) (.int x :: st) M := lim_step dX6_firstEgg_74
theorem sX6_firstEgg_75 : lim cal sc 6 cX6_firstEgg ret 75 lv (.int y :: .int x :: st) M = if x = y then lim cal sc 6 cX6_firstEgg ret 78 lv st M else lim cal sc 6 cX6_firstEgg ret 83 lv st M := (lim_step dX6_firstEgg_75).trans (e_cmpne (t := 83) (by decide))
theorem sX6_firstEgg_78 : lim cal sc 6 cX6_firstEgg ret 78 (v0 :: v1 :: v2 :: v3 :: v4 :: v5 :: v6 :: some (.int x) :: l) st M = lim cal sc 6 cX6_firstEgg ret 80 (v0 :: v1 :: v2 :: v3 :: v4 :: v5 :: v6 :: some (.int x) :: l) (.int x :: st) M := lim_step dX6_firstEgg_78
theorem sX6_firstEgg_80 : lim cal sc 6 cX6_firstEgg ret 80 lv st M = lim cal sc 6 cX6_firstEgg ret 84 lv st M := (lim_step dX6_firstEgg_80).trans (e_goto (t := 84) (by decide))
theorem sX6_firstEgg_83 : lim cal sc 6 cX6_firstEgg ret 83 lv st M = lim cal sc 6 cX6_firstEgg ret 84 lv (.int (-1) :: st) M := (lim_step dX6_firstEgg_83).trans (e_ic k_i_m1)
theorem sX6_firstEgg_84 : lim cal sc 6 cX6_firstEgg ret 84 (v0 :: v1 :: v2 :: v3 :: v :: l) (.int x :: st) M = lim cal sc 6 cX6_firstEgg ret 86 (v0 :: v1 :: v2 :: v3 :: some (.int x) :: l) st M := (lim_step dX6_firstEgg_84).trans (e_ist4)
theorem sX6_firstEgg_86 : lim cal sc 6 cX6_firstEgg ret 86 (v0 :: v1 :: v2 :: v3 :: v4 :: some (.int x) :: l) st M = lim cal sc 6 cX6_firstEgg ret 89 (v0 :: v1 :: v2 :: v3 :: v4 :: some (.int (x + 1)) :: l) st M := (lim_step dX6_firstEgg_86).trans (e_inc5 k_i_1)
theorem sX6_firstEgg_89 : lim cal sc 6 cX6_firstEgg ret 89 lv st M = lim cal sc 6 cX6_firstEgg ret 6 lv st M := (lim_step dX6_firstEgg_89).trans (e_goto (t := 6) (by decide))
theorem sX6_firstEgg_92 : lim cal sc 6 cX6_firstEgg ret 92 (some (.ref h) :: l) st M = lim cal sc 6 cX6_firstEgg ret 93 (some (.ref h) :: l) (.ref h :: st) M := lim_step dX6_firstEgg_92
theorem sX6_firstEgg_93 : lim cal sc 6 cX6_firstEgg ret 93 lv (.ref h :: st) M = opK (slotV 5 2 h M) fun q => lim cal sc 6 cX6_firstEgg ret 96 lv (q :: st) M := (lim_step dX6_firstEgg_93).trans (e_get (by decide) rf_6_16)
theorem sX6_firstEgg_96 : lim cal sc 6 cX6_firstEgg ret 96 (some (.ref h) :: l) st M = lim cal sc 6 cX6_firstEgg ret 97 (some (.ref h) :: l) (.ref h :: st) M := lim_step dX6_firstEgg_96
theorem sX6_firstEgg_97 : lim cal sc 6 cX6_firstEgg ret 97 lv (.ref h :: st) M = opK (slotV 5 0 h M) fun q => lim cal sc 6 cX6_firstEgg ret 100 lv (q :: st) M := (lim_step dX6_firstEgg_97).trans (e_get (by decide) rf_6_9)
theorem sX6_firstEgg_100 : lim cal sc 6 cX6_firstEgg ret 100 lv (a2 :: a1 :: st) M = guK (rk 8 st) (calK (cal 171 [a1, a2] M) fun q M' => lim cal sc 6 cX6_firstEgg ret 103 lv (q.toList ++ st) M') := (lim_step dX6_firstEgg_100).trans (e_stat2 rm_6_70)
theorem sX6_firstEgg_103 : lim cal sc 6 cX6_firstEgg ret 103 (v0 :: v1 :: v2 :: v3 :: some (.int x) :: l) st M = lim cal sc 6 cX6_firstEgg ret 105 (v0 :: v1 :: v2 :: v3 :: some (.int x) :: l) (.int x :: st) M := lim_step dX6_firstEgg_103
theorem sX6_firstEgg_105 : lim cal sc 6 cX6_firstEgg (some .int) 105 lv [.int x] M = some (some (.int x), M) := (lim_step dX6_firstEgg_105).trans (e_iret)
theorem sX6_findRows_0 : lim cal sc 6 cX6_findRows ret 0 (some (.ref h) :: l) st M = lim cal sc 6 cX6_findRows ret 1 (some (.ref h) :: l) (.ref h :: st) M := lim_step dX6_findRows_0
theorem sX6_findRows_1 : lim cal sc 6 cX6_findRows ret 1 lv (.ref h :: st) M = opK (slotV 5 0 h M) fun q => lim cal sc 6 cX6_findRows ret 4 lv (q :: st) M := (lim_step dX6_findRows_1).trans (e_get (by decide) rf_6_9)
theorem sX6_findRows_4 : lim cal sc 6 cX6_findRows ret 4 (some (.ref h) :: l) st M = lim cal sc 6 cX6_findRows ret 5 (some (.ref h) :: l) (.ref h :: st) M := lim_step dX6_findRows_4
theorem sX6_findRows_5 : lim cal sc 6 cX6_findRows ret 5 lv (.ref h :: st) M = opK (slotV 5 2 h M) fun q => lim cal sc 6 cX6_findRows ret 8 lv (q :: st) M := (lim_step dX6_findRows_5).trans (e_get (by decide) rf_6_16)
theorem sX6_findRows_8 : lim cal sc 6 cX6_findRows ret 8 lv (a2 :: a1 :: st) M = guK (rk 8 st) (calK (cal 171 [a1, a2] M) fun q M' => lim cal sc 6 cX6_findRows ret 11 lv (q.toList ++ st) M') := (lim_step dX6_findRows_8).trans (e_stat2 rm_6_70)
theorem sX6_findRows_11 : lim cal sc 6 cX6_findRows ret 11 lv st M = lim cal sc 6 cX6_findRows ret 12 lv (.int 0 :: st) M := (lim_step dX6_findRows_11).trans (e_ic k_i_0)
theorem sX6_findRows_12 : lim cal sc 6 cX6_findRows ret 12 (v0 :: v1 :: v2 :: v :: l) (.int x :: st) M = lim cal sc 6 cX6_findRows ret 13 (v0 :: v1 :: v2 :: some (.int x) :: l) st M := (lim_step dX6_findRows_12).trans (e_istn3)
theorem sX6_findRows_13 : lim cal sc 6 cX6_findRows ret 13 (some (.ref h) :: l) st M = lim cal sc 6 cX6_findRows ret 14 (some (.ref h) :: l) (.ref h :: st) M := lim_step dX6_findRows_13
theorem sX6_findRows_14 : lim cal sc 6 cX6_findRows ret 14 lv st M = lim cal sc 6 cX6_findRows ret 15 lv (.int 0 :: st) M := (lim_step dX6_findRows_14).trans (e_ic k_i_0)
theorem sX6_findRows_15 : lim cal sc 6 cX6_findRows ret 15 lv (.int x :: .ref h :: st) M = guK (isInt 5 15 h) (lim cal sc 6 cX6_findRows ret 18 lv st (mset M h 15 x)) := (lim_step dX6_findRows_15).trans (e_put rf_6_265 rfl)
theorem sX6_findRows_18 : lim cal sc 6 cX6_findRows ret 18 lv st M = lim cal sc 6 cX6_findRows ret 19 lv (.int 0 :: st) M := (lim_step dX6_findRows_18).trans (e_ic k_i_0)
theorem sX6_findRows_19 : lim cal sc 6 cX6_findRows ret 19 (v0 :: v1 :: v2 :: v3 :: v :: l) (.int x :: st) M = lim cal sc 6 cX6_findRows ret 21 (v0 :: v1 :: v2 :: v3 :: some (.int x) :: l) st M := (lim_step dX6_findRows_19).trans (e_ist4)
theorem sX6_findRows_21 : lim cal sc 6 cX6_findRows ret 21 (v0 :: v1 :: v2 :: v3 :: some (.int x) :: l) st M = lim cal sc 6 cX6_findRows ret 23 (v0 :: v1 :: v2 :: v3 :: some (.int x) :: l) (.int x :: st) M := lim_step dX6_findRows_21
theorem sX6_findRows_23 : lim cal sc 6 cX6_findRows ret 23 (some (.ref h) :: l) st M = lim cal sc 6 cX6_findRows ret 24 (some (.ref h) :: l) (.ref h :: st) M := lim_step dX6_findRows_23
theorem sX6_findRows_24 : lim cal sc 6 cX6_findRows ret 24 lv (.ref h :: st) M = opK (slotV 5 0 h M) fun q => lim cal sc 6 cX6_findRows ret 27 lv (q :: st) M := (lim_step dX6_findRows_24).trans (e_get (by decide) rf_6_9)
theorem sX6_findRows_27 : lim cal sc 6 cX6_findRows ret 27 lv st M = lim cal sc 6 cX6_findRows ret 28 lv (.int 3 :: st) M := (lim_step dX6_findRows_27).trans (e_ic k_i_3)
theorem sX6_findRows_28 : lim cal sc 6 cX6_findRows ret 28 lv (.int x :: .ref h :: st) M = opK (arrV9 sc h M) fun q => guK (inb x q.1) (lim cal sc 6 cX6_findRows ret 29 lv (.int (q.2 x.toNatClampNeg) :: st) M) := (lim_step dX6_findRows_28).trans (e_iald)
theorem sX6_findRows_29 : lim cal sc 6 cX6_findRows ret 29 lv (.int y :: .int x :: st) M = if y ≤ x then lim cal sc 6 cX6_findRows ret 115 lv st M else lim cal sc 6 cX6_findRows ret 32 lv st M := (lim_step dX6_findRows_29).trans (e_cmpge (t := 115) (by decide))
theorem sX6_findRows_32 : lim cal sc 6 cX6_findRows ret 32 lv st M = lim cal sc 6 cX6_findRows ret 33 lv (.int 0 :: st) M := (lim_step dX6_findRows_32).trans (e_ic k_i_0)
theorem sX6_findRows_33 : lim cal sc 6 cX6_findRows ret 33 (v0 :: v1 :: v2 :: v3 :: v4 :: v :: l) (.int x :: st) M = lim cal sc 6 cX6_findRows ret 35 (v0 :: v1 :: v2 :: v3 :: v4 :: some (.int x) :: l) st M := (lim_step dX6_findRows_33).trans (e_ist5)
theorem sX6_findRows_35 : lim cal sc 6 cX6_findRows ret 35 (v0 :: v1 :: v2 :: v3 :: v4 :: some (.int x) :: l) st M = lim cal sc 6 cX6_findRows ret 37 (v0 :: v1 :: v2 :: v3 :: v4 :: some (.int x) :: l) (.int x :: st) M := lim_step dX6_findRows_35
theorem sX6_findRows_37 : lim cal sc 6 cX6_findRows ret 37 (some (.ref h) :: l) st M = lim cal sc 6 cX6_findRows ret 38 (some (.ref h) :: l) (.ref h :: st) M := lim_step dX6_findRows_37
theorem sX6_findRows_38 : lim cal sc 6 cX6_findRows ret 38 lv (.ref h :: st) M = opK (slotV 5 0 h M) fun q => lim cal sc 6 cX6_findRows ret 41 lv (q :: st) M := (lim_step dX6_findRows_38).trans (e_get (by decide) rf_6_9)
theorem sX6_findRows_41 : lim cal sc 6 cX6_findRows ret 41 lv st M = lim cal sc 6 cX6_findRows ret 42 lv (.int 3 :: st) M := (lim_step dX6_findRows_41).trans (e_ic k_i_3)
theorem sX6_findRows_42 : lim cal sc 6 cX6_findRows ret 42 lv (.int x :: .ref h :: st) M = opK (arrV9 sc h M) fun q => guK (inb x q.1) (lim cal sc 6 cX6_findRows ret 43 lv (.int (q.2 x.toNatClampNeg) :: st) M) := (lim_step dX6_findRows_42).trans (e_iald)
theorem sX6_findRows_43 : lim cal sc 6 cX6_findRows ret 43 lv (.int y :: .int x :: st) M = if y ≤ x then lim cal sc 6 cX6_findRows ret 109 lv st M else lim cal sc 6 cX6_findRows ret 46 lv st M := (lim_step dX6_findRows_43).trans (e_cmpge (t := 109) (by decide))
theorem sX6_findRows_46 : lim cal sc 6 cX6_findRows ret 46 (v0 :: v1 :: v2 :: v3 :: some (.int x) :: l) st M = lim cal sc 6 cX6_findRows ret 48 (v0 :: v1 :: v2 :: v3 :: some (.int x) :: l) (.int x :: st) M := lim_step dX6_findRows_46
theorem sX6_findRows_48 : lim cal sc 6 cX6_findRows ret 48 (v0 :: v1 :: v2 :: v3 :: v4 :: some (.int x) :: l) st M = lim cal sc 6 cX6_findRows ret 50 (v0 :: v1 :: v2 :: v3 :: v4 :: some (.int x) :: l) (.int x :: st) M := lim_step dX6_findRows_48
theorem sX6_findRows_50 : lim cal sc 6 cX6_findRows ret 50 lv (.int y :: .int x :: st) M = if x = y then lim cal sc 6 cX6_findRows ret 103 lv st M else lim cal sc 6 cX6_findRows ret 53 lv st M := (lim_step dX6_findRows_50).trans (e_cmpeq (t := 103) (by decide))
theorem sX6_findRows_53 : lim cal sc 6 cX6_findRows ret 53 (some (.ref h) :: l) st M = lim cal sc 6 cX6_findRows ret 54 (some (.ref h) :: l) (.ref h :: st) M := lim_step dX6_findRows_53
theorem sX6_findRows_54 : lim cal sc 6 cX6_findRows ret 54 (v0 :: v1 :: v2 :: v3 :: some (.int x) :: l) st M = lim cal sc 6 cX6_findRows ret 56 (v0 :: v1 :: v2 :: v3 :: some (.int x) :: l) (.int x :: st) M := lim_step dX6_findRows_54
theorem sX6_findRows_56 : lim cal sc 6 cX6_findRows ret 56 lv st M = lim cal sc 6 cX6_findRows ret 57 lv (.int 0 :: st) M := (lim_step dX6_findRows_56).trans (e_ic k_i_0)
theorem sX6_findRows_57 : lim cal sc 6 cX6_findRows ret 57 lv (a2 :: a1 :: .ref h :: st) M = guK (isCl 5 h) (guK (rk 8 st) (calK (cal 152 [.ref h, a1, a2] M) fun q M' => lim cal sc 6 cX6_findRows ret 60 lv (q.toList ++ st) M')) := (lim_step dX6_findRows_57).trans (e_virt2 rm_6_125 mq_152)
theorem sX6_findRows_60 : lim cal sc 6 cX6_findRows ret 60 lv (.int x :: st) M = if x = 0 then lim cal sc 6 cX6_findRows ret 103 lv st M else lim cal sc 6 cX6_findRows ret 63 lv st M := (lim_step dX6_findRows_60).trans (e_ifeq (t := 103) (by decide))
theorem sX6_findRows_63 : lim cal sc 6 cX6_findRows ret 63 (some (.ref h) :: l) st M = lim cal sc 6 cX6_findRows ret 64 (some (.ref h) :: l) (.ref h :: st) M := lim_step dX6_findRows_63
theorem sX6_findRows_64 : lim cal sc 6 cX6_findRows ret 64 (v0 :: v1 :: v2 :: v3 :: v4 :: some (.int x) :: l) st M = lim cal sc 6 cX6_findRows ret 66 (v0 :: v1 :: v2 :: v3 :: v4 :: some (.int x) :: l) (.int x :: st) M := lim_step dX6_findRows_64
theorem sX6_findRows_66 : lim cal sc 6 cX6_findRows ret 66 lv st M = lim cal sc 6 cX6_findRows ret 67 lv (.int 0 :: st) M := (lim_step dX6_findRows_66).trans (e_ic k_i_0)
theorem sX6_findRows_67 : lim cal sc 6 cX6_findRows ret 67 lv (a2 :: a1 :: .ref h :: st) M = guK (isCl 5 h) (guK (rk 8 st) (calK (cal 152 [.ref h, a1, a2] M) fun q M' => lim cal sc 6 cX6_findRows ret 70 lv (q.toList ++ st) M')) := (lim_step dX6_findRows_67).trans (e_virt2 rm_6_125 mq_152)
theorem sX6_findRows_70 : lim cal sc 6 cX6_findRows ret 70 lv (.int x :: st) M = if x = 0 then lim cal sc 6 cX6_findRows ret 103 lv st M else lim cal sc 6 cX6_findRows ret 73 lv st M := (lim_step dX6_findRows_70).trans (e_ifeq (t := 103) (by decide))
theorem sX6_findRows_73 : lim cal sc 6 cX6_findRows ret 73 (some (.ref h) :: l) st M = lim cal sc 6 cX6_findRows ret 74 (some (.ref h) :: l) (.ref h :: st) M := lim_step dX6_findRows_73
theorem sX6_findRows_74 : lim cal sc 6 cX6_findRows ret 74 (v0 :: v1 :: v2 :: v3 :: some (.int x) :: l) st M = lim cal sc 6 cX6_findRows ret 76 (v0 :: v1 :: v2 :: v3 :: some (.int x) :: l) (.int x :: st) M := lim_step dX6_findRows_74
theorem sX6_findRows_76 : lim cal sc 6 cX6_findRows ret 76 (v0 :: v1 :: v2 :: v3 :: v4 :: some (.int x) :: l) st M = lim cal sc 6 cX6_findRows ret 78 (v0 :: v1 :: v2 :: v3 :: v4 :: some (.int x) :: l) (.int x :: st) M := lim_step dX6_findRows_76
theorem sX6_findRows_78 : lim cal sc 6 cX6_findRows ret 78 (v0 :: v1 :: some (.int x) :: l) st M = lim cal sc 6 cX6_findRows ret 79 (v0 :: v1 :: some (.int x) :: l) (.int x :: st) M := lim_step dX6_findRows_78
theorem sX6_findRows_79 : lim cal sc 6 cX6_findRows ret 79 lv (a3 :: a2 :: a1 :: .ref h :: st) M = guK (isCl 5 h) (guK (rk 8 st) (calK (cal 209 [.ref h, a1, a2, a3] M) fun q M' => lim cal sc 6 cX6_findRows ret 82 lv (q.toList ++ st) M')) := (lim_step dX6_findRows_79).trans (e_virt3 rm_6_268 mq_209)
theorem sX6_findRows_82 : lim cal sc 6 cX6_findRows ret 82 (v0 :: some (.int x) :: l) st M = lim cal sc 6 cX6_findRows ret 83 (v0 :: some (.int x) :: l) (.int x :: st) M := lim_step dX6_findRows_82
theorem sX6_findRows_83 : lim cal sc 6 cX6_findRows ret 83 lv (.int y :: .int x :: st) M = if x = y then lim cal sc 6 cX6_findRows ret 86 lv st M else lim cal sc 6 cX6_findRows ret 103 lv st M := (lim_step dX6_findRows_83).trans (e_cmpne (t := 103) (by decide))
theorem sX6_findRows_86 : lim cal sc 6 cX6_findRows ret 86 (v0 :: v1 :: v2 :: some (.int x) :: l) st M = lim cal sc 6 cX6_findRows ret 87 (v0 :: v1 :: v2 :: some (.int x) :: l) (.int x :: st) M := lim_step dX6_findRows_86
theorem sX6_findRows_87 : lim cal sc 6 cX6_findRows ret 87 lv st M = lim cal sc 6 cX6_findRows ret 88 lv (.int 1 :: st) M := (lim_step dX6_findRows_87).trans (e_ic k_i_1)
theorem sX6_findRows_88 : lim cal sc 6 cX6_findRows ret 88 (v0 :: v1 :: v2 :: v3 :: some (.int x) :: l) st M = lim cal sc 6 cX6_findRows ret 90 (v0 :: v1 :: v2 :: v3 :: some (.int x) :: l) (.int x :: st) M := lim_step dX6_findRows_88
theorem sX6_findRows_90 : lim cal sc 6 cX6_findRows ret 90 lv (.int y :: .int x :: st) M = lim cal sc 6 cX6_findRows ret 91 lv (.int (x <<< (y &&& 31)) :: st) M := lim_step dX6_findRows_90
theorem sX6_findRows_91 : lim cal sc 6 cX6_findRows ret 91 lv (.int y :: .int x :: st) M = lim cal sc 6 cX6_findRows ret 92 lv (.int (x ||| y) :: st) M := lim_step dX6_findRows_91
theorem sX6_findRows_92 : lim cal sc 6 cX6_findRows ret 92 (v0 :: v1 :: v2 :: v :: l) (.int x :: st) M = lim cal sc 6 cX6_findRows ret 93 (v0 :: v1 :: v2 :: some (.int x) :: l) st M := (lim_step dX6_findRows_92).trans (e_istn3)
theorem sX6_findRows_93 : lim cal sc 6 cX6_findRows ret 93 (some (.ref h) :: l) st M = lim cal sc 6 cX6_findRows ret 94 (some (.ref h) :: l) (.ref h :: st) M := lim_step dX6_findRows_93
theorem sX6_findRows_94 : lim cal sc 6 cX6_findRows ret 94 lv (.ref h :: st) M = lim cal sc 6 cX6_findRows ret 95 lv (.ref h :: .ref h :: st) M := lim_step dX6_findRows_94
theorem sX6_findRows_94_i : lim cal sc 6 cX6_findRows ret 94 lv (.int x :: st) M = lim cal sc 6 cX6_findRows ret 95 lv (.int x :: .int x :: st) M := lim_step dX6_findRows_94
theorem sX6_findRows_95 : lim cal sc 6 cX6_findRows ret 95 lv (.ref h :: st) M = opK (slotV 5 15 h M) fun q => lim cal sc 6 cX6_findRows ret 98 lv (q :: st) M := (lim_step dX6_findRows_95).trans (e_get (by decide) rf_6_265)
theorem sX6_findRows_98 : lim cal sc 6 cX6_findRows ret 98 lv st M = lim cal sc 6 cX6_findRows ret 99 lv (.int 1 :: st) M := (lim_step dX6_findRows_98).trans (e_ic k_i_1)
theorem sX6_findRows_99 : lim cal sc 6 cX6_findRows ret 99 lv (.int y :: .int x :: st) M = lim cal sc 6 cX6_findRows ret 100 lv (.int (x + y) :: st) M := lim_step dX6_findRows_99
theorem sX6_findRows_100 : lim cal sc 6 cX6_findRows ret 100 lv (.int x :: .ref h :: st) M = guK (isInt 5 15 h) (lim cal sc 6 cX6_findRows ret 103 lv st (mset M h 15 x)) := (lim_step dX6_findRows_100).trans (e_put rf_6_265 rfl)
theorem sX6_findRows_103 : lim cal sc 6 cX6_findRows ret 103 (v0 :: v1 :: v2 :: v3 :: v4 :: some (.int x) :: l) st M = lim cal sc 6 cX6_findRows ret 106 (v0 :: v1 :: v2 :: v3 :: v4 :: some (.int (x + 1)) :: l) st M := (lim_step dX6_findRows_103).trans (e_inc5 k_i_1)
theorem sX6_findRows_106 : lim cal sc 6 cX6_findRows ret 106 lv st M = lim cal sc 6 cX6_findRows ret 35 lv st M := (lim_step dX6_findRows_106).trans (e_goto (t := 35) (by decide))
theorem sX6_findRows_109 : lim cal sc 6 cX6_findRows ret 109 (v0 :: v1 :: v2 :: v3 :: some (.int x) :: l) st M = lim cal sc 6 cX6_findRows ret 112 (v0 :: v1 :: v2 :: v3 :: some (.int (x + 1)) :: l) st M := (lim_step dX6_findRows_109).trans (e_inc4 k_i_1)
theorem sX6_findRows_112 : lim cal sc 6 cX6_findRows ret 112 lv st M = lim cal sc 6 cX6_findRows ret 21 lv st M := (lim_step dX6_findRows_112).trans (e_goto (t := 21) (by decide))
theorem sX6_findRows_115 : lim cal sc 6 cX6_findRows ret 115 (v0 :: v1 :: v2 :: some (.int x) :: l) st M = lim cal sc 6 cX6_findRows ret 116 (v0 :: v1 :: v2 :: some (.int x) :: l) (.int x :: st) M := lim_step dX6_findRows_115
theorem sX6_findRows_116 : lim cal sc 6 cX6_findRows (some .int) 116 lv [.int x] M = some (some (.int x), M) := (lim_step dX6_findRows_116).trans (e_iret)
theorem sX6_fits_0 : lim cal sc 6 cX6_fits ret 0 (some (.ref h) :: l) st M = lim cal sc 6 cX6_fits ret 1 (some (.ref h) :: l) (.ref h :: st) M := lim_step dX6_fits_0
theorem sX6_fits_1 : lim cal sc 6 cX6_fits ret 1 (v0 :: some (.int x) :: l) st M = lim cal sc 6 cX6_fits ret 2 (v0 :: some (.int x) :: l) (.int x :: st) M := lim_step dX6_fits_1
theorem sX6_fits_2 : lim cal sc 6 cX6_fits ret 2 lv st M = lim cal sc 6 cX6_fits ret 3 lv (.int 0 :: st) M := (lim_step dX6_fits_2).trans (e_ic k_i_0)
theorem sX6_fits_3 : lim cal sc 6 cX6_fits ret 3 lv st M = lim cal sc 6 cX6_fits ret 5 lv (.int 104 :: st) M := (lim_step dX6_fits_3).trans (e_bi k_b_104)
theorem sX6_fits_5 : lim cal sc 6 cX6_fits ret 5 lv (a3 :: a2 :: a1 :: st) M = guK (rk 8 st) (calK (cal 136 [a1, a2, a3] M) fun q M' => lim cal sc 6 cX6_fits ret 8 lv (q.toList ++ st) M') := (lim_step dX6_fits_5).trans (e_stat3 rm_6_74)
theorem sX6_fits_8 : lim cal sc 6 cX6_fits ret 8 lv st M = lim cal sc 6 cX6_fits ret 9 lv (.int 0 :: st) M := (lim_step dX6_fits_8).trans (e_ic k_i_0)
theorem sX6_fits_9 : lim cal sc 6 cX6_fits ret 9 (v0 :: v1 :: some (.int x) :: l) st M = lim cal sc 6 cX6_fits ret 10 (v0 :: v1 :: some (.int x) :: l) (.int x :: st) M := lim_step dX6_fits_9
theorem sX6_fits_10 : lim cal sc 6 cX6_fits ret 10 lv (a3 :: a2 :: a1 :: .ref h :: st) M = guK (isCl 5 h) (guK (rk 8 st) (calK (cal 182 [.ref h, a1, a2, a3] M) fun q M' => lim cal sc 6 cX6_fits ret 13 lv (q.toList ++ st) M')) := (lim_step dX6_fits_10).trans (e_virt3 rm_6_214 mq_182)
theorem sX6_fits_13 : lim cal sc 6 cX6_fits ret 13 (v0 :: v1 :: v2 :: v :: l) (.int x :: st) M = lim cal sc 6 cX6_fits ret 14 (v0 :: v1 :: v2 :: some (.int x) :: l) st M := (lim_step dX6_fits_13).trans (e_istn3)
theorem sX6_fits_14 : lim cal sc 6 cX6_fits ret 14 (v0 :: v1 :: v2 :: some (.int x) :: l) st M = lim cal sc 6 cX6_fits ret 15 (v0 :: v1 :: v2 :: some (.int x) :: l) (.int x :: st) M := lim_step dX6_fits_14
theorem sX6_fits_15 : lim cal sc 6 cX6_fits ret 15 lv (.int x :: st) M = if x = 0 then lim cal sc 6 cX6_fits ret 24 lv st M else lim cal sc 6 cX6_fits ret 18 lv st M := (lim_step dX6_fits_15).trans (e_ifeq (t := 24) (by decide))
theorem sX6_fits_18 : lim cal sc 6 cX6_fits ret 18 (some (.ref h) :: l) st M = lim cal sc 6 cX6_fits ret 19 (some (.ref h) :: l) (.ref h :: st) M := lim_step dX6_fits_18
theorem sX6_fits_19 : lim cal sc 6 cX6_fits ret 19 (v0 :: v1 :: v2 :: some (.int x) :: l) st M = lim cal sc 6 cX6_fits ret 20 (v0 :: v1 :: v2 :: some (.int x) :: l) (.int x :: st) M := lim_step dX6_fits_19
theorem sX6_fits_20 : lim cal sc 6 cX6_fits ret 20 lv (a1 :: .ref h :: st) M = guK (isCl 5 h) (guK (rk 8 st) (calK (cal 137 [.ref h, a1] M) fun q M' => lim cal sc 6 cX6_fits ret 23 lv (q.toList ++ st) M')) := (lim_step dX6_fits_20).trans (e_virt1 rm_6_86 mq_137)
theorem sX6_fits_23 : lim cal sc 6 cX6_fits (some .int) 23 lv [.int x] M = some (some (.int x), M) := (lim_step dX6_fits_23).trans (e_iret)
theorem sX6_fits_24 : lim cal sc 6 cX6_fits ret 24 (some (.ref h) :: l) st M = lim cal sc 6 cX6_fits ret 25 (some (.ref h) :: l) (.ref h :: st) M := lim_step dX6_fits_24
theorem sX6_fits_25 : lim cal sc 6 cX6_fits ret 25 (v0 :: some (.int x) :: l) st M = lim cal sc 6 cX6_fits ret 26 (v0 :: some (.int x) :: l) (.int x :: st) M := lim_step dX6_fits_25
theorem sX6_fits_26 : lim cal sc 6 cX6_fits ret 26 (v0 :: v1 :: some (.int x) :: l) st M = lim cal sc 6 cX6_fits ret 27 (v0 :: v1 :: some (.int x) :: l) (.int x :: st) M := lim_step dX6_fits_26
theorem sX6_fits_27 : lim cal sc 6 cX6_fits ret 27 lv (a2 :: a1 :: .ref h :: st) M = guK (isCl 5 h) (guK (rk 8 st) (calK (cal 208 [.ref h, a1, a2] M) fun q M' => lim cal sc 6 cX6_fits ret 30 lv (q.toList ++ st) M')) := (lim_step dX6_fits_27).trans (e_virt2 rm_6_271 mq_208)
theorem sX6_fits_30 : lim cal sc 6 cX6_fits ret 30 lv (.int x :: st) M = if 0 ≤ x then lim cal sc 6 cX6_fits ret 37 lv st M else lim cal sc 6 cX6_fits ret 33 lv st M := (lim_step dX6_fits_30).trans (e_ifge (t := 37) (by decide))
theorem sX6_fits_33 : lim cal sc 6 cX6_fits ret 33 lv st M = lim cal sc 6 cX6_fits ret 34 lv (.int 0 :: st) M := (lim_step dX6_fits_33).trans (e_ic k_i_0)
theorem sX6_fits_34 : lim cal sc 6 cX6_fits ret 34 lv st M = lim cal sc 6 cX6_fits ret 41 lv st M := (lim_step dX6_fits_34).trans (e_goto (t := 41) (by decide))
theorem sX6_fits_37 : lim cal sc 6 cX6_fits ret 37 (some (.ref h) :: l) st M = lim cal sc 6 cX6_fits ret 38 (some (.ref h) :: l) (.ref h :: st) M := lim_step dX6_fits_37
theorem sX6_fits_38 : lim cal sc 6 cX6_fits ret 38 lv (.ref h :: st) M = opK (slotV 5 15 h M) fun q => lim cal sc 6 cX6_fits ret 41 lv (q :: st) M := (lim_step dX6_fits_38).trans (e_get (by decide) rf_6_265)
theorem sX6_fits_41 : lim cal sc 6 cX6_fits (some .int) 41 lv [.int x] M = some (some (.int x), M) := (lim_step dX6_fits_41).trans (e_iret)
theorem sX6_may_0 : lim cal sc 6 cX6_may ret 0 (some (.ref h) :: l) st M = lim cal sc 6 cX6_may ret 1 (some (.ref h) :: l) (.ref h :: st) M := lim_step dX6_may_0
theorem sX6_may_1 : lim cal sc 6 cX6_may ret 1 (v0 :: some (.int x) :: l) st M = lim cal sc 6 cX6_may ret 2 (v0 :: some (.int x) :: l) (.int x :: st) M := lim_step dX6_may_1
theorem sX6_may_2 : lim cal sc 6 cX6_may ret 2 lv st M = lim cal sc 6 cX6_may ret 3 lv (.int 0 :: st) M := (lim_step dX6_may_2).trans (e_ic k_i_0)
theorem sX6_may_3 : lim cal sc 6 cX6_may ret 3 lv st M = lim cal sc 6 cX6_may ret 5 lv (.int 104 :: st) M := (lim_step dX6_may_3).trans (e_bi k_b_104)
theorem sX6_may_5 : lim cal sc 6 cX6_may ret 5 lv (a3 :: a2 :: a1 :: st) M = guK (rk 8 st) (calK (cal 136 [a1, a2, a3] M) fun q M' => lim cal sc 6 cX6_may ret 8 lv (q.toList ++ st) M') := (lim_step dX6_may_5).trans (e_stat3 rm_6_74)
theorem sX6_may_8 : lim cal sc 6 cX6_may ret 8 lv st M = lim cal sc 6 cX6_may ret 9 lv (.int 0 :: st) M := (lim_step dX6_may_8).trans (e_ic k_i_0)
theorem sX6_may_9 : lim cal sc 6 cX6_may ret 9 (v0 :: v1 :: some (.int x) :: l) st M = lim cal sc 6 cX6_may ret 10 (v0 :: v1 :: some (.int x) :: l) (.int x :: st) M := lim_step dX6_may_9
theorem sX6_may_10 : lim cal sc 6 cX6_may ret 10 lv (a3 :: a2 :: a1 :: .ref h :: st) M = guK (isCl 5 h) (guK (rk 8 st) (calK (cal 182 [.ref h, a1, a2, a3] M) fun q M' => lim cal sc 6 cX6_may ret 13 lv (q.toList ++ st) M')) := (lim_step dX6_may_10).trans (e_virt3 rm_6_214 mq_182)
theorem sX6_may_13 : lim cal sc 6 cX6_may ret 13 (v0 :: v1 :: v2 :: v :: l) (.int x :: st) M = lim cal sc 6 cX6_may ret 14 (v0 :: v1 :: v2 :: some (.int x) :: l) st M := (lim_step dX6_may_13).trans (e_istn3)
theorem sX6_may_14 : lim cal sc 6 cX6_may ret 14 (v0 :: v1 :: v2 :: some (.int x) :: l) st M = lim cal sc 6 cX6_may ret 15 (v0 :: v1 :: v2 :: some (.int x) :: l) (.int x :: st) M := lim_step dX6_may_14
theorem sX6_may_15 : lim cal sc 6 cX6_may ret 15 lv (.int x :: st) M = if x = 0 then lim cal sc 6 cX6_may ret 26 lv st M else lim cal sc 6 cX6_may ret 18 lv st M := (lim_step dX6_may_15).trans (e_ifeq (t := 26) (by decide))
theorem sX6_may_18 : lim cal sc 6 cX6_may ret 18 (some (.ref h) :: l) st M = lim cal sc 6 cX6_may ret 19 (some (.ref h) :: l) (.ref h :: st) M := lim_step dX6_may_18
theorem sX6_may_19 : lim cal sc 6 cX6_may ret 19 (v0 :: v1 :: v2 :: some (.int x) :: l) st M = lim cal sc 6 cX6_may ret 20 (v0 :: v1 :: v2 :: some (.int x) :: l) (.int x :: st) M := lim_step dX6_may_19
theorem sX6_may_20 : lim cal sc 6 cX6_may ret 20 lv (a1 :: .ref h :: st) M = guK (isCl 5 h) (guK (rk 8 st) (calK (cal 137 [.ref h, a1] M) fun q M' => lim cal sc 6 cX6_may ret 23 lv (q.toList ++ st) M')) := (lim_step dX6_may_20).trans (e_virt1 rm_6_86 mq_137)
theorem sX6_may_23 : lim cal sc 6 cX6_may ret 23 lv st M = lim cal sc 6 cX6_may ret 32 lv st M := (lim_step dX6_may_23).trans (e_goto (t := 32) (by decide))
theorem sX6_may_26 : lim cal sc 6 cX6_may ret 26 (some (.ref h) :: l) st M = lim cal sc 6 cX6_may ret 27 (some (.ref h) :: l) (.ref h :: st) M := lim_step dX6_may_26
theorem sX6_may_27 : lim cal sc 6 cX6_may ret 27 (v0 :: some (.int x) :: l) st M = lim cal sc 6 cX6_may ret 28 (v0 :: some (.int x) :: l) (.int x :: st) M := lim_step dX6_may_27
theorem sX6_may_28 : lim cal sc 6 cX6_may ret 28 (v0 :: v1 :: some (.int x) :: l) st M = lim cal sc 6 cX6_may ret 29 (v0 :: v1 :: some (.int x) :: l) (.int x :: st) M := lim_step dX6_may_28
theorem sX6_may_29 : lim cal sc 6 cX6_may ret 29 lv (a2 :: a1 :: .ref h :: st) M = guK (isCl 5 h) (guK (rk 8 st) (calK (cal 208 [.ref h, a1, a2] M) fun q M' => lim cal sc 6 cX6_may ret 32 lv (q.toList ++ st) M')) := (lim_step dX6_may_29).trans (e_virt2 rm_6_271 mq_208)
theorem sX6_may_32 : lim cal sc 6 cX6_may (some .int) 32 lv [.int x] M = some (some (.int x), M) := (lim_step dX6_may_32).trans (e_iret)
theorem sX6_laid_0 : lim cal sc 6 cX6_laid ret 0 (v0 :: some (.int x) :: l) st M = lim cal sc 6 cX6_laid ret 1 (v0 :: some (.int x) :: l) (.int x :: st) M := lim_step dX6_laid_0
theorem sX6_laid_1 : lim cal sc 6 cX6_laid ret 1 lv st M = lim cal sc 6 cX6_laid ret 2 lv (.int 0 :: st) M := (lim_step dX6_laid_1).trans (e_ic k_i_0)
theorem sX6_laid_2 : lim cal sc 6 cX6_laid ret 2 lv st M = lim cal sc 6 cX6_laid ret 3 lv (.int 1 :: st) M := (lim_step dX6_laid_2).trans (e_ic k_i_1)
theorem sX6_laid_3 : lim cal sc 6 cX6_laid ret 3 lv (a3 :: a2 :: a1 :: st) M = guK (rk 8 st) (calK (cal 136 [a1, a2, a3] M) fun q M' => lim cal sc 6 cX6_laid ret 6 lv (q.toList ++ st) M') := (lim_step dX6_laid_3).trans (e_stat3 rm_6_74)
theorem sX6_laid_6 : lim cal sc 6 cX6_laid ret 6 lv (.int x :: st) M = if x = 0 then lim cal sc 6 cX6_laid ret 9 lv st M else lim cal sc 6 cX6_laid ret 16 lv st M := (lim_step dX6_laid_6).trans (e_ifne (t := 16) (by decide))
theorem sX6_laid_9 : lim cal sc 6 cX6_laid ret 9 (some (.ref h) :: l) st M = lim cal sc 6 cX6_laid ret 10 (some (.ref h) :: l) (.ref h :: st) M := lim_step dX6_laid_9
theorem sX6_laid_10 : lim cal sc 6 cX6_laid ret 10 lv st M = lim cal sc 6 cX6_laid ret 12 lv (.int (-1000001) :: st) M := (lim_step dX6_laid_10).trans (e_ldc rc_6_69)
theorem sX6_laid_12 : lim cal sc 6 cX6_laid ret 12 lv (a1 :: .ref h :: st) M = guK (isCl 5 h) (guK (rk 8 st) (calK (cal 137 [.ref h, a1] M) fun q M' => lim cal sc 6 cX6_laid ret 15 lv (q.toList ++ st) M')) := (lim_step dX6_laid_12).trans (e_virt1 rm_6_86 mq_137)
theorem sX6_laid_15 : lim cal sc 6 cX6_laid (some .int) 15 lv [.int x] M = some (some (.int x), M) := (lim_step dX6_laid_15).trans (e_iret)
theorem sX6_laid_16 : lim cal sc 6 cX6_laid ret 16 lv st M = lim cal sc 6 cX6_laid ret 17 lv (.int 0 :: st) M := (lim_step dX6_laid_16).trans (e_ic k_i_0)
theorem sX6_laid_17 : lim cal sc 6 cX6_laid ret 17 (v0 :: v1 :: v :: l) (.int x :: st) M = lim cal sc 6 cX6_laid ret 18 (v0 :: v1 :: some (.int x) :: l) st M := (lim_step dX6_laid_17).trans (e_istn2)
theorem sX6_laid_18 : lim cal sc 6 cX6_laid ret 18 lv st M = lim cal sc 6 cX6_laid ret 19 lv (.int 0 :: st) M := (lim_step dX6_laid_18).trans (e_ic k_i_0)
theorem sX6_laid_19 : lim cal sc 6 cX6_laid ret 19 (v0 :: v1 :: v2 :: v :: l) (.int x :: st) M = lim cal sc 6 cX6_laid ret 20 (v0 :: v1 :: v2 :: some (.int x) :: l) st M := (lim_step dX6_laid_19).trans (e_istn3)
theorem sX6_laid_20 : lim cal sc 6 cX6_laid ret 20 (v0 :: v1 :: v2 :: some (.int x) :: l) st M = lim cal sc 6 cX6_laid ret 21 (v0 :: v1 :: v2 :: some (.int x) :: l) (.int x :: st) M := lim_step dX6_laid_20
theorem sX6_laid_21 : lim cal sc 6 cX6_laid ret 21 (some (.ref h) :: l) st M = lim cal sc 6 cX6_laid ret 22 (some (.ref h) :: l) (.ref h :: st) M := lim_step dX6_laid_21
theorem sX6_laid_22 : lim cal sc 6 cX6_laid ret 22 lv (.ref h :: st) M = opK (slotV 5 0 h M) fun q => lim cal sc 6 cX6_laid ret 25 lv (q :: st) M := (lim_step dX6_laid_22).trans (e_get (by decide) rf_6_9)
theorem sX6_laid_25 : lim cal sc 6 cX6_laid ret 25 lv st M = lim cal sc 6 cX6_laid ret 26 lv (.int 3 :: st) M := (lim_step dX6_laid_25).trans (e_ic k_i_3)
theorem sX6_laid_26 : lim cal sc 6 cX6_laid ret 26 lv (.int x :: .ref h :: st) M = opK (arrV9 sc h M) fun q => guK (inb x q.1) (lim cal sc 6 cX6_laid ret 27 lv (.int (q.2 x.toNatClampNeg) :: st) M) := (lim_step dX6_laid_26).trans (e_iald)
theorem sX6_laid_27 : lim cal sc 6 cX6_laid ret 27 lv (.int y :: .int x :: st) M = if y ≤ x then lim cal sc 6 cX6_laid ret 65 lv st M else lim cal sc 6 cX6_laid ret 30 lv st M := (lim_step dX6_laid_27).trans (e_cmpge (t := 65) (by decide))
theorem sX6_laid_30 : lim cal sc 6 cX6_laid ret 30 (v0 :: v1 :: some (.int x) :: l) st M = lim cal sc 6 cX6_laid ret 31 (v0 :: v1 :: some (.int x) :: l) (.int x :: st) M := lim_step dX6_laid_30
theorem sX6_laid_31 : lim cal sc 6 cX6_laid ret 31 (some (.ref h) :: l) st M = lim cal sc 6 cX6_laid ret 32 (some (.ref h) :: l) (.ref h :: st) M := lim_step dX6_laid_31
theorem sX6_laid_32 : lim cal sc 6 cX6_laid ret 32 (v0 :: v1 :: v2 :: some (.int x) :: l) st M = lim cal sc 6 cX6_laid ret 33 (v0 :: v1 :: v2 :: some (.int x) :: l) (.int x :: st) M := lim_step dX6_laid_32
theorem sX6_laid_33 : lim cal sc 6 cX6_laid ret 33 lv st M = lim cal sc 6 cX6_laid ret 34 lv (.int 2 :: st) M := (lim_step dX6_laid_33).trans (e_ic k_i_2)
theorem sX6_laid_34 : lim cal sc 6 cX6_laid ret 34 lv (a2 :: a1 :: .ref h :: st) M = guK (isCl 5 h) (guK (rk 8 st) (calK (cal 152 [.ref h, a1, a2] M) fun q M' => lim cal sc 6 cX6_laid ret 37 lv (q.toList ++ st) M')) := (lim_step dX6_laid_34).trans (e_virt2 rm_6_125 mq_152)
theorem sX6_laid_37 : lim cal sc 6 cX6_laid ret 37 lv (.int x :: st) M = if x = 0 then lim cal sc 6 cX6_laid ret 56 lv st M else lim cal sc 6 cX6_laid ret 40 lv st M := (lim_step dX6_laid_37).trans (e_ifeq (t := 56) (by decide))
theorem sX6_laid_40 : lim cal sc 6 cX6_laid ret 40 (some (.ref h) :: l) st M = lim cal sc 6 cX6_laid ret 41 (some (.ref h) :: l) (.ref h :: st) M := lim_step dX6_laid_40
theorem sX6_laid_41 : lim cal sc 6 cX6_laid ret 41 (v0 :: v1 :: v2 :: some (.int x) :: l) st M = lim cal sc 6 cX6_laid ret 42 (v0 :: v1 :: v2 :: some (.int x) :: l) (.int x :: st) M := lim_step dX6_laid_41
theorem sX6_laid_42 : lim cal sc 6 cX6_laid ret 42 lv st M = lim cal sc 6 cX6_laid ret 43 lv (.int 3 :: st) M := (lim_step dX6_laid_42).trans (e_ic k_i_3)
theorem sX6_laid_43 : lim cal sc 6 cX6_laid ret 43 lv (a2 :: a1 :: .ref h :: st) M = guK (isCl 5 h) (guK (rk 8 st) (calK (cal 142 [.ref h, a1, a2] M) fun q M' => lim cal sc 6 cX6_laid ret 46 lv (q.toList ++ st) M')) := (lim_step dX6_laid_43).trans (e_virt2 rm_6_98 mq_142)
theorem sX6_laid_46 : lim cal sc 6 cX6_laid ret 46 (v0 :: some (.int x) :: l) st M = lim cal sc 6 cX6_laid ret 47 (v0 :: some (.int x) :: l) (.int x :: st) M := lim_step dX6_laid_46
theorem sX6_laid_47 : lim cal sc 6 cX6_laid ret 47 lv (.int y :: .int x :: st) M = if x = y then lim cal sc 6 cX6_laid ret 50 lv st M else lim cal sc 6 cX6_laid ret 56 lv st M := (lim_step dX6_laid_47).trans (e_cmpne (t := 56) (by decide))
theorem sX6_laid_50 : lim cal sc 6 cX6_laid ret 50 lv st M = lim cal sc 6 cX6_laid ret 51 lv (.int 1 :: st) M := (lim_step dX6_laid_50).trans (e_ic k_i_1)
theorem sX6_laid_51 : lim cal sc 6 cX6_laid ret 51 (v0 :: v1 :: v2 :: some (.int x) :: l) st M = lim cal sc 6 cX6_laid ret 52 (v0 :: v1 :: v2 :: some (.int x) :: l) (.int x :: st) M := lim_step dX6_laid_51
theorem sX6_laid_52 : lim cal sc 6 cX6_laid ret 52 lv (.int y :: .int x :: st) M = lim cal sc 6 cX6_laid ret 53 lv (.int (x <<< (y &&& 31)) :: st) M := lim_step dX6_laid_52
theorem sX6_laid_53 : lim cal sc 6 cX6_laid ret 53 lv st M = lim cal sc 6 cX6_laid ret 57 lv st M := (lim_step dX6_laid_53).trans (e_goto (t := 57) (by decide))
theorem sX6_laid_56 : lim cal sc 6 cX6_laid ret 56 lv st M = lim cal sc 6 cX6_laid ret 57 lv (.int 0 :: st) M := (lim_step dX6_laid_56).trans (e_ic k_i_0)
theorem sX6_laid_57 : lim cal sc 6 cX6_laid ret 57 lv (.int y :: .int x :: st) M = lim cal sc 6 cX6_laid ret 58 lv (.int (x ||| y) :: st) M := lim_step dX6_laid_57
theorem sX6_laid_58 : lim cal sc 6 cX6_laid ret 58 (v0 :: v1 :: v :: l) (.int x :: st) M = lim cal sc 6 cX6_laid ret 59 (v0 :: v1 :: some (.int x) :: l) st M := (lim_step dX6_laid_58).trans (e_istn2)
theorem sX6_laid_59 : lim cal sc 6 cX6_laid ret 59 (v0 :: v1 :: v2 :: some (.int x) :: l) st M = lim cal sc 6 cX6_laid ret 62 (v0 :: v1 :: v2 :: some (.int (x + 1)) :: l) st M := (lim_step dX6_laid_59).trans (e_inc3 k_i_1)
theorem sX6_laid_62 : lim cal sc 6 cX6_laid ret 62 lv st M = lim cal sc 6 cX6_laid ret 20 lv st M := (lim_step dX6_laid_62).trans (e_goto (t := 20) (by decide))
theorem sX6_laid_65 : lim cal sc 6 cX6_laid ret 65 (v0 :: v1 :: some (.int x) :: l) st M = lim cal sc 6 cX6_laid ret 66 (v0 :: v1 :: some (.int x) :: l) (.int x :: st) M := lim_step dX6_laid_65
theorem sX6_laid_66 : lim cal sc 6 cX6_laid (some .int) 66 lv [.int x] M = some (some (.int x), M) := (lim_step dX6_laid_66).trans (e_iret)
theorem sX6_areAllFed_0 : lim cal sc 6 cX6_areAllFed ret 0 lv st M = lim cal sc 6 cX6_areAllFed ret 1 lv (.int 1 :: st) M := (lim_step dX6_areAllFed_0).trans (e_ic k_i_1)
theorem sX6_areAllFed_1 : lim cal sc 6 cX6_areAllFed ret 1 (v0 :: v :: l) (.int x :: st) M = lim cal sc 6 cX6_areAllFed ret 2 (v0 :: some (.int x) :: l) st M := (lim_step dX6_areAllFed_1).trans (e_istn1)
theorem sX6_areAllFed_2 : lim cal sc 6 cX6_areAllFed ret 2 lv st M = lim cal sc 6 cX6_areAllFed ret 3 lv (.int 0 :: st) M := (lim_step dX6_areAllFed_2).trans (e_ic k_i_0)
theorem sX6_areAllFed_3 : lim cal sc 6 cX6_areAllFed ret 3 (v0 :: v1 :: v :: l) (.int x :: st) M = lim cal sc 6 cX6_areAllFed ret 4 (v0 :: v1 :: some (.int x) :: l) st M := (lim_step dX6_areAllFed_3).trans (e_istn2)
theorem sX6_areAllFed_4 : lim cal sc 6 cX6_areAllFed ret 4 (v0 :: v1 :: some (.int x) :: l) st M = lim cal sc 6 cX6_areAllFed ret 5 (v0 :: v1 :: some (.int x) :: l) (.int x :: st) M := lim_step dX6_areAllFed_4
theorem sX6_areAllFed_5 : lim cal sc 6 cX6_areAllFed ret 5 (some (.ref h) :: l) st M = lim cal sc 6 cX6_areAllFed ret 6 (some (.ref h) :: l) (.ref h :: st) M := lim_step dX6_areAllFed_5
theorem sX6_areAllFed_6 : lim cal sc 6 cX6_areAllFed ret 6 lv (.ref h :: st) M = opK (slotV 5 10 h M) fun q => lim cal sc 6 cX6_areAllFed ret 9 lv (q :: st) M := (lim_step dX6_areAllFed_6).trans (e_get (by decide) rf_6_202)
theorem sX6_areAllFed_9 : lim cal sc 6 cX6_areAllFed ret 9 lv (.int y :: .int x :: st) M = if y ≤ x then lim cal sc 6 cX6_areAllFed ret 85 lv st M else lim cal sc 6 cX6_areAllFed ret 12 lv st M := (lim_step dX6_areAllFed_9).trans (e_cmpge (t := 85) (by decide))
theorem sX6_areAllFed_12 : lim cal sc 6 cX6_areAllFed ret 12 (some (.ref h) :: l) st M = lim cal sc 6 cX6_areAllFed ret 13 (some (.ref h) :: l) (.ref h :: st) M := lim_step dX6_areAllFed_12
theorem sX6_areAllFed_13 : lim cal sc 6 cX6_areAllFed ret 13 (some (.ref h) :: l) st M = lim cal sc 6 cX6_areAllFed ret 14 (some (.ref h) :: l) (.ref h :: st) M := lim_step dX6_areAllFed_13
theorem sX6_areAllFed_14 : lim cal sc 6 cX6_areAllFed ret 14 lv (.ref h :: st) M = opK (slotV 5 9 h M) fun q => lim cal sc 6 cX6_areAllFed ret 17 lv (q :: st) M := (lim_step dX6_areAllFed_14).trans (e_get (by decide) rf_6_22)
theorem sX6_areAllFed_17 : lim cal sc 6 cX6_areAllFed ret 17 (v0 :: v1 :: some (.int x) :: l) st M = lim cal sc 6 cX6_areAllFed ret 18 (v0 :: v1 :: some (.int x) :: l) (.int x :: st) M := lim_step dX6_areAllFed_17
theorem sX6_areAllFed_18 : lim cal sc 6 cX6_areAllFed ret 18 lv (.int x :: .ref h :: st) M = opK (arrV9 sc h M) fun q => guK (inb x q.1) (lim cal sc 6 cX6_areAllFed ret 19 lv (.int (q.2 x.toNatClampNeg) :: st) M) := (lim_step dX6_areAllFed_18).trans (e_iald)
theorem sX6_areAllFed_19 : lim cal sc 6 cX6_areAllFed ret 19 lv (a1 :: .ref h :: st) M = guK (isCl 5 h) (guK (rk 8 st) (calK (cal 153 [.ref h, a1] M) fun q M' => lim cal sc 6 cX6_areAllFed ret 22 lv (q.toList ++ st) M')) := (lim_step dX6_areAllFed_19).trans (e_virt1 rm_6_137 mq_153)
theorem sX6_areAllFed_22 : lim cal sc 6 cX6_areAllFed ret 22 (v0 :: v1 :: v2 :: v :: l) (.int x :: st) M = lim cal sc 6 cX6_areAllFed ret 23 (v0 :: v1 :: v2 :: some (.int x) :: l) st M := (lim_step dX6_areAllFed_22).trans (e_istn3)
theorem sX6_areAllFed_23 : lim cal sc 6 cX6_areAllFed ret 23 (v0 :: some (.int x) :: l) st M = lim cal sc 6 cX6_areAllFed ret 24 (v0 :: some (.int x) :: l) (.int x :: st) M := lim_step dX6_areAllFed_23
theorem sX6_areAllFed_24 : lim cal sc 6 cX6_areAllFed ret 24 lv (.int x :: st) M = if x = 0 then lim cal sc 6 cX6_areAllFed ret 35 lv st M else lim cal sc 6 cX6_areAllFed ret 27 lv st M := (lim_step dX6_areAllFed_24).trans (e_ifeq (t := 35) (by decide))
theorem sX6_areAllFed_27 : lim cal sc 6 cX6_areAllFed ret 27 (v0 :: v1 :: v2 :: some (.int x) :: l) st M = lim cal sc 6 cX6_areAllFed ret 28 (v0 :: v1 :: v2 :: some (.int x) :: l) (.int x :: st) M := lim_step dX6_areAllFed_27
theorem sX6_areAllFed_28 : lim cal sc 6 cX6_areAllFed ret 28 lv (.int x :: st) M = if x = 0 then lim cal sc 6 cX6_areAllFed ret 35 lv st M else lim cal sc 6 cX6_areAllFed ret 31 lv st M := (lim_step dX6_areAllFed_28).trans (e_ifeq (t := 35) (by decide))
theorem sX6_areAllFed_31 : lim cal sc 6 cX6_areAllFed ret 31 lv st M = lim cal sc 6 cX6_areAllFed ret 32 lv (.int 1 :: st) M := (lim_step dX6_areAllFed_31).trans (e_ic k_i_1)
theorem sX6_areAllFed_32 : lim cal sc 6 cX6_areAllFed ret 32 lv st M = lim cal sc 6 cX6_areAllFed ret 36 lv st M := (lim_step dX6_areAllFed_32).trans (e_goto (t := 36) (by decide))
theorem sX6_areAllFed_35 : lim cal sc 6 cX6_areAllFed ret 35 lv st M = lim cal sc 6 cX6_areAllFed ret 36 lv (.int 0 :: st) M := (lim_step dX6_areAllFed_35).trans (e_ic k_i_0)
theorem sX6_areAllFed_36 : lim cal sc 6 cX6_areAllFed ret 36 (v0 :: v :: l) (.int x :: st) M = lim cal sc 6 cX6_areAllFed ret 37 (v0 :: some (.int x) :: l) st M := (lim_step dX6_areAllFed_36).trans (e_istn1)
theorem sX6_areAllFed_37 : lim cal sc 6 cX6_areAllFed ret 37 (v0 :: v1 :: v2 :: some (.int x) :: l) st M = lim cal sc 6 cX6_areAllFed ret 38 (v0 :: v1 :: v2 :: some (.int x) :: l) (.int x :: st) M := lim_step dX6_areAllFed_37
theorem sX6_areAllFed_38 : lim cal sc 6 cX6_areAllFed ret 38 lv (.int x :: st) M = if x = 0 then lim cal sc 6 cX6_areAllFed ret 54 lv st M else lim cal sc 6 cX6_areAllFed ret 41 lv st M := (lim_step dX6_areAllFed_38).trans (e_ifeq (t := 54) (by decide))
theorem sX6_areAllFed_41 : lim cal sc 6 cX6_areAllFed ret 41 (some (.ref h) :: l) st M = lim cal sc 6 cX6_areAllFed ret 42 (some (.ref h) :: l) (.ref h :: st) M := lim_step dX6_areAllFed_41
theorem sX6_areAllFed_42 : lim cal sc 6 cX6_areAllFed ret 42 (some (.ref h) :: l) st M = lim cal sc 6 cX6_areAllFed ret 43 (some (.ref h) :: l) (.ref h :: st) M := lim_step dX6_areAllFed_42
theorem sX6_areAllFed_43 : lim cal sc 6 cX6_areAllFed ret 43 lv (.ref h :: st) M = opK (slotV 5 9 h M) fun q => lim cal sc 6 cX6_areAllFed ret 46 lv (q :: st) M := (lim_step dX6_areAllFed_43).trans (e_get (by decide) rf_6_22)
theorem sX6_areAllFed_46 : lim cal sc 6 cX6_areAllFed ret 46 (v0 :: v1 :: some (.int x) :: l) st M = lim cal sc 6 cX6_areAllFed ret 47 (v0 :: v1 :: some (.int x) :: l) (.int x :: st) M := lim_step dX6_areAllFed_46
theorem sX6_areAllFed_47 : lim cal sc 6 cX6_areAllFed ret 47 lv (.int x :: .ref h :: st) M = opK (arrV9 sc h M) fun q => guK (inb x q.1) (lim cal sc 6 cX6_areAllFed ret 48 lv (.int (q.2 x.toNatClampNeg) :: st) M) := (lim_step dX6_areAllFed_47).trans (e_iald)
theorem sX6_areAllFed_48 : lim cal sc 6 cX6_areAllFed ret 48 lv (a1 :: .ref h :: st) M = guK (isCl 5 h) (guK (rk 8 st) (calK (cal 155 [.ref h, a1] M) fun q M' => lim cal sc 6 cX6_areAllFed ret 51 lv (q.toList ++ st) M')) := (lim_step dX6_areAllFed_48).trans (e_virt1 rm_6_140 mq_155)
theorem sX6_areAllFed_51 : lim cal sc 6 cX6_areAllFed ret 51 lv st M = lim cal sc 6 cX6_areAllFed ret 55 lv st M := (lim_step dX6_areAllFed_51).trans (e_goto (t := 55) (by decide))
theorem sX6_areAllFed_54 : lim cal sc 6 cX6_areAllFed ret 54 lv st M = lim cal sc 6 cX6_areAllFed ret 55 lv (.int 0 :: st) M := (lim_step dX6_areAllFed_54).trans (e_ic k_i_0)
theorem sX6_areAllFed_55 : lim cal sc 6 cX6_areAllFed ret 55 (v0 :: v1 :: v2 :: v3 :: v :: l) (.int x :: st) M = lim cal sc 6 cX6_areAllFed ret 57 (v0 :: v1 :: v2 :: v3 :: some (.int x) :: l) st M := (lim_step dX6_areAllFed_55).trans (e_ist4)
theorem sX6_areAllFed_57 : lim cal sc 6 cX6_areAllFed ret 57 (v0 :: some (.int x) :: l) st M = lim cal sc 6 cX6_areAllFed ret 58 (v0 :: some (.int x) :: l) (.int x :: st) M := lim_step dX6_areAllFed_57
theorem sX6_areAllFed_58 : lim cal sc 6 cX6_areAllFed ret 58 lv (.int x :: st) M = if x = 0 then lim cal sc 6 cX6_areAllFed ret 77 lv st M else lim cal sc 6 cX6_areAllFed ret 61 lv st M := (lim_step dX6_areAllFed_58).trans (e_ifeq (t := 77) (by decide))
theorem sX6_areAllFed_61 : lim cal sc 6 cX6_areAllFed ret 61 (some (.ref h) :: l) st M = lim cal sc 6 cX6_areAllFed ret 62 (some (.ref h) :: l) (.ref h :: st) M := lim_step dX6_areAllFed_61
theorem sX6_areAllFed_62 : lim cal sc 6 cX6_areAllFed ret 62 lv (.ref h :: st) M = guK (isCl 5 h) (guK (rk 8 st) (calK (cal 165 [.ref h] M) fun q M' => lim cal sc 6 cX6_areAllFed ret 65 lv (q.toList ++ st) M')) := (lim_step dX6_areAllFed_62).trans (e_virt0 rm_6_173 mq_165)
theorem sX6_areAllFed_65 : lim cal sc 6 cX6_areAllFed ret 65 lv (.int x :: st) M = if x < 0 then lim cal sc 6 cX6_areAllFed ret 77 lv st M else lim cal sc 6 cX6_areAllFed ret 68 lv st M := (lim_step dX6_areAllFed_65).trans (e_iflt (t := 77) (by decide))
theorem sX6_areAllFed_68 : lim cal sc 6 cX6_areAllFed ret 68 (v0 :: v1 :: v2 :: v3 :: some (.int x) :: l) st M = lim cal sc 6 cX6_areAllFed ret 70 (v0 :: v1 :: v2 :: v3 :: some (.int x) :: l) (.int x :: st) M := lim_step dX6_areAllFed_68
theorem sX6_areAllFed_70 : lim cal sc 6 cX6_areAllFed ret 70 lv (.int x :: st) M = if x < 0 then lim cal sc 6 cX6_areAllFed ret 77 lv st M else lim cal sc 6 cX6_areAllFed ret 73 lv st M := (lim_step dX6_areAllFed_70).trans (e_iflt (t := 77) (by decide))
theorem sX6_areAllFed_73 : lim cal sc 6 cX6_areAllFed ret 73 lv st M = lim cal sc 6 cX6_areAllFed ret 74 lv (.int 1 :: st) M := (lim_step dX6_areAllFed_73).trans (e_ic k_i_1)
theorem sX6_areAllFed_74 : lim cal sc 6 cX6_areAllFed ret 74 lv st M = lim cal sc 6 cX6_areAllFed ret 78 lv st M := (lim_step dX6_areAllFed_74).trans (e_goto (t := 78) (by decide))
theorem sX6_areAllFed_77 : lim cal sc 6 cX6_areAllFed ret 77 lv st M = lim cal sc 6 cX6_areAllFed ret 78 lv (.int 0 :: st) M := (lim_step dX6_areAllFed_77).trans (e_ic k_i_0)
theorem sX6_areAllFed_78 : lim cal sc 6 cX6_areAllFed ret 78 (v0 :: v :: l) (.int x :: st) M = lim cal sc 6 cX6_areAllFed ret 79 (v0 :: some (.int x) :: l) st M := (lim_step dX6_areAllFed_78).trans (e_istn1)
theorem sX6_areAllFed_79 : lim cal sc 6 cX6_areAllFed ret 79 (v0 :: v1 :: some (.int x) :: l) st M = lim cal sc 6 cX6_areAllFed ret 82 (v0 :: v1 :: some (.int (x + 1)) :: l) st M := (lim_step dX6_areAllFed_79).trans (e_inc2 k_i_1)
theorem sX6_areAllFed_82 : lim cal sc 6 cX6_areAllFed ret 82 lv st M = lim cal sc 6 cX6_areAllFed ret 4 lv st M := (lim_step dX6_areAllFed_82).trans (e_goto (t := 4) (by decide))
theorem sX6_areAllFed_85 : lim cal sc 6 cX6_areAllFed ret 85 (some (.ref h) :: l) st M = lim cal sc 6 cX6_areAllFed ret 86 (some (.ref h) :: l) (.ref h :: st) M := lim_step dX6_areAllFed_85
theorem sX6_areAllFed_86 : lim cal sc 6 cX6_areAllFed ret 86 lv (.ref h :: st) M = opK (slotV 5 2 h M) fun q => lim cal sc 6 cX6_areAllFed ret 89 lv (q :: st) M := (lim_step dX6_areAllFed_86).trans (e_get (by decide) rf_6_16)
theorem sX6_areAllFed_89 : lim cal sc 6 cX6_areAllFed ret 89 (some (.ref h) :: l) st M = lim cal sc 6 cX6_areAllFed ret 90 (some (.ref h) :: l) (.ref h :: st) M := lim_step dX6_areAllFed_89
theorem sX6_areAllFed_90 : lim cal sc 6 cX6_areAllFed ret 90 lv (.ref h :: st) M = opK (slotV 5 0 h M) fun q => lim cal sc 6 cX6_areAllFed ret 93 lv (q :: st) M := (lim_step dX6_areAllFed_90).trans (e_get (by decide) rf_6_9)
theorem sX6_areAllFed_93 : lim cal sc 6 cX6_areAllFed ret 93 lv (a2 :: a1 :: st) M = guK (rk 8 st) (calK (cal 171 [a1, a2] M) fun q M' => lim cal sc 6 cX6_areAllFed ret 96 lv (q.toList ++ st) M') := (lim_step dX6_areAllFed_93).trans (e_stat2 rm_6_70)
theorem sX6_areAllFed_96 : lim cal sc 6 cX6_areAllFed ret 96 (v0 :: some (.int x) :: l) st M = lim cal sc 6 cX6_areAllFed ret 97 (v0 :: some (.int x) :: l) (.int x :: st) M := lim_step dX6_areAllFed_96
theorem sX6_areAllFed_97 : lim cal sc 6 cX6_areAllFed (some .boolean) 97 lv [.int x] M = guK (narB .boolean x) (some (some (.int x), M)) := (lim_step dX6_areAllFed_97).trans (e_zret)
theorem sX6_room_0 : lim cal sc 6 cX6_room ret 0 (some (.ref h) :: l) st M = lim cal sc 6 cX6_room ret 1 (some (.ref h) :: l) (.ref h :: st) M := lim_step dX6_room_0
theorem sX6_room_1 : lim cal sc 6 cX6_room ret 1 (v0 :: some (.int x) :: l) st M = lim cal sc 6 cX6_room ret 2 (v0 :: some (.int x) :: l) (.int x :: st) M := lim_step dX6_room_1
theorem sX6_room_2 : lim cal sc 6 cX6_room ret 2 lv (a1 :: .ref h :: st) M = guK (isCl 5 h) (guK (rk 8 st) (calK (cal 181 [.ref h, a1] M) fun q M' => lim cal sc 6 cX6_room ret 5 lv (q.toList ++ st) M')) := (lim_step dX6_room_2).trans (e_virt1 rm_6_211 mq_181)
theorem sX6_room_5 : lim cal sc 6 cX6_room ret 5 lv (.int x :: st) M = if x = 0 then lim cal sc 6 cX6_room ret 8 lv st M else lim cal sc 6 cX6_room ret 15 lv st M := (lim_step dX6_room_5).trans (e_ifne (t := 15) (by decide))
theorem sX6_room_8 : lim cal sc 6 cX6_room ret 8 (some (.ref h) :: l) st M = lim cal sc 6 cX6_room ret 9 (some (.ref h) :: l) (.ref h :: st) M := lim_step dX6_room_8
theorem sX6_room_9 : lim cal sc 6 cX6_room ret 9 lv st M = lim cal sc 6 cX6_room ret 11 lv (.int (-1000001) :: st) M := (lim_step dX6_room_9).trans (e_ldc rc_6_69)
theorem sX6_room_11 : lim cal sc 6 cX6_room ret 11 lv (a1 :: .ref h :: st) M = guK (isCl 5 h) (guK (rk 8 st) (calK (cal 137 [.ref h, a1] M) fun q M' => lim cal sc 6 cX6_room ret 14 lv (q.toList ++ st) M')) := (lim_step dX6_room_11).trans (e_virt1 rm_6_86 mq_137)
theorem sX6_room_14 : lim cal sc 6 cX6_room (some .int) 14 lv [.int x] M = some (some (.int x), M) := (lim_step dX6_room_14).trans (e_iret)
theorem sX6_room_15 : lim cal sc 6 cX6_room ret 15 (v0 :: some (.int x) :: l) st M = lim cal sc 6 cX6_room ret 16 (v0 :: some (.int x) :: l) (.int x :: st) M := lim_step dX6_room_15
theorem sX6_room_16 : lim cal sc 6 cX6_room ret 16 (some (.ref h) :: l) st M = lim cal sc 6 cX6_room ret 17 (some (.ref h) :: l) (.ref h :: st) M := lim_step dX6_room_16
theorem sX6_room_17 : lim cal sc 6 cX6_room ret 17 lv st M = lim cal sc 6 cX6_room ret 18 lv (.int 0 :: st) M := (lim_step dX6_room_17).trans (e_ic k_i_0)
theorem sX6_room_18 : lim cal sc 6 cX6_room ret 18 lv (a1 :: .ref h :: st) M = guK (isCl 5 h) (guK (rk 8 st) (calK (cal 183 [.ref h, a1] M) fun q M' => lim cal sc 6 cX6_room ret 21 lv (q.toList ++ st) M')) := (lim_step dX6_room_18).trans (e_virt1 rm_6_208 mq_183)
theorem sX6_room_21 : lim cal sc 6 cX6_room ret 21 lv st M = lim cal sc 6 cX6_room ret 22 lv (.int (-1) :: st) M := (lim_step dX6_room_21).trans (e_ic k_i_m1)
theorem sX6_room_22 : lim cal sc 6 cX6_room ret 22 lv (.int y :: .int x :: st) M = lim cal sc 6 cX6_room ret 23 lv (.int (x ^^^ y) :: st) M := lim_step dX6_room_22
theorem sX6_room_23 : lim cal sc 6 cX6_room ret 23 lv (.int y :: .int x :: st) M = lim cal sc 6 cX6_room ret 24 lv (.int (x &&& y) :: st) M := lim_step dX6_room_23
theorem sX6_room_24 : lim cal sc 6 cX6_room ret 24 lv (.int x :: st) M = if x = 0 then lim cal sc 6 cX6_room ret 27 lv st M else lim cal sc 6 cX6_room ret 36 lv st M := (lim_step dX6_room_24).trans (e_ifne (t := 36) (by decide))
theorem sX6_room_27 : lim cal sc 6 cX6_room ret 27 (some (.ref h) :: l) st M = lim cal sc 6 cX6_room ret 28 (some (.ref h) :: l) (.ref h :: st) M := lim_step dX6_room_27
theorem sX6_room_28 : lim cal sc 6 cX6_room ret 28 lv st M = lim cal sc 6 cX6_room ret 30 lv (.int 10 :: st) M := (lim_step dX6_room_28).trans (e_bi k_b_10)
theorem sX6_room_30 : lim cal sc 6 cX6_room ret 30 lv (a1 :: .ref h :: st) M = guK (isCl 5 h) (guK (rk 8 st) (calK (cal 163 [.ref h, a1] M) fun q M' => lim cal sc 6 cX6_room ret 33 lv (q.toList ++ st) M')) := (lim_step dX6_room_30).trans (e_virt1 rm_6_176 mq_163)
theorem sX6_room_33 : lim cal sc 6 cX6_room ret 33 lv (.int x :: st) M = if x = 0 then lim cal sc 6 cX6_room ret 43 lv st M else lim cal sc 6 cX6_room ret 36 lv st M := (lim_step dX6_room_33).trans (e_ifeq (t := 43) (by decide))
theorem sX6_room_36 : lim cal sc 6 cX6_room ret 36 (some (.ref h) :: l) st M = lim cal sc 6 cX6_room ret 37 (some (.ref h) :: l) (.ref h :: st) M := lim_step dX6_room_36
theorem sX6_room_37 : lim cal sc 6 cX6_room ret 37 lv st M = lim cal sc 6 cX6_room ret 39 lv (.int (-1000005) :: st) M := (lim_step dX6_room_37).trans (e_ldc rc_6_136)
theorem sX6_room_39 : lim cal sc 6 cX6_room ret 39 lv (a1 :: .ref h :: st) M = guK (isCl 5 h) (guK (rk 8 st) (calK (cal 137 [.ref h, a1] M) fun q M' => lim cal sc 6 cX6_room ret 42 lv (q.toList ++ st) M')) := (lim_step dX6_room_39).trans (e_virt1 rm_6_86 mq_137)
theorem sX6_room_42 : lim cal sc 6 cX6_room (some .int) 42 lv [.int x] M = some (some (.int x), M) := (lim_step dX6_room_42).trans (e_iret)
theorem sX6_room_43 : lim cal sc 6 cX6_room ret 43 (some (.ref h) :: l) st M = lim cal sc 6 cX6_room ret 44 (some (.ref h) :: l) (.ref h :: st) M := lim_step dX6_room_43
theorem sX6_room_44 : lim cal sc 6 cX6_room ret 44 lv (.ref h :: st) M = opK (slotV 5 0 h M) fun q => lim cal sc 6 cX6_room ret 47 lv (q :: st) M := (lim_step dX6_room_44).trans (e_get (by decide) rf_6_9)
theorem sX6_room_47 : lim cal sc 6 cX6_room ret 47 (some (.ref h) :: l) st M = lim cal sc 6 cX6_room ret 48 (some (.ref h) :: l) (.ref h :: st) M := lim_step dX6_room_47
theorem sX6_room_48 : lim cal sc 6 cX6_room ret 48 lv (.ref h :: st) M = opK (slotV 5 2 h M) fun q => lim cal sc 6 cX6_room ret 51 lv (q :: st) M := (lim_step dX6_room_48).trans (e_get (by decide) rf_6_16)
theorem sX6_room_51 : lim cal sc 6 cX6_room ret 51 lv (a2 :: a1 :: st) M = guK (rk 8 st) (calK (cal 171 [a1, a2] M) fun q M' => lim cal sc 6 cX6_room ret 54 lv (q.toList ++ st) M') := (lim_step dX6_room_51).trans (e_stat2 rm_6_70)
theorem sX6_room_54 : lim cal sc 6 cX6_room ret 54 (some (.ref h) :: l) st M = lim cal sc 6 cX6_room ret 55 (some (.ref h) :: l) (.ref h :: st) M := lim_step dX6_room_54
theorem sX6_room_55 : lim cal sc 6 cX6_room ret 55 (v0 :: some (.int x) :: l) st M = lim cal sc 6 cX6_room ret 56 (v0 :: some (.int x) :: l) (.int x :: st) M := lim_step dX6_room_55
theorem sX6_room_56 : lim cal sc 6 cX6_room ret 56 lv (a1 :: .ref h :: st) M = guK (isCl 5 h) (guK (rk 8 st) (calK (cal 184 [.ref h, a1] M) fun q M' => lim cal sc 6 cX6_room ret 59 lv (q.toList ++ st) M')) := (lim_step dX6_room_56).trans (e_virt1 rm_6_218 mq_184)
theorem sX6_room_59 : lim cal sc 6 cX6_room ret 59 lv st M = lim cal sc 6 cX6_room ret 60 lv (.int (-1) :: st) M := (lim_step dX6_room_59).trans (e_ic k_i_m1)
theorem sX6_room_60 : lim cal sc 6 cX6_room ret 60 (v0 :: v1 :: v :: l) (.int x :: st) M = lim cal sc 6 cX6_room ret 61 (v0 :: v1 :: some (.int x) :: l) st M := (lim_step dX6_room_60).trans (e_istn2)
theorem sX6_room_61 : lim cal sc 6 cX6_room ret 61 lv st M = lim cal sc 6 cX6_room ret 62 lv (.int 1 :: st) M := (lim_step dX6_room_61).trans (e_ic k_i_1)
theorem sX6_room_62 : lim cal sc 6 cX6_room ret 62 (v0 :: v1 :: v2 :: v :: l) (.int x :: st) M = lim cal sc 6 cX6_room ret 63 (v0 :: v1 :: v2 :: some (.int x) :: l) st M := (lim_step dX6_room_62).trans (e_istn3)
theorem sX6_room_63 : lim cal sc 6 cX6_room ret 63 (v0 :: v1 :: v2 :: some (.int x) :: l) st M = lim cal sc 6 cX6_room ret 64 (v0 :: v1 :: v2 :: some (.int x) :: l) (.int x :: st) M := lim_step dX6_room_63
theorem sX6_room_64 : lim cal sc 6 cX6_room ret 64 lv st M = lim cal sc 6 cX6_room ret 66 lv (.int 40 :: st) M := (lim_step dX6_room_64).trans (e_bi k_b_40)
theorem sX6_room_66 : lim cal sc 6 cX6_room ret 66 lv (.int y :: .int x :: st) M = if y < x then lim cal sc 6 cX6_room ret 99 lv st M else lim cal sc 6 cX6_room ret 69 lv st M := (lim_step dX6_room_66).trans (e_cmpgt (t := 99) (by decide))
theorem sX6_room_69 : lim cal sc 6 cX6_room ret 69 (v0 :: v1 :: some (.int x) :: l) st M = lim cal sc 6 cX6_room ret 70 (v0 :: v1 :: some (.int x) :: l) (.int x :: st) M := lim_step dX6_room_69
theorem sX6_room_70 : lim cal sc 6 cX6_room ret 70 lv (.int x :: st) M = if 0 ≤ x then lim cal sc 6 cX6_room ret 99 lv st M else lim cal sc 6 cX6_room ret 73 lv st M := (lim_step dX6_room_70).trans (e_ifge (t := 99) (by decide))
theorem sX6_room_73 : lim cal sc 6 cX6_room ret 73 (some (.ref h) :: l) st M = lim cal sc 6 cX6_room ret 74 (some (.ref h) :: l) (.ref h :: st) M := lim_step dX6_room_73
theorem sX6_room_74 : lim cal sc 6 cX6_room ret 74 lv (.ref h :: st) M = opK (slotV 5 0 h M) fun q => lim cal sc 6 cX6_room ret 77 lv (q :: st) M := (lim_step dX6_room_74).trans (e_get (by decide) rf_6_9)
theorem sX6_room_77 : lim cal sc 6 cX6_room ret 77 lv st M = lim cal sc 6 cX6_room ret 78 lv (.int 1 :: st) M := (lim_step dX6_room_77).trans (e_ic k_i_1)
theorem sX6_room_78 : lim cal sc 6 cX6_room ret 78 (v0 :: v1 :: v2 :: some (.int x) :: l) st M = lim cal sc 6 cX6_room ret 79 (v0 :: v1 :: v2 :: some (.int x) :: l) (.int x :: st) M := lim_step dX6_room_78
theorem sX6_room_79 : lim cal sc 6 cX6_room ret 79 lv (.int y :: .int x :: .ref h :: st) M = opK (arrN h) fun q => guK (inb x q) (lim cal sc 6 cX6_room ret 80 lv st (mset M h x.toNatClampNeg y)) := (lim_step dX6_room_79).trans (e_iast)
theorem sX6_room_80 : lim cal sc 6 cX6_room ret 80 (some (.ref h) :: l) st M = lim cal sc 6 cX6_room ret 81 (some (.ref h) :: l) (.ref h :: st) M := lim_step dX6_room_80
theorem sX6_room_81 : lim cal sc 6 cX6_room ret 81 lv (.ref h :: st) M = guK (isCl 5 h) (guK (rk 8 st) (calK (cal 213 [.ref h] M) fun q M' => lim cal sc 6 cX6_room ret 84 lv (q.toList ++ st) M')) := (lim_step dX6_room_81).trans (e_virt0 rm_6_274 mq_213)
theorem sX6_room_84 : lim cal sc 6 cX6_room ret 84 lv (.int x :: st) M = if x = 0 then lim cal sc 6 cX6_room ret 91 lv st M else lim cal sc 6 cX6_room ret 87 lv st M := (lim_step dX6_room_84).trans (e_ifeq (t := 91) (by decide))
theorem sX6_room_87 : lim cal sc 6 cX6_room ret 87 (v0 :: v1 :: v2 :: some (.int x) :: l) st M = lim cal sc 6 cX6_room ret 88 (v0 :: v1 :: v2 :: some (.int x) :: l) (.int x :: st) M := lim_step dX6_room_87
theorem sX6_room_88 : lim cal sc 6 cX6_room ret 88 lv st M = lim cal sc 6 cX6_room ret 92 lv st M := (lim_step dX6_room_88).trans (e_goto (t := 92) (by decide))
theorem sX6_room_91 : lim cal sc 6 cX6_room ret 91 lv st M = lim cal sc 6 cX6_room ret 92 lv (.int (-1) :: st) M := (lim_step dX6_room_91).trans (e_ic k_i_m1)
theorem sX6_room_92 : lim cal sc 6 cX6_room ret 92 (v0 :: v1 :: v :: l) (.int x :: st) M = lim cal sc 6 cX6_room ret 93 (v0 :: v1 :: some (.int x) :: l) st M := (lim_step dX6_room_92).trans (e_istn2)
theorem sX6_room_93 : lim cal sc 6 cX6_room ret 93 (v0 :: v1 :: v2 :: some (.int x) :: l) st M = lim cal sc 6 cX6_room ret 96 (v0 :: v1 :: v2 :: some (.int (x + 1)) :: l) st M := (lim_step dX6_room_93).trans (e_inc3 k_i_1)
theorem sX6_room_96 : lim cal sc 6 cX6_room ret 96 lv st M = lim cal sc 6 cX6_room ret 63 lv st M := (lim_step dX6_room_96).trans (e_goto (t := 63) (by decide))
theorem sX6_room_99 : lim cal sc 6 cX6_room ret 99 (v0 :: v1 :: some (.int x) :: l) st M = lim cal sc 6 cX6_room ret 100 (v0 :: v1 :: some (.int x) :: l) (.int x :: st) M := lim_step dX6_room_99
theorem sX6_room_100 : lim cal sc 6 cX6_room ret 100 lv (.int x :: st) M = if 0 ≤ x then lim cal sc 6 cX6_room ret 112 lv st M else lim cal sc 6 cX6_room ret 103 lv st M := (lim_step dX6_room_100).trans (e_ifge (t := 112) (by decide))
theorem sX6_room_103 : lim cal sc 6 cX6_room ret 103 (some (.ref h) :: l) st M = lim cal sc 6 cX6_room ret 104 (some (.ref h) :: l) (.ref h :: st) M := lim_step dX6_room_103
theorem sX6_room_104 : lim cal sc 6 cX6_room ret 104 lv st M = lim cal sc 6 cX6_room ret 106 lv (.int (-1000004) :: st) M := (lim_step dX6_room_104).trans (e_ldc rc_6_152)
theorem sX6_room_106 : lim cal sc 6 cX6_room ret 106 lv (a1 :: .ref h :: st) M = guK (isCl 5 h) (guK (rk 8 st) (calK (cal 137 [.ref h, a1] M) fun q M' => lim cal sc 6 cX6_room ret 109 lv (q.toList ++ st) M')) := (lim_step dX6_room_106).trans (e_virt1 rm_6_86 mq_137)
theorem sX6_room_109 : lim cal sc 6 cX6_room ret 109 lv st M = lim cal sc 6 cX6_room ret 113 lv st M := (lim_step dX6_room_109).trans (e_goto (t := 113) (by decide))
theorem sX6_room_112 : lim cal sc 6 cX6_room ret 112 (v0 :: v1 :: some (.int x) :: l) st M = lim cal sc 6 cX6_room ret 113 (v0 :: v1 :: some (.int x) :: l) (.int x :: st) M := lim_step dX6_room_112
theorem sX6_room_113 : lim cal sc 6 cX6_room (some .int) 113 lv [.int x] M = some (some (.int x), M) := (lim_step dX6_room_113).trans (e_iret)
theorem sX6_starves_0 : lim cal sc 6 cX6_starves ret 0 (some (.ref h) :: l) st M = lim cal sc 6 cX6_starves ret 1 (some (.ref h) :: l) (.ref h :: st) M := lim_step dX6_starves_0
theorem sX6_starves_1 : lim cal sc 6 cX6_starves ret 1 lv st M = lim cal sc 6 cX6_starves ret 2 lv (.int 1 :: st) M := (lim_step dX6_starves_1).trans (e_ic k_i_1)
theorem sX6_starves_2 : lim cal sc 6 cX6_starves ret 2 lv st M = lim cal sc 6 cX6_starves ret 3 lv (.int 0 :: st) M := (lim_step dX6_starves_2).trans (e_ic k_i_0)
theorem sX6_starves_3 : lim cal sc 6 cX6_starves ret 3 (v0 :: some (.int x) :: l) st M = lim cal sc 6 cX6_starves ret 4 (v0 :: some (.int x) :: l) (.int x :: st) M := lim_step dX6_starves_3
theorem sX6_starves_4 : lim cal sc 6 cX6_starves ret 4 lv (a3 :: a2 :: a1 :: .ref h :: st) M = guK (isCl 5 h) (guK (rk 8 st) (calK (cal 182 [.ref h, a1, a2, a3] M) fun q M' => lim cal sc 6 cX6_starves ret 7 lv (q.toList ++ st) M')) := (lim_step dX6_starves_4).trans (e_virt3 rm_6_214 mq_182)
theorem sX6_starves_7 : lim cal sc 6 cX6_starves ret 7 (v0 :: v1 :: v :: l) (.int x :: st) M = lim cal sc 6 cX6_starves ret 8 (v0 :: v1 :: some (.int x) :: l) st M := (lim_step dX6_starves_7).trans (e_istn2)
theorem sX6_starves_8 : lim cal sc 6 cX6_starves ret 8 (v0 :: v1 :: some (.int x) :: l) st M = lim cal sc 6 cX6_starves ret 9 (v0 :: v1 :: some (.int x) :: l) (.int x :: st) M := lim_step dX6_starves_8
theorem sX6_starves_9 : lim cal sc 6 cX6_starves ret 9 lv (.int x :: st) M = if x = 0 then lim cal sc 6 cX6_starves ret 18 lv st M else lim cal sc 6 cX6_starves ret 12 lv st M := (lim_step dX6_starves_9).trans (e_ifeq (t := 18) (by decide))
theorem sX6_starves_12 : lim cal sc 6 cX6_starves ret 12 (some (.ref h) :: l) st M = lim cal sc 6 cX6_starves ret 13 (some (.ref h) :: l) (.ref h :: st) M := lim_step dX6_starves_12
theorem sX6_starves_13 : lim cal sc 6 cX6_starves ret 13 (v0 :: v1 :: some (.int x) :: l) st M = lim cal sc 6 cX6_starves ret 14 (v0 :: v1 :: some (.int x) :: l) (.int x :: st) M := lim_step dX6_starves_13
theorem sX6_starves_14 : lim cal sc 6 cX6_starves ret 14 lv (a1 :: .ref h :: st) M = guK (isCl 5 h) (guK (rk 8 st) (calK (cal 137 [.ref h, a1] M) fun q M' => lim cal sc 6 cX6_starves ret 17 lv (q.toList ++ st) M')) := (lim_step dX6_starves_14).trans (e_virt1 rm_6_86 mq_137)
theorem sX6_starves_17 : lim cal sc 6 cX6_starves (some .int) 17 lv [.int x] M = some (some (.int x), M) := (lim_step dX6_starves_17).trans (e_iret)
theorem sX6_starves_18 : lim cal sc 6 cX6_starves ret 18 (some (.ref h) :: l) st M = lim cal sc 6 cX6_starves ret 19 (some (.ref h) :: l) (.ref h :: st) M := lim_step dX6_starves_18
theorem sX6_starves_19 : lim cal sc 6 cX6_starves ret 19 lv (.ref h :: st) M = opK (slotV 5 0 h M) fun q => lim cal sc 6 cX6_starves ret 22 lv (q :: st) M := (lim_step dX6_starves_19).trans (e_get (by decide) rf_6_9)
theorem sX6_starves_22 : lim cal sc 6 cX6_starves ret 22 (some (.ref h) :: l) st M = lim cal sc 6 cX6_starves ret 23 (some (.ref h) :: l) (.ref h :: st) M := lim_step dX6_starves_22
theorem sX6_starves_23 : lim cal sc 6 cX6_starves ret 23 lv (.ref h :: st) M = opK (slotV 5 2 h M) fun q => lim cal sc 6 cX6_starves ret 26 lv (q :: st) M := (lim_step dX6_starves_23).trans (e_get (by decide) rf_6_16)
theorem sX6_starves_26 : lim cal sc 6 cX6_starves ret 26 lv (a2 :: a1 :: st) M = guK (rk 8 st) (calK (cal 171 [a1, a2] M) fun q M' => lim cal sc 6 cX6_starves ret 29 lv (q.toList ++ st) M') := (lim_step dX6_starves_26).trans (e_stat2 rm_6_70)
theorem sX6_starves_29 : lim cal sc 6 cX6_starves ret 29 lv st M = lim cal sc 6 cX6_starves ret 30 lv (.int (-1) :: st) M := (lim_step dX6_starves_29).trans (e_ic k_i_m1)
theorem sX6_starves_30 : lim cal sc 6 cX6_starves ret 30 (v0 :: v1 :: v2 :: v :: l) (.int x :: st) M = lim cal sc 6 cX6_starves ret 31 (v0 :: v1 :: v2 :: some (.int x) :: l) st M := (lim_step dX6_starves_30).trans (e_istn3)
theorem sX6_starves_31 : lim cal sc 6 cX6_starves ret 31 lv st M = lim cal sc 6 cX6_starves ret 33 lv (.int 9 :: st) M := (lim_step dX6_starves_31).trans (e_bi k_b_9)
theorem sX6_starves_33 : lim cal sc 6 cX6_starves ret 33 (v0 :: v1 :: v2 :: v3 :: v :: l) (.int x :: st) M = lim cal sc 6 cX6_starves ret 35 (v0 :: v1 :: v2 :: v3 :: some (.int x) :: l) st M := (lim_step dX6_starves_33).trans (e_ist4)
theorem sX6_starves_35 : lim cal sc 6 cX6_starves ret 35 (v0 :: v1 :: v2 :: v3 :: some (.int x) :: l) st M = lim cal sc 6 cX6_starves ret 37 (v0 :: v1 :: v2 :: v3 :: some (.int x) :: l) (.int x :: st) M := lim_step dX6_starves_35
theorem sX6_starves_37 : lim cal sc 6 cX6_starves ret 37 lv (.int x :: st) M = if x < 0 then lim cal sc 6 cX6_starves ret 109 lv st M else lim cal sc 6 cX6_starves ret 40 lv st M := (lim_step dX6_starves_37).trans (e_iflt (t := 109) (by decide))
theorem sX6_starves_40 : lim cal sc 6 cX6_starves ret 40 (v0 :: v1 :: v2 :: some (.int x) :: l) st M = lim cal sc 6 cX6_starves ret 41 (v0 :: v1 :: v2 :: some (.int x) :: l) (.int x :: st) M := lim_step dX6_starves_40
theorem sX6_starves_41 : lim cal sc 6 cX6_starves ret 41 lv (.int x :: st) M = if 0 ≤ x then lim cal sc 6 cX6_starves ret 109 lv st M else lim cal sc 6 cX6_starves ret 44 lv st M := (lim_step dX6_starves_41).trans (e_ifge (t := 109) (by decide))
theorem sX6_starves_44 : lim cal sc 6 cX6_starves ret 44 (some (.ref h) :: l) st M = lim cal sc 6 cX6_starves ret 45 (some (.ref h) :: l) (.ref h :: st) M := lim_step dX6_starves_44
theorem sX6_starves_45 : lim cal sc 6 cX6_starves ret 45 lv (.ref h :: st) M = opK (slotV 5 0 h M) fun q => lim cal sc 6 cX6_starves ret 48 lv (q :: st) M := (lim_step dX6_starves_45).trans (e_get (by decide) rf_6_9)
theorem sX6_starves_48 : lim cal sc 6 cX6_starves ret 48 lv st M = lim cal sc 6 cX6_starves ret 49 lv (.int 2 :: st) M := (lim_step dX6_starves_48).trans (e_ic k_i_2)
theorem sX6_starves_49 : lim cal sc 6 cX6_starves ret 49 (v0 :: v1 :: v2 :: v3 :: some (.int x) :: l) st M = lim cal sc 6 cX6_starves ret 51 (v0 :: v1 :: v2 :: v3 :: some (.int x) :: l) (.int x :: st) M := lim_step dX6_starves_49
theorem sX6_starves_51 : lim cal sc 6 cX6_starves ret 51 lv (.int y :: .int x :: .ref h :: st) M = opK (arrN h) fun q => guK (inb x q) (lim cal sc 6 cX6_starves ret 52 lv st (mset M h x.toNatClampNeg y)) := (lim_step dX6_starves_51).trans (e_iast)
theorem sX6_starves_52 : lim cal sc 6 cX6_starves ret 52 (some (.ref h) :: l) st M = lim cal sc 6 cX6_starves ret 53 (some (.ref h) :: l) (.ref h :: st) M := lim_step dX6_starves_52
theorem sX6_starves_53 : lim cal sc 6 cX6_starves ret 53 lv (.ref h :: st) M = opK (slotV 5 0 h M) fun q => lim cal sc 6 cX6_starves ret 56 lv (q :: st) M := (lim_step dX6_starves_53).trans (e_get (by decide) rf_6_9)
theorem sX6_starves_56 : lim cal sc 6 cX6_starves ret 56 lv st M = lim cal sc 6 cX6_starves ret 58 lv (.int 6 :: st) M := (lim_step dX6_starves_56).trans (e_bi k_b_6)
theorem sX6_starves_58 : lim cal sc 6 cX6_starves ret 58 lv (.int x :: .ref h :: st) M = opK (arrV9 sc h M) fun q => guK (inb x q.1) (lim cal sc 6 cX6_starves ret 59 lv (.int (q.2 x.toNatClampNeg) :: st) M) := (lim_step dX6_starves_58).trans (e_iald)
theorem sX6_starves_59 : lim cal sc 6 cX6_starves ret 59 (v0 :: v1 :: v2 :: v3 :: v4 :: v :: l) (.int x :: st) M = lim cal sc 6 cX6_starves ret 61 (v0 :: v1 :: v2 :: v3 :: v4 :: some (.int x) :: l) st M := (lim_step dX6_starves_59).trans (e_ist5)
theorem sX6_starves_61 : lim cal sc 6 cX6_starves ret 61 (some (.ref h) :: l) st M = lim cal sc 6 cX6_starves ret 62 (some (.ref h) :: l) (.ref h :: st) M := lim_step dX6_starves_61
theorem sX6_starves_62 : lim cal sc 6 cX6_starves ret 62 (v0 :: some (.int x) :: l) st M = lim cal sc 6 cX6_starves ret 63 (v0 :: some (.int x) :: l) (.int x :: st) M := lim_step dX6_starves_62
theorem sX6_starves_63 : lim cal sc 6 cX6_starves ret 63 lv (a1 :: .ref h :: st) M = guK (isCl 5 h) (guK (rk 8 st) (calK (cal 164 [.ref h, a1] M) fun q M' => lim cal sc 6 cX6_starves ret 66 lv (q.toList ++ st) M')) := (lim_step dX6_starves_63).trans (e_virt1 rm_6_179 mq_164)
theorem sX6_starves_66 : lim cal sc 6 cX6_starves ret 66 (v0 :: v1 :: v2 :: v3 :: v4 :: v5 :: v :: l) (.int x :: st) M = lim cal sc 6 cX6_starves ret 68 (v0 :: v1 :: v2 :: v3 :: v4 :: v5 :: some (.int x) :: l) st M := (lim_step dX6_starves_66).trans (e_ist6)
theorem sX6_starves_68 : lim cal sc 6 cX6_starves ret 68 (v0 :: v1 :: v2 :: v3 :: v4 :: v5 :: some (.int x) :: l) st M = lim cal sc 6 cX6_starves ret 70 (v0 :: v1 :: v2 :: v3 :: v4 :: v5 :: some (.int x) :: l) (.int x :: st) M := lim_step dX6_starves_68
theorem sX6_starves_70 : lim cal sc 6 cX6_starves ret 70 lv (.int x :: st) M = if x < 0 then lim cal sc 6 cX6_starves ret 90 lv st M else lim cal sc 6 cX6_starves ret 73 lv st M := (lim_step dX6_starves_70).trans (e_iflt (t := 90) (by decide))
theorem sX6_starves_73 : lim cal sc 6 cX6_starves ret 73 (some (.ref h) :: l) st M = lim cal sc 6 cX6_starves ret 74 (some (.ref h) :: l) (.ref h :: st) M := lim_step dX6_starves_73
theorem sX6_starves_74 : lim cal sc 6 cX6_starves ret 74 lv (.ref h :: st) M = opK (slotV 5 0 h M) fun q => lim cal sc 6 cX6_starves ret 77 lv (q :: st) M := (lim_step dX6_starves_74).trans (e_get (by decide) rf_6_9)
theorem sX6_starves_77 : lim cal sc 6 cX6_starves ret 77 lv st M = lim cal sc 6 cX6_starves ret 79 lv (.int 6 :: st) M := (lim_step dX6_starves_77).trans (e_bi k_b_6)
theorem sX6_starves_79 : lim cal sc 6 cX6_starves ret 79 lv (.int x :: .ref h :: st) M = opK (arrV9 sc h M) fun q => guK (inb x q.1) (lim cal sc 6 cX6_starves ret 80 lv (.int (q.2 x.toNatClampNeg) :: st) M) := (lim_step dX6_starves_79).trans (e_iald)
theorem sX6_starves_80 : lim cal sc 6 cX6_starves ret 80 (v0 :: v1 :: v2 :: v3 :: v4 :: some (.int x) :: l) st M = lim cal sc 6 cX6_starves ret 82 (v0 :: v1 :: v2 :: v3 :: v4 :: some (.int x) :: l) (.int x :: st) M := lim_step dX6_starves_80
theorem sX6_starves_82 : lim cal sc 6 cX6_starves ret 82 lv (.int y :: .int x :: st) M = if x = y then lim cal sc 6 cX6_starves ret 85 lv st M else lim cal sc 6 cX6_starves ret 90 lv st M := (lim_step dX6_starves_82).trans (e_cmpne (t := 90) (by decide))
theorem sX6_starves_85 : lim cal sc 6 cX6_starves ret 85 (v0 :: v1 :: v2 :: v3 :: some (.int x) :: l) st M = lim cal sc 6 cX6_starves ret 87 (v0 :: v1 :: v2 :: v3 :: some (.int x) :: l) (.int x :: st) M := lim_step dX6_starves_85
theorem sX6_starves_87 : lim cal sc 6 cX6_starves ret 87 lv st M = lim cal sc 6 cX6_starves ret 91 lv st M := (lim_step dX6_starves_87).trans (e_goto (t := 91) (by decide))
theorem sX6_starves_90 : lim cal sc 6 cX6_starves ret 90 lv st M = lim cal sc 6 cX6_starves ret 91 lv (.int (-1) :: st) M := (lim_step dX6_starves_90).trans (e_ic k_i_m1)
theorem sX6_starves_91 : lim cal sc 6 cX6_starves ret 91 (v0 :: v1 :: v2 :: v :: l) (.int x :: st) M = lim cal sc 6 cX6_starves ret 92 (v0 :: v1 :: v2 :: some (.int x) :: l) st M := (lim_step dX6_starves_91).trans (e_istn3)
theorem sX6_starves_92 : lim cal sc 6 cX6_starves ret 92 (some (.ref h) :: l) st M = lim cal sc 6 cX6_starves ret 93 (some (.ref h) :: l) (.ref h :: st) M := lim_step dX6_starves_92
theorem sX6_starves_93 : lim cal sc 6 cX6_starves ret 93 lv (.ref h :: st) M = opK (slotV 5 2 h M) fun q => lim cal sc 6 cX6_starves ret 96 lv (q :: st) M := (lim_step dX6_starves_93).trans (e_get (by decide) rf_6_16)
theorem sX6_starves_96 : lim cal sc 6 cX6_starves ret 96 (some (.ref h) :: l) st M = lim cal sc 6 cX6_starves ret 97 (some (.ref h) :: l) (.ref h :: st) M := lim_step dX6_starves_96
theorem sX6_starves_97 : lim cal sc 6 cX6_starves ret 97 lv (.ref h :: st) M = opK (slotV 5 0 h M) fun q => lim cal sc 6 cX6_starves ret 100 lv (q :: st) M := (lim_step dX6_starves_97).trans (e_get (by decide) rf_6_9)
theorem sX6_starves_100 : lim cal sc 6 cX6_starves ret 100 lv (a2 :: a1 :: st) M = guK (rk 8 st) (calK (cal 171 [a1, a2] M) fun q M' => lim cal sc 6 cX6_starves ret 103 lv (q.toList ++ st) M') := (lim_step dX6_starves_100).trans (e_stat2 rm_6_70)
theorem sX6_starves_103 : lim cal sc 6 cX6_starves ret 103 (v0 :: v1 :: v2 :: v3 :: some (.int x) :: l) st M = lim cal sc 6 cX6_starves ret 106 (v0 :: v1 :: v2 :: v3 :: some (.int (x + (-1))) :: l) st M := (lim_step dX6_starves_103).trans (e_inc4 k_i_m1)
theorem sX6_starves_106 : lim cal sc 6 cX6_starves ret 106 lv st M = lim cal sc 6 cX6_starves ret 35 lv st M := (lim_step dX6_starves_106).trans (e_goto (t := 35) (by decide))
theorem sX6_starves_109 : lim cal sc 6 cX6_starves ret 109 (v0 :: v1 :: v2 :: some (.int x) :: l) st M = lim cal sc 6 cX6_starves ret 110 (v0 :: v1 :: v2 :: some (.int x) :: l) (.int x :: st) M := lim_step dX6_starves_109
theorem sX6_starves_110 : lim cal sc 6 cX6_starves (some .int) 110 lv [.int x] M = some (some (.int x), M) := (lim_step dX6_starves_110).trans (e_iret)
theorem sX6_drawn_0 : lim cal sc 6 cX6_drawn ret 0 (some (.ref h) :: l) st M = lim cal sc 6 cX6_drawn ret 1 (some (.ref h) :: l) (.ref h :: st) M := lim_step dX6_drawn_0
theorem sX6_drawn_1 : lim cal sc 6 cX6_drawn ret 1 lv (.ref h :: st) M = opK (slotV 5 0 h M) fun q => lim cal sc 6 cX6_drawn ret 4 lv (q :: st) M := (lim_step dX6_drawn_1).trans (e_get (by decide) rf_6_9)
theorem sX6_drawn_4 : lim cal sc 6 cX6_drawn ret 4 lv st M = lim cal sc 6 cX6_drawn ret 6 lv (.int 7 :: st) M := (lim_step dX6_drawn_4).trans (e_bi k_b_7)
theorem sX6_drawn_6 : lim cal sc 6 cX6_drawn ret 6 (some (.ref h) :: l) st M = lim cal sc 6 cX6_drawn ret 7 (some (.ref h) :: l) (.ref h :: st) M := lim_step dX6_drawn_6
theorem sX6_drawn_7 : lim cal sc 6 cX6_drawn ret 7 lv (.ref h :: st) M = opK (slotV 5 0 h M) fun q => lim cal sc 6 cX6_drawn ret 10 lv (q :: st) M := (lim_step dX6_drawn_7).trans (e_get (by decide) rf_6_9)
theorem sX6_drawn_10 : lim cal sc 6 cX6_drawn ret 10 lv st M = lim cal sc 6 cX6_drawn ret 12 lv (.int 7 :: st) M := (lim_step dX6_drawn_10).trans (e_bi k_b_7)
theorem sX6_drawn_12 : lim cal sc 6 cX6_drawn ret 12 lv (.int x :: .ref h :: st) M = opK (arrV9 sc h M) fun q => guK (inb x q.1) (lim cal sc 6 cX6_drawn ret 13 lv (.int (q.2 x.toNatClampNeg) :: st) M) := (lim_step dX6_drawn_12).trans (e_iald)
theorem sX6_drawn_13 : lim cal sc 6 cX6_drawn ret 13 lv st M = lim cal sc 6 cX6_drawn ret 16 lv (.int 1103515245 :: st) M := (lim_step dX6_drawn_13).trans (e_ldcw rc_6_277)
theorem sX6_drawn_16 : lim cal sc 6 cX6_drawn ret 16 lv (.int y :: .int x :: st) M = lim cal sc 6 cX6_drawn ret 17 lv (.int (x * y) :: st) M := lim_step dX6_drawn_16
theorem sX6_drawn_17 : lim cal sc 6 cX6_drawn ret 17 lv st M = lim cal sc 6 cX6_drawn ret 20 lv (.int 12345 :: st) M := (lim_step dX6_drawn_17).trans (e_si k_s_12345)
theorem sX6_drawn_20 : lim cal sc 6 cX6_drawn ret 20 lv (.int y :: .int x :: st) M = lim cal sc 6 cX6_drawn ret 21 lv (.int (x + y) :: st) M := lim_step dX6_drawn_20
theorem sX6_drawn_21 : lim cal sc 6 cX6_drawn ret 21 lv (.int y :: .int x :: .ref h :: st) M = opK (arrN h) fun q => guK (inb x q) (lim cal sc 6 cX6_drawn ret 22 lv st (mset M h x.toNatClampNeg y)) := (lim_step dX6_drawn_21).trans (e_iast)
theorem sX6_drawn_22 : lim cal sc 6 cX6_drawn ret 22 (some (.ref h) :: l) st M = lim cal sc 6 cX6_drawn ret 23 (some (.ref h) :: l) (.ref h :: st) M := lim_step dX6_drawn_22
theorem sX6_drawn_23 : lim cal sc 6 cX6_drawn ret 23 lv (.ref h :: st) M = opK (slotV 5 0 h M) fun q => lim cal sc 6 cX6_drawn ret 26 lv (q :: st) M := (lim_step dX6_drawn_23).trans (e_get (by decide) rf_6_9)
theorem sX6_drawn_26 : lim cal sc 6 cX6_drawn ret 26 lv st M = lim cal sc 6 cX6_drawn ret 28 lv (.int 7 :: st) M := (lim_step dX6_drawn_26).trans (e_bi k_b_7)
theorem sX6_drawn_28 : lim cal sc 6 cX6_drawn ret 28 lv (.int x :: .ref h :: st) M = opK (arrV9 sc h M) fun q => guK (inb x q.1) (lim cal sc 6 cX6_drawn ret 29 lv (.int (q.2 x.toNatClampNeg) :: st) M) := (lim_step dX6_drawn_28).trans (e_iald)
theorem sX6_drawn_29 : lim cal sc 6 cX6_drawn ret 29 lv st M = lim cal sc 6 cX6_drawn ret 31 lv (.int 8 :: st) M := (lim_step dX6_drawn_29).trans (e_bi k_b_8)
theorem sX6_drawn_31 : lim cal sc 6 cX6_drawn ret 31 lv (.int y :: .int x :: st) M = lim cal sc 6 cX6_drawn ret 32 lv (.int (x.toUInt32 >>> (y.toUInt32 &&& Int32.toUInt32 31)).toInt32 :: st) M := lim_step dX6_drawn_31
theorem sX6_drawn_32 : lim cal sc 6 cX6_drawn ret 32 (v0 :: some (.int x) :: l) st M = lim cal sc 6 cX6_drawn ret 33 (v0 :: some (.int x) :: l) (.int x :: st) M := lim_step dX6_drawn_32
theorem sX6_drawn_33 : lim cal sc 6 cX6_drawn ret 33 lv (.int y :: .int x :: st) M = guK (decide (¬ y = 0)) (lim cal sc 6 cX6_drawn ret 34 lv (.int (x - x / y * y) :: st) M) := (lim_step dX6_drawn_33).trans (e_rem)
theorem sX6_drawn_34 : lim cal sc 6 cX6_drawn (some .int) 34 lv [.int x] M = some (some (.int x), M) := (lim_step dX6_drawn_34).trans (e_iret)
theorem sX6_lent_0 : lim cal sc 6 cX6_lent ret 0 (v0 :: some (.int x) :: l) st M = lim cal sc 6 cX6_lent ret 1 (v0 :: some (.int x) :: l) (.int x :: st) M := lim_step dX6_lent_0
theorem sX6_lent_1 : lim cal sc 6 cX6_lent ret 1 lv st M = lim cal sc 6 cX6_lent ret 2 lv (.int 1 :: st) M := (lim_step dX6_lent_1).trans (e_ic k_i_1)
theorem sX6_lent_2 : lim cal sc 6 cX6_lent ret 2 lv st M = lim cal sc 6 cX6_lent ret 4 lv (.int 12 :: st) M := (lim_step dX6_lent_2).trans (e_bi k_b_12)
theorem sX6_lent_4 : lim cal sc 6 cX6_lent ret 4 lv (a3 :: a2 :: a1 :: st) M = guK (rk 8 st) (calK (cal 136 [a1, a2, a3] M) fun q M' => lim cal sc 6 cX6_lent ret 7 lv (q.toList ++ st) M') := (lim_step dX6_lent_4).trans (e_stat3 rm_6_74)
theorem sX6_lent_7 : lim cal sc 6 cX6_lent ret 7 lv (.int x :: st) M = if x = 0 then lim cal sc 6 cX6_lent ret 10 lv st M else lim cal sc 6 cX6_lent ret 17 lv st M := (lim_step dX6_lent_7).trans (e_ifne (t := 17) (by decide))
theorem sX6_lent_10 : lim cal sc 6 cX6_lent ret 10 (some (.ref h) :: l) st M = lim cal sc 6 cX6_lent ret 11 (some (.ref h) :: l) (.ref h :: st) M := lim_step dX6_lent_10
theorem sX6_lent_11 : lim cal sc 6 cX6_lent ret 11 lv st M = lim cal sc 6 cX6_lent ret 13 lv (.int (-1000001) :: st) M := (lim_step dX6_lent_11).trans (e_ldc rc_6_69)
theorem sX6_lent_13 : lim cal sc 6 cX6_lent ret 13 lv (a1 :: .ref h :: st) M = guK (isCl 5 h) (guK (rk 8 st) (calK (cal 137 [.ref h, a1] M) fun q M' => lim cal sc 6 cX6_lent ret 16 lv (q.toList ++ st) M')) := (lim_step dX6_lent_13).trans (e_virt1 rm_6_86 mq_137)
theorem sX6_lent_16 : lim cal sc 6 cX6_lent (some .int) 16 lv [.int x] M = some (some (.int x), M) := (lim_step dX6_lent_16).trans (e_iret)
theorem sX6_lent_17 : lim cal sc 6 cX6_lent ret 17 (some (.ref h) :: l) st M = lim cal sc 6 cX6_lent ret 18 (some (.ref h) :: l) (.ref h :: st) M := lim_step dX6_lent_17
theorem sX6_lent_18 : lim cal sc 6 cX6_lent ret 18 (v0 :: some (.int x) :: l) st M = lim cal sc 6 cX6_lent ret 19 (v0 :: some (.int x) :: l) (.int x :: st) M := lim_step dX6_lent_18
theorem sX6_lent_19 : lim cal sc 6 cX6_lent ret 19 lv (a1 :: .ref h :: st) M = guK (isCl 5 h) (guK (rk 8 st) (calK (cal 163 [.ref h, a1] M) fun q M' => lim cal sc 6 cX6_lent ret 22 lv (q.toList ++ st) M')) := (lim_step dX6_lent_19).trans (e_virt1 rm_6_176 mq_163)
theorem sX6_lent_22 : lim cal sc 6 cX6_lent ret 22 lv (.int x :: st) M = if x = 0 then lim cal sc 6 cX6_lent ret 25 lv st M else lim cal sc 6 cX6_lent ret 34 lv st M := (lim_step dX6_lent_22).trans (e_ifne (t := 34) (by decide))
theorem sX6_lent_25 : lim cal sc 6 cX6_lent ret 25 (some (.ref h) :: l) st M = lim cal sc 6 cX6_lent ret 26 (some (.ref h) :: l) (.ref h :: st) M := lim_step dX6_lent_25
theorem sX6_lent_26 : lim cal sc 6 cX6_lent ret 26 lv (.ref h :: st) M = opK (slotV 5 0 h M) fun q => lim cal sc 6 cX6_lent ret 29 lv (q :: st) M := (lim_step dX6_lent_26).trans (e_get (by decide) rf_6_9)
theorem sX6_lent_29 : lim cal sc 6 cX6_lent ret 29 lv st M = lim cal sc 6 cX6_lent ret 30 lv (.int 3 :: st) M := (lim_step dX6_lent_29).trans (e_ic k_i_3)
theorem sX6_lent_30 : lim cal sc 6 cX6_lent ret 30 lv (.int x :: .ref h :: st) M = opK (arrV9 sc h M) fun q => guK (inb x q.1) (lim cal sc 6 cX6_lent ret 31 lv (.int (q.2 x.toNatClampNeg) :: st) M) := (lim_step dX6_lent_30).trans (e_iald)
theorem sX6_lent_31 : lim cal sc 6 cX6_lent ret 31 lv (.int x :: st) M = if x = 0 then lim cal sc 6 cX6_lent ret 34 lv st M else lim cal sc 6 cX6_lent ret 41 lv st M := (lim_step dX6_lent_31).trans (e_ifne (t := 41) (by decide))
theorem sX6_lent_34 : lim cal sc 6 cX6_lent ret 34 (some (.ref h) :: l) st M = lim cal sc 6 cX6_lent ret 35 (some (.ref h) :: l) (.ref h :: st) M := lim_step dX6_lent_34
theorem sX6_lent_35 : lim cal sc 6 cX6_lent ret 35 lv st M = lim cal sc 6 cX6_lent ret 37 lv (.int (-1000005) :: st) M := (lim_step dX6_lent_35).trans (e_ldc rc_6_136)
theorem sX6_lent_37 : lim cal sc 6 cX6_lent ret 37 lv (a1 :: .ref h :: st) M = guK (isCl 5 h) (guK (rk 8 st) (calK (cal 137 [.ref h, a1] M) fun q M' => lim cal sc 6 cX6_lent ret 40 lv (q.toList ++ st) M')) := (lim_step dX6_lent_37).trans (e_virt1 rm_6_86 mq_137)
theorem sX6_lent_40 : lim cal sc 6 cX6_lent (some .int) 40 lv [.int x] M = some (some (.int x), M) := (lim_step dX6_lent_40).trans (e_iret)
theorem sX6_lent_41 : lim cal sc 6 cX6_lent ret 41 lv st M = lim cal sc 6 cX6_lent ret 42 lv (.int 0 :: st) M := (lim_step dX6_lent_41).trans (e_ic k_i_0)
theorem sX6_lent_42 : lim cal sc 6 cX6_lent ret 42 (v0 :: v1 :: v :: l) (.int x :: st) M = lim cal sc 6 cX6_lent ret 43 (v0 :: v1 :: some (.int x) :: l) st M := (lim_step dX6_lent_42).trans (e_istn2)
theorem sX6_lent_43 : lim cal sc 6 cX6_lent ret 43 lv st M = lim cal sc 6 cX6_lent ret 44 lv (.int 0 :: st) M := (lim_step dX6_lent_43).trans (e_ic k_i_0)
theorem sX6_lent_44 : lim cal sc 6 cX6_lent ret 44 (v0 :: v1 :: v2 :: v :: l) (.int x :: st) M = lim cal sc 6 cX6_lent ret 45 (v0 :: v1 :: v2 :: some (.int x) :: l) st M := (lim_step dX6_lent_44).trans (e_istn3)
theorem sX6_lent_45 : lim cal sc 6 cX6_lent ret 45 (v0 :: v1 :: v2 :: some (.int x) :: l) st M = lim cal sc 6 cX6_lent ret 46 (v0 :: v1 :: v2 :: some (.int x) :: l) (.int x :: st) M := lim_step dX6_lent_45
theorem sX6_lent_46 : lim cal sc 6 cX6_lent ret 46 (v0 :: some (.int x) :: l) st M = lim cal sc 6 cX6_lent ret 47 (v0 :: some (.int x) :: l) (.int x :: st) M := lim_step dX6_lent_46
theorem sX6_lent_47 : lim cal sc 6 cX6_lent ret 47 lv (.int y :: .int x :: st) M = if y ≤ x then lim cal sc 6 cX6_lent ret 107 lv st M else lim cal sc 6 cX6_lent ret 50 lv st M := (lim_step dX6_lent_47).trans (e_cmpge (t := 107) (by decide))
theorem sX6_lent_50 : lim cal sc 6 cX6_lent ret 50 (some (.ref h) :: l) st M = lim cal sc 6 cX6_lent ret 51 (some (.ref h) :: l) (.ref h :: st) M := lim_step dX6_lent_50
theorem sX6_lent_51 : lim cal sc 6 cX6_lent ret 51 (some (.ref h) :: l) st M = lim cal sc 6 cX6_lent ret 52 (some (.ref h) :: l) (.ref h :: st) M := lim_step dX6_lent_51
theorem sX6_lent_52 : lim cal sc 6 cX6_lent ret 52 lv (.ref h :: st) M = opK (slotV 5 0 h M) fun q => lim cal sc 6 cX6_lent ret 55 lv (q :: st) M := (lim_step dX6_lent_52).trans (e_get (by decide) rf_6_9)
theorem sX6_lent_55 : lim cal sc 6 cX6_lent ret 55 lv st M = lim cal sc 6 cX6_lent ret 56 lv (.int 3 :: st) M := (lim_step dX6_lent_55).trans (e_ic k_i_3)
theorem sX6_lent_56 : lim cal sc 6 cX6_lent ret 56 lv (.int x :: .ref h :: st) M = opK (arrV9 sc h M) fun q => guK (inb x q.1) (lim cal sc 6 cX6_lent ret 57 lv (.int (q.2 x.toNatClampNeg) :: st) M) := (lim_step dX6_lent_56).trans (e_iald)
theorem sX6_lent_57 : lim cal sc 6 cX6_lent ret 57 lv (a1 :: .ref h :: st) M = guK (isCl 5 h) (guK (rk 8 st) (calK (cal 216 [.ref h, a1] M) fun q M' => lim cal sc 6 cX6_lent ret 60 lv (q.toList ++ st) M')) := (lim_step dX6_lent_57).trans (e_virt1 rm_6_278 mq_216)
theorem sX6_lent_60 : lim cal sc 6 cX6_lent ret 60 (v0 :: v1 :: v2 :: v3 :: v :: l) (.int x :: st) M = lim cal sc 6 cX6_lent ret 62 (v0 :: v1 :: v2 :: v3 :: some (.int x) :: l) st M := (lim_step dX6_lent_60).trans (e_ist4)
theorem sX6_lent_62 : lim cal sc 6 cX6_lent ret 62 (some (.ref h) :: l) st M = lim cal sc 6 cX6_lent ret 63 (some (.ref h) :: l) (.ref h :: st) M := lim_step dX6_lent_62
theorem sX6_lent_63 : lim cal sc 6 cX6_lent ret 63 (v0 :: v1 :: v2 :: v3 :: some (.int x) :: l) st M = lim cal sc 6 cX6_lent ret 65 (v0 :: v1 :: v2 :: v3 :: some (.int x) :: l) (.int x :: st) M := lim_step dX6_lent_63
theorem sX6_lent_65 : lim cal sc 6 cX6_lent ret 65 lv st M = lim cal sc 6 cX6_lent ret 66 lv (.int 0 :: st) M := (lim_step dX6_lent_65).trans (e_ic k_i_0)
theorem sX6_lent_66 : lim cal sc 6 cX6_lent ret 66 lv (a2 :: a1 :: .ref h :: st) M = guK (isCl 5 h) (guK (rk 8 st) (calK (cal 152 [.ref h, a1, a2] M) fun q M' => lim cal sc 6 cX6_lent ret 69 lv (q.toList ++ st) M')) := (lim_step dX6_lent_66).trans (e_virt2 rm_6_125 mq_152)
theorem sX6_lent_69 : lim cal sc 6 cX6_lent ret 69 lv (.int x :: st) M = if x = 0 then lim cal sc 6 cX6_lent ret 94 lv st M else lim cal sc 6 cX6_lent ret 72 lv st M := (lim_step dX6_lent_69).trans (e_ifeq (t := 94) (by decide))
theorem sX6_lent_72 : lim cal sc 6 cX6_lent ret 72 (some (.ref h) :: l) st M = lim cal sc 6 cX6_lent ret 73 (some (.ref h) :: l) (.ref h :: st) M := lim_step dX6_lent_72
theorem sX6_lent_73 : lim cal sc 6 cX6_lent ret 73 (v0 :: v1 :: v2 :: v3 :: some (.int x) :: l) st M = lim cal sc 6 cX6_lent ret 75 (v0 :: v1 :: v2 :: v3 :: some (.int x) :: l) (.int x :: st) M := lim_step dX6_lent_73
theorem sX6_lent_75 : lim cal sc 6 cX6_lent ret 75 lv (a1 :: .ref h :: st) M = guK (isCl 5 h) (guK (rk 8 st) (calK (cal 153 [.ref h, a1] M) fun q M' => lim cal sc 6 cX6_lent ret 78 lv (q.toList ++ st) M')) := (lim_step dX6_lent_75).trans (e_virt1 rm_6_137 mq_153)
theorem sX6_lent_78 : lim cal sc 6 cX6_lent ret 78 lv (.int x :: st) M = if x = 0 then lim cal sc 6 cX6_lent ret 94 lv st M else lim cal sc 6 cX6_lent ret 81 lv st M := (lim_step dX6_lent_78).trans (e_ifeq (t := 94) (by decide))
theorem sX6_lent_81 : lim cal sc 6 cX6_lent ret 81 (v0 :: v1 :: some (.int x) :: l) st M = lim cal sc 6 cX6_lent ret 82 (v0 :: v1 :: some (.int x) :: l) (.int x :: st) M := lim_step dX6_lent_81
theorem sX6_lent_82 : lim cal sc 6 cX6_lent ret 82 lv st M = lim cal sc 6 cX6_lent ret 83 lv (.int 0 :: st) M := (lim_step dX6_lent_82).trans (e_ic k_i_0)
theorem sX6_lent_83 : lim cal sc 6 cX6_lent ret 83 (some (.ref h) :: l) st M = lim cal sc 6 cX6_lent ret 84 (some (.ref h) :: l) (.ref h :: st) M := lim_step dX6_lent_83
theorem sX6_lent_84 : lim cal sc 6 cX6_lent ret 84 (v0 :: v1 :: v2 :: v3 :: some (.int x) :: l) st M = lim cal sc 6 cX6_lent ret 86 (v0 :: v1 :: v2 :: v3 :: some (.int x) :: l) (.int x :: st) M := lim_step dX6_lent_84
theorem sX6_lent_86 : lim cal sc 6 cX6_lent ret 86 lv (a1 :: .ref h :: st) M = guK (isCl 5 h) (guK (rk 8 st) (calK (cal 155 [.ref h, a1] M) fun q M' => lim cal sc 6 cX6_lent ret 89 lv (q.toList ++ st) M')) := (lim_step dX6_lent_86).trans (e_virt1 rm_6_140 mq_155)
theorem sX6_lent_89 : lim cal sc 6 cX6_lent ret 89 lv (.int y :: .int x :: st) M = guK (rk 8 st) (lim cal sc 6 cX6_lent ret 92 lv (.int (if y < x then y else x) :: st) M) := (lim_step dX6_lent_89).trans (e_min rm_6_143)
theorem sX6_lent_92 : lim cal sc 6 cX6_lent ret 92 lv (.int y :: .int x :: st) M = lim cal sc 6 cX6_lent ret 93 lv (.int (x + y) :: st) M := lim_step dX6_lent_92
theorem sX6_lent_93 : lim cal sc 6 cX6_lent ret 93 (v0 :: v1 :: v :: l) (.int x :: st) M = lim cal sc 6 cX6_lent ret 94 (v0 :: v1 :: some (.int x) :: l) st M := (lim_step dX6_lent_93).trans (e_istn2)
theorem sX6_lent_94 : lim cal sc 6 cX6_lent ret 94 (v0 :: v1 :: some (.int x) :: l) st M = lim cal sc 6 cX6_lent ret 95 (v0 :: v1 :: some (.int x) :: l) (.int x :: st) M := lim_step dX6_lent_94
theorem sX6_lent_95 : lim cal sc 6 cX6_lent ret 95 (some (.ref h) :: l) st M = lim cal sc 6 cX6_lent ret 96 (some (.ref h) :: l) (.ref h :: st) M := lim_step dX6_lent_95
theorem sX6_lent_96 : lim cal sc 6 cX6_lent ret 96 lv (.ref h :: st) M = guK (isCl 5 h) (guK (rk 8 st) (calK (cal 165 [.ref h] M) fun q M' => lim cal sc 6 cX6_lent ret 99 lv (q.toList ++ st) M')) := (lim_step dX6_lent_96).trans (e_virt0 rm_6_173 mq_165)
theorem sX6_lent_99 : lim cal sc 6 cX6_lent ret 99 lv (.int y :: .int x :: st) M = lim cal sc 6 cX6_lent ret 100 lv (.int (x + y) :: st) M := lim_step dX6_lent_99
theorem sX6_lent_100 : lim cal sc 6 cX6_lent ret 100 (v0 :: v1 :: v :: l) (.int x :: st) M = lim cal sc 6 cX6_lent ret 101 (v0 :: v1 :: some (.int x) :: l) st M := (lim_step dX6_lent_100).trans (e_istn2)
theorem sX6_lent_101 : lim cal sc 6 cX6_lent ret 101 (v0 :: v1 :: v2 :: some (.int x) :: l) st M = lim cal sc 6 cX6_lent ret 104 (v0 :: v1 :: v2 :: some (.int (x + 1)) :: l) st M := (lim_step dX6_lent_101).trans (e_inc3 k_i_1)
theorem sX6_lent_104 : lim cal sc 6 cX6_lent ret 104 lv st M = lim cal sc 6 cX6_lent ret 45 lv st M := (lim_step dX6_lent_104).trans (e_goto (t := 45) (by decide))
theorem sX6_lent_107 : lim cal sc 6 cX6_lent ret 107 (v0 :: v1 :: some (.int x) :: l) st M = lim cal sc 6 cX6_lent ret 108 (v0 :: v1 :: some (.int x) :: l) (.int x :: st) M := lim_step dX6_lent_107
theorem sX6_lent_108 : lim cal sc 6 cX6_lent (some .int) 108 lv [.int x] M = some (some (.int x), M) := (lim_step dX6_lent_108).trans (e_iret)
theorem sX6_seed_0 : lim cal sc 6 cX6_seed ret 0 (some (.ref h) :: l) st M = lim cal sc 6 cX6_seed ret 1 (some (.ref h) :: l) (.ref h :: st) M := lim_step dX6_seed_0
theorem sX6_seed_1 : lim cal sc 6 cX6_seed ret 1 lv st M = lim cal sc 6 cX6_seed ret 3 lv (.int 7 :: st) M := (lim_step dX6_seed_1).trans (e_bi k_b_7)
theorem sX6_seed_3 : lim cal sc 6 cX6_seed ret 3 (v0 :: some (.int x) :: l) st M = lim cal sc 6 cX6_seed ret 4 (v0 :: some (.int x) :: l) (.int x :: st) M := lim_step dX6_seed_3
theorem sX6_seed_4 : lim cal sc 6 cX6_seed ret 4 lv (a2 :: a1 :: .ref h :: st) M = guK (isCl 5 h) (guK (rk 8 st) (calK (cal 149 [.ref h, a1, a2] M) fun q M' => lim cal sc 6 cX6_seed ret 7 lv (q.toList ++ st) M')) := (lim_step dX6_seed_4).trans (e_virt2 rm_6_122 mq_149)
theorem sX6_seed_7 : lim cal sc 6 cX6_seed (some .int) 7 lv [.int x] M = some (some (.int x), M) := (lim_step dX6_seed_7).trans (e_iret)
theorem sX6_feed_0 : lim cal sc 6 cX6_feed ret 0 (v0 :: v1 :: some (.int x) :: l) st M = lim cal sc 6 cX6_feed ret 1 (v0 :: v1 :: some (.int x) :: l) (.int x :: st) M := lim_step dX6_feed_0
theorem sX6_feed_1 : lim cal sc 6 cX6_feed ret 1 lv st M = lim cal sc 6 cX6_feed ret 2 lv (.int 1 :: st) M := (lim_step dX6_feed_1).trans (e_ic k_i_1)
theorem sX6_feed_2 : lim cal sc 6 cX6_feed ret 2 lv st M = lim cal sc 6 cX6_feed ret 3 lv (.int 4 :: st) M := (lim_step dX6_feed_2).trans (e_ic k_i_4)
theorem sX6_feed_3 : lim cal sc 6 cX6_feed ret 3 lv (a3 :: a2 :: a1 :: st) M = guK (rk 8 st) (calK (cal 136 [a1, a2, a3] M) fun q M' => lim cal sc 6 cX6_feed ret 6 lv (q.toList ++ st) M') := (lim_step dX6_feed_3).trans (e_stat3 rm_6_74)
theorem sX6_feed_6 : lim cal sc 6 cX6_feed ret 6 lv (.int x :: st) M = if x = 0 then lim cal sc 6 cX6_feed ret 9 lv st M else lim cal sc 6 cX6_feed ret 16 lv st M := (lim_step dX6_feed_6).trans (e_ifne (t := 16) (by decide))
theorem sX6_feed_9 : lim cal sc 6 cX6_feed ret 9 (some (.ref h) :: l) st M = lim cal sc 6 cX6_feed ret 10 (some (.ref h) :: l) (.ref h :: st) M := lim_step dX6_feed_9
theorem sX6_feed_10 : lim cal sc 6 cX6_feed ret 10 lv st M = lim cal sc 6 cX6_feed ret 12 lv (.int (-1000001) :: st) M := (lim_step dX6_feed_10).trans (e_ldc rc_6_69)
theorem sX6_feed_12 : lim cal sc 6 cX6_feed ret 12 lv (a1 :: .ref h :: st) M = guK (isCl 5 h) (guK (rk 8 st) (calK (cal 137 [.ref h, a1] M) fun q M' => lim cal sc 6 cX6_feed ret 15 lv (q.toList ++ st) M')) := (lim_step dX6_feed_12).trans (e_virt1 rm_6_86 mq_137)
theorem sX6_feed_15 : lim cal sc 6 cX6_feed (some .int) 15 lv [.int x] M = some (some (.int x), M) := (lim_step dX6_feed_15).trans (e_iret)
theorem sX6_feed_16 : lim cal sc 6 cX6_feed ret 16 (some (.ref h) :: l) st M = lim cal sc 6 cX6_feed ret 17 (some (.ref h) :: l) (.ref h :: st) M := lim_step dX6_feed_16
theorem sX6_feed_17 : lim cal sc 6 cX6_feed ret 17 lv (.ref h :: st) M = opK (slotV 5 17 h M) fun q => lim cal sc 6 cX6_feed ret 20 lv (q :: st) M := (lim_step dX6_feed_17).trans (e_get (by decide) rf_6_281)
theorem sX6_feed_20 : lim cal sc 6 cX6_feed ret 20 (v0 :: v1 :: some (.int x) :: l) st M = lim cal sc 6 cX6_feed ret 21 (v0 :: v1 :: some (.int x) :: l) (.int x :: st) M := lim_step dX6_feed_20
theorem sX6_feed_21 : lim cal sc 6 cX6_feed ret 21 lv (.int y :: .int x :: st) M = lim cal sc 6 cX6_feed ret 22 lv (.int (x + y) :: st) M := lim_step dX6_feed_21
theorem sX6_feed_22 : lim cal sc 6 cX6_feed ret 22 lv st M = lim cal sc 6 cX6_feed ret 24 lv (.int 120 :: st) M := (lim_step dX6_feed_22).trans (e_bi k_b_120)
theorem sX6_feed_24 : lim cal sc 6 cX6_feed ret 24 lv (.int y :: .int x :: st) M = if x ≤ y then lim cal sc 6 cX6_feed ret 34 lv st M else lim cal sc 6 cX6_feed ret 27 lv st M := (lim_step dX6_feed_24).trans (e_cmple (t := 34) (by decide))
theorem sX6_feed_27 : lim cal sc 6 cX6_feed ret 27 (some (.ref h) :: l) st M = lim cal sc 6 cX6_feed ret 28 (some (.ref h) :: l) (.ref h :: st) M := lim_step dX6_feed_27
theorem sX6_feed_28 : lim cal sc 6 cX6_feed ret 28 lv st M = lim cal sc 6 cX6_feed ret 30 lv (.int (-1000002) :: st) M := (lim_step dX6_feed_28).trans (e_ldc rc_6_90)
theorem sX6_feed_30 : lim cal sc 6 cX6_feed ret 30 lv (a1 :: .ref h :: st) M = guK (isCl 5 h) (guK (rk 8 st) (calK (cal 137 [.ref h, a1] M) fun q M' => lim cal sc 6 cX6_feed ret 33 lv (q.toList ++ st) M')) := (lim_step dX6_feed_30).trans (e_virt1 rm_6_86 mq_137)
theorem sX6_feed_33 : lim cal sc 6 cX6_feed (some .int) 33 lv [.int x] M = some (some (.int x), M) := (lim_step dX6_feed_33).trans (e_iret)
theorem sX6_feed_34 : lim cal sc 6 cX6_feed ret 34 (v0 :: v1 :: some (.int x) :: l) st M = lim cal sc 6 cX6_feed ret 35 (v0 :: v1 :: some (.int x) :: l) (.int x :: st) M := lim_step dX6_feed_34
theorem sX6_feed_35 : lim cal sc 6 cX6_feed ret 35 lv st M = lim cal sc 6 cX6_feed ret 36 lv (.int 1 :: st) M := (lim_step dX6_feed_35).trans (e_ic k_i_1)
theorem sX6_feed_36 : lim cal sc 6 cX6_feed ret 36 lv (.int y :: .int x :: st) M = lim cal sc 6 cX6_feed ret 37 lv (.int (x - y) :: st) M := lim_step dX6_feed_36
theorem sX6_feed_37 : lim cal sc 6 cX6_feed ret 37 (v0 :: v1 :: v2 :: v :: l) (.int x :: st) M = lim cal sc 6 cX6_feed ret 38 (v0 :: v1 :: v2 :: some (.int x) :: l) st M := (lim_step dX6_feed_37).trans (e_istn3)
theorem sX6_feed_38 : lim cal sc 6 cX6_feed ret 38 (v0 :: v1 :: v2 :: some (.int x) :: l) st M = lim cal sc 6 cX6_feed ret 39 (v0 :: v1 :: v2 :: some (.int x) :: l) (.int x :: st) M := lim_step dX6_feed_38
theorem sX6_feed_39 : lim cal sc 6 cX6_feed ret 39 lv (.int x :: st) M = if x < 0 then lim cal sc 6 cX6_feed ret 77 lv st M else lim cal sc 6 cX6_feed ret 42 lv st M := (lim_step dX6_feed_39).trans (e_iflt (t := 77) (by decide))
theorem sX6_feed_42 : lim cal sc 6 cX6_feed ret 42 (some (.ref h) :: l) st M = lim cal sc 6 cX6_feed ret 43 (some (.ref h) :: l) (.ref h :: st) M := lim_step dX6_feed_42
theorem sX6_feed_43 : lim cal sc 6 cX6_feed ret 43 lv (.ref h :: st) M = opK (slotV 5 16 h M) fun q => lim cal sc 6 cX6_feed ret 46 lv (q :: st) M := (lim_step dX6_feed_43).trans (e_get (by decide) rf_6_31)
theorem sX6_feed_46 : lim cal sc 6 cX6_feed ret 46 (some (.ref h) :: l) st M = lim cal sc 6 cX6_feed ret 47 (some (.ref h) :: l) (.ref h :: st) M := lim_step dX6_feed_46
theorem sX6_feed_47 : lim cal sc 6 cX6_feed ret 47 lv (.ref h :: st) M = opK (slotV 5 17 h M) fun q => lim cal sc 6 cX6_feed ret 50 lv (q :: st) M := (lim_step dX6_feed_47).trans (e_get (by decide) rf_6_281)
theorem sX6_feed_50 : lim cal sc 6 cX6_feed ret 50 (v0 :: some (.int x) :: l) st M = lim cal sc 6 cX6_feed ret 51 (v0 :: some (.int x) :: l) (.int x :: st) M := lim_step dX6_feed_50
theorem sX6_feed_51 : lim cal sc 6 cX6_feed ret 51 lv st M = lim cal sc 6 cX6_feed ret 53 lv (.int 8 :: st) M := (lim_step dX6_feed_51).trans (e_bi k_b_8)
theorem sX6_feed_53 : lim cal sc 6 cX6_feed ret 53 (v0 :: v1 :: v2 :: some (.int x) :: l) st M = lim cal sc 6 cX6_feed ret 54 (v0 :: v1 :: v2 :: some (.int x) :: l) (.int x :: st) M := lim_step dX6_feed_53
theorem sX6_feed_54 : lim cal sc 6 cX6_feed ret 54 lv (.int y :: .int x :: st) M = lim cal sc 6 cX6_feed ret 55 lv (.int (x * y) :: st) M := lim_step dX6_feed_54
theorem sX6_feed_55 : lim cal sc 6 cX6_feed ret 55 lv (.int y :: .int x :: st) M = lim cal sc 6 cX6_feed ret 56 lv (.int (x >>> (y &&& 31)) :: st) M := lim_step dX6_feed_55
theorem sX6_feed_56 : lim cal sc 6 cX6_feed ret 56 lv st M = lim cal sc 6 cX6_feed ret 59 lv (.int 255 :: st) M := (lim_step dX6_feed_56).trans (e_si k_s_255)
theorem sX6_feed_59 : lim cal sc 6 cX6_feed ret 59 lv (.int y :: .int x :: st) M = lim cal sc 6 cX6_feed ret 60 lv (.int (x &&& y) :: st) M := lim_step dX6_feed_59
theorem sX6_feed_60 : lim cal sc 6 cX6_feed ret 60 lv (.int y :: .int x :: .ref h :: st) M = opK (arrN h) fun q => guK (inb x q) (lim cal sc 6 cX6_feed ret 61 lv st (mset M h x.toNatClampNeg y)) := (lim_step dX6_feed_60).trans (e_iast)
theorem sX6_feed_61 : lim cal sc 6 cX6_feed ret 61 (some (.ref h) :: l) st M = lim cal sc 6 cX6_feed ret 62 (some (.ref h) :: l) (.ref h :: st) M := lim_step dX6_feed_61
theorem sX6_feed_62 : lim cal sc 6 cX6_feed ret 62 lv (.ref h :: st) M = lim cal sc 6 cX6_feed ret 63 lv (.ref h :: .ref h :: st) M := lim_step dX6_feed_62
theorem sX6_feed_62_i : lim cal sc 6 cX6_feed ret 62 lv (.int x :: st) M = lim cal sc 6 cX6_feed ret 63 lv (.int x :: .int x :: st) M := lim_step dX6_feed_62
theorem sX6_feed_63 : lim cal sc 6 cX6_feed ret 63 lv (.ref h :: st) M = opK (slotV 5 17 h M) fun q => lim cal sc 6 cX6_feed ret 66 lv (q :: st) M := (lim_step dX6_feed_63).trans (e_get (by decide) rf_6_281)
theorem sX6_feed_66 : lim cal sc 6 cX6_feed ret 66 lv st M = lim cal sc 6 cX6_feed ret 67 lv (.int 1 :: st) M := (lim_step dX6_feed_66).trans (e_ic k_i_1)
theorem sX6_feed_67 : lim cal sc 6 cX6_feed ret 67 lv (.int y :: .int x :: st) M = lim cal sc 6 cX6_feed ret 68 lv (.int (x + y) :: st) M := lim_step dX6_feed_67
theorem sX6_feed_68 : lim cal sc 6 cX6_feed ret 68 lv (.int x :: .ref h :: st) M = guK (isInt 5 17 h) (lim cal sc 6 cX6_feed ret 71 lv st (mset M h 17 x)) := (lim_step dX6_feed_68).trans (e_put rf_6_281 rfl)
theorem sX6_feed_71 : lim cal sc 6 cX6_feed ret 71 (v0 :: v1 :: v2 :: some (.int x) :: l) st M = lim cal sc 6 cX6_feed ret 74 (v0 :: v1 :: v2 :: some (.int (x + (-1))) :: l) st M := (lim_step dX6_feed_71).trans (e_inc3 k_i_m1)
theorem sX6_feed_74 : lim cal sc 6 cX6_feed ret 74 lv st M = lim cal sc 6 cX6_feed ret 38 lv st M := (lim_step dX6_feed_74).trans (e_goto (t := 38) (by decide))
theorem sX6_feed_77 : lim cal sc 6 cX6_feed ret 77 (some (.ref h) :: l) st M = lim cal sc 6 cX6_feed ret 78 (some (.ref h) :: l) (.ref h :: st) M := lim_step dX6_feed_77
theorem sX6_feed_78 : lim cal sc 6 cX6_feed ret 78 lv (.ref h :: st) M = opK (slotV 5 17 h M) fun q => lim cal sc 6 cX6_feed ret 81 lv (q :: st) M := (lim_step dX6_feed_78).trans (e_get (by decide) rf_6_281)
theorem sX6_feed_81 : lim cal sc 6 cX6_feed (some .int) 81 lv [.int x] M = some (some (.int x), M) := (lim_step dX6_feed_81).trans (e_iret)
theorem sX6_wipe_0 : lim cal sc 6 cX6_wipe ret 0 (some (.ref h) :: l) st M = lim cal sc 6 cX6_wipe ret 1 (some (.ref h) :: l) (.ref h :: st) M := lim_step dX6_wipe_0
theorem sX6_wipe_1 : lim cal sc 6 cX6_wipe ret 1 lv (.ref h :: st) M = opK (slotV 5 17 h M) fun q => lim cal sc 6 cX6_wipe ret 4 lv (q :: st) M := (lim_step dX6_wipe_1).trans (e_get (by decide) rf_6_281)
theorem sX6_wipe_4 : lim cal sc 6 cX6_wipe ret 4 (v0 :: v :: l) (.int x :: st) M = lim cal sc 6 cX6_wipe ret 5 (v0 :: some (.int x) :: l) st M := (lim_step dX6_wipe_4).trans (e_istn1)
theorem sX6_wipe_5 : lim cal sc 6 cX6_wipe ret 5 (some (.ref h) :: l) st M = lim cal sc 6 cX6_wipe ret 6 (some (.ref h) :: l) (.ref h :: st) M := lim_step dX6_wipe_5
theorem sX6_wipe_6 : lim cal sc 6 cX6_wipe ret 6 lv st M = lim cal sc 6 cX6_wipe ret 7 lv (.int 0 :: st) M := (lim_step dX6_wipe_6).trans (e_ic k_i_0)
theorem sX6_wipe_7 : lim cal sc 6 cX6_wipe ret 7 lv (.int x :: .ref h :: st) M = guK (isInt 5 17 h) (lim cal sc 6 cX6_wipe ret 10 lv st (mset M h 17 x)) := (lim_step dX6_wipe_7).trans (e_put rf_6_281 rfl)
theorem sX6_wipe_10 : lim cal sc 6 cX6_wipe ret 10 (v0 :: some (.int x) :: l) st M = lim cal sc 6 cX6_wipe ret 11 (v0 :: some (.int x) :: l) (.int x :: st) M := lim_step dX6_wipe_10
theorem sX6_wipe_11 : lim cal sc 6 cX6_wipe (some .int) 11 lv [.int x] M = some (some (.int x), M) := (lim_step dX6_wipe_11).trans (e_iret)
theorem sX6_byteAt_0 : lim cal sc 6 cX6_byteAt ret 0 (v0 :: some (.int x) :: l) st M = lim cal sc 6 cX6_byteAt ret 1 (v0 :: some (.int x) :: l) (.int x :: st) M := lim_step dX6_byteAt_0
theorem sX6_byteAt_1 : lim cal sc 6 cX6_byteAt ret 1 (some (.ref h) :: l) st M = lim cal sc 6 cX6_byteAt ret 2 (some (.ref h) :: l) (.ref h :: st) M := lim_step dX6_byteAt_1
theorem sX6_byteAt_2 : lim cal sc 6 cX6_byteAt ret 2 lv (.ref h :: st) M = opK (slotV 5 17 h M) fun q => lim cal sc 6 cX6_byteAt ret 5 lv (q :: st) M := (lim_step dX6_byteAt_2).trans (e_get (by decide) rf_6_281)
theorem sX6_byteAt_5 : lim cal sc 6 cX6_byteAt ret 5 lv (.int y :: .int x :: st) M = if y ≤ x then lim cal sc 6 cX6_byteAt ret 17 lv st M else lim cal sc 6 cX6_byteAt ret 8 lv st M := (lim_step dX6_byteAt_5).trans (e_cmpge (t := 17) (by decide))
theorem sX6_byteAt_8 : lim cal sc 6 cX6_byteAt ret 8 (some (.ref h) :: l) st M = lim cal sc 6 cX6_byteAt ret 9 (some (.ref h) :: l) (.ref h :: st) M := lim_step dX6_byteAt_8
theorem sX6_byteAt_9 : lim cal sc 6 cX6_byteAt ret 9 lv (.ref h :: st) M = opK (slotV 5 16 h M) fun q => lim cal sc 6 cX6_byteAt ret 12 lv (q :: st) M := (lim_step dX6_byteAt_9).trans (e_get (by decide) rf_6_31)
theorem sX6_byteAt_12 : lim cal sc 6 cX6_byteAt ret 12 (v0 :: some (.int x) :: l) st M = lim cal sc 6 cX6_byteAt ret 13 (v0 :: some (.int x) :: l) (.int x :: st) M := lim_step dX6_byteAt_12
theorem sX6_byteAt_13 : lim cal sc 6 cX6_byteAt ret 13 lv (.int x :: .ref h :: st) M = opK (arrV9 sc h M) fun q => guK (inb x q.1) (lim cal sc 6 cX6_byteAt ret 14 lv (.int (q.2 x.toNatClampNeg) :: st) M) := (lim_step dX6_byteAt_13).trans (e_iald)
theorem sX6_byteAt_14 : lim cal sc 6 cX6_byteAt ret 14 lv st M = lim cal sc 6 cX6_byteAt ret 18 lv st M := (lim_step dX6_byteAt_14).trans (e_goto (t := 18) (by decide))
theorem sX6_byteAt_17 : lim cal sc 6 cX6_byteAt ret 17 lv st M = lim cal sc 6 cX6_byteAt ret 18 lv (.int (-1) :: st) M := (lim_step dX6_byteAt_17).trans (e_ic k_i_m1)
theorem sX6_byteAt_18 : lim cal sc 6 cX6_byteAt (some .int) 18 lv [.int x] M = some (some (.int x), M) := (lim_step dX6_byteAt_18).trans (e_iret)
theorem sX6_next__0 : lim cal sc 6 cX6_next_ ret 0 (some (.ref h) :: l) st M = lim cal sc 6 cX6_next_ ret 1 (some (.ref h) :: l) (.ref h :: st) M := lim_step dX6_next__0
theorem sX6_next__1 : lim cal sc 6 cX6_next_ ret 1 (some (.ref h) :: l) st M = lim cal sc 6 cX6_next_ ret 2 (some (.ref h) :: l) (.ref h :: st) M := lim_step dX6_next__1
theorem sX6_next__2 : lim cal sc 6 cX6_next_ ret 2 lv (.ref h :: st) M = opK (slotV 5 19 h M) fun q => lim cal sc 6 cX6_next_ ret 5 lv (q :: st) M := (lim_step dX6_next__2).trans (e_get (by decide) rf_6_284)
theorem sX6_next__5 : lim cal sc 6 cX6_next_ ret 5 lv (.int x :: .ref h :: st) M = guK (isInt 5 18 h) (lim cal sc 6 cX6_next_ ret 8 lv st (mset M h 18 x)) := (lim_step dX6_next__5).trans (e_put rf_6_287 rfl)
theorem sX6_next__8 : lim cal sc 6 cX6_next_ ret 8 (some (.ref h) :: l) st M = lim cal sc 6 cX6_next_ ret 9 (some (.ref h) :: l) (.ref h :: st) M := lim_step dX6_next__8
theorem sX6_next__9 : lim cal sc 6 cX6_next_ ret 9 (some (.ref h) :: l) st M = lim cal sc 6 cX6_next_ ret 10 (some (.ref h) :: l) (.ref h :: st) M := lim_step dX6_next__9
theorem sX6_next__10 : lim cal sc 6 cX6_next_ ret 10 lv (.ref h :: st) M = opK (slotV 5 18 h M) fun q => lim cal sc 6 cX6_next_ ret 13 lv (q :: st) M := (lim_step dX6_next__10).trans (e_get (by decide) rf_6_287)
theorem sX6_next__13 : lim cal sc 6 cX6_next_ ret 13 lv (a1 :: .ref h :: st) M = guK (isCl 5 h) (guK (rk 8 st) (calK (cal 222 [.ref h, a1] M) fun q M' => lim cal sc 6 cX6_next_ ret 16 lv (q.toList ++ st) M')) := (lim_step dX6_next__13).trans (e_virt1 rm_6_290 mq_222)
theorem sX6_next__16 : lim cal sc 6 cX6_next_ ret 16 lv st M = lim cal sc 6 cX6_next_ ret 18 lv (.int 32 :: st) M := (lim_step dX6_next__16).trans (e_bi k_b_32)
theorem sX6_next__18 : lim cal sc 6 cX6_next_ ret 18 lv (.int y :: .int x :: st) M = if x = y then lim cal sc 6 cX6_next_ ret 21 lv st M else lim cal sc 6 cX6_next_ ret 34 lv st M := (lim_step dX6_next__18).trans (e_cmpne (t := 34) (by decide))
theorem sX6_next__21 : lim cal sc 6 cX6_next_ ret 21 (some (.ref h) :: l) st M = lim cal sc 6 cX6_next_ ret 22 (some (.ref h) :: l) (.ref h :: st) M := lim_step dX6_next__21
theorem sX6_next__22 : lim cal sc 6 cX6_next_ ret 22 lv (.ref h :: st) M = lim cal sc 6 cX6_next_ ret 23 lv (.ref h :: .ref h :: st) M := lim_step dX6_next__22
theorem sX6_next__22_i : lim cal sc 6 cX6_next_ ret 22 lv (.int x :: st) M = lim cal sc 6 cX6_next_ ret 23 lv (.int x :: .int x :: st) M := lim_step dX6_next__22
theorem sX6_next__23 : lim cal sc 6 cX6_next_ ret 23 lv (.ref h :: st) M = opK (slotV 5 18 h M) fun q => lim cal sc 6 cX6_next_ ret 26 lv (q :: st) M := (lim_step dX6_next__23).trans (e_get (by decide) rf_6_287)
theorem sX6_next__26 : lim cal sc 6 cX6_next_ ret 26 lv st M = lim cal sc 6 cX6_next_ ret 27 lv (.int 1 :: st) M := (lim_step dX6_next__26).trans (e_ic k_i_1)
theorem sX6_next__27 : lim cal sc 6 cX6_next_ ret 27 lv (.int y :: .int x :: st) M = lim cal sc 6 cX6_next_ ret 28 lv (.int (x + y) :: st) M := lim_step dX6_next__27
theorem sX6_next__28 : lim cal sc 6 cX6_next_ ret 28 lv (.int x :: .ref h :: st) M = guK (isInt 5 18 h) (lim cal sc 6 cX6_next_ ret 31 lv st (mset M h 18 x)) := (lim_step dX6_next__28).trans (e_put rf_6_287 rfl)
theorem sX6_next__31 : lim cal sc 6 cX6_next_ ret 31 lv st M = lim cal sc 6 cX6_next_ ret 8 lv st M := (lim_step dX6_next__31).trans (e_goto (t := 8) (by decide))
theorem sX6_next__34 : lim cal sc 6 cX6_next_ ret 34 (some (.ref h) :: l) st M = lim cal sc 6 cX6_next_ ret 35 (some (.ref h) :: l) (.ref h :: st) M := lim_step dX6_next__34
theorem sX6_next__35 : lim cal sc 6 cX6_next_ ret 35 (some (.ref h) :: l) st M = lim cal sc 6 cX6_next_ ret 36 (some (.ref h) :: l) (.ref h :: st) M := lim_step dX6_next__35
theorem sX6_next__36 : lim cal sc 6 cX6_next_ ret 36 lv (.ref h :: st) M = opK (slotV 5 18 h M) fun q => lim cal sc 6 cX6_next_ ret 39 lv (q :: st) M := (lim_step dX6_next__36).trans (e_get (by decide) rf_6_287)
theorem sX6_next__39 : lim cal sc 6 cX6_next_ ret 39 lv (a1 :: .ref h :: st) M = guK (isCl 5 h) (guK (rk 8 st) (calK (cal 222 [.ref h, a1] M) fun q M' => lim cal sc 6 cX6_next_ ret 42 lv (q.toList ++ st) M')) := (lim_step dX6_next__39).trans (e_virt1 rm_6_290 mq_222)
theorem sX6_next__42 : lim cal sc 6 cX6_next_ ret 42 (v0 :: v :: l) (.int x :: st) M = lim cal sc 6 cX6_next_ ret 43 (v0 :: some (.int x) :: l) st M := (lim_step dX6_next__42).trans (e_istn1)
theorem sX6_next__43 : lim cal sc 6 cX6_next_ ret 43 (some (.ref h) :: l) st M = lim cal sc 6 cX6_next_ ret 44 (some (.ref h) :: l) (.ref h :: st) M := lim_step dX6_next__43
theorem sX6_next__44 : lim cal sc 6 cX6_next_ ret 44 (some (.ref h) :: l) st M = lim cal sc 6 cX6_next_ ret 45 (some (.ref h) :: l) (.ref h :: st) M := lim_step dX6_next__44
theorem sX6_next__45 : lim cal sc 6 cX6_next_ ret 45 lv (.ref h :: st) M = opK (slotV 5 18 h M) fun q => lim cal sc 6 cX6_next_ ret 48 lv (q :: st) M := (lim_step dX6_next__45).trans (e_get (by decide) rf_6_287)
theorem sX6_next__48 : lim cal sc 6 cX6_next_ ret 48 lv (.int x :: .ref h :: st) M = guK (isInt 5 19 h) (lim cal sc 6 cX6_next_ ret 51 lv st (mset M h 19 x)) := (lim_step dX6_next__48).trans (e_put rf_6_284 rfl)
theorem sX6_next__51 : lim cal sc 6 cX6_next_ ret 51 (some (.ref h) :: l) st M = lim cal sc 6 cX6_next_ ret 52 (some (.ref h) :: l) (.ref h :: st) M := lim_step dX6_next__51
theorem sX6_next__52 : lim cal sc 6 cX6_next_ ret 52 lv st M = lim cal sc 6 cX6_next_ ret 53 lv (.int 0 :: st) M := (lim_step dX6_next__52).trans (e_ic k_i_0)
theorem sX6_next__53 : lim cal sc 6 cX6_next_ ret 53 lv (.int x :: .ref h :: st) M = guK (isInt 5 21 h) (lim cal sc 6 cX6_next_ ret 56 lv st (mset M h 21 x)) := (lim_step dX6_next__53).trans (e_put rf_6_293 rfl)
theorem sX6_next__56 : lim cal sc 6 cX6_next_ ret 56 (v0 :: some (.int x) :: l) st M = lim cal sc 6 cX6_next_ ret 57 (v0 :: some (.int x) :: l) (.int x :: st) M := lim_step dX6_next__56
theorem sX6_next__57 : lim cal sc 6 cX6_next_ ret 57 lv (.int x :: st) M = if 0 ≤ x then lim cal sc 6 cX6_next_ ret 68 lv st M else lim cal sc 6 cX6_next_ ret 60 lv st M := (lim_step dX6_next__57).trans (e_ifge (t := 68) (by decide))
theorem sX6_next__60 : lim cal sc 6 cX6_next_ ret 60 (some (.ref h) :: l) st M = lim cal sc 6 cX6_next_ ret 61 (some (.ref h) :: l) (.ref h :: st) M := lim_step dX6_next__60
theorem sX6_next__61 : lim cal sc 6 cX6_next_ ret 61 lv st M = lim cal sc 6 cX6_next_ ret 62 lv (.int 0 :: st) M := (lim_step dX6_next__61).trans (e_ic k_i_0)
theorem sX6_next__62 : lim cal sc 6 cX6_next_ ret 62 lv (.int x :: .ref h :: st) M = guK (isInt 5 20 h) (lim cal sc 6 cX6_next_ ret 65 lv st (mset M h 20 x)) := (lim_step dX6_next__62).trans (e_put rf_6_296 rfl)
theorem sX6_next__65 : lim cal sc 6 cX6_next_ ret 65 lv st M = lim cal sc 6 cX6_next_ ret 206 lv st M := (lim_step dX6_next__65).trans (e_goto (t := 206) (by decide))
theorem sX6_next__68 : lim cal sc 6 cX6_next_ ret 68 (v0 :: some (.int x) :: l) st M = lim cal sc 6 cX6_next_ ret 69 (v0 :: some (.int x) :: l) (.int x :: st) M := lim_step dX6_next__68
theorem sX6_next__69 : lim cal sc 6 cX6_next_ ret 69 lv st M = lim cal sc 6 cX6_next_ ret 71 lv (.int 97 :: st) M := (lim_step dX6_next__69).trans (e_bi k_b_97)
theorem sX6_next__71 : lim cal sc 6 cX6_next_ ret 71 lv st M = lim cal sc 6 cX6_next_ ret 73 lv (.int 122 :: st) M := (lim_step dX6_next__71).trans (e_bi k_b_122)
theorem sX6_next__73 : lim cal sc 6 cX6_next_ ret 73 lv (a3 :: a2 :: a1 :: st) M = guK (rk 8 st) (calK (cal 136 [a1, a2, a3] M) fun q M' => lim cal sc 6 cX6_next_ ret 76 lv (q.toList ++ st) M') := (lim_step dX6_next__73).trans (e_stat3 rm_6_74)
theorem sX6_next__76 : lim cal sc 6 cX6_next_ ret 76 lv (.int x :: st) M = if x = 0 then lim cal sc 6 cX6_next_ ret 115 lv st M else lim cal sc 6 cX6_next_ ret 79 lv st M := (lim_step dX6_next__76).trans (e_ifeq (t := 115) (by decide))
theorem sX6_next__79 : lim cal sc 6 cX6_next_ ret 79 (some (.ref h) :: l) st M = lim cal sc 6 cX6_next_ ret 80 (some (.ref h) :: l) (.ref h :: st) M := lim_step dX6_next__79
theorem sX6_next__80 : lim cal sc 6 cX6_next_ ret 80 lv st M = lim cal sc 6 cX6_next_ ret 81 lv (.int 1 :: st) M := (lim_step dX6_next__80).trans (e_ic k_i_1)
theorem sX6_next__81 : lim cal sc 6 cX6_next_ ret 81 lv (.int x :: .ref h :: st) M = guK (isInt 5 20 h) (lim cal sc 6 cX6_next_ ret 84 lv st (mset M h 20 x)) := (lim_step dX6_next__81).trans (e_put rf_6_296 rfl)
theorem sX6_next__84 : lim cal sc 6 cX6_next_ ret 84 (some (.ref h) :: l) st M = lim cal sc 6 cX6_next_ ret 85 (some (.ref h) :: l) (.ref h :: st) M := lim_step dX6_next__84
theorem sX6_next__85 : lim cal sc 6 cX6_next_ ret 85 (some (.ref h) :: l) st M = lim cal sc 6 cX6_next_ ret 86 (some (.ref h) :: l) (.ref h :: st) M := lim_step dX6_next__85
theorem sX6_next__86 : lim cal sc 6 cX6_next_ ret 86 lv (.ref h :: st) M = opK (slotV 5 19 h M) fun q => lim cal sc 6 cX6_next_ ret 89 lv (q :: st) M := (lim_step dX6_next__86).trans (e_get (by decide) rf_6_284)
theorem sX6_next__89 : lim cal sc 6 cX6_next_ ret 89 lv (a1 :: .ref h :: st) M = guK (isCl 5 h) (guK (rk 8 st) (calK (cal 222 [.ref h, a1] M) fun q M' => lim cal sc 6 cX6_next_ ret 92 lv (q.toList ++ st) M')) := (lim_step dX6_next__89).trans (e_virt1 rm_6_290 mq_222)
theorem sX6_next__92 : lim cal sc 6 cX6_next_ ret 92 lv st M = lim cal sc 6 cX6_next_ ret 94 lv (.int 97 :: st) M := (lim_step dX6_next__92).trans (e_bi k_b_97)
theorem sX6_next__94 : lim cal sc 6 cX6_next_ ret 94 lv st M = lim cal sc 6 cX6_next_ ret 96 lv (.int 122 :: st) M := (lim_step dX6_next__94).trans (e_bi k_b_122)
theorem sX6_next__96 : lim cal sc 6 cX6_next_ ret 96 lv (a3 :: a2 :: a1 :: st) M = guK (rk 8 st) (calK (cal 136 [a1, a2, a3] M) fun q M' => lim cal sc 6 cX6_next_ ret 99 lv (q.toList ++ st) M') := (lim_step dX6_next__96).trans (e_stat3 rm_6_74)
theorem sX6_next__99 : lim cal sc 6 cX6_next_ ret 99 lv (.int x :: st) M = if x = 0 then lim cal sc 6 cX6_next_ ret 206 lv st M else lim cal sc 6 cX6_next_ ret 102 lv st M := (lim_step dX6_next__99).trans (e_ifeq (t := 206) (by decide))
theorem sX6_next__102 : lim cal sc 6 cX6_next_ ret 102 (some (.ref h) :: l) st M = lim cal sc 6 cX6_next_ ret 103 (some (.ref h) :: l) (.ref h :: st) M := lim_step dX6_next__102
theorem sX6_next__103 : lim cal sc 6 cX6_next_ ret 103 lv (.ref h :: st) M = lim cal sc 6 cX6_next_ ret 104 lv (.ref h :: .ref h :: st) M := lim_step dX6_next__103
theorem sX6_next__103_i : lim cal sc 6 cX6_next_ ret 103 lv (.int x :: st) M = lim cal sc 6 cX6_next_ ret 104 lv (.int x :: .int x :: st) M := lim_step dX6_next__103
theorem sX6_next__104 : lim cal sc 6 cX6_next_ ret 104 lv (.ref h :: st) M = opK (slotV 5 19 h M) fun q => lim cal sc 6 cX6_next_ ret 107 lv (q :: st) M := (lim_step dX6_next__104).trans (e_get (by decide) rf_6_284)
theorem sX6_next__107 : lim cal sc 6 cX6_next_ ret 107 lv st M = lim cal sc 6 cX6_next_ ret 108 lv (.int 1 :: st) M := (lim_step dX6_next__107).trans (e_ic k_i_1)
theorem sX6_next__108 : lim cal sc 6 cX6_next_ ret 108 lv (.int y :: .int x :: st) M = lim cal sc 6 cX6_next_ ret 109 lv (.int (x + y) :: st) M := lim_step dX6_next__108
theorem sX6_next__109 : lim cal sc 6 cX6_next_ ret 109 lv (.int x :: .ref h :: st) M = guK (isInt 5 19 h) (lim cal sc 6 cX6_next_ ret 112 lv st (mset M h 19 x)) := (lim_step dX6_next__109).trans (e_put rf_6_284 rfl)
theorem sX6_next__112 : lim cal sc 6 cX6_next_ ret 112 lv st M = lim cal sc 6 cX6_next_ ret 84 lv st M := (lim_step dX6_next__112).trans (e_goto (t := 84) (by decide))
theorem sX6_next__115 : lim cal sc 6 cX6_next_ ret 115 (v0 :: some (.int x) :: l) st M = lim cal sc 6 cX6_next_ ret 116 (v0 :: some (.int x) :: l) (.int x :: st) M := lim_step dX6_next__115
theorem sX6_next__116 : lim cal sc 6 cX6_next_ ret 116 lv st M = lim cal sc 6 cX6_next_ ret 118 lv (.int 48 :: st) M := (lim_step dX6_next__116).trans (e_bi k_b_48)
theorem sX6_next__118 : lim cal sc 6 cX6_next_ ret 118 lv st M = lim cal sc 6 cX6_next_ ret 120 lv (.int 57 :: st) M := (lim_step dX6_next__118).trans (e_bi k_b_57)
theorem sX6_next__120 : lim cal sc 6 cX6_next_ ret 120 lv (a3 :: a2 :: a1 :: st) M = guK (rk 8 st) (calK (cal 136 [a1, a2, a3] M) fun q M' => lim cal sc 6 cX6_next_ ret 123 lv (q.toList ++ st) M') := (lim_step dX6_next__120).trans (e_stat3 rm_6_74)
theorem sX6_next__123 : lim cal sc 6 cX6_next_ ret 123 lv (.int x :: st) M = if x = 0 then lim cal sc 6 cX6_next_ ret 191 lv st M else lim cal sc 6 cX6_next_ ret 126 lv st M := (lim_step dX6_next__123).trans (e_ifeq (t := 191) (by decide))
theorem sX6_next__126 : lim cal sc 6 cX6_next_ ret 126 (some (.ref h) :: l) st M = lim cal sc 6 cX6_next_ ret 127 (some (.ref h) :: l) (.ref h :: st) M := lim_step dX6_next__126
theorem sX6_next__127 : lim cal sc 6 cX6_next_ ret 127 lv st M = lim cal sc 6 cX6_next_ ret 128 lv (.int 2 :: st) M := (lim_step dX6_next__127).trans (e_ic k_i_2)
theorem sX6_next__128 : lim cal sc 6 cX6_next_ ret 128 lv (.int x :: .ref h :: st) M = guK (isInt 5 20 h) (lim cal sc 6 cX6_next_ ret 131 lv st (mset M h 20 x)) := (lim_step dX6_next__128).trans (e_put rf_6_296 rfl)
theorem sX6_next__131 : lim cal sc 6 cX6_next_ ret 131 (some (.ref h) :: l) st M = lim cal sc 6 cX6_next_ ret 132 (some (.ref h) :: l) (.ref h :: st) M := lim_step dX6_next__131
theorem sX6_next__132 : lim cal sc 6 cX6_next_ ret 132 (some (.ref h) :: l) st M = lim cal sc 6 cX6_next_ ret 133 (some (.ref h) :: l) (.ref h :: st) M := lim_step dX6_next__132
theorem sX6_next__133 : lim cal sc 6 cX6_next_ ret 133 lv (.ref h :: st) M = opK (slotV 5 19 h M) fun q => lim cal sc 6 cX6_next_ ret 136 lv (q :: st) M := (lim_step dX6_next__133).trans (e_get (by decide) rf_6_284)
theorem sX6_next__136 : lim cal sc 6 cX6_next_ ret 136 lv (a1 :: .ref h :: st) M = guK (isCl 5 h) (guK (rk 8 st) (calK (cal 222 [.ref h, a1] M) fun q M' => lim cal sc 6 cX6_next_ ret 139 lv (q.toList ++ st) M')) := (lim_step dX6_next__136).trans (e_virt1 rm_6_290 mq_222)
theorem sX6_next__139 : lim cal sc 6 cX6_next_ ret 139 lv st M = lim cal sc 6 cX6_next_ ret 141 lv (.int 48 :: st) M := (lim_step dX6_next__139).trans (e_bi k_b_48)
theorem sX6_next__141 : lim cal sc 6 cX6_next_ ret 141 lv st M = lim cal sc 6 cX6_next_ ret 143 lv (.int 57 :: st) M := (lim_step dX6_next__141).trans (e_bi k_b_57)
theorem sX6_next__143 : lim cal sc 6 cX6_next_ ret 143 lv (a3 :: a2 :: a1 :: st) M = guK (rk 8 st) (calK (cal 136 [a1, a2, a3] M) fun q M' => lim cal sc 6 cX6_next_ ret 146 lv (q.toList ++ st) M') := (lim_step dX6_next__143).trans (e_stat3 rm_6_74)
theorem sX6_next__146 : lim cal sc 6 cX6_next_ ret 146 lv (.int x :: st) M = if x = 0 then lim cal sc 6 cX6_next_ ret 206 lv st M else lim cal sc 6 cX6_next_ ret 149 lv st M := (lim_step dX6_next__146).trans (e_ifeq (t := 206) (by decide))
theorem sX6_next__149 : lim cal sc 6 cX6_next_ ret 149 (some (.ref h) :: l) st M = lim cal sc 6 cX6_next_ ret 150 (some (.ref h) :: l) (.ref h :: st) M := lim_step dX6_next__149
theorem sX6_next__150 : lim cal sc 6 cX6_next_ ret 150 lv st M = lim cal sc 6 cX6_next_ ret 153 lv (.int 1000 :: st) M := (lim_step dX6_next__150).trans (e_si k_s_1000)
theorem sX6_next__153 : lim cal sc 6 cX6_next_ ret 153 lv st M = lim cal sc 6 cX6_next_ ret 155 lv (.int 10 :: st) M := (lim_step dX6_next__153).trans (e_bi k_b_10)
theorem sX6_next__155 : lim cal sc 6 cX6_next_ ret 155 (some (.ref h) :: l) st M = lim cal sc 6 cX6_next_ ret 156 (some (.ref h) :: l) (.ref h :: st) M := lim_step dX6_next__155
theorem sX6_next__156 : lim cal sc 6 cX6_next_ ret 156 lv (.ref h :: st) M = opK (slotV 5 21 h M) fun q => lim cal sc 6 cX6_next_ ret 159 lv (q :: st) M := (lim_step dX6_next__156).trans (e_get (by decide) rf_6_293)
theorem sX6_next__159 : lim cal sc 6 cX6_next_ ret 159 lv (.int y :: .int x :: st) M = lim cal sc 6 cX6_next_ ret 160 lv (.int (x * y) :: st) M := lim_step dX6_next__159
theorem sX6_next__160 : lim cal sc 6 cX6_next_ ret 160 (some (.ref h) :: l) st M = lim cal sc 6 cX6_next_ ret 161 (some (.ref h) :: l) (.ref h :: st) M := lim_step dX6_next__160
theorem sX6_next__161 : lim cal sc 6 cX6_next_ ret 161 (some (.ref h) :: l) st M = lim cal sc 6 cX6_next_ ret 162 (some (.ref h) :: l) (.ref h :: st) M := lim_step dX6_next__161
theorem sX6_next__162 : lim cal sc 6 cX6_next_ ret 162 lv (.ref h :: st) M = opK (slotV 5 19 h M) fun q => lim cal sc 6 cX6_next_ ret 165 lv (q :: st) M := (lim_step dX6_next__162).trans (e_get (by decide) rf_6_284)
theorem sX6_next__165 : lim cal sc 6 cX6_next_ ret 165 lv (a1 :: .ref h :: st) M = guK (isCl 5 h) (guK (rk 8 st) (calK (cal 222 [.ref h, a1] M) fun q M' => lim cal sc 6 cX6_next_ ret 168 lv (q.toList ++ st) M')) := (lim_step dX6_next__165).trans (e_virt1 rm_6_290 mq_222)
theorem sX6_next__168 : lim cal sc 6 cX6_next_ ret 168 lv (.int y :: .int x :: st) M = lim cal sc 6 cX6_next_ ret 169 lv (.int (x + y) :: st) M := lim_step dX6_next__168
theorem sX6_next__169 : lim cal sc 6 cX6_next_ ret 169 lv st M = lim cal sc 6 cX6_next_ ret 171 lv (.int 48 :: st) M := (lim_step dX6_next__169).trans (e_bi k_b_48)
theorem sX6_next__171 : lim cal sc 6 cX6_next_ ret 171 lv (.int y :: .int x :: st) M = lim cal sc 6 cX6_next_ ret 172 lv (.int (x - y) :: st) M := lim_step dX6_next__171
theorem sX6_next__172 : lim cal sc 6 cX6_next_ ret 172 lv (.int y :: .int x :: st) M = guK (rk 8 st) (lim cal sc 6 cX6_next_ ret 175 lv (.int (if y < x then y else x) :: st) M) := (lim_step dX6_next__172).trans (e_min rm_6_143)
theorem sX6_next__175 : lim cal sc 6 cX6_next_ ret 175 lv (.int x :: .ref h :: st) M = guK (isInt 5 21 h) (lim cal sc 6 cX6_next_ ret 178 lv st (mset M h 21 x)) := (lim_step dX6_next__175).trans (e_put rf_6_293 rfl)
theorem sX6_next__178 : lim cal sc 6 cX6_next_ ret 178 (some (.ref h) :: l) st M = lim cal sc 6 cX6_next_ ret 179 (some (.ref h) :: l) (.ref h :: st) M := lim_step dX6_next__178
theorem sX6_next__179 : lim cal sc 6 cX6_next_ ret 179 lv (.ref h :: st) M = lim cal sc 6 cX6_next_ ret 180 lv (.ref h :: .ref h :: st) M := lim_step dX6_next__179
theorem sX6_next__179_i : lim cal sc 6 cX6_next_ ret 179 lv (.int x :: st) M = lim cal sc 6 cX6_next_ ret 180 lv (.int x :: .int x :: st) M := lim_step dX6_next__179
theorem sX6_next__180 : lim cal sc 6 cX6_next_ ret 180 lv (.ref h :: st) M = opK (slotV 5 19 h M) fun q => lim cal sc 6 cX6_next_ ret 183 lv (q :: st) M := (lim_step dX6_next__180).trans (e_get (by decide) rf_6_284)
theorem sX6_next__183 : lim cal sc 6 cX6_next_ ret 183 lv st M = lim cal sc 6 cX6_next_ ret 184 lv (.int 1 :: st) M := (lim_step dX6_next__183).trans (e_ic k_i_1)
theorem sX6_next__184 : lim cal sc 6 cX6_next_ ret 184 lv (.int y :: .int x :: st) M = lim cal sc 6 cX6_next_ ret 185 lv (.int (x + y) :: st) M := lim_step dX6_next__184
theorem sX6_next__185 : lim cal sc 6 cX6_next_ ret 185 lv (.int x :: .ref h :: st) M = guK (isInt 5 19 h) (lim cal sc 6 cX6_next_ ret 188 lv st (mset M h 19 x)) := (lim_step dX6_next__185).trans (e_put rf_6_284 rfl)
theorem sX6_next__188 : lim cal sc 6 cX6_next_ ret 188 lv st M = lim cal sc 6 cX6_next_ ret 131 lv st M := (lim_step dX6_next__188).trans (e_goto (t := 131) (by decide))
theorem sX6_next__191 : lim cal sc 6 cX6_next_ ret 191 (some (.ref h) :: l) st M = lim cal sc 6 cX6_next_ ret 192 (some (.ref h) :: l) (.ref h :: st) M := lim_step dX6_next__191
theorem sX6_next__192 : lim cal sc 6 cX6_next_ ret 192 lv st M = lim cal sc 6 cX6_next_ ret 193 lv (.int 3 :: st) M := (lim_step dX6_next__192).trans (e_ic k_i_3)
theorem sX6_next__193 : lim cal sc 6 cX6_next_ ret 193 lv (.int x :: .ref h :: st) M = guK (isInt 5 20 h) (lim cal sc 6 cX6_next_ ret 196 lv st (mset M h 20 x)) := (lim_step dX6_next__193).trans (e_put rf_6_296 rfl)
theorem sX6_next__196 : lim cal sc 6 cX6_next_ ret 196 (some (.ref h) :: l) st M = lim cal sc 6 cX6_next_ ret 197 (some (.ref h) :: l) (.ref h :: st) M := lim_step dX6_next__196
theorem sX6_next__197 : lim cal sc 6 cX6_next_ ret 197 lv (.ref h :: st) M = lim cal sc 6 cX6_next_ ret 198 lv (.ref h :: .ref h :: st) M := lim_step dX6_next__197
theorem sX6_next__197_i : lim cal sc 6 cX6_next_ ret 197 lv (.int x :: st) M = lim cal sc 6 cX6_next_ ret 198 lv (.int x :: .int x :: st) M := lim_step dX6_next__197
theorem sX6_next__198 : lim cal sc 6 cX6_next_ ret 198 lv (.ref h :: st) M = opK (slotV 5 19 h M) fun q => lim cal sc 6 cX6_next_ ret 201 lv (q :: st) M := (lim_step dX6_next__198).trans (e_get (by decide) rf_6_284)
theorem sX6_next__201 : lim cal sc 6 cX6_next_ ret 201 lv st M = lim cal sc 6 cX6_next_ ret 202 lv (.int 1 :: st) M := (lim_step dX6_next__201).trans (e_ic k_i_1)
theorem sX6_next__202 : lim cal sc 6 cX6_next_ ret 202 lv (.int y :: .int x :: st) M = lim cal sc 6 cX6_next_ ret 203 lv (.int (x + y) :: st) M := lim_step dX6_next__202
theorem sX6_next__203 : lim cal sc 6 cX6_next_ ret 203 lv (.int x :: .ref h :: st) M = guK (isInt 5 19 h) (lim cal sc 6 cX6_next_ ret 206 lv st (mset M h 19 x)) := (lim_step dX6_next__203).trans (e_put rf_6_284 rfl)
theorem sX6_next__206 : lim cal sc 6 cX6_next_ none 206 lv [] M = some (none, M) := (lim_step dX6_next__206).trans (e_vret)
theorem sX6_isWord_0 : lim cal sc 6 cX6_isWord ret 0 (some (.ref h) :: l) st M = lim cal sc 6 cX6_isWord ret 1 (some (.ref h) :: l) (.ref h :: st) M := lim_step dX6_isWord_0
theorem sX6_isWord_1 : lim cal sc 6 cX6_isWord ret 1 lv (.ref h :: st) M = opK (slotV 5 20 h M) fun q => lim cal sc 6 cX6_isWord ret 4 lv (q :: st) M := (lim_step dX6_isWord_1).trans (e_get (by decide) rf_6_296)
theorem sX6_isWord_4 : lim cal sc 6 cX6_isWord ret 4 lv st M = lim cal sc 6 cX6_isWord ret 5 lv (.int 1 :: st) M := (lim_step dX6_isWord_4).trans (e_ic k_i_1)
theorem sX6_isWord_5 : lim cal sc 6 cX6_isWord ret 5 lv (.int y :: .int x :: st) M = if x = y then lim cal sc 6 cX6_isWord ret 8 lv st M else lim cal sc 6 cX6_isWord ret 28 lv st M := (lim_step dX6_isWord_5).trans (e_cmpne (t := 28) (by decide))
theorem sX6_isWord_8 : lim cal sc 6 cX6_isWord ret 8 (some (.ref h) :: l) st M = lim cal sc 6 cX6_isWord ret 9 (some (.ref h) :: l) (.ref h :: st) M := lim_step dX6_isWord_8
theorem sX6_isWord_9 : lim cal sc 6 cX6_isWord ret 9 lv (.ref h :: st) M = opK (slotV 5 19 h M) fun q => lim cal sc 6 cX6_isWord ret 12 lv (q :: st) M := (lim_step dX6_isWord_9).trans (e_get (by decide) rf_6_284)
theorem sX6_isWord_12 : lim cal sc 6 cX6_isWord ret 12 (some (.ref h) :: l) st M = lim cal sc 6 cX6_isWord ret 13 (some (.ref h) :: l) (.ref h :: st) M := lim_step dX6_isWord_12
theorem sX6_isWord_13 : lim cal sc 6 cX6_isWord ret 13 lv (.ref h :: st) M = opK (slotV 5 18 h M) fun q => lim cal sc 6 cX6_isWord ret 16 lv (q :: st) M := (lim_step dX6_isWord_13).trans (e_get (by decide) rf_6_287)
theorem sX6_isWord_16 : lim cal sc 6 cX6_isWord ret 16 lv (.int y :: .int x :: st) M = lim cal sc 6 cX6_isWord ret 17 lv (.int (x - y) :: st) M := lim_step dX6_isWord_16
theorem sX6_isWord_17 : lim cal sc 6 cX6_isWord ret 17 (v0 :: some (.ref h) :: l) st M = lim cal sc 6 cX6_isWord ret 18 (v0 :: some (.ref h) :: l) (.ref h :: st) M := lim_step dX6_isWord_17
theorem sX6_isWord_18 : lim cal sc 6 cX6_isWord ret 18 lv (.ref h :: st) M = guK (isCl 100 h) (guK (rk 8 st) (calK (cal 97 [.ref h] M) fun q M' => lim cal sc 6 cX6_isWord ret 21 lv (q.toList ++ st) M')) := (lim_step dX6_isWord_18).trans (e_virt0 rm_6_299 mq_97)
theorem sX6_isWord_21 : lim cal sc 6 cX6_isWord ret 21 lv (.int y :: .int x :: st) M = if x = y then lim cal sc 6 cX6_isWord ret 24 lv st M else lim cal sc 6 cX6_isWord ret 28 lv st M := (lim_step dX6_isWord_21).trans (e_cmpne (t := 28) (by decide))
theorem sX6_isWord_24 : lim cal sc 6 cX6_isWord ret 24 lv st M = lim cal sc 6 cX6_isWord ret 25 lv (.int 1 :: st) M := (lim_step dX6_isWord_24).trans (e_ic k_i_1)
theorem sX6_isWord_25 : lim cal sc 6 cX6_isWord ret 25 lv st M = lim cal sc 6 cX6_isWord ret 29 lv st M := (lim_step dX6_isWord_25).trans (e_goto (t := 29) (by decide))
theorem sX6_isWord_28 : lim cal sc 6 cX6_isWord ret 28 lv st M = lim cal sc 6 cX6_isWord ret 29 lv (.int 0 :: st) M := (lim_step dX6_isWord_28).trans (e_ic k_i_0)
theorem sX6_isWord_29 : lim cal sc 6 cX6_isWord ret 29 (v0 :: v1 :: v :: l) (.int x :: st) M = lim cal sc 6 cX6_isWord ret 30 (v0 :: v1 :: some (.int x) :: l) st M := (lim_step dX6_isWord_29).trans (e_istn2)
theorem sX6_isWord_30 : lim cal sc 6 cX6_isWord ret 30 lv st M = lim cal sc 6 cX6_isWord ret 31 lv (.int 0 :: st) M := (lim_step dX6_isWord_30).trans (e_ic k_i_0)
theorem sX6_isWord_31 : lim cal sc 6 cX6_isWord ret 31 (v0 :: v1 :: v2 :: v :: l) (.int x :: st) M = lim cal sc 6 cX6_isWord ret 32 (v0 :: v1 :: v2 :: some (.int x) :: l) st M := (lim_step dX6_isWord_31).trans (e_istn3)
theorem sX6_isWord_32 : lim cal sc 6 cX6_isWord ret 32 (v0 :: v1 :: v2 :: some (.int x) :: l) st M = lim cal sc 6 cX6_isWord ret 33 (v0 :: v1 :: v2 :: some (.int x) :: l) (.int x :: st) M := lim_step dX6_isWord_32
theorem sX6_isWord_33 : lim cal sc 6 cX6_isWord ret 33 (v0 :: some (.ref h) :: l) st M = lim cal sc 6 cX6_isWord ret 34 (v0 :: some (.ref h) :: l) (.ref h :: st) M := lim_step dX6_isWord_33
theorem sX6_isWord_34 : lim cal sc 6 cX6_isWord ret 34 lv (.ref h :: st) M = guK (isCl 100 h) (guK (rk 8 st) (calK (cal 97 [.ref h] M) fun q M' => lim cal sc 6 cX6_isWord ret 37 lv (q.toList ++ st) M')) := (lim_step dX6_isWord_34).trans (e_virt0 rm_6_299 mq_97)
theorem sX6_isWord_37 : lim cal sc 6 cX6_isWord ret 37 lv (.int y :: .int x :: st) M = if y ≤ x then lim cal sc 6 cX6_isWord ret 75 lv st M else lim cal sc 6 cX6_isWord ret 40 lv st M := (lim_step dX6_isWord_37).trans (e_cmpge (t := 75) (by decide))
theorem sX6_isWord_40 : lim cal sc 6 cX6_isWord ret 40 (v0 :: v1 :: some (.int x) :: l) st M = lim cal sc 6 cX6_isWord ret 41 (v0 :: v1 :: some (.int x) :: l) (.int x :: st) M := lim_step dX6_isWord_40
theorem sX6_isWord_41 : lim cal sc 6 cX6_isWord ret 41 lv (.int x :: st) M = if x = 0 then lim cal sc 6 cX6_isWord ret 75 lv st M else lim cal sc 6 cX6_isWord ret 44 lv st M := (lim_step dX6_isWord_41).trans (e_ifeq (t := 75) (by decide))
theorem sX6_isWord_44 : lim cal sc 6 cX6_isWord ret 44 (some (.ref h) :: l) st M = lim cal sc 6 cX6_isWord ret 45 (some (.ref h) :: l) (.ref h :: st) M := lim_step dX6_isWord_44
theorem sX6_isWord_45 : lim cal sc 6 cX6_isWord ret 45 lv (.ref h :: st) M = opK (slotV 5 16 h M) fun q => lim cal sc 6 cX6_isWord ret 48 lv (q :: st) M := (lim_step dX6_isWord_45).trans (e_get (by decide) rf_6_31)
theorem sX6_isWord_48 : lim cal sc 6 cX6_isWord ret 48 (some (.ref h) :: l) st M = lim cal sc 6 cX6_isWord ret 49 (some (.ref h) :: l) (.ref h :: st) M := lim_step dX6_isWord_48
theorem sX6_isWord_49 : lim cal sc 6 cX6_isWord ret 49 lv (.ref h :: st) M = opK (slotV 5 18 h M) fun q => lim cal sc 6 cX6_isWord ret 52 lv (q :: st) M := (lim_step dX6_isWord_49).trans (e_get (by decide) rf_6_287)
theorem sX6_isWord_52 : lim cal sc 6 cX6_isWord ret 52 (v0 :: v1 :: v2 :: some (.int x) :: l) st M = lim cal sc 6 cX6_isWord ret 53 (v0 :: v1 :: v2 :: some (.int x) :: l) (.int x :: st) M := lim_step dX6_isWord_52
theorem sX6_isWord_53 : lim cal sc 6 cX6_isWord ret 53 lv (.int y :: .int x :: st) M = lim cal sc 6 cX6_isWord ret 54 lv (.int (x + y) :: st) M := lim_step dX6_isWord_53
theorem sX6_isWord_54 : lim cal sc 6 cX6_isWord ret 54 lv (.int x :: .ref h :: st) M = opK (arrV9 sc h M) fun q => guK (inb x q.1) (lim cal sc 6 cX6_isWord ret 55 lv (.int (q.2 x.toNatClampNeg) :: st) M) := (lim_step dX6_isWord_54).trans (e_iald)
theorem sX6_isWord_55 : lim cal sc 6 cX6_isWord ret 55 (v0 :: some (.ref h) :: l) st M = lim cal sc 6 cX6_isWord ret 56 (v0 :: some (.ref h) :: l) (.ref h :: st) M := lim_step dX6_isWord_55
theorem sX6_isWord_56 : lim cal sc 6 cX6_isWord ret 56 (v0 :: v1 :: v2 :: some (.int x) :: l) st M = lim cal sc 6 cX6_isWord ret 57 (v0 :: v1 :: v2 :: some (.int x) :: l) (.int x :: st) M := lim_step dX6_isWord_56
theorem sX6_isWord_57 : lim cal sc 6 cX6_isWord ret 57 lv (a1 :: .ref h :: st) M = guK (isCl 100 h) (guK (rk 8 st) (calK (cal 99 [.ref h, a1] M) fun q M' => lim cal sc 6 cX6_isWord ret 60 lv (q.toList ++ st) M')) := (lim_step dX6_isWord_57).trans (e_virt1 rm_6_302 mq_99)
theorem sX6_isWord_60 : lim cal sc 6 cX6_isWord ret 60 lv (.int y :: .int x :: st) M = if x = y then lim cal sc 6 cX6_isWord ret 63 lv st M else lim cal sc 6 cX6_isWord ret 67 lv st M := (lim_step dX6_isWord_60).trans (e_cmpne (t := 67) (by decide))
theorem sX6_isWord_63 : lim cal sc 6 cX6_isWord ret 63 lv st M = lim cal sc 6 cX6_isWord ret 64 lv (.int 1 :: st) M := (lim_step dX6_isWord_63).trans (e_ic k_i_1)
theorem sX6_isWord_64 : lim cal sc 6 cX6_isWord ret 64 lv st M = lim cal sc 6 cX6_isWord ret 68 lv st M := (lim_step dX6_isWord_64).trans (e_goto (t := 68) (by decide))
theorem sX6_isWord_67 : lim cal sc 6 cX6_isWord ret 67 lv st M = lim cal sc 6 cX6_isWord ret 68 lv (.int 0 :: st) M := (lim_step dX6_isWord_67).trans (e_ic k_i_0)
theorem sX6_isWord_68 : lim cal sc 6 cX6_isWord ret 68 (v0 :: v1 :: v :: l) (.int x :: st) M = lim cal sc 6 cX6_isWord ret 69 (v0 :: v1 :: some (.int x) :: l) st M := (lim_step dX6_isWord_68).trans (e_istn2)
theorem sX6_isWord_69 : lim cal sc 6 cX6_isWord ret 69 (v0 :: v1 :: v2 :: some (.int x) :: l) st M = lim cal sc 6 cX6_isWord ret 72 (v0 :: v1 :: v2 :: some (.int (x + 1)) :: l) st M := (lim_step dX6_isWord_69).trans (e_inc3 k_i_1)
theorem sX6_isWord_72 : lim cal sc 6 cX6_isWord ret 72 lv st M = lim cal sc 6 cX6_isWord ret 32 lv st M := (lim_step dX6_isWord_72).trans (e_goto (t := 32) (by decide))
theorem sX6_isWord_75 : lim cal sc 6 cX6_isWord ret 75 (v0 :: v1 :: some (.int x) :: l) st M = lim cal sc 6 cX6_isWord ret 76 (v0 :: v1 :: some (.int x) :: l) (.int x :: st) M := lim_step dX6_isWord_75
theorem sX6_isWord_76 : lim cal sc 6 cX6_isWord (some .boolean) 76 lv [.int x] M = guK (narB .boolean x) (some (some (.int x), M)) := (lim_step dX6_isWord_76).trans (e_zret)
theorem sX6_must_0 : lim cal sc 6 cX6_must ret 0 (some (.ref h) :: l) st M = lim cal sc 6 cX6_must ret 1 (some (.ref h) :: l) (.ref h :: st) M := lim_step dX6_must_0
theorem sX6_must_1 : lim cal sc 6 cX6_must ret 1 (some (.ref h) :: l) st M = lim cal sc 6 cX6_must ret 2 (some (.ref h) :: l) (.ref h :: st) M := lim_step dX6_must_1
theorem sX6_must_2 : lim cal sc 6 cX6_must ret 2 lv (.ref h :: st) M = opK (slotV 5 22 h M) fun q => lim cal sc 6 cX6_must ret 5 lv (q :: st) M := (lim_step dX6_must_2).trans (e_get (by decide) rf_6_306)
theorem sX6_must_5 : lim cal sc 6 cX6_must ret 5 lv (.int x :: st) M = if x = 0 then lim cal sc 6 cX6_must ret 8 lv st M else lim cal sc 6 cX6_must ret 12 lv st M := (lim_step dX6_must_5).trans (e_ifne (t := 12) (by decide))
theorem sX6_must_8 : lim cal sc 6 cX6_must ret 8 (v0 :: some (.int x) :: l) st M = lim cal sc 6 cX6_must ret 9 (v0 :: some (.int x) :: l) (.int x :: st) M := lim_step dX6_must_8
theorem sX6_must_9 : lim cal sc 6 cX6_must ret 9 lv (.int x :: st) M = if x = 0 then lim cal sc 6 cX6_must ret 12 lv st M else lim cal sc 6 cX6_must ret 16 lv st M := (lim_step dX6_must_9).trans (e_ifne (t := 16) (by decide))
theorem sX6_must_12 : lim cal sc 6 cX6_must ret 12 lv st M = lim cal sc 6 cX6_must ret 13 lv (.int 1 :: st) M := (lim_step dX6_must_12).trans (e_ic k_i_1)
theorem sX6_must_13 : lim cal sc 6 cX6_must ret 13 lv st M = lim cal sc 6 cX6_must ret 17 lv st M := (lim_step dX6_must_13).trans (e_goto (t := 17) (by decide))
theorem sX6_must_16 : lim cal sc 6 cX6_must ret 16 lv st M = lim cal sc 6 cX6_must ret 17 lv (.int 0 :: st) M := (lim_step dX6_must_16).trans (e_ic k_i_0)
theorem sX6_must_17 : lim cal sc 6 cX6_must ret 17 lv (.int x :: .ref h :: st) M = guK (isInt 5 22 h) (guK (narB .boolean x) (lim cal sc 6 cX6_must ret 20 lv st (mset M h 22 x))) := (lim_step dX6_must_17).trans (e_putz rf_6_306 rfl)
theorem sX6_must_20 : lim cal sc 6 cX6_must ret 20 (some (.ref h) :: l) st M = lim cal sc 6 cX6_must ret 21 (some (.ref h) :: l) (.ref h :: st) M := lim_step dX6_must_20
theorem sX6_must_21 : lim cal sc 6 cX6_must ret 21 lv (.ref h :: st) M = opK (slotV 5 22 h M) fun q => lim cal sc 6 cX6_must ret 24 lv (q :: st) M := (lim_step dX6_must_21).trans (e_get (by decide) rf_6_306)
theorem sX6_must_24 : lim cal sc 6 cX6_must ret 24 lv (.int x :: st) M = if x = 0 then lim cal sc 6 cX6_must ret 27 lv st M else lim cal sc 6 cX6_must ret 31 lv st M := (lim_step dX6_must_24).trans (e_ifne (t := 31) (by decide))
theorem sX6_must_27 : lim cal sc 6 cX6_must ret 27 (some (.ref h) :: l) st M = lim cal sc 6 cX6_must ret 28 (some (.ref h) :: l) (.ref h :: st) M := lim_step dX6_must_27
theorem sX6_must_28 : lim cal sc 6 cX6_must ret 28 lv (.ref h :: st) M = guK (isCl 5 h) (guK (rk 8 st) (calK (cal 221 [.ref h] M) fun q M' => lim cal sc 6 cX6_must ret 31 lv (q.toList ++ st) M')) := (lim_step dX6_must_28).trans (e_virt0 rm_6_309 mq_221)
theorem sX6_must_31 : lim cal sc 6 cX6_must none 31 lv [] M = some (none, M) := (lim_step dX6_must_31).trans (e_vret)
theorem sX6_number_0 : lim cal sc 6 cX6_number ret 0 (some (.ref h) :: l) st M = lim cal sc 6 cX6_number ret 1 (some (.ref h) :: l) (.ref h :: st) M := lim_step dX6_number_0
theorem sX6_number_1 : lim cal sc 6 cX6_number ret 1 lv (.ref h :: st) M = opK (slotV 5 21 h M) fun q => lim cal sc 6 cX6_number ret 4 lv (q :: st) M := (lim_step dX6_number_1).trans (e_get (by decide) rf_6_293)
theorem sX6_number_4 : lim cal sc 6 cX6_number ret 4 (v0 :: v1 :: v2 :: v :: l) (.int x :: st) M = lim cal sc 6 cX6_number ret 5 (v0 :: v1 :: v2 :: some (.int x) :: l) st M := (lim_step dX6_number_4).trans (e_istn3)
theorem sX6_number_5 : lim cal sc 6 cX6_number ret 5 (some (.ref h) :: l) st M = lim cal sc 6 cX6_number ret 6 (some (.ref h) :: l) (.ref h :: st) M := lim_step dX6_number_5
theorem sX6_number_6 : lim cal sc 6 cX6_number ret 6 (some (.ref h) :: l) st M = lim cal sc 6 cX6_number ret 7 (some (.ref h) :: l) (.ref h :: st) M := lim_step dX6_number_6
theorem sX6_number_7 : lim cal sc 6 cX6_number ret 7 lv (.ref h :: st) M = opK (slotV 5 20 h M) fun q => lim cal sc 6 cX6_number ret 10 lv (q :: st) M := (lim_step dX6_number_7).trans (e_get (by decide) rf_6_296)
theorem sX6_number_10 : lim cal sc 6 cX6_number ret 10 lv st M = lim cal sc 6 cX6_number ret 11 lv (.int 2 :: st) M := (lim_step dX6_number_10).trans (e_ic k_i_2)
theorem sX6_number_11 : lim cal sc 6 cX6_number ret 11 lv (.int y :: .int x :: st) M = if x = y then lim cal sc 6 cX6_number ret 14 lv st M else lim cal sc 6 cX6_number ret 27 lv st M := (lim_step dX6_number_11).trans (e_cmpne (t := 27) (by decide))
theorem sX6_number_14 : lim cal sc 6 cX6_number ret 14 (v0 :: v1 :: v2 :: some (.int x) :: l) st M = lim cal sc 6 cX6_number ret 15 (v0 :: v1 :: v2 :: some (.int x) :: l) (.int x :: st) M := lim_step dX6_number_14
theorem sX6_number_15 : lim cal sc 6 cX6_number ret 15 (v0 :: some (.int x) :: l) st M = lim cal sc 6 cX6_number ret 16 (v0 :: some (.int x) :: l) (.int x :: st) M := lim_step dX6_number_15
theorem sX6_number_16 : lim cal sc 6 cX6_number ret 16 (v0 :: v1 :: some (.int x) :: l) st M = lim cal sc 6 cX6_number ret 17 (v0 :: v1 :: some (.int x) :: l) (.int x :: st) M := lim_step dX6_number_16
theorem sX6_number_17 : lim cal sc 6 cX6_number ret 17 lv (a3 :: a2 :: a1 :: st) M = guK (rk 8 st) (calK (cal 136 [a1, a2, a3] M) fun q M' => lim cal sc 6 cX6_number ret 20 lv (q.toList ++ st) M') := (lim_step dX6_number_17).trans (e_stat3 rm_6_74)
theorem sX6_number_20 : lim cal sc 6 cX6_number ret 20 lv (.int x :: st) M = if x = 0 then lim cal sc 6 cX6_number ret 27 lv st M else lim cal sc 6 cX6_number ret 23 lv st M := (lim_step dX6_number_20).trans (e_ifeq (t := 27) (by decide))
theorem sX6_number_23 : lim cal sc 6 cX6_number ret 23 lv st M = lim cal sc 6 cX6_number ret 24 lv (.int 1 :: st) M := (lim_step dX6_number_23).trans (e_ic k_i_1)
theorem sX6_number_24 : lim cal sc 6 cX6_number ret 24 lv st M = lim cal sc 6 cX6_number ret 28 lv st M := (lim_step dX6_number_24).trans (e_goto (t := 28) (by decide))
theorem sX6_number_27 : lim cal sc 6 cX6_number ret 27 lv st M = lim cal sc 6 cX6_number ret 28 lv (.int 0 :: st) M := (lim_step dX6_number_27).trans (e_ic k_i_0)
theorem sX6_number_28 : lim cal sc 6 cX6_number ret 28 lv (a1 :: .ref h :: st) M = guK (isCl 5 h) (guK (rk 8 st) (calK (cal 226 [.ref h, a1] M) fun q M' => lim cal sc 6 cX6_number ret 31 lv (q.toList ++ st) M')) := (lim_step dX6_number_28).trans (e_virt1 rm_6_312 mq_226)
theorem sX6_number_31 : lim cal sc 6 cX6_number ret 31 (v0 :: v1 :: v2 :: some (.int x) :: l) st M = lim cal sc 6 cX6_number ret 32 (v0 :: v1 :: v2 :: some (.int x) :: l) (.int x :: st) M := lim_step dX6_number_31
theorem sX6_number_32 : lim cal sc 6 cX6_number (some .int) 32 lv [.int x] M = some (some (.int x), M) := (lim_step dX6_number_32).trans (e_iret)
theorem sX6_item_0 : lim cal sc 6 cX6_item ret 0 lv st M = lim cal sc 6 cX6_item ret 1 lv (.int 4 :: st) M := (lim_step dX6_item_0).trans (e_ic k_i_4)
theorem sX6_item_1 : lim cal sc 6 cX6_item ret 1 (some (.ref h) :: l) st M = lim cal sc 6 cX6_item ret 2 (some (.ref h) :: l) (.ref h :: st) M := lim_step dX6_item_1
theorem sX6_item_2 : lim cal sc 6 cX6_item ret 2 lv (.ref h :: st) M = opK (slotV 5 25 h M) fun q => lim cal sc 6 cX6_item ret 5 lv (q :: st) M := (lim_step dX6_item_2).trans (e_get (by decide) rf_6_316)
theorem sX6_item_5 : lim cal sc 6 cX6_item ret 5 lv (.int y :: .int x :: st) M = lim cal sc 6 cX6_item ret 6 lv (.int (x * y) :: st) M := lim_step dX6_item_5
theorem sX6_item_6 : lim cal sc 6 cX6_item ret 6 (v0 :: v1 :: v2 :: v3 :: v4 :: v :: l) (.int x :: st) M = lim cal sc 6 cX6_item ret 8 (v0 :: v1 :: v2 :: v3 :: v4 :: some (.int x) :: l) st M := (lim_step dX6_item_6).trans (e_ist5)
theorem sX6_item_8 : lim cal sc 6 cX6_item ret 8 (some (.ref h) :: l) st M = lim cal sc 6 cX6_item ret 9 (some (.ref h) :: l) (.ref h :: st) M := lim_step dX6_item_8
theorem sX6_item_9 : lim cal sc 6 cX6_item ret 9 lv (.ref h :: st) M = opK (slotV 5 24 h M) fun q => lim cal sc 6 cX6_item ret 12 lv (q :: st) M := (lim_step dX6_item_9).trans (e_get (by decide) rf_6_54)
theorem sX6_item_12 : lim cal sc 6 cX6_item ret 12 (v0 :: v1 :: v2 :: v3 :: v4 :: some (.int x) :: l) st M = lim cal sc 6 cX6_item ret 14 (v0 :: v1 :: v2 :: v3 :: v4 :: some (.int x) :: l) (.int x :: st) M := lim_step dX6_item_12
theorem sX6_item_14 : lim cal sc 6 cX6_item ret 14 (v0 :: some (.int x) :: l) st M = lim cal sc 6 cX6_item ret 15 (v0 :: some (.int x) :: l) (.int x :: st) M := lim_step dX6_item_14
theorem sX6_item_15 : lim cal sc 6 cX6_item ret 15 lv (.int y :: .int x :: .ref h :: st) M = opK (arrN h) fun q => guK (inb x q) (lim cal sc 6 cX6_item ret 16 lv st (mset M h x.toNatClampNeg y)) := (lim_step dX6_item_15).trans (e_iast)
theorem sX6_item_16 : lim cal sc 6 cX6_item ret 16 (some (.ref h) :: l) st M = lim cal sc 6 cX6_item ret 17 (some (.ref h) :: l) (.ref h :: st) M := lim_step dX6_item_16
theorem sX6_item_17 : lim cal sc 6 cX6_item ret 17 lv (.ref h :: st) M = opK (slotV 5 24 h M) fun q => lim cal sc 6 cX6_item ret 20 lv (q :: st) M := (lim_step dX6_item_17).trans (e_get (by decide) rf_6_54)
theorem sX6_item_20 : lim cal sc 6 cX6_item ret 20 (v0 :: v1 :: v2 :: v3 :: v4 :: some (.int x) :: l) st M = lim cal sc 6 cX6_item ret 22 (v0 :: v1 :: v2 :: v3 :: v4 :: some (.int x) :: l) (.int x :: st) M := lim_step dX6_item_20
theorem sX6_item_22 : lim cal sc 6 cX6_item ret 22 lv st M = lim cal sc 6 cX6_item ret 23 lv (.int 1 :: st) M := (lim_step dX6_item_22).trans (e_ic k_i_1)
theorem sX6_item_23 : lim cal sc 6 cX6_item ret 23 lv (.int y :: .int x :: st) M = lim cal sc 6 cX6_item ret 24 lv (.int (x + y) :: st) M := lim_step dX6_item_23
theorem sX6_item_24 : lim cal sc 6 cX6_item ret 24 (v0 :: v1 :: some (.int x) :: l) st M = lim cal sc 6 cX6_item ret 25 (v0 :: v1 :: some (.int x) :: l) (.int x :: st) M := lim_step dX6_item_24
theorem sX6_item_25 : lim cal sc 6 cX6_item ret 25 lv (.int y :: .int x :: .ref h :: st) M = opK (arrN h) fun q => guK (inb x q) (lim cal sc 6 cX6_item ret 26 lv st (mset M h x.toNatClampNeg y)) := (lim_step dX6_item_25).trans (e_iast)
theorem sX6_item_26 : lim cal sc 6 cX6_item ret 26 (some (.ref h) :: l) st M = lim cal sc 6 cX6_item ret 27 (some (.ref h) :: l) (.ref h :: st) M := lim_step dX6_item_26
theorem sX6_item_27 : lim cal sc 6 cX6_item ret 27 lv (.ref h :: st) M = opK (slotV 5 24 h M) fun q => lim cal sc 6 cX6_item ret 30 lv (q :: st) M := (lim_step dX6_item_27).trans (e_get (by decide) rf_6_54)
theorem sX6_item_30 : lim cal sc 6 cX6_item ret 30 (v0 :: v1 :: v2 :: v3 :: v4 :: some (.int x) :: l) st M = lim cal sc 6 cX6_item ret 32 (v0 :: v1 :: v2 :: v3 :: v4 :: some (.int x) :: l) (.int x :: st) M := lim_step dX6_item_30
theorem sX6_item_32 : lim cal sc 6 cX6_item ret 32 lv st M = lim cal sc 6 cX6_item ret 33 lv (.int 2 :: st) M := (lim_step dX6_item_32).trans (e_ic k_i_2)
theorem sX6_item_33 : lim cal sc 6 cX6_item ret 33 lv (.int y :: .int x :: st) M = lim cal sc 6 cX6_item ret 34 lv (.int (x + y) :: st) M := lim_step dX6_item_33
theorem sX6_item_34 : lim cal sc 6 cX6_item ret 34 (v0 :: v1 :: v2 :: some (.int x) :: l) st M = lim cal sc 6 cX6_item ret 35 (v0 :: v1 :: v2 :: some (.int x) :: l) (.int x :: st) M := lim_step dX6_item_34
theorem sX6_item_35 : lim cal sc 6 cX6_item ret 35 lv (.int y :: .int x :: .ref h :: st) M = opK (arrN h) fun q => guK (inb x q) (lim cal sc 6 cX6_item ret 36 lv st (mset M h x.toNatClampNeg y)) := (lim_step dX6_item_35).trans (e_iast)
theorem sX6_item_36 : lim cal sc 6 cX6_item ret 36 (some (.ref h) :: l) st M = lim cal sc 6 cX6_item ret 37 (some (.ref h) :: l) (.ref h :: st) M := lim_step dX6_item_36
theorem sX6_item_37 : lim cal sc 6 cX6_item ret 37 lv (.ref h :: st) M = opK (slotV 5 24 h M) fun q => lim cal sc 6 cX6_item ret 40 lv (q :: st) M := (lim_step dX6_item_37).trans (e_get (by decide) rf_6_54)
theorem sX6_item_40 : lim cal sc 6 cX6_item ret 40 (v0 :: v1 :: v2 :: v3 :: v4 :: some (.int x) :: l) st M = lim cal sc 6 cX6_item ret 42 (v0 :: v1 :: v2 :: v3 :: v4 :: some (.int x) :: l) (.int x :: st) M := lim_step dX6_item_40
theorem sX6_item_42 : lim cal sc 6 cX6_item ret 42 lv st M = lim cal sc 6 cX6_item ret 43 lv (.int 3 :: st) M := (lim_step dX6_item_42).trans (e_ic k_i_3)
theorem sX6_item_43 : lim cal sc 6 cX6_item ret 43 lv (.int y :: .int x :: st) M = lim cal sc 6 cX6_item ret 44 lv (.int (x + y) :: st) M := lim_step dX6_item_43
theorem sX6_item_44 : lim cal sc 6 cX6_item ret 44 (v0 :: v1 :: v2 :: v3 :: some (.int x) :: l) st M = lim cal sc 6 cX6_item ret 46 (v0 :: v1 :: v2 :: v3 :: some (.int x) :: l) (.int x :: st) M := lim_step dX6_item_44
theorem sX6_item_46 : lim cal sc 6 cX6_item ret 46 lv (.int y :: .int x :: .ref h :: st) M = opK (arrN h) fun q => guK (inb x q) (lim cal sc 6 cX6_item ret 47 lv st (mset M h x.toNatClampNeg y)) := (lim_step dX6_item_46).trans (e_iast)
theorem sX6_item_47 : lim cal sc 6 cX6_item ret 47 (some (.ref h) :: l) st M = lim cal sc 6 cX6_item ret 48 (some (.ref h) :: l) (.ref h :: st) M := lim_step dX6_item_47
theorem sX6_item_48 : lim cal sc 6 cX6_item ret 48 lv (.ref h :: st) M = lim cal sc 6 cX6_item ret 49 lv (.ref h :: .ref h :: st) M := lim_step dX6_item_48
theorem sX6_item_48_i : lim cal sc 6 cX6_item ret 48 lv (.int x :: st) M = lim cal sc 6 cX6_item ret 49 lv (.int x :: .int x :: st) M := lim_step dX6_item_48
theorem sX6_item_49 : lim cal sc 6 cX6_item ret 49 lv (.ref h :: st) M = opK (slotV 5 25 h M) fun q => lim cal sc 6 cX6_item ret 52 lv (q :: st) M := (lim_step dX6_item_49).trans (e_get (by decide) rf_6_316)
theorem sX6_item_52 : lim cal sc 6 cX6_item ret 52 lv st M = lim cal sc 6 cX6_item ret 53 lv (.int 1 :: st) M := (lim_step dX6_item_52).trans (e_ic k_i_1)
theorem sX6_item_53 : lim cal sc 6 cX6_item ret 53 lv (.int y :: .int x :: st) M = lim cal sc 6 cX6_item ret 54 lv (.int (x + y) :: st) M := lim_step dX6_item_53
theorem sX6_item_54 : lim cal sc 6 cX6_item ret 54 lv (.int x :: .ref h :: st) M = guK (isInt 5 25 h) (lim cal sc 6 cX6_item ret 57 lv st (mset M h 25 x)) := (lim_step dX6_item_54).trans (e_put rf_6_316 rfl)
theorem sX6_item_57 : lim cal sc 6 cX6_item none 57 lv [] M = some (none, M) := (lim_step dX6_item_57).trans (e_vret)
theorem sX6_kindTold_0 : lim cal sc 6 cX6_kindTold ret 0 lv st M = lim cal sc 6 cX6_kindTold ret 1 lv (.int (-1) :: st) M := (lim_step dX6_kindTold_0).trans (e_ic k_i_m1)
theorem sX6_kindTold_1 : lim cal sc 6 cX6_kindTold ret 1 (v0 :: v :: l) (.int x :: st) M = lim cal sc 6 cX6_kindTold ret 2 (v0 :: some (.int x) :: l) st M := (lim_step dX6_kindTold_1).trans (e_istn1)
theorem sX6_kindTold_2 : lim cal sc 6 cX6_kindTold ret 2 lv st M = lim cal sc 6 cX6_kindTold ret 3 lv (.int 0 :: st) M := (lim_step dX6_kindTold_2).trans (e_ic k_i_0)
theorem sX6_kindTold_3 : lim cal sc 6 cX6_kindTold ret 3 (v0 :: v1 :: v :: l) (.int x :: st) M = lim cal sc 6 cX6_kindTold ret 4 (v0 :: v1 :: some (.int x) :: l) st M := (lim_step dX6_kindTold_3).trans (e_istn2)
theorem sX6_kindTold_4 : lim cal sc 6 cX6_kindTold ret 4 (v0 :: v1 :: some (.int x) :: l) st M = lim cal sc 6 cX6_kindTold ret 5 (v0 :: v1 :: some (.int x) :: l) (.int x :: st) M := lim_step dX6_kindTold_4
theorem sX6_kindTold_5 : lim cal sc 6 cX6_kindTold ret 5 (some (.ref h) :: l) st M = lim cal sc 6 cX6_kindTold ret 6 (some (.ref h) :: l) (.ref h :: st) M := lim_step dX6_kindTold_5
theorem sX6_kindTold_6 : lim cal sc 6 cX6_kindTold ret 6 lv (.ref h :: st) M = opK (slotV 5 23 h M) fun q => lim cal sc 6 cX6_kindTold ret 9 lv (q :: st) M := (lim_step dX6_kindTold_6).trans (e_get (by decide) rf_6_50)
theorem sX6_kindTold_9 : ∀ {q : Nat × (Nat → Int32)}, arrV9 sc h M = some q → lim cal sc 6 cX6_kindTold ret 9 lv (.ref h :: st) M = lim cal sc 6 cX6_kindTold ret 10 lv (.int (Int32.ofNat q.1) :: st) M := fun {_} hq => (lim_step dX6_kindTold_9).trans (e_len hq)
theorem sX6_kindTold_10 : lim cal sc 6 cX6_kindTold ret 10 lv (.int y :: .int x :: st) M = if y ≤ x then lim cal sc 6 cX6_kindTold ret 38 lv st M else lim cal sc 6 cX6_kindTold ret 13 lv st M := (lim_step dX6_kindTold_10).trans (e_cmpge (t := 38) (by decide))
theorem sX6_kindTold_13 : lim cal sc 6 cX6_kindTold ret 13 (some (.ref h) :: l) st M = lim cal sc 6 cX6_kindTold ret 14 (some (.ref h) :: l) (.ref h :: st) M := lim_step dX6_kindTold_13
theorem sX6_kindTold_14 : lim cal sc 6 cX6_kindTold ret 14 (some (.ref h) :: l) st M = lim cal sc 6 cX6_kindTold ret 15 (some (.ref h) :: l) (.ref h :: st) M := lim_step dX6_kindTold_14
theorem sX6_kindTold_15 : lim cal sc 6 cX6_kindTold ret 15 lv (.ref h :: st) M = opK (slotV 5 23 h M) fun q => lim cal sc 6 cX6_kindTold ret 18 lv (q :: st) M := (lim_step dX6_kindTold_15).trans (e_get (by decide) rf_6_50)
theorem sX6_kindTold_18 : lim cal sc 6 cX6_kindTold ret 18 (v0 :: v1 :: some (.int x) :: l) st M = lim cal sc 6 cX6_kindTold ret 19 (v0 :: v1 :: some (.int x) :: l) (.int x :: st) M := lim_step dX6_kindTold_18
theorem sX6_kindTold_19 : lim cal sc 6 cX6_kindTold ret 19 lv (.int x :: .ref h :: st) M = opK (arrR h) fun q => guK (inb x q.length) (lim cal sc 6 cX6_kindTold ret 20 lv (.ref (q.getD x.toNatClampNeg 0) :: st) M) := (lim_step dX6_kindTold_19).trans (e_aald)
theorem sX6_kindTold_20 : lim cal sc 6 cX6_kindTold ret 20 lv (a1 :: .ref h :: st) M = guK (isCl 5 h) (guK (rk 8 st) (calK (cal 225 [.ref h, a1] M) fun q M' => lim cal sc 6 cX6_kindTold ret 23 lv (q.toList ++ st) M')) := (lim_step dX6_kindTold_20).trans (e_virt1 rm_6_319 mq_225)
theorem sX6_kindTold_23 : lim cal sc 6 cX6_kindTold ret 23 lv (.int x :: st) M = if x = 0 then lim cal sc 6 cX6_kindTold ret 30 lv st M else lim cal sc 6 cX6_kindTold ret 26 lv st M := (lim_step dX6_kindTold_23).trans (e_ifeq (t := 30) (by decide))
theorem sX6_kindTold_26 : lim cal sc 6 cX6_kindTold ret 26 (v0 :: v1 :: some (.int x) :: l) st M = lim cal sc 6 cX6_kindTold ret 27 (v0 :: v1 :: some (.int x) :: l) (.int x :: st) M := lim_step dX6_kindTold_26
theorem sX6_kindTold_27 : lim cal sc 6 cX6_kindTold ret 27 lv st M = lim cal sc 6 cX6_kindTold ret 31 lv st M := (lim_step dX6_kindTold_27).trans (e_goto (t := 31) (by decide))
theorem sX6_kindTold_30 : lim cal sc 6 cX6_kindTold ret 30 (v0 :: some (.int x) :: l) st M = lim cal sc 6 cX6_kindTold ret 31 (v0 :: some (.int x) :: l) (.int x :: st) M := lim_step dX6_kindTold_30
theorem sX6_kindTold_31 : lim cal sc 6 cX6_kindTold ret 31 (v0 :: v :: l) (.int x :: st) M = lim cal sc 6 cX6_kindTold ret 32 (v0 :: some (.int x) :: l) st M := (lim_step dX6_kindTold_31).trans (e_istn1)
theorem sX6_kindTold_32 : lim cal sc 6 cX6_kindTold ret 32 (v0 :: v1 :: some (.int x) :: l) st M = lim cal sc 6 cX6_kindTold ret 35 (v0 :: v1 :: some (.int (x + 1)) :: l) st M := (lim_step dX6_kindTold_32).trans (e_inc2 k_i_1)
theorem sX6_kindTold_35 : lim cal sc 6 cX6_kindTold ret 35 lv st M = lim cal sc 6 cX6_kindTold ret 4 lv st M := (lim_step dX6_kindTold_35).trans (e_goto (t := 4) (by decide))
theorem sX6_kindTold_38 : lim cal sc 6 cX6_kindTold ret 38 (v0 :: some (.int x) :: l) st M = lim cal sc 6 cX6_kindTold ret 39 (v0 :: some (.int x) :: l) (.int x :: st) M := lim_step dX6_kindTold_38
theorem sX6_kindTold_39 : lim cal sc 6 cX6_kindTold (some .int) 39 lv [.int x] M = some (some (.int x), M) := (lim_step dX6_kindTold_39).trans (e_iret)
theorem sX6_isNext_0 : lim cal sc 6 cX6_isNext ret 0 (some (.ref h) :: l) st M = lim cal sc 6 cX6_isNext ret 1 (some (.ref h) :: l) (.ref h :: st) M := lim_step dX6_isNext_0
theorem sX6_isNext_1 : lim cal sc 6 cX6_isNext ret 1 lv (.ref h :: st) M = opK (slotV 5 22 h M) fun q => lim cal sc 6 cX6_isNext ret 4 lv (q :: st) M := (lim_step dX6_isNext_1).trans (e_get (by decide) rf_6_306)
theorem sX6_isNext_4 : lim cal sc 6 cX6_isNext ret 4 lv (.int x :: st) M = if x = 0 then lim cal sc 6 cX6_isNext ret 7 lv st M else lim cal sc 6 cX6_isNext ret 19 lv st M := (lim_step dX6_isNext_4).trans (e_ifne (t := 19) (by decide))
theorem sX6_isNext_7 : lim cal sc 6 cX6_isNext ret 7 (some (.ref h) :: l) st M = lim cal sc 6 cX6_isNext ret 8 (some (.ref h) :: l) (.ref h :: st) M := lim_step dX6_isNext_7
theorem sX6_isNext_8 : lim cal sc 6 cX6_isNext ret 8 (v0 :: some (.ref h) :: l) st M = lim cal sc 6 cX6_isNext ret 9 (v0 :: some (.ref h) :: l) (.ref h :: st) M := lim_step dX6_isNext_8
theorem sX6_isNext_9 : lim cal sc 6 cX6_isNext ret 9 lv (a1 :: .ref h :: st) M = guK (isCl 5 h) (guK (rk 8 st) (calK (cal 225 [.ref h, a1] M) fun q M' => lim cal sc 6 cX6_isNext ret 12 lv (q.toList ++ st) M')) := (lim_step dX6_isNext_9).trans (e_virt1 rm_6_319 mq_225)
theorem sX6_isNext_12 : lim cal sc 6 cX6_isNext ret 12 lv (.int x :: st) M = if x = 0 then lim cal sc 6 cX6_isNext ret 19 lv st M else lim cal sc 6 cX6_isNext ret 15 lv st M := (lim_step dX6_isNext_12).trans (e_ifeq (t := 19) (by decide))
theorem sX6_isNext_15 : lim cal sc 6 cX6_isNext ret 15 lv st M = lim cal sc 6 cX6_isNext ret 16 lv (.int 1 :: st) M := (lim_step dX6_isNext_15).trans (e_ic k_i_1)
theorem sX6_isNext_16 : lim cal sc 6 cX6_isNext ret 16 lv st M = lim cal sc 6 cX6_isNext ret 20 lv st M := (lim_step dX6_isNext_16).trans (e_goto (t := 20) (by decide))
theorem sX6_isNext_19 : lim cal sc 6 cX6_isNext ret 19 lv st M = lim cal sc 6 cX6_isNext ret 20 lv (.int 0 :: st) M := (lim_step dX6_isNext_19).trans (e_ic k_i_0)
theorem sX6_isNext_20 : lim cal sc 6 cX6_isNext ret 20 (v0 :: v1 :: v :: l) (.int x :: st) M = lim cal sc 6 cX6_isNext ret 21 (v0 :: v1 :: some (.int x) :: l) st M := (lim_step dX6_isNext_20).trans (e_istn2)
theorem sX6_isNext_21 : lim cal sc 6 cX6_isNext ret 21 (v0 :: v1 :: some (.int x) :: l) st M = lim cal sc 6 cX6_isNext ret 22 (v0 :: v1 :: some (.int x) :: l) (.int x :: st) M := lim_step dX6_isNext_21
theorem sX6_isNext_22 : lim cal sc 6 cX6_isNext ret 22 lv (.int x :: st) M = if x = 0 then lim cal sc 6 cX6_isNext ret 30 lv st M else lim cal sc 6 cX6_isNext ret 25 lv st M := (lim_step dX6_isNext_22).trans (e_ifeq (t := 30) (by decide))
theorem sX6_isNext_25 : lim cal sc 6 cX6_isNext ret 25 (some (.ref h) :: l) st M = lim cal sc 6 cX6_isNext ret 26 (some (.ref h) :: l) (.ref h :: st) M := lim_step dX6_isNext_25
theorem sX6_isNext_26 : lim cal sc 6 cX6_isNext ret 26 lv st M = lim cal sc 6 cX6_isNext ret 27 lv (.int 1 :: st) M := (lim_step dX6_isNext_26).trans (e_ic k_i_1)
theorem sX6_isNext_27 : lim cal sc 6 cX6_isNext ret 27 lv (a1 :: .ref h :: st) M = guK (isCl 5 h) (guK (rk 8 st) (calK (cal 226 [.ref h, a1] M) fun q M' => lim cal sc 6 cX6_isNext ret 30 lv (q.toList ++ st) M')) := (lim_step dX6_isNext_27).trans (e_virt1 rm_6_312 mq_226)
theorem sX6_isNext_30 : lim cal sc 6 cX6_isNext ret 30 (v0 :: v1 :: some (.int x) :: l) st M = lim cal sc 6 cX6_isNext ret 31 (v0 :: v1 :: some (.int x) :: l) (.int x :: st) M := lim_step dX6_isNext_30
theorem sX6_isNext_31 : lim cal sc 6 cX6_isNext (some .boolean) 31 lv [.int x] M = guK (narB .boolean x) (some (some (.int x), M)) := (lim_step dX6_isNext_31).trans (e_zret)
theorem sX6_readItem_0 : lim cal sc 6 cX6_readItem ret 0 (some (.ref h) :: l) st M = lim cal sc 6 cX6_readItem ret 1 (some (.ref h) :: l) (.ref h :: st) M := lim_step dX6_readItem_0
theorem sX6_readItem_1 : lim cal sc 6 cX6_readItem ret 1 lv (.ref h :: st) M = guK (isCl 5 h) (guK (rk 8 st) (calK (cal 224 [.ref h] M) fun q M' => lim cal sc 6 cX6_readItem ret 4 lv (q.toList ++ st) M')) := (lim_step dX6_readItem_1).trans (e_virt0 rm_6_323 mq_224)
theorem sX6_readItem_4 : lim cal sc 6 cX6_readItem ret 4 (v0 :: v :: l) (.int x :: st) M = lim cal sc 6 cX6_readItem ret 5 (v0 :: some (.int x) :: l) st M := (lim_step dX6_readItem_4).trans (e_istn1)
theorem sX6_readItem_5 : lim cal sc 6 cX6_readItem ret 5 (v0 :: some (.int x) :: l) st M = lim cal sc 6 cX6_readItem ret 6 (v0 :: some (.int x) :: l) (.int x :: st) M := lim_step dX6_readItem_5
theorem sX6_readItem_6 : lim cal sc 6 cX6_readItem ret 6 lv (.int x :: st) M = if x < 0 then lim cal sc 6 cX6_readItem ret 112 lv st M else lim cal sc 6 cX6_readItem ret 9 lv st M := (lim_step dX6_readItem_6).trans (e_iflt (t := 112) (by decide))
theorem sX6_readItem_9 : lim cal sc 6 cX6_readItem ret 9 (some (.ref h) :: l) st M = lim cal sc 6 cX6_readItem ret 10 (some (.ref h) :: l) (.ref h :: st) M := lim_step dX6_readItem_9
theorem sX6_readItem_10 : lim cal sc 6 cX6_readItem ret 10 (some (.ref h) :: l) st M = lim cal sc 6 cX6_readItem ret 11 (some (.ref h) :: l) (.ref h :: st) M := lim_step dX6_readItem_10
theorem sX6_readItem_11 : lim cal sc 6 cX6_readItem ret 11 lv (.ref h :: st) M = opK (slotV 5 26 h M) fun q => lim cal sc 6 cX6_readItem ret 14 lv (q :: st) M := (lim_step dX6_readItem_11).trans (e_get (by decide) rf_6_326)
theorem sX6_readItem_14 : lim cal sc 6 cX6_readItem ret 14 lv st M = lim cal sc 6 cX6_readItem ret 16 lv (.int 10 :: st) M := (lim_step dX6_readItem_14).trans (e_bi k_b_10)
theorem sX6_readItem_16 : lim cal sc 6 cX6_readItem ret 16 lv (.int y :: .int x :: st) M = if y ≤ x then lim cal sc 6 cX6_readItem ret 23 lv st M else lim cal sc 6 cX6_readItem ret 19 lv st M := (lim_step dX6_readItem_16).trans (e_cmpge (t := 23) (by decide))
theorem sX6_readItem_19 : lim cal sc 6 cX6_readItem ret 19 lv st M = lim cal sc 6 cX6_readItem ret 20 lv (.int 1 :: st) M := (lim_step dX6_readItem_19).trans (e_ic k_i_1)
theorem sX6_readItem_20 : lim cal sc 6 cX6_readItem ret 20 lv st M = lim cal sc 6 cX6_readItem ret 24 lv st M := (lim_step dX6_readItem_20).trans (e_goto (t := 24) (by decide))
theorem sX6_readItem_23 : lim cal sc 6 cX6_readItem ret 23 lv st M = lim cal sc 6 cX6_readItem ret 24 lv (.int 0 :: st) M := (lim_step dX6_readItem_23).trans (e_ic k_i_0)
theorem sX6_readItem_24 : lim cal sc 6 cX6_readItem ret 24 lv (a1 :: .ref h :: st) M = guK (isCl 5 h) (guK (rk 8 st) (calK (cal 226 [.ref h, a1] M) fun q M' => lim cal sc 6 cX6_readItem ret 27 lv (q.toList ++ st) M')) := (lim_step dX6_readItem_24).trans (e_virt1 rm_6_312 mq_226)
theorem sX6_readItem_27 : lim cal sc 6 cX6_readItem ret 27 (some (.ref h) :: l) st M = lim cal sc 6 cX6_readItem ret 28 (some (.ref h) :: l) (.ref h :: st) M := lim_step dX6_readItem_27
theorem sX6_readItem_28 : lim cal sc 6 cX6_readItem ret 28 lv (.ref h :: st) M = lim cal sc 6 cX6_readItem ret 29 lv (.ref h :: .ref h :: st) M := lim_step dX6_readItem_28
theorem sX6_readItem_28_i : lim cal sc 6 cX6_readItem ret 28 lv (.int x :: st) M = lim cal sc 6 cX6_readItem ret 29 lv (.int x :: .int x :: st) M := lim_step dX6_readItem_28
theorem sX6_readItem_29 : lim cal sc 6 cX6_readItem ret 29 lv (.ref h :: st) M = opK (slotV 5 26 h M) fun q => lim cal sc 6 cX6_readItem ret 32 lv (q :: st) M := (lim_step dX6_readItem_29).trans (e_get (by decide) rf_6_326)
theorem sX6_readItem_32 : lim cal sc 6 cX6_readItem ret 32 lv st M = lim cal sc 6 cX6_readItem ret 33 lv (.int 1 :: st) M := (lim_step dX6_readItem_32).trans (e_ic k_i_1)
theorem sX6_readItem_33 : lim cal sc 6 cX6_readItem ret 33 lv (.int y :: .int x :: st) M = lim cal sc 6 cX6_readItem ret 34 lv (.int (x + y) :: st) M := lim_step dX6_readItem_33
theorem sX6_readItem_34 : lim cal sc 6 cX6_readItem ret 34 lv (.int x :: .ref h :: st) M = guK (isInt 5 26 h) (lim cal sc 6 cX6_readItem ret 37 lv st (mset M h 26 x)) := (lim_step dX6_readItem_34).trans (e_put rf_6_326 rfl)
theorem sX6_readItem_37 : lim cal sc 6 cX6_readItem ret 37 (some (.ref h) :: l) st M = lim cal sc 6 cX6_readItem ret 38 (some (.ref h) :: l) (.ref h :: st) M := lim_step dX6_readItem_37
theorem sX6_readItem_38 : lim cal sc 6 cX6_readItem ret 38 lv st M = lim cal sc 6 cX6_readItem ret 41 lv (.ref 167 :: st) M := (lim_step dX6_readItem_38).trans (e_ldcws rc_6_329 rk_6_329)
theorem sX6_readItem_41 : lim cal sc 6 cX6_readItem ret 41 lv (a1 :: .ref h :: st) M = guK (isCl 5 h) (guK (rk 8 st) (calK (cal 227 [.ref h, a1] M) fun q M' => lim cal sc 6 cX6_readItem ret 44 lv (q.toList ++ st) M')) := (lim_step dX6_readItem_41).trans (e_virt1 rm_6_331 mq_227)
theorem sX6_readItem_44 : lim cal sc 6 cX6_readItem ret 44 lv (.int x :: st) M = if x = 0 then lim cal sc 6 cX6_readItem ret 57 lv st M else lim cal sc 6 cX6_readItem ret 47 lv st M := (lim_step dX6_readItem_44).trans (e_ifeq (t := 57) (by decide))
theorem sX6_readItem_47 : lim cal sc 6 cX6_readItem ret 47 (some (.ref h) :: l) st M = lim cal sc 6 cX6_readItem ret 48 (some (.ref h) :: l) (.ref h :: st) M := lim_step dX6_readItem_47
theorem sX6_readItem_48 : lim cal sc 6 cX6_readItem ret 48 lv st M = lim cal sc 6 cX6_readItem ret 49 lv (.int 1 :: st) M := (lim_step dX6_readItem_48).trans (e_ic k_i_1)
theorem sX6_readItem_49 : lim cal sc 6 cX6_readItem ret 49 lv st M = lim cal sc 6 cX6_readItem ret 51 lv (.int 9 :: st) M := (lim_step dX6_readItem_49).trans (e_bi k_b_9)
theorem sX6_readItem_51 : lim cal sc 6 cX6_readItem ret 51 lv (a2 :: a1 :: .ref h :: st) M = guK (isCl 5 h) (guK (rk 8 st) (calK (cal 228 [.ref h, a1, a2] M) fun q M' => lim cal sc 6 cX6_readItem ret 54 lv (q.toList ++ st) M')) := (lim_step dX6_readItem_51).trans (e_virt2 rm_6_334 mq_228)
theorem sX6_readItem_54 : lim cal sc 6 cX6_readItem ret 54 lv st M = lim cal sc 6 cX6_readItem ret 58 lv st M := (lim_step dX6_readItem_54).trans (e_goto (t := 58) (by decide))
theorem sX6_readItem_57 : lim cal sc 6 cX6_readItem ret 57 lv st M = lim cal sc 6 cX6_readItem ret 58 lv (.int 2 :: st) M := (lim_step dX6_readItem_57).trans (e_ic k_i_2)
theorem sX6_readItem_58 : lim cal sc 6 cX6_readItem ret 58 (v0 :: v1 :: v :: l) (.int x :: st) M = lim cal sc 6 cX6_readItem ret 59 (v0 :: v1 :: some (.int x) :: l) st M := (lim_step dX6_readItem_58).trans (e_istn2)
theorem sX6_readItem_59 : lim cal sc 6 cX6_readItem ret 59 (some (.ref h) :: l) st M = lim cal sc 6 cX6_readItem ret 60 (some (.ref h) :: l) (.ref h :: st) M := lim_step dX6_readItem_59
theorem sX6_readItem_60 : lim cal sc 6 cX6_readItem ret 60 lv st M = lim cal sc 6 cX6_readItem ret 63 lv (.ref 168 :: st) M := (lim_step dX6_readItem_60).trans (e_ldcws rc_6_337 rk_6_337)
theorem sX6_readItem_63 : lim cal sc 6 cX6_readItem ret 63 lv (a1 :: .ref h :: st) M = guK (isCl 5 h) (guK (rk 8 st) (calK (cal 227 [.ref h, a1] M) fun q M' => lim cal sc 6 cX6_readItem ret 66 lv (q.toList ++ st) M')) := (lim_step dX6_readItem_63).trans (e_virt1 rm_6_331 mq_227)
theorem sX6_readItem_66 : lim cal sc 6 cX6_readItem ret 66 lv (.int x :: st) M = if x = 0 then lim cal sc 6 cX6_readItem ret 79 lv st M else lim cal sc 6 cX6_readItem ret 69 lv st M := (lim_step dX6_readItem_66).trans (e_ifeq (t := 79) (by decide))
theorem sX6_readItem_69 : lim cal sc 6 cX6_readItem ret 69 (some (.ref h) :: l) st M = lim cal sc 6 cX6_readItem ret 70 (some (.ref h) :: l) (.ref h :: st) M := lim_step dX6_readItem_69
theorem sX6_readItem_70 : lim cal sc 6 cX6_readItem ret 70 lv st M = lim cal sc 6 cX6_readItem ret 71 lv (.int 0 :: st) M := (lim_step dX6_readItem_70).trans (e_ic k_i_0)
theorem sX6_readItem_71 : lim cal sc 6 cX6_readItem ret 71 lv st M = lim cal sc 6 cX6_readItem ret 73 lv (.int 99 :: st) M := (lim_step dX6_readItem_71).trans (e_bi k_b_99)
theorem sX6_readItem_73 : lim cal sc 6 cX6_readItem ret 73 lv (a2 :: a1 :: .ref h :: st) M = guK (isCl 5 h) (guK (rk 8 st) (calK (cal 228 [.ref h, a1, a2] M) fun q M' => lim cal sc 6 cX6_readItem ret 76 lv (q.toList ++ st) M')) := (lim_step dX6_readItem_73).trans (e_virt2 rm_6_334 mq_228)
theorem sX6_readItem_76 : lim cal sc 6 cX6_readItem ret 76 lv st M = lim cal sc 6 cX6_readItem ret 81 lv st M := (lim_step dX6_readItem_76).trans (e_goto (t := 81) (by decide))
theorem sX6_readItem_79 : lim cal sc 6 cX6_readItem ret 79 lv st M = lim cal sc 6 cX6_readItem ret 81 lv (.int 10 :: st) M := (lim_step dX6_readItem_79).trans (e_bi k_b_10)
theorem sX6_readItem_81 : lim cal sc 6 cX6_readItem ret 81 (v0 :: v1 :: v2 :: v :: l) (.int x :: st) M = lim cal sc 6 cX6_readItem ret 82 (v0 :: v1 :: v2 :: some (.int x) :: l) st M := (lim_step dX6_readItem_81).trans (e_istn3)
theorem sX6_readItem_82 : lim cal sc 6 cX6_readItem ret 82 (some (.ref h) :: l) st M = lim cal sc 6 cX6_readItem ret 83 (some (.ref h) :: l) (.ref h :: st) M := lim_step dX6_readItem_82
theorem sX6_readItem_83 : lim cal sc 6 cX6_readItem ret 83 (v0 :: some (.int x) :: l) st M = lim cal sc 6 cX6_readItem ret 84 (v0 :: some (.int x) :: l) (.int x :: st) M := lim_step dX6_readItem_83
theorem sX6_readItem_84 : lim cal sc 6 cX6_readItem ret 84 (v0 :: v1 :: some (.int x) :: l) st M = lim cal sc 6 cX6_readItem ret 85 (v0 :: v1 :: some (.int x) :: l) (.int x :: st) M := lim_step dX6_readItem_84
theorem sX6_readItem_85 : lim cal sc 6 cX6_readItem ret 85 (v0 :: v1 :: v2 :: some (.int x) :: l) st M = lim cal sc 6 cX6_readItem ret 86 (v0 :: v1 :: v2 :: some (.int x) :: l) (.int x :: st) M := lim_step dX6_readItem_85
theorem sX6_readItem_86 : lim cal sc 6 cX6_readItem ret 86 (some (.ref h) :: l) st M = lim cal sc 6 cX6_readItem ret 87 (some (.ref h) :: l) (.ref h :: st) M := lim_step dX6_readItem_86
theorem sX6_readItem_87 : lim cal sc 6 cX6_readItem ret 87 lv st M = lim cal sc 6 cX6_readItem ret 90 lv (.ref 169 :: st) M := (lim_step dX6_readItem_87).trans (e_ldcws rc_6_339 rk_6_339)
theorem sX6_readItem_90 : lim cal sc 6 cX6_readItem ret 90 lv (a1 :: .ref h :: st) M = guK (isCl 5 h) (guK (rk 8 st) (calK (cal 227 [.ref h, a1] M) fun q M' => lim cal sc 6 cX6_readItem ret 93 lv (q.toList ++ st) M')) := (lim_step dX6_readItem_90).trans (e_virt1 rm_6_331 mq_227)
theorem sX6_readItem_93 : lim cal sc 6 cX6_readItem ret 93 lv (.int x :: st) M = if x = 0 then lim cal sc 6 cX6_readItem ret 105 lv st M else lim cal sc 6 cX6_readItem ret 96 lv st M := (lim_step dX6_readItem_93).trans (e_ifeq (t := 105) (by decide))
theorem sX6_readItem_96 : lim cal sc 6 cX6_readItem ret 96 (some (.ref h) :: l) st M = lim cal sc 6 cX6_readItem ret 97 (some (.ref h) :: l) (.ref h :: st) M := lim_step dX6_readItem_96
theorem sX6_readItem_97 : lim cal sc 6 cX6_readItem ret 97 lv st M = lim cal sc 6 cX6_readItem ret 98 lv (.int 0 :: st) M := (lim_step dX6_readItem_97).trans (e_ic k_i_0)
theorem sX6_readItem_98 : lim cal sc 6 cX6_readItem ret 98 lv st M = lim cal sc 6 cX6_readItem ret 99 lv (.int 1 :: st) M := (lim_step dX6_readItem_98).trans (e_ic k_i_1)
theorem sX6_readItem_99 : lim cal sc 6 cX6_readItem ret 99 lv (a2 :: a1 :: .ref h :: st) M = guK (isCl 5 h) (guK (rk 8 st) (calK (cal 228 [.ref h, a1, a2] M) fun q M' => lim cal sc 6 cX6_readItem ret 102 lv (q.toList ++ st) M')) := (lim_step dX6_readItem_99).trans (e_virt2 rm_6_334 mq_228)
theorem sX6_readItem_102 : lim cal sc 6 cX6_readItem ret 102 lv st M = lim cal sc 6 cX6_readItem ret 106 lv st M := (lim_step dX6_readItem_102).trans (e_goto (t := 106) (by decide))
theorem sX6_readItem_105 : lim cal sc 6 cX6_readItem ret 105 lv st M = lim cal sc 6 cX6_readItem ret 106 lv (.int 0 :: st) M := (lim_step dX6_readItem_105).trans (e_ic k_i_0)
theorem sX6_readItem_106 : lim cal sc 6 cX6_readItem ret 106 lv (a4 :: a3 :: a2 :: a1 :: .ref h :: st) M = guK (isCl 5 h) (guK (rk 8 st) (calK (cal 229 [.ref h, a1, a2, a3, a4] M) fun q M' => lim cal sc 6 cX6_readItem ret 109 lv (q.toList ++ st) M')) := (lim_step dX6_readItem_106).trans (e_virt4 rm_6_341 mq_229)
theorem sX6_readItem_109 : lim cal sc 6 cX6_readItem ret 109 lv st M = lim cal sc 6 cX6_readItem ret 166 lv st M := (lim_step dX6_readItem_109).trans (e_goto (t := 166) (by decide))
theorem sX6_readItem_112 : lim cal sc 6 cX6_readItem ret 112 (some (.ref h) :: l) st M = lim cal sc 6 cX6_readItem ret 113 (some (.ref h) :: l) (.ref h :: st) M := lim_step dX6_readItem_112
theorem sX6_readItem_113 : lim cal sc 6 cX6_readItem ret 113 lv st M = lim cal sc 6 cX6_readItem ret 116 lv (.ref 170 :: st) M := (lim_step dX6_readItem_113).trans (e_ldcws rc_6_345 rk_6_345)
theorem sX6_readItem_116 : lim cal sc 6 cX6_readItem ret 116 lv (a1 :: .ref h :: st) M = guK (isCl 5 h) (guK (rk 8 st) (calK (cal 227 [.ref h, a1] M) fun q M' => lim cal sc 6 cX6_readItem ret 119 lv (q.toList ++ st) M')) := (lim_step dX6_readItem_116).trans (e_virt1 rm_6_331 mq_227)
theorem sX6_readItem_119 : lim cal sc 6 cX6_readItem ret 119 lv (.int x :: st) M = if x = 0 then lim cal sc 6 cX6_readItem ret 140 lv st M else lim cal sc 6 cX6_readItem ret 122 lv st M := (lim_step dX6_readItem_119).trans (e_ifeq (t := 140) (by decide))
theorem sX6_readItem_122 : lim cal sc 6 cX6_readItem ret 122 (some (.ref h) :: l) st M = lim cal sc 6 cX6_readItem ret 123 (some (.ref h) :: l) (.ref h :: st) M := lim_step dX6_readItem_122
theorem sX6_readItem_123 : lim cal sc 6 cX6_readItem ret 123 lv st M = lim cal sc 6 cX6_readItem ret 125 lv (.int 10 :: st) M := (lim_step dX6_readItem_123).trans (e_bi k_b_10)
theorem sX6_readItem_125 : lim cal sc 6 cX6_readItem ret 125 (some (.ref h) :: l) st M = lim cal sc 6 cX6_readItem ret 126 (some (.ref h) :: l) (.ref h :: st) M := lim_step dX6_readItem_125
theorem sX6_readItem_126 : lim cal sc 6 cX6_readItem ret 126 lv st M = lim cal sc 6 cX6_readItem ret 127 lv (.int 1 :: st) M := (lim_step dX6_readItem_126).trans (e_ic k_i_1)
theorem sX6_readItem_127 : lim cal sc 6 cX6_readItem ret 127 lv st M = lim cal sc 6 cX6_readItem ret 129 lv (.int 40 :: st) M := (lim_step dX6_readItem_127).trans (e_bi k_b_40)
theorem sX6_readItem_129 : lim cal sc 6 cX6_readItem ret 129 lv (a2 :: a1 :: .ref h :: st) M = guK (isCl 5 h) (guK (rk 8 st) (calK (cal 228 [.ref h, a1, a2] M) fun q M' => lim cal sc 6 cX6_readItem ret 132 lv (q.toList ++ st) M')) := (lim_step dX6_readItem_129).trans (e_virt2 rm_6_334 mq_228)
theorem sX6_readItem_132 : lim cal sc 6 cX6_readItem ret 132 lv st M = lim cal sc 6 cX6_readItem ret 133 lv (.int 0 :: st) M := (lim_step dX6_readItem_132).trans (e_ic k_i_0)
theorem sX6_readItem_133 : lim cal sc 6 cX6_readItem ret 133 lv st M = lim cal sc 6 cX6_readItem ret 134 lv (.int 0 :: st) M := (lim_step dX6_readItem_133).trans (e_ic k_i_0)
theorem sX6_readItem_134 : lim cal sc 6 cX6_readItem ret 134 lv (a4 :: a3 :: a2 :: a1 :: .ref h :: st) M = guK (isCl 5 h) (guK (rk 8 st) (calK (cal 229 [.ref h, a1, a2, a3, a4] M) fun q M' => lim cal sc 6 cX6_readItem ret 137 lv (q.toList ++ st) M')) := (lim_step dX6_readItem_134).trans (e_virt4 rm_6_341 mq_229)
theorem sX6_readItem_137 : lim cal sc 6 cX6_readItem ret 137 lv st M = lim cal sc 6 cX6_readItem ret 166 lv st M := (lim_step dX6_readItem_137).trans (e_goto (t := 166) (by decide))
theorem sX6_readItem_140 : lim cal sc 6 cX6_readItem ret 140 (some (.ref h) :: l) st M = lim cal sc 6 cX6_readItem ret 141 (some (.ref h) :: l) (.ref h :: st) M := lim_step dX6_readItem_140
theorem sX6_readItem_141 : lim cal sc 6 cX6_readItem ret 141 (some (.ref h) :: l) st M = lim cal sc 6 cX6_readItem ret 142 (some (.ref h) :: l) (.ref h :: st) M := lim_step dX6_readItem_141
theorem sX6_readItem_142 : lim cal sc 6 cX6_readItem ret 142 lv st M = lim cal sc 6 cX6_readItem ret 145 lv (.ref 171 :: st) M := (lim_step dX6_readItem_142).trans (e_ldcws rc_6_347 rk_6_347)
theorem sX6_readItem_145 : lim cal sc 6 cX6_readItem ret 145 lv (a1 :: .ref h :: st) M = guK (isCl 5 h) (guK (rk 8 st) (calK (cal 225 [.ref h, a1] M) fun q M' => lim cal sc 6 cX6_readItem ret 148 lv (q.toList ++ st) M')) := (lim_step dX6_readItem_145).trans (e_virt1 rm_6_319 mq_225)
theorem sX6_readItem_148 : lim cal sc 6 cX6_readItem ret 148 lv (a1 :: .ref h :: st) M = guK (isCl 5 h) (guK (rk 8 st) (calK (cal 226 [.ref h, a1] M) fun q M' => lim cal sc 6 cX6_readItem ret 151 lv (q.toList ++ st) M')) := (lim_step dX6_readItem_148).trans (e_virt1 rm_6_312 mq_226)
theorem sX6_readItem_151 : lim cal sc 6 cX6_readItem ret 151 (some (.ref h) :: l) st M = lim cal sc 6 cX6_readItem ret 152 (some (.ref h) :: l) (.ref h :: st) M := lim_step dX6_readItem_151
theorem sX6_readItem_152 : lim cal sc 6 cX6_readItem ret 152 lv st M = lim cal sc 6 cX6_readItem ret 154 lv (.int 11 :: st) M := (lim_step dX6_readItem_152).trans (e_bi k_b_11)
theorem sX6_readItem_154 : lim cal sc 6 cX6_readItem ret 154 (some (.ref h) :: l) st M = lim cal sc 6 cX6_readItem ret 155 (some (.ref h) :: l) (.ref h :: st) M := lim_step dX6_readItem_154
theorem sX6_readItem_155 : lim cal sc 6 cX6_readItem ret 155 lv st M = lim cal sc 6 cX6_readItem ret 156 lv (.int 0 :: st) M := (lim_step dX6_readItem_155).trans (e_ic k_i_0)
theorem sX6_readItem_156 : lim cal sc 6 cX6_readItem ret 156 lv st M = lim cal sc 6 cX6_readItem ret 158 lv (.int 9 :: st) M := (lim_step dX6_readItem_156).trans (e_bi k_b_9)
theorem sX6_readItem_158 : lim cal sc 6 cX6_readItem ret 158 lv (a2 :: a1 :: .ref h :: st) M = guK (isCl 5 h) (guK (rk 8 st) (calK (cal 228 [.ref h, a1, a2] M) fun q M' => lim cal sc 6 cX6_readItem ret 161 lv (q.toList ++ st) M')) := (lim_step dX6_readItem_158).trans (e_virt2 rm_6_334 mq_228)
theorem sX6_readItem_161 : lim cal sc 6 cX6_readItem ret 161 lv st M = lim cal sc 6 cX6_readItem ret 162 lv (.int 0 :: st) M := (lim_step dX6_readItem_161).trans (e_ic k_i_0)
theorem sX6_readItem_162 : lim cal sc 6 cX6_readItem ret 162 lv st M = lim cal sc 6 cX6_readItem ret 163 lv (.int 0 :: st) M := (lim_step dX6_readItem_162).trans (e_ic k_i_0)
theorem sX6_readItem_163 : lim cal sc 6 cX6_readItem ret 163 lv (a4 :: a3 :: a2 :: a1 :: .ref h :: st) M = guK (isCl 5 h) (guK (rk 8 st) (calK (cal 229 [.ref h, a1, a2, a3, a4] M) fun q M' => lim cal sc 6 cX6_readItem ret 166 lv (q.toList ++ st) M')) := (lim_step dX6_readItem_163).trans (e_virt4 rm_6_341 mq_229)
theorem sX6_readItem_166 : lim cal sc 6 cX6_readItem none 166 lv [] M = some (none, M) := (lim_step dX6_readItem_166).trans (e_vret)
theorem sX6_isSo_0 : lim cal sc 6 cX6_isSo ret 0 (some (.ref h) :: l) st M = lim cal sc 6 cX6_isSo ret 1 (some (.ref h) :: l) (.ref h :: st) M := lim_step dX6_isSo_0
theorem sX6_isSo_1 : lim cal sc 6 cX6_isSo ret 1 lv (.ref h :: st) M = opK (slotV 5 24 h M) fun q => lim cal sc 6 cX6_isSo ret 4 lv (q :: st) M := (lim_step dX6_isSo_1).trans (e_get (by decide) rf_6_54)
theorem sX6_isSo_4 : lim cal sc 6 cX6_isSo ret 4 (v0 :: some (.int x) :: l) st M = lim cal sc 6 cX6_isSo ret 5 (v0 :: some (.int x) :: l) (.int x :: st) M := lim_step dX6_isSo_4
theorem sX6_isSo_5 : lim cal sc 6 cX6_isSo ret 5 lv st M = lim cal sc 6 cX6_isSo ret 6 lv (.int 1 :: st) M := (lim_step dX6_isSo_5).trans (e_ic k_i_1)
theorem sX6_isSo_6 : lim cal sc 6 cX6_isSo ret 6 lv (.int y :: .int x :: st) M = lim cal sc 6 cX6_isSo ret 7 lv (.int (x + y) :: st) M := lim_step dX6_isSo_6
theorem sX6_isSo_7 : lim cal sc 6 cX6_isSo ret 7 lv (.int x :: .ref h :: st) M = opK (arrV9 sc h M) fun q => guK (inb x q.1) (lim cal sc 6 cX6_isSo ret 8 lv (.int (q.2 x.toNatClampNeg) :: st) M) := (lim_step dX6_isSo_7).trans (e_iald)
theorem sX6_isSo_8 : lim cal sc 6 cX6_isSo ret 8 (v0 :: v1 :: v :: l) (.int x :: st) M = lim cal sc 6 cX6_isSo ret 9 (v0 :: v1 :: some (.int x) :: l) st M := (lim_step dX6_isSo_8).trans (e_istn2)
theorem sX6_isSo_9 : lim cal sc 6 cX6_isSo ret 9 (some (.ref h) :: l) st M = lim cal sc 6 cX6_isSo ret 10 (some (.ref h) :: l) (.ref h :: st) M := lim_step dX6_isSo_9
theorem sX6_isSo_10 : lim cal sc 6 cX6_isSo ret 10 lv (.ref h :: st) M = opK (slotV 5 24 h M) fun q => lim cal sc 6 cX6_isSo ret 13 lv (q :: st) M := (lim_step dX6_isSo_10).trans (e_get (by decide) rf_6_54)
theorem sX6_isSo_13 : lim cal sc 6 cX6_isSo ret 13 (v0 :: some (.int x) :: l) st M = lim cal sc 6 cX6_isSo ret 14 (v0 :: some (.int x) :: l) (.int x :: st) M := lim_step dX6_isSo_13
theorem sX6_isSo_14 : lim cal sc 6 cX6_isSo ret 14 lv (.int x :: .ref h :: st) M = opK (arrV9 sc h M) fun q => guK (inb x q.1) (lim cal sc 6 cX6_isSo ret 15 lv (.int (q.2 x.toNatClampNeg) :: st) M) := (lim_step dX6_isSo_14).trans (e_iald)
theorem sX6_isSo_15 : lim cal sc 6 cX6_isSo ret 15 lv (.int x :: st) M = jmpK 15 (Op.lookupswitch.offset [(10, 25), (11, 32)] 39 x.toInt) fun t => lim cal sc 6 cX6_isSo ret t lv st M := (lim_step dX6_isSo_15).trans (e_look rfl)
theorem sX6_isSo_40 : lim cal sc 6 cX6_isSo ret 40 (some (.ref h) :: l) st M = lim cal sc 6 cX6_isSo ret 41 (some (.ref h) :: l) (.ref h :: st) M := lim_step dX6_isSo_40
theorem sX6_isSo_41 : lim cal sc 6 cX6_isSo ret 41 lv st M = lim cal sc 6 cX6_isSo ret 42 lv (.int 1 :: st) M := (lim_step dX6_isSo_41).trans (e_ic k_i_1)
theorem sX6_isSo_42 : lim cal sc 6 cX6_isSo ret 42 (v0 :: v1 :: some (.int x) :: l) st M = lim cal sc 6 cX6_isSo ret 43 (v0 :: v1 :: some (.int x) :: l) (.int x :: st) M := lim_step dX6_isSo_42
theorem sX6_isSo_43 : lim cal sc 6 cX6_isSo ret 43 lv (a2 :: a1 :: .ref h :: st) M = guK (isCl 5 h) (guK (rk 8 st) (calK (cal 149 [.ref h, a1, a2] M) fun q M' => lim cal sc 6 cX6_isSo ret 46 lv (q.toList ++ st) M')) := (lim_step dX6_isSo_43).trans (e_virt2 rm_6_122 mq_149)
theorem sX6_isSo_46 : lim cal sc 6 cX6_isSo (some .int) 46 lv [.int x] M = some (some (.int x), M) := (lim_step dX6_isSo_46).trans (e_iret)
theorem sX6_isSo_47 : lim cal sc 6 cX6_isSo ret 47 (some (.ref h) :: l) st M = lim cal sc 6 cX6_isSo ret 48 (some (.ref h) :: l) (.ref h :: st) M := lim_step dX6_isSo_47
theorem sX6_isSo_48 : lim cal sc 6 cX6_isSo ret 48 lv st M = lim cal sc 6 cX6_isSo ret 49 lv (.int 2 :: st) M := (lim_step dX6_isSo_48).trans (e_ic k_i_2)
theorem sX6_isSo_49 : lim cal sc 6 cX6_isSo ret 49 (v0 :: v1 :: some (.int x) :: l) st M = lim cal sc 6 cX6_isSo ret 50 (v0 :: v1 :: some (.int x) :: l) (.int x :: st) M := lim_step dX6_isSo_49
theorem sX6_isSo_50 : lim cal sc 6 cX6_isSo ret 50 lv (a2 :: a1 :: .ref h :: st) M = guK (isCl 5 h) (guK (rk 8 st) (calK (cal 149 [.ref h, a1, a2] M) fun q M' => lim cal sc 6 cX6_isSo ret 53 lv (q.toList ++ st) M')) := (lim_step dX6_isSo_50).trans (e_virt2 rm_6_122 mq_149)
theorem sX6_isSo_53 : lim cal sc 6 cX6_isSo (some .int) 53 lv [.int x] M = some (some (.int x), M) := (lim_step dX6_isSo_53).trans (e_iret)
theorem sX6_isSo_54 : lim cal sc 6 cX6_isSo ret 54 (some (.ref h) :: l) st M = lim cal sc 6 cX6_isSo ret 55 (some (.ref h) :: l) (.ref h :: st) M := lim_step dX6_isSo_54
theorem sX6_isSo_55 : lim cal sc 6 cX6_isSo ret 55 (some (.ref h) :: l) st M = lim cal sc 6 cX6_isSo ret 56 (some (.ref h) :: l) (.ref h :: st) M := lim_step dX6_isSo_55
theorem sX6_isSo_56 : lim cal sc 6 cX6_isSo ret 56 lv (.ref h :: st) M = opK (slotV 5 24 h M) fun q => lim cal sc 6 cX6_isSo ret 59 lv (q :: st) M := (lim_step dX6_isSo_56).trans (e_get (by decide) rf_6_54)
theorem sX6_isSo_59 : lim cal sc 6 cX6_isSo ret 59 (v0 :: some (.int x) :: l) st M = lim cal sc 6 cX6_isSo ret 60 (v0 :: some (.int x) :: l) (.int x :: st) M := lim_step dX6_isSo_59
theorem sX6_isSo_60 : lim cal sc 6 cX6_isSo ret 60 lv (.int x :: .ref h :: st) M = opK (arrV9 sc h M) fun q => guK (inb x q.1) (lim cal sc 6 cX6_isSo ret 61 lv (.int (q.2 x.toNatClampNeg) :: st) M) := (lim_step dX6_isSo_60).trans (e_iald)
theorem sX6_isSo_61 : lim cal sc 6 cX6_isSo ret 61 (v0 :: v1 :: some (.int x) :: l) st M = lim cal sc 6 cX6_isSo ret 62 (v0 :: v1 :: some (.int x) :: l) (.int x :: st) M := lim_step dX6_isSo_61
theorem sX6_isSo_62 : lim cal sc 6 cX6_isSo ret 62 (some (.ref h) :: l) st M = lim cal sc 6 cX6_isSo ret 63 (some (.ref h) :: l) (.ref h :: st) M := lim_step dX6_isSo_62
theorem sX6_isSo_63 : lim cal sc 6 cX6_isSo ret 63 lv (.ref h :: st) M = opK (slotV 5 24 h M) fun q => lim cal sc 6 cX6_isSo ret 66 lv (q :: st) M := (lim_step dX6_isSo_63).trans (e_get (by decide) rf_6_54)
theorem sX6_isSo_66 : lim cal sc 6 cX6_isSo ret 66 (v0 :: some (.int x) :: l) st M = lim cal sc 6 cX6_isSo ret 67 (v0 :: some (.int x) :: l) (.int x :: st) M := lim_step dX6_isSo_66
theorem sX6_isSo_67 : lim cal sc 6 cX6_isSo ret 67 lv st M = lim cal sc 6 cX6_isSo ret 68 lv (.int 2 :: st) M := (lim_step dX6_isSo_67).trans (e_ic k_i_2)
theorem sX6_isSo_68 : lim cal sc 6 cX6_isSo ret 68 lv (.int y :: .int x :: st) M = lim cal sc 6 cX6_isSo ret 69 lv (.int (x + y) :: st) M := lim_step dX6_isSo_68
theorem sX6_isSo_69 : lim cal sc 6 cX6_isSo ret 69 lv (.int x :: .ref h :: st) M = opK (arrV9 sc h M) fun q => guK (inb x q.1) (lim cal sc 6 cX6_isSo ret 70 lv (.int (q.2 x.toNatClampNeg) :: st) M) := (lim_step dX6_isSo_69).trans (e_iald)
theorem sX6_isSo_70 : lim cal sc 6 cX6_isSo ret 70 (some (.ref h) :: l) st M = lim cal sc 6 cX6_isSo ret 71 (some (.ref h) :: l) (.ref h :: st) M := lim_step dX6_isSo_70
theorem sX6_isSo_71 : lim cal sc 6 cX6_isSo ret 71 lv (.ref h :: st) M = opK (slotV 5 24 h M) fun q => lim cal sc 6 cX6_isSo ret 74 lv (q :: st) M := (lim_step dX6_isSo_71).trans (e_get (by decide) rf_6_54)
theorem sX6_isSo_74 : lim cal sc 6 cX6_isSo ret 74 (v0 :: some (.int x) :: l) st M = lim cal sc 6 cX6_isSo ret 75 (v0 :: some (.int x) :: l) (.int x :: st) M := lim_step dX6_isSo_74
theorem sX6_isSo_75 : lim cal sc 6 cX6_isSo ret 75 lv st M = lim cal sc 6 cX6_isSo ret 76 lv (.int 3 :: st) M := (lim_step dX6_isSo_75).trans (e_ic k_i_3)
theorem sX6_isSo_76 : lim cal sc 6 cX6_isSo ret 76 lv (.int y :: .int x :: st) M = lim cal sc 6 cX6_isSo ret 77 lv (.int (x + y) :: st) M := lim_step dX6_isSo_76
theorem sX6_isSo_77 : lim cal sc 6 cX6_isSo ret 77 lv (.int x :: .ref h :: st) M = opK (arrV9 sc h M) fun q => guK (inb x q.1) (lim cal sc 6 cX6_isSo ret 78 lv (.int (q.2 x.toNatClampNeg) :: st) M) := (lim_step dX6_isSo_77).trans (e_iald)
theorem sX6_isSo_78 : lim cal sc 6 cX6_isSo ret 78 lv (a4 :: a3 :: a2 :: a1 :: .ref h :: st) M = guK (isCl 5 h) (guK (rk 8 st) (calK (cal 138 [.ref h, a1, a2, a3, a4] M) fun q M' => lim cal sc 6 cX6_isSo ret 81 lv (q.toList ++ st) M')) := (lim_step dX6_isSo_78).trans (e_virt4 rm_6_91 mq_138)
theorem sX6_isSo_81 : lim cal sc 6 cX6_isSo (some .int) 81 lv [.int x] M = some (some (.int x), M) := (lim_step dX6_isSo_81).trans (e_iret)
theorem sX6_text_0 : lim cal sc 6 cX6_text ret 0 (some (.ref h) :: l) st M = lim cal sc 6 cX6_text ret 1 (some (.ref h) :: l) (.ref h :: st) M := lim_step dX6_text_0
theorem sX6_text_1 : lim cal sc 6 cX6_text ret 1 lv st M = lim cal sc 6 cX6_text ret 2 lv (.int 0 :: st) M := (lim_step dX6_text_1).trans (e_ic k_i_0)
theorem sX6_text_2 : lim cal sc 6 cX6_text ret 2 lv (.int x :: .ref h :: st) M = guK (isInt 5 19 h) (lim cal sc 6 cX6_text ret 5 lv st (mset M h 19 x)) := (lim_step dX6_text_2).trans (e_put rf_6_284 rfl)
theorem sX6_text_5 : lim cal sc 6 cX6_text ret 5 (some (.ref h) :: l) st M = lim cal sc 6 cX6_text ret 6 (some (.ref h) :: l) (.ref h :: st) M := lim_step dX6_text_5
theorem sX6_text_6 : lim cal sc 6 cX6_text ret 6 lv st M = lim cal sc 6 cX6_text ret 7 lv (.int 0 :: st) M := (lim_step dX6_text_6).trans (e_ic k_i_0)
theorem sX6_text_7 : lim cal sc 6 cX6_text ret 7 lv (.int x :: .ref h :: st) M = guK (isInt 5 22 h) (guK (narB .boolean x) (lim cal sc 6 cX6_text ret 10 lv st (mset M h 22 x))) := (lim_step dX6_text_7).trans (e_putz rf_6_306 rfl)
theorem sX6_text_10 : lim cal sc 6 cX6_text ret 10 (some (.ref h) :: l) st M = lim cal sc 6 cX6_text ret 11 (some (.ref h) :: l) (.ref h :: st) M := lim_step dX6_text_10
theorem sX6_text_11 : lim cal sc 6 cX6_text ret 11 lv st M = lim cal sc 6 cX6_text ret 12 lv (.int 0 :: st) M := (lim_step dX6_text_11).trans (e_ic k_i_0)
theorem sX6_text_12 : lim cal sc 6 cX6_text ret 12 lv (.int x :: .ref h :: st) M = guK (isInt 5 25 h) (lim cal sc 6 cX6_text ret 15 lv st (mset M h 25 x)) := (lim_step dX6_text_12).trans (e_put rf_6_316 rfl)
theorem sX6_text_15 : lim cal sc 6 cX6_text ret 15 (some (.ref h) :: l) st M = lim cal sc 6 cX6_text ret 16 (some (.ref h) :: l) (.ref h :: st) M := lim_step dX6_text_15
theorem sX6_text_16 : lim cal sc 6 cX6_text ret 16 (some (.ref h) :: l) st M = lim cal sc 6 cX6_text ret 17 (some (.ref h) :: l) (.ref h :: st) M := lim_step dX6_text_16
theorem sX6_text_17 : lim cal sc 6 cX6_text ret 17 lv (.ref h :: st) M = opK (slotV 5 0 h M) fun q => lim cal sc 6 cX6_text ret 20 lv (q :: st) M := (lim_step dX6_text_17).trans (e_get (by decide) rf_6_9)
theorem sX6_text_20 : lim cal sc 6 cX6_text ret 20 lv st M = lim cal sc 6 cX6_text ret 21 lv (.int 3 :: st) M := (lim_step dX6_text_20).trans (e_ic k_i_3)
theorem sX6_text_21 : lim cal sc 6 cX6_text ret 21 lv (.int x :: .ref h :: st) M = opK (arrV9 sc h M) fun q => guK (inb x q.1) (lim cal sc 6 cX6_text ret 22 lv (.int (q.2 x.toNatClampNeg) :: st) M) := (lim_step dX6_text_21).trans (e_iald)
theorem sX6_text_22 : lim cal sc 6 cX6_text ret 22 lv (.int x :: .ref h :: st) M = guK (isInt 5 26 h) (lim cal sc 6 cX6_text ret 25 lv st (mset M h 26 x)) := (lim_step dX6_text_22).trans (e_put rf_6_326 rfl)
theorem sX6_text_25 : lim cal sc 6 cX6_text ret 25 (some (.ref h) :: l) st M = lim cal sc 6 cX6_text ret 26 (some (.ref h) :: l) (.ref h :: st) M := lim_step dX6_text_25
theorem sX6_text_26 : lim cal sc 6 cX6_text ret 26 lv (.ref h :: st) M = guK (isCl 5 h) (guK (rk 8 st) (calK (cal 221 [.ref h] M) fun q M' => lim cal sc 6 cX6_text ret 29 lv (q.toList ++ st) M')) := (lim_step dX6_text_26).trans (e_virt0 rm_6_309 mq_221)
theorem sX6_text_29 : lim cal sc 6 cX6_text ret 29 (some (.ref h) :: l) st M = lim cal sc 6 cX6_text ret 30 (some (.ref h) :: l) (.ref h :: st) M := lim_step dX6_text_29
theorem sX6_text_30 : lim cal sc 6 cX6_text ret 30 lv (.ref h :: st) M = guK (isCl 5 h) (guK (rk 8 st) (calK (cal 223 [.ref h] M) fun q M' => lim cal sc 6 cX6_text ret 33 lv (q.toList ++ st) M')) := (lim_step dX6_text_30).trans (e_virt0 rm_6_349 mq_223)
theorem sX6_text_33 : lim cal sc 6 cX6_text ret 33 (some (.ref h) :: l) st M = lim cal sc 6 cX6_text ret 34 (some (.ref h) :: l) (.ref h :: st) M := lim_step dX6_text_33
theorem sX6_text_34 : lim cal sc 6 cX6_text ret 34 lv (.ref h :: st) M = opK (slotV 5 22 h M) fun q => lim cal sc 6 cX6_text ret 37 lv (q :: st) M := (lim_step dX6_text_34).trans (e_get (by decide) rf_6_306)
theorem sX6_text_37 : lim cal sc 6 cX6_text ret 37 lv (.int x :: st) M = if x = 0 then lim cal sc 6 cX6_text ret 40 lv st M else lim cal sc 6 cX6_text ret 74 lv st M := (lim_step dX6_text_37).trans (e_ifne (t := 74) (by decide))
theorem sX6_text_40 : lim cal sc 6 cX6_text ret 40 (some (.ref h) :: l) st M = lim cal sc 6 cX6_text ret 41 (some (.ref h) :: l) (.ref h :: st) M := lim_step dX6_text_40
theorem sX6_text_41 : lim cal sc 6 cX6_text ret 41 lv (.ref h :: st) M = opK (slotV 5 20 h M) fun q => lim cal sc 6 cX6_text ret 44 lv (q :: st) M := (lim_step dX6_text_41).trans (e_get (by decide) rf_6_296)
theorem sX6_text_44 : lim cal sc 6 cX6_text ret 44 lv st M = lim cal sc 6 cX6_text ret 45 lv (.int 3 :: st) M := (lim_step dX6_text_44).trans (e_ic k_i_3)
theorem sX6_text_45 : lim cal sc 6 cX6_text ret 45 lv (.int y :: .int x :: st) M = if x = y then lim cal sc 6 cX6_text ret 48 lv st M else lim cal sc 6 cX6_text ret 74 lv st M := (lim_step dX6_text_45).trans (e_cmpne (t := 74) (by decide))
theorem sX6_text_48 : lim cal sc 6 cX6_text ret 48 (some (.ref h) :: l) st M = lim cal sc 6 cX6_text ret 49 (some (.ref h) :: l) (.ref h :: st) M := lim_step dX6_text_48
theorem sX6_text_49 : lim cal sc 6 cX6_text ret 49 lv (.ref h :: st) M = opK (slotV 5 16 h M) fun q => lim cal sc 6 cX6_text ret 52 lv (q :: st) M := (lim_step dX6_text_49).trans (e_get (by decide) rf_6_31)
theorem sX6_text_52 : lim cal sc 6 cX6_text ret 52 (some (.ref h) :: l) st M = lim cal sc 6 cX6_text ret 53 (some (.ref h) :: l) (.ref h :: st) M := lim_step dX6_text_52
theorem sX6_text_53 : lim cal sc 6 cX6_text ret 53 lv (.ref h :: st) M = opK (slotV 5 18 h M) fun q => lim cal sc 6 cX6_text ret 56 lv (q :: st) M := (lim_step dX6_text_53).trans (e_get (by decide) rf_6_287)
theorem sX6_text_56 : lim cal sc 6 cX6_text ret 56 lv (.int x :: .ref h :: st) M = opK (arrV9 sc h M) fun q => guK (inb x q.1) (lim cal sc 6 cX6_text ret 57 lv (.int (q.2 x.toNatClampNeg) :: st) M) := (lim_step dX6_text_56).trans (e_iald)
theorem sX6_text_57 : lim cal sc 6 cX6_text ret 57 lv st M = lim cal sc 6 cX6_text ret 59 lv (.int 59 :: st) M := (lim_step dX6_text_57).trans (e_bi k_b_59)
theorem sX6_text_59 : lim cal sc 6 cX6_text ret 59 lv (.int y :: .int x :: st) M = if x = y then lim cal sc 6 cX6_text ret 62 lv st M else lim cal sc 6 cX6_text ret 74 lv st M := (lim_step dX6_text_59).trans (e_cmpne (t := 74) (by decide))
theorem sX6_text_62 : lim cal sc 6 cX6_text ret 62 (some (.ref h) :: l) st M = lim cal sc 6 cX6_text ret 63 (some (.ref h) :: l) (.ref h :: st) M := lim_step dX6_text_62
theorem sX6_text_63 : lim cal sc 6 cX6_text ret 63 lv st M = lim cal sc 6 cX6_text ret 64 lv (.int 1 :: st) M := (lim_step dX6_text_63).trans (e_ic k_i_1)
theorem sX6_text_64 : lim cal sc 6 cX6_text ret 64 lv (a1 :: .ref h :: st) M = guK (isCl 5 h) (guK (rk 8 st) (calK (cal 226 [.ref h, a1] M) fun q M' => lim cal sc 6 cX6_text ret 67 lv (q.toList ++ st) M')) := (lim_step dX6_text_64).trans (e_virt1 rm_6_312 mq_226)
theorem sX6_text_67 : lim cal sc 6 cX6_text ret 67 (some (.ref h) :: l) st M = lim cal sc 6 cX6_text ret 68 (some (.ref h) :: l) (.ref h :: st) M := lim_step dX6_text_67
theorem sX6_text_68 : lim cal sc 6 cX6_text ret 68 lv (.ref h :: st) M = guK (isCl 5 h) (guK (rk 8 st) (calK (cal 223 [.ref h] M) fun q M' => lim cal sc 6 cX6_text ret 71 lv (q.toList ++ st) M')) := (lim_step dX6_text_68).trans (e_virt0 rm_6_349 mq_223)
theorem sX6_text_71 : lim cal sc 6 cX6_text ret 71 lv st M = lim cal sc 6 cX6_text ret 33 lv st M := (lim_step dX6_text_71).trans (e_goto (t := 33) (by decide))
theorem sX6_text_74 : lim cal sc 6 cX6_text ret 74 (some (.ref h) :: l) st M = lim cal sc 6 cX6_text ret 75 (some (.ref h) :: l) (.ref h :: st) M := lim_step dX6_text_74
theorem sX6_text_75 : lim cal sc 6 cX6_text ret 75 (some (.ref h) :: l) st M = lim cal sc 6 cX6_text ret 76 (some (.ref h) :: l) (.ref h :: st) M := lim_step dX6_text_75
theorem sX6_text_76 : lim cal sc 6 cX6_text ret 76 lv (.ref h :: st) M = opK (slotV 5 20 h M) fun q => lim cal sc 6 cX6_text ret 79 lv (q :: st) M := (lim_step dX6_text_76).trans (e_get (by decide) rf_6_296)
theorem sX6_text_79 : lim cal sc 6 cX6_text ret 79 lv (.int x :: st) M = if x = 0 then lim cal sc 6 cX6_text ret 82 lv st M else lim cal sc 6 cX6_text ret 86 lv st M := (lim_step dX6_text_79).trans (e_ifne (t := 86) (by decide))
theorem sX6_text_82 : lim cal sc 6 cX6_text ret 82 lv st M = lim cal sc 6 cX6_text ret 83 lv (.int 1 :: st) M := (lim_step dX6_text_82).trans (e_ic k_i_1)
theorem sX6_text_83 : lim cal sc 6 cX6_text ret 83 lv st M = lim cal sc 6 cX6_text ret 87 lv st M := (lim_step dX6_text_83).trans (e_goto (t := 87) (by decide))
theorem sX6_text_86 : lim cal sc 6 cX6_text ret 86 lv st M = lim cal sc 6 cX6_text ret 87 lv (.int 0 :: st) M := (lim_step dX6_text_86).trans (e_ic k_i_0)
theorem sX6_text_87 : lim cal sc 6 cX6_text ret 87 lv (a1 :: .ref h :: st) M = guK (isCl 5 h) (guK (rk 8 st) (calK (cal 226 [.ref h, a1] M) fun q M' => lim cal sc 6 cX6_text ret 90 lv (q.toList ++ st) M')) := (lim_step dX6_text_87).trans (e_virt1 rm_6_312 mq_226)
theorem sX6_text_90 : lim cal sc 6 cX6_text ret 90 (some (.ref h) :: l) st M = lim cal sc 6 cX6_text ret 91 (some (.ref h) :: l) (.ref h :: st) M := lim_step dX6_text_90
theorem sX6_text_91 : lim cal sc 6 cX6_text ret 91 lv st M = lim cal sc 6 cX6_text ret 92 lv (.int 0 :: st) M := (lim_step dX6_text_91).trans (e_ic k_i_0)
theorem sX6_text_92 : lim cal sc 6 cX6_text ret 92 lv (.int x :: .ref h :: st) M = guK (isInt 5 17 h) (lim cal sc 6 cX6_text ret 95 lv st (mset M h 17 x)) := (lim_step dX6_text_92).trans (e_put rf_6_281 rfl)
theorem sX6_text_95 : lim cal sc 6 cX6_text ret 95 (some (.ref h) :: l) st M = lim cal sc 6 cX6_text ret 96 (some (.ref h) :: l) (.ref h :: st) M := lim_step dX6_text_95
theorem sX6_text_96 : lim cal sc 6 cX6_text ret 96 lv (.ref h :: st) M = opK (slotV 5 22 h M) fun q => lim cal sc 6 cX6_text ret 99 lv (q :: st) M := (lim_step dX6_text_96).trans (e_get (by decide) rf_6_306)
theorem sX6_text_99 : lim cal sc 6 cX6_text ret 99 lv (.int x :: st) M = if x = 0 then lim cal sc 6 cX6_text ret 109 lv st M else lim cal sc 6 cX6_text ret 102 lv st M := (lim_step dX6_text_99).trans (e_ifeq (t := 109) (by decide))
theorem sX6_text_102 : lim cal sc 6 cX6_text ret 102 lv st M = lim cal sc 6 cX6_text ret 103 lv (.int (-1) :: st) M := (lim_step dX6_text_102).trans (e_ic k_i_m1)
theorem sX6_text_103 : lim cal sc 6 cX6_text ret 103 (some (.ref h) :: l) st M = lim cal sc 6 cX6_text ret 104 (some (.ref h) :: l) (.ref h :: st) M := lim_step dX6_text_103
theorem sX6_text_104 : lim cal sc 6 cX6_text ret 104 lv (.ref h :: st) M = opK (slotV 5 18 h M) fun q => lim cal sc 6 cX6_text ret 107 lv (q :: st) M := (lim_step dX6_text_104).trans (e_get (by decide) rf_6_287)
theorem sX6_text_107 : lim cal sc 6 cX6_text ret 107 lv (.int y :: .int x :: st) M = lim cal sc 6 cX6_text ret 108 lv (.int (x - y) :: st) M := lim_step dX6_text_107
theorem sX6_text_108 : lim cal sc 6 cX6_text (some .int) 108 lv [.int x] M = some (some (.int x), M) := (lim_step dX6_text_108).trans (e_iret)
theorem sX6_text_109 : lim cal sc 6 cX6_text ret 109 lv st M = lim cal sc 6 cX6_text ret 110 lv (.int 0 :: st) M := (lim_step dX6_text_109).trans (e_ic k_i_0)
theorem sX6_text_110 : lim cal sc 6 cX6_text ret 110 (v0 :: v :: l) (.int x :: st) M = lim cal sc 6 cX6_text ret 111 (v0 :: some (.int x) :: l) st M := (lim_step dX6_text_110).trans (e_istn1)
theorem sX6_text_111 : lim cal sc 6 cX6_text ret 111 lv st M = lim cal sc 6 cX6_text ret 112 lv (.int 0 :: st) M := (lim_step dX6_text_111).trans (e_ic k_i_0)
theorem sX6_text_112 : lim cal sc 6 cX6_text ret 112 (v0 :: v1 :: v :: l) (.int x :: st) M = lim cal sc 6 cX6_text ret 113 (v0 :: v1 :: some (.int x) :: l) st M := (lim_step dX6_text_112).trans (e_istn2)
theorem sX6_text_113 : lim cal sc 6 cX6_text ret 113 (v0 :: v1 :: some (.int x) :: l) st M = lim cal sc 6 cX6_text ret 114 (v0 :: v1 :: some (.int x) :: l) (.int x :: st) M := lim_step dX6_text_113
theorem sX6_text_114 : lim cal sc 6 cX6_text ret 114 (some (.ref h) :: l) st M = lim cal sc 6 cX6_text ret 115 (some (.ref h) :: l) (.ref h :: st) M := lim_step dX6_text_114
theorem sX6_text_115 : lim cal sc 6 cX6_text ret 115 lv (.ref h :: st) M = opK (slotV 5 25 h M) fun q => lim cal sc 6 cX6_text ret 118 lv (q :: st) M := (lim_step dX6_text_115).trans (e_get (by decide) rf_6_316)
theorem sX6_text_118 : lim cal sc 6 cX6_text ret 118 lv (.int y :: .int x :: st) M = if y ≤ x then lim cal sc 6 cX6_text ret 145 lv st M else lim cal sc 6 cX6_text ret 121 lv st M := (lim_step dX6_text_118).trans (e_cmpge (t := 145) (by decide))
theorem sX6_text_121 : lim cal sc 6 cX6_text ret 121 (v0 :: some (.int x) :: l) st M = lim cal sc 6 cX6_text ret 122 (v0 :: some (.int x) :: l) (.int x :: st) M := lim_step dX6_text_121
theorem sX6_text_122 : lim cal sc 6 cX6_text ret 122 (some (.ref h) :: l) st M = lim cal sc 6 cX6_text ret 123 (some (.ref h) :: l) (.ref h :: st) M := lim_step dX6_text_122
theorem sX6_text_123 : lim cal sc 6 cX6_text ret 123 lv st M = lim cal sc 6 cX6_text ret 124 lv (.int 4 :: st) M := (lim_step dX6_text_123).trans (e_ic k_i_4)
theorem sX6_text_124 : lim cal sc 6 cX6_text ret 124 (v0 :: v1 :: some (.int x) :: l) st M = lim cal sc 6 cX6_text ret 125 (v0 :: v1 :: some (.int x) :: l) (.int x :: st) M := lim_step dX6_text_124
theorem sX6_text_125 : lim cal sc 6 cX6_text ret 125 lv (.int y :: .int x :: st) M = lim cal sc 6 cX6_text ret 126 lv (.int (x * y) :: st) M := lim_step dX6_text_125
theorem sX6_text_126 : lim cal sc 6 cX6_text ret 126 lv (a1 :: .ref h :: st) M = guK (isCl 5 h) (guK (rk 8 st) (calK (cal 230 [.ref h, a1] M) fun q M' => lim cal sc 6 cX6_text ret 129 lv (q.toList ++ st) M')) := (lim_step dX6_text_126).trans (e_virt1 rm_6_352 mq_230)
theorem sX6_text_129 : lim cal sc 6 cX6_text ret 129 lv (.int x :: st) M = if 0 ≤ x then lim cal sc 6 cX6_text ret 136 lv st M else lim cal sc 6 cX6_text ret 132 lv st M := (lim_step dX6_text_129).trans (e_ifge (t := 136) (by decide))
theorem sX6_text_132 : lim cal sc 6 cX6_text ret 132 lv st M = lim cal sc 6 cX6_text ret 133 lv (.int 0 :: st) M := (lim_step dX6_text_132).trans (e_ic k_i_0)
theorem sX6_text_133 : lim cal sc 6 cX6_text ret 133 lv st M = lim cal sc 6 cX6_text ret 137 lv st M := (lim_step dX6_text_133).trans (e_goto (t := 137) (by decide))
theorem sX6_text_136 : lim cal sc 6 cX6_text ret 136 lv st M = lim cal sc 6 cX6_text ret 137 lv (.int 1 :: st) M := (lim_step dX6_text_136).trans (e_ic k_i_1)
theorem sX6_text_137 : lim cal sc 6 cX6_text ret 137 lv (.int y :: .int x :: st) M = lim cal sc 6 cX6_text ret 138 lv (.int (x + y) :: st) M := lim_step dX6_text_137
theorem sX6_text_138 : lim cal sc 6 cX6_text ret 138 (v0 :: v :: l) (.int x :: st) M = lim cal sc 6 cX6_text ret 139 (v0 :: some (.int x) :: l) st M := (lim_step dX6_text_138).trans (e_istn1)
theorem sX6_text_139 : lim cal sc 6 cX6_text ret 139 (v0 :: v1 :: some (.int x) :: l) st M = lim cal sc 6 cX6_text ret 142 (v0 :: v1 :: some (.int (x + 1)) :: l) st M := (lim_step dX6_text_139).trans (e_inc2 k_i_1)
theorem sX6_text_142 : lim cal sc 6 cX6_text ret 142 lv st M = lim cal sc 6 cX6_text ret 113 lv st M := (lim_step dX6_text_142).trans (e_goto (t := 113) (by decide))
theorem sX6_text_145 : lim cal sc 6 cX6_text ret 145 (v0 :: some (.int x) :: l) st M = lim cal sc 6 cX6_text ret 146 (v0 :: some (.int x) :: l) (.int x :: st) M := lim_step dX6_text_145
theorem sX6_text_146 : lim cal sc 6 cX6_text (some .int) 146 lv [.int x] M = some (some (.int x), M) := (lim_step dX6_text_146).trans (e_iret)
theorem sX6_isSpot_0 : lim cal sc 6 cX6_isSpot ret 0 (some (.int x) :: l) st M = lim cal sc 6 cX6_isSpot ret 1 (some (.int x) :: l) (.int x :: st) M := lim_step dX6_isSpot_0
theorem sX6_isSpot_1 : lim cal sc 6 cX6_isSpot ret 1 lv st M = lim cal sc 6 cX6_isSpot ret 2 lv (.int 0 :: st) M := (lim_step dX6_isSpot_1).trans (e_ic k_i_0)
theorem sX6_isSpot_2 : lim cal sc 6 cX6_isSpot ret 2 lv st M = lim cal sc 6 cX6_isSpot ret 4 lv (.int 9 :: st) M := (lim_step dX6_isSpot_2).trans (e_bi k_b_9)
theorem sX6_isSpot_4 : lim cal sc 6 cX6_isSpot ret 4 lv (a3 :: a2 :: a1 :: st) M = guK (rk 8 st) (calK (cal 136 [a1, a2, a3] M) fun q M' => lim cal sc 6 cX6_isSpot ret 7 lv (q.toList ++ st) M') := (lim_step dX6_isSpot_4).trans (e_stat3 rm_6_74)
theorem sX6_isSpot_7 : lim cal sc 6 cX6_isSpot (some .boolean) 7 lv [.int x] M = guK (narB .boolean x) (some (some (.int x), M)) := (lim_step dX6_isSpot_7).trans (e_zret)
theorem sX6_hold_0 : lim cal sc 6 cX6_hold ret 0 (v0 :: some (.int x) :: l) st M = lim cal sc 6 cX6_hold ret 1 (v0 :: some (.int x) :: l) (.int x :: st) M := lim_step dX6_hold_0
theorem sX6_hold_1 : lim cal sc 6 cX6_hold ret 1 lv (a1 :: st) M = guK (rk 8 st) (calK (cal 232 [a1] M) fun q M' => lim cal sc 6 cX6_hold ret 4 lv (q.toList ++ st) M') := (lim_step dX6_hold_1).trans (e_stat1 rm_6_355)
theorem sX6_hold_4 : lim cal sc 6 cX6_hold ret 4 lv (.int x :: st) M = if x = 0 then lim cal sc 6 cX6_hold ret 20 lv st M else lim cal sc 6 cX6_hold ret 7 lv st M := (lim_step dX6_hold_4).trans (e_ifeq (t := 20) (by decide))
theorem sX6_hold_7 : lim cal sc 6 cX6_hold ret 7 (v0 :: v1 :: some (.int x) :: l) st M = lim cal sc 6 cX6_hold ret 8 (v0 :: v1 :: some (.int x) :: l) (.int x :: st) M := lim_step dX6_hold_7
theorem sX6_hold_8 : lim cal sc 6 cX6_hold ret 8 lv st M = lim cal sc 6 cX6_hold ret 9 lv (.int (-1) :: st) M := (lim_step dX6_hold_8).trans (e_ic k_i_m1)
theorem sX6_hold_9 : lim cal sc 6 cX6_hold ret 9 lv (.int y :: .int x :: st) M = if x = y then lim cal sc 6 cX6_hold ret 27 lv st M else lim cal sc 6 cX6_hold ret 12 lv st M := (lim_step dX6_hold_9).trans (e_cmpeq (t := 27) (by decide))
theorem sX6_hold_12 : lim cal sc 6 cX6_hold ret 12 (some (.ref h) :: l) st M = lim cal sc 6 cX6_hold ret 13 (some (.ref h) :: l) (.ref h :: st) M := lim_step dX6_hold_12
theorem sX6_hold_13 : lim cal sc 6 cX6_hold ret 13 (v0 :: v1 :: some (.int x) :: l) st M = lim cal sc 6 cX6_hold ret 14 (v0 :: v1 :: some (.int x) :: l) (.int x :: st) M := lim_step dX6_hold_13
theorem sX6_hold_14 : lim cal sc 6 cX6_hold ret 14 lv (a1 :: .ref h :: st) M = guK (isCl 5 h) (guK (rk 8 st) (calK (cal 141 [.ref h, a1] M) fun q M' => lim cal sc 6 cX6_hold ret 17 lv (q.toList ++ st) M')) := (lim_step dX6_hold_14).trans (e_virt1 rm_6_110 mq_141)
theorem sX6_hold_17 : lim cal sc 6 cX6_hold ret 17 lv (.int x :: st) M = if x = 0 then lim cal sc 6 cX6_hold ret 20 lv st M else lim cal sc 6 cX6_hold ret 27 lv st M := (lim_step dX6_hold_17).trans (e_ifne (t := 27) (by decide))
theorem sX6_hold_20 : lim cal sc 6 cX6_hold ret 20 (some (.ref h) :: l) st M = lim cal sc 6 cX6_hold ret 21 (some (.ref h) :: l) (.ref h :: st) M := lim_step dX6_hold_20
theorem sX6_hold_21 : lim cal sc 6 cX6_hold ret 21 lv st M = lim cal sc 6 cX6_hold ret 23 lv (.int (-1000001) :: st) M := (lim_step dX6_hold_21).trans (e_ldc rc_6_69)
theorem sX6_hold_23 : lim cal sc 6 cX6_hold ret 23 lv (a1 :: .ref h :: st) M = guK (isCl 5 h) (guK (rk 8 st) (calK (cal 137 [.ref h, a1] M) fun q M' => lim cal sc 6 cX6_hold ret 26 lv (q.toList ++ st) M')) := (lim_step dX6_hold_23).trans (e_virt1 rm_6_86 mq_137)
theorem sX6_hold_26 : lim cal sc 6 cX6_hold (some .int) 26 lv [.int x] M = some (some (.int x), M) := (lim_step dX6_hold_26).trans (e_iret)
theorem sX6_hold_27 : lim cal sc 6 cX6_hold ret 27 (some (.ref h) :: l) st M = lim cal sc 6 cX6_hold ret 28 (some (.ref h) :: l) (.ref h :: st) M := lim_step dX6_hold_27
theorem sX6_hold_28 : lim cal sc 6 cX6_hold ret 28 lv (.ref h :: st) M = opK (slotV 5 0 h M) fun q => lim cal sc 6 cX6_hold ret 31 lv (q :: st) M := (lim_step dX6_hold_28).trans (e_get (by decide) rf_6_9)
theorem sX6_hold_31 : lim cal sc 6 cX6_hold ret 31 lv st M = lim cal sc 6 cX6_hold ret 33 lv (.int 8 :: st) M := (lim_step dX6_hold_31).trans (e_bi k_b_8)
theorem sX6_hold_33 : lim cal sc 6 cX6_hold ret 33 (v0 :: some (.int x) :: l) st M = lim cal sc 6 cX6_hold ret 34 (v0 :: some (.int x) :: l) (.int x :: st) M := lim_step dX6_hold_33
theorem sX6_hold_34 : lim cal sc 6 cX6_hold ret 34 lv (.int y :: .int x :: st) M = lim cal sc 6 cX6_hold ret 35 lv (.int (x + y) :: st) M := lim_step dX6_hold_34
theorem sX6_hold_35 : lim cal sc 6 cX6_hold ret 35 (v0 :: v1 :: some (.int x) :: l) st M = lim cal sc 6 cX6_hold ret 36 (v0 :: v1 :: some (.int x) :: l) (.int x :: st) M := lim_step dX6_hold_35
theorem sX6_hold_36 : lim cal sc 6 cX6_hold ret 36 lv (.int y :: .int x :: .ref h :: st) M = opK (arrN h) fun q => guK (inb x q) (lim cal sc 6 cX6_hold ret 37 lv st (mset M h x.toNatClampNeg y)) := (lim_step dX6_hold_36).trans (e_iast)
theorem sX6_hold_37 : lim cal sc 6 cX6_hold ret 37 lv st M = lim cal sc 6 cX6_hold ret 38 lv (.int 1 :: st) M := (lim_step dX6_hold_37).trans (e_ic k_i_1)
theorem sX6_hold_38 : lim cal sc 6 cX6_hold (some .int) 38 lv [.int x] M = some (some (.int x), M) := (lim_step dX6_hold_38).trans (e_iret)
theorem sX6_as_0 : lim cal sc 6 cX6_as ret 0 (v0 :: some (.int x) :: l) st M = lim cal sc 6 cX6_as ret 1 (v0 :: some (.int x) :: l) (.int x :: st) M := lim_step dX6_as_0
theorem sX6_as_1 : lim cal sc 6 cX6_as ret 1 lv (a1 :: st) M = guK (rk 8 st) (calK (cal 232 [a1] M) fun q M' => lim cal sc 6 cX6_as ret 4 lv (q.toList ++ st) M') := (lim_step dX6_as_1).trans (e_stat1 rm_6_355)
theorem sX6_as_4 : lim cal sc 6 cX6_as ret 4 lv (.int x :: st) M = if x = 0 then lim cal sc 6 cX6_as ret 14 lv st M else lim cal sc 6 cX6_as ret 7 lv st M := (lim_step dX6_as_4).trans (e_ifeq (t := 14) (by decide))
theorem sX6_as_7 : lim cal sc 6 cX6_as ret 7 (v0 :: v1 :: some (.int x) :: l) st M = lim cal sc 6 cX6_as ret 8 (v0 :: v1 :: some (.int x) :: l) (.int x :: st) M := lim_step dX6_as_7
theorem sX6_as_8 : lim cal sc 6 cX6_as ret 8 lv (a1 :: st) M = guK (rk 8 st) (calK (cal 135 [a1] M) fun q M' => lim cal sc 6 cX6_as ret 11 lv (q.toList ++ st) M') := (lim_step dX6_as_8).trans (e_stat1 rm_6_82)
theorem sX6_as_11 : lim cal sc 6 cX6_as ret 11 lv (.int x :: st) M = if x = 0 then lim cal sc 6 cX6_as ret 14 lv st M else lim cal sc 6 cX6_as ret 21 lv st M := (lim_step dX6_as_11).trans (e_ifne (t := 21) (by decide))
theorem sX6_as_14 : lim cal sc 6 cX6_as ret 14 (some (.ref h) :: l) st M = lim cal sc 6 cX6_as ret 15 (some (.ref h) :: l) (.ref h :: st) M := lim_step dX6_as_14
theorem sX6_as_15 : lim cal sc 6 cX6_as ret 15 lv st M = lim cal sc 6 cX6_as ret 17 lv (.int (-1000001) :: st) M := (lim_step dX6_as_15).trans (e_ldc rc_6_69)
theorem sX6_as_17 : lim cal sc 6 cX6_as ret 17 lv (a1 :: .ref h :: st) M = guK (isCl 5 h) (guK (rk 8 st) (calK (cal 137 [.ref h, a1] M) fun q M' => lim cal sc 6 cX6_as ret 20 lv (q.toList ++ st) M')) := (lim_step dX6_as_17).trans (e_virt1 rm_6_86 mq_137)
theorem sX6_as_20 : lim cal sc 6 cX6_as (some .int) 20 lv [.int x] M = some (some (.int x), M) := (lim_step dX6_as_20).trans (e_iret)
theorem sX6_as_21 : lim cal sc 6 cX6_as ret 21 (some (.ref h) :: l) st M = lim cal sc 6 cX6_as ret 22 (some (.ref h) :: l) (.ref h :: st) M := lim_step dX6_as_21
theorem sX6_as_22 : lim cal sc 6 cX6_as ret 22 lv (.ref h :: st) M = opK (slotV 5 0 h M) fun q => lim cal sc 6 cX6_as ret 25 lv (q :: st) M := (lim_step dX6_as_22).trans (e_get (by decide) rf_6_9)
theorem sX6_as_25 : lim cal sc 6 cX6_as ret 25 lv st M = lim cal sc 6 cX6_as ret 27 lv (.int 8 :: st) M := (lim_step dX6_as_25).trans (e_bi k_b_8)
theorem sX6_as_27 : lim cal sc 6 cX6_as ret 27 (v0 :: some (.int x) :: l) st M = lim cal sc 6 cX6_as ret 28 (v0 :: some (.int x) :: l) (.int x :: st) M := lim_step dX6_as_27
theorem sX6_as_28 : lim cal sc 6 cX6_as ret 28 lv (.int y :: .int x :: st) M = lim cal sc 6 cX6_as ret 29 lv (.int (x + y) :: st) M := lim_step dX6_as_28
theorem sX6_as_29 : lim cal sc 6 cX6_as ret 29 lv (.int x :: .ref h :: st) M = opK (arrV9 sc h M) fun q => guK (inb x q.1) (lim cal sc 6 cX6_as ret 30 lv (.int (q.2 x.toNatClampNeg) :: st) M) := (lim_step dX6_as_29).trans (e_iald)
theorem sX6_as_30 : lim cal sc 6 cX6_as ret 30 (v0 :: v1 :: v2 :: v :: l) (.int x :: st) M = lim cal sc 6 cX6_as ret 31 (v0 :: v1 :: v2 :: some (.int x) :: l) st M := (lim_step dX6_as_30).trans (e_istn3)
theorem sX6_as_31 : lim cal sc 6 cX6_as ret 31 (v0 :: v1 :: v2 :: some (.int x) :: l) st M = lim cal sc 6 cX6_as ret 32 (v0 :: v1 :: v2 :: some (.int x) :: l) (.int x :: st) M := lim_step dX6_as_31
theorem sX6_as_32 : lim cal sc 6 cX6_as ret 32 lv (.int x :: st) M = if 0 ≤ x then lim cal sc 6 cX6_as ret 43 lv st M else lim cal sc 6 cX6_as ret 35 lv st M := (lim_step dX6_as_32).trans (e_ifge (t := 43) (by decide))
theorem sX6_as_35 : lim cal sc 6 cX6_as ret 35 (some (.ref h) :: l) st M = lim cal sc 6 cX6_as ret 36 (some (.ref h) :: l) (.ref h :: st) M := lim_step dX6_as_35
theorem sX6_as_36 : lim cal sc 6 cX6_as ret 36 lv st M = lim cal sc 6 cX6_as ret 39 lv (.int (-1000006) :: st) M := (lim_step dX6_as_36).trans (e_ldcw rc_6_358)
theorem sX6_as_39 : lim cal sc 6 cX6_as ret 39 lv (a1 :: .ref h :: st) M = guK (isCl 5 h) (guK (rk 8 st) (calK (cal 137 [.ref h, a1] M) fun q M' => lim cal sc 6 cX6_as ret 42 lv (q.toList ++ st) M')) := (lim_step dX6_as_39).trans (e_virt1 rm_6_86 mq_137)
theorem sX6_as_42 : lim cal sc 6 cX6_as (some .int) 42 lv [.int x] M = some (some (.int x), M) := (lim_step dX6_as_42).trans (e_iret)
theorem sX6_as_43 : lim cal sc 6 cX6_as ret 43 (some (.ref h) :: l) st M = lim cal sc 6 cX6_as ret 44 (some (.ref h) :: l) (.ref h :: st) M := lim_step dX6_as_43
theorem sX6_as_44 : lim cal sc 6 cX6_as ret 44 (v0 :: v1 :: v2 :: some (.int x) :: l) st M = lim cal sc 6 cX6_as ret 45 (v0 :: v1 :: v2 :: some (.int x) :: l) (.int x :: st) M := lim_step dX6_as_44
theorem sX6_as_45 : lim cal sc 6 cX6_as ret 45 lv st M = lim cal sc 6 cX6_as ret 46 lv (.int 0 :: st) M := (lim_step dX6_as_45).trans (e_ic k_i_0)
theorem sX6_as_46 : lim cal sc 6 cX6_as ret 46 lv (a2 :: a1 :: .ref h :: st) M = guK (isCl 5 h) (guK (rk 8 st) (calK (cal 142 [.ref h, a1, a2] M) fun q M' => lim cal sc 6 cX6_as ret 49 lv (q.toList ++ st) M')) := (lim_step dX6_as_46).trans (e_virt2 rm_6_98 mq_142)
theorem sX6_as_49 : lim cal sc 6 cX6_as ret 49 (v0 :: v1 :: some (.int x) :: l) st M = lim cal sc 6 cX6_as ret 50 (v0 :: v1 :: some (.int x) :: l) (.int x :: st) M := lim_step dX6_as_49
theorem sX6_as_50 : lim cal sc 6 cX6_as ret 50 lv (a2 :: a1 :: st) M = guK (rk 8 st) (calK (cal 144 [a1, a2] M) fun q M' => lim cal sc 6 cX6_as ret 53 lv (q.toList ++ st) M') := (lim_step dX6_as_50).trans (e_stat2 rm_6_101)
theorem sX6_as_53 : lim cal sc 6 cX6_as ret 53 lv (.int x :: st) M = if x = 0 then lim cal sc 6 cX6_as ret 60 lv st M else lim cal sc 6 cX6_as ret 56 lv st M := (lim_step dX6_as_53).trans (e_ifeq (t := 60) (by decide))
theorem sX6_as_56 : lim cal sc 6 cX6_as ret 56 (v0 :: v1 :: v2 :: some (.int x) :: l) st M = lim cal sc 6 cX6_as ret 57 (v0 :: v1 :: v2 :: some (.int x) :: l) (.int x :: st) M := lim_step dX6_as_56
theorem sX6_as_57 : lim cal sc 6 cX6_as ret 57 lv st M = lim cal sc 6 cX6_as ret 67 lv st M := (lim_step dX6_as_57).trans (e_goto (t := 67) (by decide))
theorem sX6_as_60 : lim cal sc 6 cX6_as ret 60 (some (.ref h) :: l) st M = lim cal sc 6 cX6_as ret 61 (some (.ref h) :: l) (.ref h :: st) M := lim_step dX6_as_60
theorem sX6_as_61 : lim cal sc 6 cX6_as ret 61 lv st M = lim cal sc 6 cX6_as ret 64 lv (.int (-1000003) :: st) M := (lim_step dX6_as_61).trans (e_ldcw rc_6_359)
theorem sX6_as_64 : lim cal sc 6 cX6_as ret 64 lv (a1 :: .ref h :: st) M = guK (isCl 5 h) (guK (rk 8 st) (calK (cal 137 [.ref h, a1] M) fun q M' => lim cal sc 6 cX6_as ret 67 lv (q.toList ++ st) M')) := (lim_step dX6_as_64).trans (e_virt1 rm_6_86 mq_137)
theorem sX6_as_67 : lim cal sc 6 cX6_as (some .int) 67 lv [.int x] M = some (some (.int x), M) := (lim_step dX6_as_67).trans (e_iret)
theorem sX6_isSheet_0 : lim cal sc 6 cX6_isSheet ret 0 (some (.int x) :: l) st M = lim cal sc 6 cX6_isSheet ret 1 (some (.int x) :: l) (.int x :: st) M := lim_step dX6_isSheet_0
theorem sX6_isSheet_1 : lim cal sc 6 cX6_isSheet ret 1 lv st M = lim cal sc 6 cX6_isSheet ret 2 lv (.int 0 :: st) M := (lim_step dX6_isSheet_1).trans (e_ic k_i_0)
theorem sX6_isSheet_2 : lim cal sc 6 cX6_isSheet ret 2 lv st M = lim cal sc 6 cX6_isSheet ret 3 lv (.int 3 :: st) M := (lim_step dX6_isSheet_2).trans (e_ic k_i_3)
theorem sX6_isSheet_3 : lim cal sc 6 cX6_isSheet ret 3 lv (a3 :: a2 :: a1 :: st) M = guK (rk 8 st) (calK (cal 136 [a1, a2, a3] M) fun q M' => lim cal sc 6 cX6_isSheet ret 6 lv (q.toList ++ st) M') := (lim_step dX6_isSheet_3).trans (e_stat3 rm_6_74)
theorem sX6_isSheet_6 : lim cal sc 6 cX6_isSheet (some .boolean) 6 lv [.int x] M = guK (narB .boolean x) (some (some (.int x), M)) := (lim_step dX6_isSheet_6).trans (e_zret)
theorem sX6_cutTo_0 : lim cal sc 6 cX6_cutTo ret 0 (v0 :: some (.int x) :: l) st M = lim cal sc 6 cX6_cutTo ret 1 (v0 :: some (.int x) :: l) (.int x :: st) M := lim_step dX6_cutTo_0
theorem sX6_cutTo_1 : lim cal sc 6 cX6_cutTo ret 1 lv st M = lim cal sc 6 cX6_cutTo ret 3 lv (.int 8 :: st) M := (lim_step dX6_cutTo_1).trans (e_bi k_b_8)
theorem sX6_cutTo_3 : lim cal sc 6 cX6_cutTo ret 3 lv (.int y :: .int x :: st) M = if x = y then lim cal sc 6 cX6_cutTo ret 6 lv st M else lim cal sc 6 cX6_cutTo ret 11 lv st M := (lim_step dX6_cutTo_3).trans (e_cmpne (t := 11) (by decide))
theorem sX6_cutTo_6 : lim cal sc 6 cX6_cutTo ret 6 (some (.int x) :: l) st M = lim cal sc 6 cX6_cutTo ret 7 (some (.int x) :: l) (.int x :: st) M := lim_step dX6_cutTo_6
theorem sX6_cutTo_7 : lim cal sc 6 cX6_cutTo ret 7 lv (.int x :: st) M = lim cal sc 6 cX6_cutTo ret 8 lv (.int x.toInt8.toInt32 :: st) M := lim_step dX6_cutTo_7
theorem sX6_cutTo_8 : lim cal sc 6 cX6_cutTo ret 8 lv st M = lim cal sc 6 cX6_cutTo ret 23 lv st M := (lim_step dX6_cutTo_8).trans (e_goto (t := 23) (by decide))
theorem sX6_cutTo_11 : lim cal sc 6 cX6_cutTo ret 11 (v0 :: some (.int x) :: l) st M = lim cal sc 6 cX6_cutTo ret 12 (v0 :: some (.int x) :: l) (.int x :: st) M := lim_step dX6_cutTo_11
theorem sX6_cutTo_12 : lim cal sc 6 cX6_cutTo ret 12 lv st M = lim cal sc 6 cX6_cutTo ret 14 lv (.int 16 :: st) M := (lim_step dX6_cutTo_12).trans (e_bi k_b_16)
theorem sX6_cutTo_14 : lim cal sc 6 cX6_cutTo ret 14 lv (.int y :: .int x :: st) M = if x = y then lim cal sc 6 cX6_cutTo ret 17 lv st M else lim cal sc 6 cX6_cutTo ret 22 lv st M := (lim_step dX6_cutTo_14).trans (e_cmpne (t := 22) (by decide))
theorem sX6_cutTo_17 : lim cal sc 6 cX6_cutTo ret 17 (some (.int x) :: l) st M = lim cal sc 6 cX6_cutTo ret 18 (some (.int x) :: l) (.int x :: st) M := lim_step dX6_cutTo_17
theorem sX6_cutTo_18 : lim cal sc 6 cX6_cutTo ret 18 lv (.int x :: st) M = lim cal sc 6 cX6_cutTo ret 19 lv (.int x.toInt16.toInt32 :: st) M := lim_step dX6_cutTo_18
theorem sX6_cutTo_19 : lim cal sc 6 cX6_cutTo ret 19 lv st M = lim cal sc 6 cX6_cutTo ret 23 lv st M := (lim_step dX6_cutTo_19).trans (e_goto (t := 23) (by decide))
theorem sX6_cutTo_22 : lim cal sc 6 cX6_cutTo ret 22 (some (.int x) :: l) st M = lim cal sc 6 cX6_cutTo ret 23 (some (.int x) :: l) (.int x :: st) M := lim_step dX6_cutTo_22
theorem sX6_cutTo_23 : lim cal sc 6 cX6_cutTo (some .int) 23 lv [.int x] M = some (some (.int x), M) := (lim_step dX6_cutTo_23).trans (e_iret)
theorem sX6_sheet_0 : lim cal sc 6 cX6_sheet ret 0 (v0 :: some (.int x) :: l) st M = lim cal sc 6 cX6_sheet ret 1 (v0 :: some (.int x) :: l) (.int x :: st) M := lim_step dX6_sheet_0
theorem sX6_sheet_1 : lim cal sc 6 cX6_sheet ret 1 lv (a1 :: st) M = guK (rk 8 st) (calK (cal 235 [a1] M) fun q M' => lim cal sc 6 cX6_sheet ret 4 lv (q.toList ++ st) M') := (lim_step dX6_sheet_1).trans (e_stat1 rm_6_360)
theorem sX6_sheet_4 : lim cal sc 6 cX6_sheet ret 4 lv (.int x :: st) M = if x = 0 then lim cal sc 6 cX6_sheet ret 29 lv st M else lim cal sc 6 cX6_sheet ret 7 lv st M := (lim_step dX6_sheet_4).trans (e_ifeq (t := 29) (by decide))
theorem sX6_sheet_7 : lim cal sc 6 cX6_sheet ret 7 (v0 :: v1 :: some (.int x) :: l) st M = lim cal sc 6 cX6_sheet ret 8 (v0 :: v1 :: some (.int x) :: l) (.int x :: st) M := lim_step dX6_sheet_7
theorem sX6_sheet_8 : lim cal sc 6 cX6_sheet ret 8 lv (.int x :: st) M = if x = 0 then lim cal sc 6 cX6_sheet ret 36 lv st M else lim cal sc 6 cX6_sheet ret 11 lv st M := (lim_step dX6_sheet_8).trans (e_ifeq (t := 36) (by decide))
theorem sX6_sheet_11 : lim cal sc 6 cX6_sheet ret 11 (v0 :: v1 :: some (.int x) :: l) st M = lim cal sc 6 cX6_sheet ret 12 (v0 :: v1 :: some (.int x) :: l) (.int x :: st) M := lim_step dX6_sheet_11
theorem sX6_sheet_12 : lim cal sc 6 cX6_sheet ret 12 lv st M = lim cal sc 6 cX6_sheet ret 14 lv (.int 8 :: st) M := (lim_step dX6_sheet_12).trans (e_bi k_b_8)
theorem sX6_sheet_14 : lim cal sc 6 cX6_sheet ret 14 lv (.int y :: .int x :: st) M = if x = y then lim cal sc 6 cX6_sheet ret 36 lv st M else lim cal sc 6 cX6_sheet ret 17 lv st M := (lim_step dX6_sheet_14).trans (e_cmpeq (t := 36) (by decide))
theorem sX6_sheet_17 : lim cal sc 6 cX6_sheet ret 17 (v0 :: v1 :: some (.int x) :: l) st M = lim cal sc 6 cX6_sheet ret 18 (v0 :: v1 :: some (.int x) :: l) (.int x :: st) M := lim_step dX6_sheet_17
theorem sX6_sheet_18 : lim cal sc 6 cX6_sheet ret 18 lv st M = lim cal sc 6 cX6_sheet ret 20 lv (.int 16 :: st) M := (lim_step dX6_sheet_18).trans (e_bi k_b_16)
theorem sX6_sheet_20 : lim cal sc 6 cX6_sheet ret 20 lv (.int y :: .int x :: st) M = if x = y then lim cal sc 6 cX6_sheet ret 36 lv st M else lim cal sc 6 cX6_sheet ret 23 lv st M := (lim_step dX6_sheet_20).trans (e_cmpeq (t := 36) (by decide))
theorem sX6_sheet_23 : lim cal sc 6 cX6_sheet ret 23 (v0 :: v1 :: some (.int x) :: l) st M = lim cal sc 6 cX6_sheet ret 24 (v0 :: v1 :: some (.int x) :: l) (.int x :: st) M := lim_step dX6_sheet_23
theorem sX6_sheet_24 : lim cal sc 6 cX6_sheet ret 24 lv st M = lim cal sc 6 cX6_sheet ret 26 lv (.int 32 :: st) M := (lim_step dX6_sheet_24).trans (e_bi k_b_32)
theorem sX6_sheet_26 : lim cal sc 6 cX6_sheet ret 26 lv (.int y :: .int x :: st) M = if x = y then lim cal sc 6 cX6_sheet ret 36 lv st M else lim cal sc 6 cX6_sheet ret 29 lv st M := (lim_step dX6_sheet_26).trans (e_cmpeq (t := 36) (by decide))
theorem sX6_sheet_29 : lim cal sc 6 cX6_sheet ret 29 (some (.ref h) :: l) st M = lim cal sc 6 cX6_sheet ret 30 (some (.ref h) :: l) (.ref h :: st) M := lim_step dX6_sheet_29
theorem sX6_sheet_30 : lim cal sc 6 cX6_sheet ret 30 lv st M = lim cal sc 6 cX6_sheet ret 32 lv (.int (-1000001) :: st) M := (lim_step dX6_sheet_30).trans (e_ldc rc_6_69)
theorem sX6_sheet_32 : lim cal sc 6 cX6_sheet ret 32 lv (a1 :: .ref h :: st) M = guK (isCl 5 h) (guK (rk 8 st) (calK (cal 137 [.ref h, a1] M) fun q M' => lim cal sc 6 cX6_sheet ret 35 lv (q.toList ++ st) M')) := (lim_step dX6_sheet_32).trans (e_virt1 rm_6_86 mq_137)
theorem sX6_sheet_35 : lim cal sc 6 cX6_sheet (some .int) 35 lv [.int x] M = some (some (.int x), M) := (lim_step dX6_sheet_35).trans (e_iret)
theorem sX6_sheet_36 : lim cal sc 6 cX6_sheet ret 36 (v0 :: v1 :: v2 :: some (.int x) :: l) st M = lim cal sc 6 cX6_sheet ret 37 (v0 :: v1 :: v2 :: some (.int x) :: l) (.int x :: st) M := lim_step dX6_sheet_36
theorem sX6_sheet_37 : lim cal sc 6 cX6_sheet ret 37 lv (.int x :: st) M = if 0 ≤ x then lim cal sc 6 cX6_sheet ret 48 lv st M else lim cal sc 6 cX6_sheet ret 40 lv st M := (lim_step dX6_sheet_37).trans (e_ifge (t := 48) (by decide))
theorem sX6_sheet_40 : lim cal sc 6 cX6_sheet ret 40 (some (.ref h) :: l) st M = lim cal sc 6 cX6_sheet ret 41 (some (.ref h) :: l) (.ref h :: st) M := lim_step dX6_sheet_40
theorem sX6_sheet_41 : lim cal sc 6 cX6_sheet ret 41 lv st M = lim cal sc 6 cX6_sheet ret 44 lv (.int (-1000007) :: st) M := (lim_step dX6_sheet_41).trans (e_ldcw rc_6_363)
theorem sX6_sheet_44 : lim cal sc 6 cX6_sheet ret 44 lv (a1 :: .ref h :: st) M = guK (isCl 5 h) (guK (rk 8 st) (calK (cal 137 [.ref h, a1] M) fun q M' => lim cal sc 6 cX6_sheet ret 47 lv (q.toList ++ st) M')) := (lim_step dX6_sheet_44).trans (e_virt1 rm_6_86 mq_137)
theorem sX6_sheet_47 : lim cal sc 6 cX6_sheet (some .int) 47 lv [.int x] M = some (some (.int x), M) := (lim_step dX6_sheet_47).trans (e_iret)
theorem sX6_sheet_48 : lim cal sc 6 cX6_sheet ret 48 (v0 :: v1 :: v2 :: some (.int x) :: l) st M = lim cal sc 6 cX6_sheet ret 49 (v0 :: v1 :: v2 :: some (.int x) :: l) (.int x :: st) M := lim_step dX6_sheet_48
theorem sX6_sheet_49 : lim cal sc 6 cX6_sheet ret 49 lv st M = lim cal sc 6 cX6_sheet ret 51 lv (.int 40 :: st) M := (lim_step dX6_sheet_49).trans (e_bi k_b_40)
theorem sX6_sheet_51 : lim cal sc 6 cX6_sheet ret 51 lv (.int y :: .int x :: st) M = if x ≤ y then lim cal sc 6 cX6_sheet ret 61 lv st M else lim cal sc 6 cX6_sheet ret 54 lv st M := (lim_step dX6_sheet_51).trans (e_cmple (t := 61) (by decide))
theorem sX6_sheet_54 : lim cal sc 6 cX6_sheet ret 54 (some (.ref h) :: l) st M = lim cal sc 6 cX6_sheet ret 55 (some (.ref h) :: l) (.ref h :: st) M := lim_step dX6_sheet_54
theorem sX6_sheet_55 : lim cal sc 6 cX6_sheet ret 55 lv st M = lim cal sc 6 cX6_sheet ret 57 lv (.int (-1000001) :: st) M := (lim_step dX6_sheet_55).trans (e_ldc rc_6_69)
theorem sX6_sheet_57 : lim cal sc 6 cX6_sheet ret 57 lv (a1 :: .ref h :: st) M = guK (isCl 5 h) (guK (rk 8 st) (calK (cal 137 [.ref h, a1] M) fun q M' => lim cal sc 6 cX6_sheet ret 60 lv (q.toList ++ st) M')) := (lim_step dX6_sheet_57).trans (e_virt1 rm_6_86 mq_137)
theorem sX6_sheet_60 : lim cal sc 6 cX6_sheet (some .int) 60 lv [.int x] M = some (some (.int x), M) := (lim_step dX6_sheet_60).trans (e_iret)
theorem sX6_sheet_61 : lim cal sc 6 cX6_sheet ret 61 (some (.ref h) :: l) st M = lim cal sc 6 cX6_sheet ret 62 (some (.ref h) :: l) (.ref h :: st) M := lim_step dX6_sheet_61
theorem sX6_sheet_62 : lim cal sc 6 cX6_sheet ret 62 lv (.ref h :: st) M = opK (slotV 5 27 h M) fun q => lim cal sc 6 cX6_sheet ret 65 lv (q :: st) M := (lim_step dX6_sheet_62).trans (e_get (by decide) rf_6_57)
theorem sX6_sheet_65 : lim cal sc 6 cX6_sheet ret 65 (v0 :: some (.int x) :: l) st M = lim cal sc 6 cX6_sheet ret 66 (v0 :: some (.int x) :: l) (.int x :: st) M := lim_step dX6_sheet_65
theorem sX6_sheet_66 : lim cal sc 6 cX6_sheet ret 66 (v0 :: v1 :: some (.int x) :: l) st M = lim cal sc 6 cX6_sheet ret 67 (v0 :: v1 :: some (.int x) :: l) (.int x :: st) M := lim_step dX6_sheet_66
theorem sX6_sheet_67 : lim cal sc 6 cX6_sheet ret 67 lv (.int y :: .int x :: .ref h :: st) M = opK (arrN h) fun q => guK (inb x q) (lim cal sc 6 cX6_sheet ret 68 lv st (mset M h x.toNatClampNeg y)) := (lim_step dX6_sheet_67).trans (e_iast)
theorem sX6_sheet_68 : lim cal sc 6 cX6_sheet ret 68 (some (.ref h) :: l) st M = lim cal sc 6 cX6_sheet ret 69 (some (.ref h) :: l) (.ref h :: st) M := lim_step dX6_sheet_68
theorem sX6_sheet_69 : lim cal sc 6 cX6_sheet ret 69 lv (.ref h :: st) M = opK (slotV 5 28 h M) fun q => lim cal sc 6 cX6_sheet ret 72 lv (q :: st) M := (lim_step dX6_sheet_69).trans (e_get (by decide) rf_6_60)
theorem sX6_sheet_72 : lim cal sc 6 cX6_sheet ret 72 (v0 :: some (.int x) :: l) st M = lim cal sc 6 cX6_sheet ret 73 (v0 :: some (.int x) :: l) (.int x :: st) M := lim_step dX6_sheet_72
theorem sX6_sheet_73 : lim cal sc 6 cX6_sheet ret 73 (v0 :: v1 :: some (.int x) :: l) st M = lim cal sc 6 cX6_sheet ret 74 (v0 :: v1 :: some (.int x) :: l) (.int x :: st) M := lim_step dX6_sheet_73
theorem sX6_sheet_74 : lim cal sc 6 cX6_sheet ret 74 lv (.int x :: st) M = if x = 0 then lim cal sc 6 cX6_sheet ret 77 lv st M else lim cal sc 6 cX6_sheet ret 81 lv st M := (lim_step dX6_sheet_74).trans (e_ifne (t := 81) (by decide))
theorem sX6_sheet_77 : lim cal sc 6 cX6_sheet ret 77 lv st M = lim cal sc 6 cX6_sheet ret 78 lv (.int 0 :: st) M := (lim_step dX6_sheet_77).trans (e_ic k_i_0)
theorem sX6_sheet_78 : lim cal sc 6 cX6_sheet ret 78 lv st M = lim cal sc 6 cX6_sheet ret 82 lv st M := (lim_step dX6_sheet_78).trans (e_goto (t := 82) (by decide))
theorem sX6_sheet_81 : lim cal sc 6 cX6_sheet ret 81 (v0 :: v1 :: v2 :: some (.int x) :: l) st M = lim cal sc 6 cX6_sheet ret 82 (v0 :: v1 :: v2 :: some (.int x) :: l) (.int x :: st) M := lim_step dX6_sheet_81
theorem sX6_sheet_82 : lim cal sc 6 cX6_sheet ret 82 lv (.int y :: .int x :: .ref h :: st) M = opK (arrN h) fun q => guK (inb x q) (lim cal sc 6 cX6_sheet ret 83 lv st (mset M h x.toNatClampNeg y)) := (lim_step dX6_sheet_82).trans (e_iast)
theorem sX6_sheet_83 : lim cal sc 6 cX6_sheet ret 83 lv st M = lim cal sc 6 cX6_sheet ret 84 lv (.int 0 :: st) M := (lim_step dX6_sheet_83).trans (e_ic k_i_0)
theorem sX6_sheet_84 : lim cal sc 6 cX6_sheet ret 84 (v0 :: v1 :: v2 :: v3 :: v :: l) (.int x :: st) M = lim cal sc 6 cX6_sheet ret 86 (v0 :: v1 :: v2 :: v3 :: some (.int x) :: l) st M := (lim_step dX6_sheet_84).trans (e_ist4)
theorem sX6_sheet_86 : lim cal sc 6 cX6_sheet ret 86 (v0 :: v1 :: v2 :: v3 :: some (.int x) :: l) st M = lim cal sc 6 cX6_sheet ret 88 (v0 :: v1 :: v2 :: v3 :: some (.int x) :: l) (.int x :: st) M := lim_step dX6_sheet_86
theorem sX6_sheet_88 : lim cal sc 6 cX6_sheet ret 88 lv st M = lim cal sc 6 cX6_sheet ret 90 lv (.int 40 :: st) M := (lim_step dX6_sheet_88).trans (e_bi k_b_40)
theorem sX6_sheet_90 : lim cal sc 6 cX6_sheet ret 90 lv (.int y :: .int x :: st) M = if y ≤ x then lim cal sc 6 cX6_sheet ret 112 lv st M else lim cal sc 6 cX6_sheet ret 93 lv st M := (lim_step dX6_sheet_90).trans (e_cmpge (t := 112) (by decide))
theorem sX6_sheet_93 : lim cal sc 6 cX6_sheet ret 93 (some (.ref h) :: l) st M = lim cal sc 6 cX6_sheet ret 94 (some (.ref h) :: l) (.ref h :: st) M := lim_step dX6_sheet_93
theorem sX6_sheet_94 : lim cal sc 6 cX6_sheet ret 94 lv (.ref h :: st) M = opK (slotV 5 29 h M) fun q => lim cal sc 6 cX6_sheet ret 97 lv (q :: st) M := (lim_step dX6_sheet_94).trans (e_get (by decide) rf_6_63)
theorem sX6_sheet_97 : lim cal sc 6 cX6_sheet ret 97 lv st M = lim cal sc 6 cX6_sheet ret 99 lv (.int 40 :: st) M := (lim_step dX6_sheet_97).trans (e_bi k_b_40)
theorem sX6_sheet_99 : lim cal sc 6 cX6_sheet ret 99 (v0 :: some (.int x) :: l) st M = lim cal sc 6 cX6_sheet ret 100 (v0 :: some (.int x) :: l) (.int x :: st) M := lim_step dX6_sheet_99
theorem sX6_sheet_100 : lim cal sc 6 cX6_sheet ret 100 lv (.int y :: .int x :: st) M = lim cal sc 6 cX6_sheet ret 101 lv (.int (x * y) :: st) M := lim_step dX6_sheet_100
theorem sX6_sheet_101 : lim cal sc 6 cX6_sheet ret 101 (v0 :: v1 :: v2 :: v3 :: some (.int x) :: l) st M = lim cal sc 6 cX6_sheet ret 103 (v0 :: v1 :: v2 :: v3 :: some (.int x) :: l) (.int x :: st) M := lim_step dX6_sheet_101
theorem sX6_sheet_103 : lim cal sc 6 cX6_sheet ret 103 lv (.int y :: .int x :: st) M = lim cal sc 6 cX6_sheet ret 104 lv (.int (x + y) :: st) M := lim_step dX6_sheet_103
theorem sX6_sheet_104 : lim cal sc 6 cX6_sheet ret 104 lv st M = lim cal sc 6 cX6_sheet ret 105 lv (.int 0 :: st) M := (lim_step dX6_sheet_104).trans (e_ic k_i_0)
theorem sX6_sheet_105 : lim cal sc 6 cX6_sheet ret 105 lv (.int y :: .int x :: .ref h :: st) M = opK (arrN h) fun q => guK (inb x q) (lim cal sc 6 cX6_sheet ret 106 lv st (mset M h x.toNatClampNeg y)) := (lim_step dX6_sheet_105).trans (e_iast)
theorem sX6_sheet_106 : lim cal sc 6 cX6_sheet ret 106 (v0 :: v1 :: v2 :: v3 :: some (.int x) :: l) st M = lim cal sc 6 cX6_sheet ret 109 (v0 :: v1 :: v2 :: v3 :: some (.int (x + 1)) :: l) st M := (lim_step dX6_sheet_106).trans (e_inc4 k_i_1)
theorem sX6_sheet_109 : lim cal sc 6 cX6_sheet ret 109 lv st M = lim cal sc 6 cX6_sheet ret 86 lv st M := (lim_step dX6_sheet_109).trans (e_goto (t := 86) (by decide))
theorem sX6_sheet_112 : lim cal sc 6 cX6_sheet ret 112 (some (.ref h) :: l) st M = lim cal sc 6 cX6_sheet ret 113 (some (.ref h) :: l) (.ref h :: st) M := lim_step dX6_sheet_112
theorem sX6_sheet_113 : lim cal sc 6 cX6_sheet ret 113 lv (.ref h :: st) M = opK (slotV 5 28 h M) fun q => lim cal sc 6 cX6_sheet ret 116 lv (q :: st) M := (lim_step dX6_sheet_113).trans (e_get (by decide) rf_6_60)
theorem sX6_sheet_116 : lim cal sc 6 cX6_sheet ret 116 (v0 :: some (.int x) :: l) st M = lim cal sc 6 cX6_sheet ret 117 (v0 :: some (.int x) :: l) (.int x :: st) M := lim_step dX6_sheet_116
theorem sX6_sheet_117 : lim cal sc 6 cX6_sheet ret 117 lv (.int x :: .ref h :: st) M = opK (arrV9 sc h M) fun q => guK (inb x q.1) (lim cal sc 6 cX6_sheet ret 118 lv (.int (q.2 x.toNatClampNeg) :: st) M) := (lim_step dX6_sheet_117).trans (e_iald)
theorem sX6_sheet_118 : lim cal sc 6 cX6_sheet (some .int) 118 lv [.int x] M = some (some (.int x), M) := (lim_step dX6_sheet_118).trans (e_iret)
theorem sX6_write_0 : lim cal sc 6 cX6_write ret 0 (v0 :: some (.int x) :: l) st M = lim cal sc 6 cX6_write ret 1 (v0 :: some (.int x) :: l) (.int x :: st) M := lim_step dX6_write_0
theorem sX6_write_1 : lim cal sc 6 cX6_write ret 1 lv (a1 :: st) M = guK (rk 8 st) (calK (cal 235 [a1] M) fun q M' => lim cal sc 6 cX6_write ret 4 lv (q.toList ++ st) M') := (lim_step dX6_write_1).trans (e_stat1 rm_6_360)
theorem sX6_write_4 : lim cal sc 6 cX6_write ret 4 lv (.int x :: st) M = if x = 0 then lim cal sc 6 cX6_write ret 7 lv st M else lim cal sc 6 cX6_write ret 14 lv st M := (lim_step dX6_write_4).trans (e_ifne (t := 14) (by decide))
theorem sX6_write_7 : lim cal sc 6 cX6_write ret 7 (some (.ref h) :: l) st M = lim cal sc 6 cX6_write ret 8 (some (.ref h) :: l) (.ref h :: st) M := lim_step dX6_write_7
theorem sX6_write_8 : lim cal sc 6 cX6_write ret 8 lv st M = lim cal sc 6 cX6_write ret 10 lv (.int (-1000001) :: st) M := (lim_step dX6_write_8).trans (e_ldc rc_6_69)
theorem sX6_write_10 : lim cal sc 6 cX6_write ret 10 lv (a1 :: .ref h :: st) M = guK (isCl 5 h) (guK (rk 8 st) (calK (cal 137 [.ref h, a1] M) fun q M' => lim cal sc 6 cX6_write ret 13 lv (q.toList ++ st) M')) := (lim_step dX6_write_10).trans (e_virt1 rm_6_86 mq_137)
theorem sX6_write_13 : lim cal sc 6 cX6_write (some .int) 13 lv [.int x] M = some (some (.int x), M) := (lim_step dX6_write_13).trans (e_iret)
theorem sX6_write_14 : lim cal sc 6 cX6_write ret 14 (some (.ref h) :: l) st M = lim cal sc 6 cX6_write ret 15 (some (.ref h) :: l) (.ref h :: st) M := lim_step dX6_write_14
theorem sX6_write_15 : lim cal sc 6 cX6_write ret 15 lv (.ref h :: st) M = opK (slotV 5 27 h M) fun q => lim cal sc 6 cX6_write ret 18 lv (q :: st) M := (lim_step dX6_write_15).trans (e_get (by decide) rf_6_57)
theorem sX6_write_18 : lim cal sc 6 cX6_write ret 18 (v0 :: some (.int x) :: l) st M = lim cal sc 6 cX6_write ret 19 (v0 :: some (.int x) :: l) (.int x :: st) M := lim_step dX6_write_18
theorem sX6_write_19 : lim cal sc 6 cX6_write ret 19 lv (.int x :: .ref h :: st) M = opK (arrV9 sc h M) fun q => guK (inb x q.1) (lim cal sc 6 cX6_write ret 20 lv (.int (q.2 x.toNatClampNeg) :: st) M) := (lim_step dX6_write_19).trans (e_iald)
theorem sX6_write_20 : lim cal sc 6 cX6_write ret 20 lv (.int x :: st) M = if x = 0 then lim cal sc 6 cX6_write ret 23 lv st M else lim cal sc 6 cX6_write ret 31 lv st M := (lim_step dX6_write_20).trans (e_ifne (t := 31) (by decide))
theorem sX6_write_23 : lim cal sc 6 cX6_write ret 23 (some (.ref h) :: l) st M = lim cal sc 6 cX6_write ret 24 (some (.ref h) :: l) (.ref h :: st) M := lim_step dX6_write_23
theorem sX6_write_24 : lim cal sc 6 cX6_write ret 24 lv st M = lim cal sc 6 cX6_write ret 27 lv (.int (-1000006) :: st) M := (lim_step dX6_write_24).trans (e_ldcw rc_6_358)
theorem sX6_write_27 : lim cal sc 6 cX6_write ret 27 lv (a1 :: .ref h :: st) M = guK (isCl 5 h) (guK (rk 8 st) (calK (cal 137 [.ref h, a1] M) fun q M' => lim cal sc 6 cX6_write ret 30 lv (q.toList ++ st) M')) := (lim_step dX6_write_27).trans (e_virt1 rm_6_86 mq_137)
theorem sX6_write_30 : lim cal sc 6 cX6_write (some .int) 30 lv [.int x] M = some (some (.int x), M) := (lim_step dX6_write_30).trans (e_iret)
theorem sX6_write_31 : lim cal sc 6 cX6_write ret 31 (v0 :: v1 :: some (.int x) :: l) st M = lim cal sc 6 cX6_write ret 32 (v0 :: v1 :: some (.int x) :: l) (.int x :: st) M := lim_step dX6_write_31
theorem sX6_write_32 : lim cal sc 6 cX6_write ret 32 lv st M = lim cal sc 6 cX6_write ret 33 lv (.int 0 :: st) M := (lim_step dX6_write_32).trans (e_ic k_i_0)
theorem sX6_write_33 : lim cal sc 6 cX6_write ret 33 (some (.ref h) :: l) st M = lim cal sc 6 cX6_write ret 34 (some (.ref h) :: l) (.ref h :: st) M := lim_step dX6_write_33
theorem sX6_write_34 : lim cal sc 6 cX6_write ret 34 lv (.ref h :: st) M = opK (slotV 5 28 h M) fun q => lim cal sc 6 cX6_write ret 37 lv (q :: st) M := (lim_step dX6_write_34).trans (e_get (by decide) rf_6_60)
theorem sX6_write_37 : lim cal sc 6 cX6_write ret 37 (v0 :: some (.int x) :: l) st M = lim cal sc 6 cX6_write ret 38 (v0 :: some (.int x) :: l) (.int x :: st) M := lim_step dX6_write_37
theorem sX6_write_38 : lim cal sc 6 cX6_write ret 38 lv (.int x :: .ref h :: st) M = opK (arrV9 sc h M) fun q => guK (inb x q.1) (lim cal sc 6 cX6_write ret 39 lv (.int (q.2 x.toNatClampNeg) :: st) M) := (lim_step dX6_write_38).trans (e_iald)
theorem sX6_write_39 : lim cal sc 6 cX6_write ret 39 lv st M = lim cal sc 6 cX6_write ret 40 lv (.int 1 :: st) M := (lim_step dX6_write_39).trans (e_ic k_i_1)
theorem sX6_write_40 : lim cal sc 6 cX6_write ret 40 lv (.int y :: .int x :: st) M = lim cal sc 6 cX6_write ret 41 lv (.int (x - y) :: st) M := lim_step dX6_write_40
theorem sX6_write_41 : lim cal sc 6 cX6_write ret 41 lv (a3 :: a2 :: a1 :: st) M = guK (rk 8 st) (calK (cal 136 [a1, a2, a3] M) fun q M' => lim cal sc 6 cX6_write ret 44 lv (q.toList ++ st) M') := (lim_step dX6_write_41).trans (e_stat3 rm_6_74)
theorem sX6_write_44 : lim cal sc 6 cX6_write ret 44 lv (.int x :: st) M = if x = 0 then lim cal sc 6 cX6_write ret 47 lv st M else lim cal sc 6 cX6_write ret 54 lv st M := (lim_step dX6_write_44).trans (e_ifne (t := 54) (by decide))
theorem sX6_write_47 : lim cal sc 6 cX6_write ret 47 (some (.ref h) :: l) st M = lim cal sc 6 cX6_write ret 48 (some (.ref h) :: l) (.ref h :: st) M := lim_step dX6_write_47
theorem sX6_write_48 : lim cal sc 6 cX6_write ret 48 lv st M = lim cal sc 6 cX6_write ret 50 lv (.int (-1000001) :: st) M := (lim_step dX6_write_48).trans (e_ldc rc_6_69)
theorem sX6_write_50 : lim cal sc 6 cX6_write ret 50 lv (a1 :: .ref h :: st) M = guK (isCl 5 h) (guK (rk 8 st) (calK (cal 137 [.ref h, a1] M) fun q M' => lim cal sc 6 cX6_write ret 53 lv (q.toList ++ st) M')) := (lim_step dX6_write_50).trans (e_virt1 rm_6_86 mq_137)
theorem sX6_write_53 : lim cal sc 6 cX6_write (some .int) 53 lv [.int x] M = some (some (.int x), M) := (lim_step dX6_write_53).trans (e_iret)
theorem sX6_write_54 : lim cal sc 6 cX6_write ret 54 (some (.ref h) :: l) st M = lim cal sc 6 cX6_write ret 55 (some (.ref h) :: l) (.ref h :: st) M := lim_step dX6_write_54
theorem sX6_write_55 : lim cal sc 6 cX6_write ret 55 lv (.ref h :: st) M = opK (slotV 5 29 h M) fun q => lim cal sc 6 cX6_write ret 58 lv (q :: st) M := (lim_step dX6_write_55).trans (e_get (by decide) rf_6_63)
theorem sX6_write_58 : lim cal sc 6 cX6_write ret 58 lv st M = lim cal sc 6 cX6_write ret 60 lv (.int 40 :: st) M := (lim_step dX6_write_58).trans (e_bi k_b_40)
theorem sX6_write_60 : lim cal sc 6 cX6_write ret 60 (v0 :: some (.int x) :: l) st M = lim cal sc 6 cX6_write ret 61 (v0 :: some (.int x) :: l) (.int x :: st) M := lim_step dX6_write_60
theorem sX6_write_61 : lim cal sc 6 cX6_write ret 61 lv (.int y :: .int x :: st) M = lim cal sc 6 cX6_write ret 62 lv (.int (x * y) :: st) M := lim_step dX6_write_61
theorem sX6_write_62 : lim cal sc 6 cX6_write ret 62 (v0 :: v1 :: some (.int x) :: l) st M = lim cal sc 6 cX6_write ret 63 (v0 :: v1 :: some (.int x) :: l) (.int x :: st) M := lim_step dX6_write_62
theorem sX6_write_63 : lim cal sc 6 cX6_write ret 63 lv (.int y :: .int x :: st) M = lim cal sc 6 cX6_write ret 64 lv (.int (x + y) :: st) M := lim_step dX6_write_63
theorem sX6_write_64 : lim cal sc 6 cX6_write ret 64 (v0 :: v1 :: v2 :: some (.int x) :: l) st M = lim cal sc 6 cX6_write ret 65 (v0 :: v1 :: v2 :: some (.int x) :: l) (.int x :: st) M := lim_step dX6_write_64
theorem sX6_write_65 : lim cal sc 6 cX6_write ret 65 (some (.ref h) :: l) st M = lim cal sc 6 cX6_write ret 66 (some (.ref h) :: l) (.ref h :: st) M := lim_step dX6_write_65
theorem sX6_write_66 : lim cal sc 6 cX6_write ret 66 lv (.ref h :: st) M = opK (slotV 5 27 h M) fun q => lim cal sc 6 cX6_write ret 69 lv (q :: st) M := (lim_step dX6_write_66).trans (e_get (by decide) rf_6_57)
theorem sX6_write_69 : lim cal sc 6 cX6_write ret 69 (v0 :: some (.int x) :: l) st M = lim cal sc 6 cX6_write ret 70 (v0 :: some (.int x) :: l) (.int x :: st) M := lim_step dX6_write_69
theorem sX6_write_70 : lim cal sc 6 cX6_write ret 70 lv (.int x :: .ref h :: st) M = opK (arrV9 sc h M) fun q => guK (inb x q.1) (lim cal sc 6 cX6_write ret 71 lv (.int (q.2 x.toNatClampNeg) :: st) M) := (lim_step dX6_write_70).trans (e_iald)
theorem sX6_write_71 : lim cal sc 6 cX6_write ret 71 lv (a2 :: a1 :: st) M = guK (rk 8 st) (calK (cal 237 [a1, a2] M) fun q M' => lim cal sc 6 cX6_write ret 74 lv (q.toList ++ st) M') := (lim_step dX6_write_71).trans (e_stat2 rm_6_364)
theorem sX6_write_74 : lim cal sc 6 cX6_write ret 74 lv (.int y :: .int x :: .ref h :: st) M = opK (arrN h) fun q => guK (inb x q) (lim cal sc 6 cX6_write ret 75 lv st (mset M h x.toNatClampNeg y)) := (lim_step dX6_write_74).trans (e_iast)
theorem sX6_write_75 : lim cal sc 6 cX6_write ret 75 lv st M = lim cal sc 6 cX6_write ret 76 lv (.int 1 :: st) M := (lim_step dX6_write_75).trans (e_ic k_i_1)
theorem sX6_write_76 : lim cal sc 6 cX6_write (some .int) 76 lv [.int x] M = some (some (.int x), M) := (lim_step dX6_write_76).trans (e_iret)
theorem sX6_copy_0 : lim cal sc 6 cX6_copy ret 0 (v0 :: some (.int x) :: l) st M = lim cal sc 6 cX6_copy ret 1 (v0 :: some (.int x) :: l) (.int x :: st) M := lim_step dX6_copy_0
theorem sX6_copy_1 : lim cal sc 6 cX6_copy ret 1 lv (a1 :: st) M = guK (rk 8 st) (calK (cal 235 [a1] M) fun q M' => lim cal sc 6 cX6_copy ret 4 lv (q.toList ++ st) M') := (lim_step dX6_copy_1).trans (e_stat1 rm_6_360)
theorem sX6_copy_4 : lim cal sc 6 cX6_copy ret 4 lv (.int x :: st) M = if x = 0 then lim cal sc 6 cX6_copy ret 14 lv st M else lim cal sc 6 cX6_copy ret 7 lv st M := (lim_step dX6_copy_4).trans (e_ifeq (t := 14) (by decide))
theorem sX6_copy_7 : lim cal sc 6 cX6_copy ret 7 (v0 :: v1 :: v2 :: some (.int x) :: l) st M = lim cal sc 6 cX6_copy ret 8 (v0 :: v1 :: v2 :: some (.int x) :: l) (.int x :: st) M := lim_step dX6_copy_7
theorem sX6_copy_8 : lim cal sc 6 cX6_copy ret 8 lv (a1 :: st) M = guK (rk 8 st) (calK (cal 235 [a1] M) fun q M' => lim cal sc 6 cX6_copy ret 11 lv (q.toList ++ st) M') := (lim_step dX6_copy_8).trans (e_stat1 rm_6_360)
theorem sX6_copy_11 : lim cal sc 6 cX6_copy ret 11 lv (.int x :: st) M = if x = 0 then lim cal sc 6 cX6_copy ret 14 lv st M else lim cal sc 6 cX6_copy ret 21 lv st M := (lim_step dX6_copy_11).trans (e_ifne (t := 21) (by decide))
theorem sX6_copy_14 : lim cal sc 6 cX6_copy ret 14 (some (.ref h) :: l) st M = lim cal sc 6 cX6_copy ret 15 (some (.ref h) :: l) (.ref h :: st) M := lim_step dX6_copy_14
theorem sX6_copy_15 : lim cal sc 6 cX6_copy ret 15 lv st M = lim cal sc 6 cX6_copy ret 17 lv (.int (-1000001) :: st) M := (lim_step dX6_copy_15).trans (e_ldc rc_6_69)
theorem sX6_copy_17 : lim cal sc 6 cX6_copy ret 17 lv (a1 :: .ref h :: st) M = guK (isCl 5 h) (guK (rk 8 st) (calK (cal 137 [.ref h, a1] M) fun q M' => lim cal sc 6 cX6_copy ret 20 lv (q.toList ++ st) M')) := (lim_step dX6_copy_17).trans (e_virt1 rm_6_86 mq_137)
theorem sX6_copy_20 : lim cal sc 6 cX6_copy (some .int) 20 lv [.int x] M = some (some (.int x), M) := (lim_step dX6_copy_20).trans (e_iret)
theorem sX6_copy_21 : lim cal sc 6 cX6_copy ret 21 (some (.ref h) :: l) st M = lim cal sc 6 cX6_copy ret 22 (some (.ref h) :: l) (.ref h :: st) M := lim_step dX6_copy_21
theorem sX6_copy_22 : lim cal sc 6 cX6_copy ret 22 lv (.ref h :: st) M = opK (slotV 5 27 h M) fun q => lim cal sc 6 cX6_copy ret 25 lv (q :: st) M := (lim_step dX6_copy_22).trans (e_get (by decide) rf_6_57)
theorem sX6_copy_25 : lim cal sc 6 cX6_copy ret 25 (v0 :: some (.int x) :: l) st M = lim cal sc 6 cX6_copy ret 26 (v0 :: some (.int x) :: l) (.int x :: st) M := lim_step dX6_copy_25
theorem sX6_copy_26 : lim cal sc 6 cX6_copy ret 26 lv (.int x :: .ref h :: st) M = opK (arrV9 sc h M) fun q => guK (inb x q.1) (lim cal sc 6 cX6_copy ret 27 lv (.int (q.2 x.toNatClampNeg) :: st) M) := (lim_step dX6_copy_26).trans (e_iald)
theorem sX6_copy_27 : lim cal sc 6 cX6_copy ret 27 lv (.int x :: st) M = if x = 0 then lim cal sc 6 cX6_copy ret 39 lv st M else lim cal sc 6 cX6_copy ret 30 lv st M := (lim_step dX6_copy_27).trans (e_ifeq (t := 39) (by decide))
theorem sX6_copy_30 : lim cal sc 6 cX6_copy ret 30 (some (.ref h) :: l) st M = lim cal sc 6 cX6_copy ret 31 (some (.ref h) :: l) (.ref h :: st) M := lim_step dX6_copy_30
theorem sX6_copy_31 : lim cal sc 6 cX6_copy ret 31 lv (.ref h :: st) M = opK (slotV 5 27 h M) fun q => lim cal sc 6 cX6_copy ret 34 lv (q :: st) M := (lim_step dX6_copy_31).trans (e_get (by decide) rf_6_57)
theorem sX6_copy_34 : lim cal sc 6 cX6_copy ret 34 (v0 :: v1 :: v2 :: some (.int x) :: l) st M = lim cal sc 6 cX6_copy ret 35 (v0 :: v1 :: v2 :: some (.int x) :: l) (.int x :: st) M := lim_step dX6_copy_34
theorem sX6_copy_35 : lim cal sc 6 cX6_copy ret 35 lv (.int x :: .ref h :: st) M = opK (arrV9 sc h M) fun q => guK (inb x q.1) (lim cal sc 6 cX6_copy ret 36 lv (.int (q.2 x.toNatClampNeg) :: st) M) := (lim_step dX6_copy_35).trans (e_iald)
theorem sX6_copy_36 : lim cal sc 6 cX6_copy ret 36 lv (.int x :: st) M = if x = 0 then lim cal sc 6 cX6_copy ret 39 lv st M else lim cal sc 6 cX6_copy ret 47 lv st M := (lim_step dX6_copy_36).trans (e_ifne (t := 47) (by decide))
theorem sX6_copy_39 : lim cal sc 6 cX6_copy ret 39 (some (.ref h) :: l) st M = lim cal sc 6 cX6_copy ret 40 (some (.ref h) :: l) (.ref h :: st) M := lim_step dX6_copy_39
theorem sX6_copy_40 : lim cal sc 6 cX6_copy ret 40 lv st M = lim cal sc 6 cX6_copy ret 43 lv (.int (-1000006) :: st) M := (lim_step dX6_copy_40).trans (e_ldcw rc_6_358)
theorem sX6_copy_43 : lim cal sc 6 cX6_copy ret 43 lv (a1 :: .ref h :: st) M = guK (isCl 5 h) (guK (rk 8 st) (calK (cal 137 [.ref h, a1] M) fun q M' => lim cal sc 6 cX6_copy ret 46 lv (q.toList ++ st) M')) := (lim_step dX6_copy_43).trans (e_virt1 rm_6_86 mq_137)
theorem sX6_copy_46 : lim cal sc 6 cX6_copy (some .int) 46 lv [.int x] M = some (some (.int x), M) := (lim_step dX6_copy_46).trans (e_iret)
theorem sX6_copy_47 : lim cal sc 6 cX6_copy ret 47 (some (.ref h) :: l) st M = lim cal sc 6 cX6_copy ret 48 (some (.ref h) :: l) (.ref h :: st) M := lim_step dX6_copy_47
theorem sX6_copy_48 : lim cal sc 6 cX6_copy ret 48 lv (.ref h :: st) M = opK (slotV 5 27 h M) fun q => lim cal sc 6 cX6_copy ret 51 lv (q :: st) M := (lim_step dX6_copy_48).trans (e_get (by decide) rf_6_57)
theorem sX6_copy_51 : lim cal sc 6 cX6_copy ret 51 (v0 :: some (.int x) :: l) st M = lim cal sc 6 cX6_copy ret 52 (v0 :: some (.int x) :: l) (.int x :: st) M := lim_step dX6_copy_51
theorem sX6_copy_52 : lim cal sc 6 cX6_copy ret 52 lv (.int x :: .ref h :: st) M = opK (arrV9 sc h M) fun q => guK (inb x q.1) (lim cal sc 6 cX6_copy ret 53 lv (.int (q.2 x.toNatClampNeg) :: st) M) := (lim_step dX6_copy_52).trans (e_iald)
theorem sX6_copy_53 : lim cal sc 6 cX6_copy ret 53 (some (.ref h) :: l) st M = lim cal sc 6 cX6_copy ret 54 (some (.ref h) :: l) (.ref h :: st) M := lim_step dX6_copy_53
theorem sX6_copy_54 : lim cal sc 6 cX6_copy ret 54 lv (.ref h :: st) M = opK (slotV 5 27 h M) fun q => lim cal sc 6 cX6_copy ret 57 lv (q :: st) M := (lim_step dX6_copy_54).trans (e_get (by decide) rf_6_57)
theorem sX6_copy_57 : lim cal sc 6 cX6_copy ret 57 (v0 :: v1 :: v2 :: some (.int x) :: l) st M = lim cal sc 6 cX6_copy ret 58 (v0 :: v1 :: v2 :: some (.int x) :: l) (.int x :: st) M := lim_step dX6_copy_57
theorem sX6_copy_58 : lim cal sc 6 cX6_copy ret 58 lv (.int x :: .ref h :: st) M = opK (arrV9 sc h M) fun q => guK (inb x q.1) (lim cal sc 6 cX6_copy ret 59 lv (.int (q.2 x.toNatClampNeg) :: st) M) := (lim_step dX6_copy_58).trans (e_iald)
theorem sX6_copy_59 : lim cal sc 6 cX6_copy ret 59 lv (.int y :: .int x :: st) M = if x = y then lim cal sc 6 cX6_copy ret 70 lv st M else lim cal sc 6 cX6_copy ret 62 lv st M := (lim_step dX6_copy_59).trans (e_cmpeq (t := 70) (by decide))
theorem sX6_copy_62 : lim cal sc 6 cX6_copy ret 62 (some (.ref h) :: l) st M = lim cal sc 6 cX6_copy ret 63 (some (.ref h) :: l) (.ref h :: st) M := lim_step dX6_copy_62
theorem sX6_copy_63 : lim cal sc 6 cX6_copy ret 63 lv st M = lim cal sc 6 cX6_copy ret 66 lv (.int (-1000003) :: st) M := (lim_step dX6_copy_63).trans (e_ldcw rc_6_359)
theorem sX6_copy_66 : lim cal sc 6 cX6_copy ret 66 lv (a1 :: .ref h :: st) M = guK (isCl 5 h) (guK (rk 8 st) (calK (cal 137 [.ref h, a1] M) fun q M' => lim cal sc 6 cX6_copy ret 69 lv (q.toList ++ st) M')) := (lim_step dX6_copy_66).trans (e_virt1 rm_6_86 mq_137)
theorem sX6_copy_69 : lim cal sc 6 cX6_copy (some .int) 69 lv [.int x] M = some (some (.int x), M) := (lim_step dX6_copy_69).trans (e_iret)
theorem sX6_copy_70 : lim cal sc 6 cX6_copy ret 70 (v0 :: v1 :: some (.int x) :: l) st M = lim cal sc 6 cX6_copy ret 71 (v0 :: v1 :: some (.int x) :: l) (.int x :: st) M := lim_step dX6_copy_70
theorem sX6_copy_71 : lim cal sc 6 cX6_copy ret 71 lv (.int x :: st) M = if x < 0 then lim cal sc 6 cX6_copy ret 119 lv st M else lim cal sc 6 cX6_copy ret 74 lv st M := (lim_step dX6_copy_71).trans (e_iflt (t := 119) (by decide))
theorem sX6_copy_74 : lim cal sc 6 cX6_copy ret 74 (v0 :: v1 :: v2 :: v3 :: some (.int x) :: l) st M = lim cal sc 6 cX6_copy ret 76 (v0 :: v1 :: v2 :: v3 :: some (.int x) :: l) (.int x :: st) M := lim_step dX6_copy_74
theorem sX6_copy_76 : lim cal sc 6 cX6_copy ret 76 lv (.int x :: st) M = if x < 0 then lim cal sc 6 cX6_copy ret 119 lv st M else lim cal sc 6 cX6_copy ret 79 lv st M := (lim_step dX6_copy_76).trans (e_iflt (t := 119) (by decide))
theorem sX6_copy_79 : lim cal sc 6 cX6_copy ret 79 (v0 :: v1 :: v2 :: v3 :: v4 :: some (.int x) :: l) st M = lim cal sc 6 cX6_copy ret 81 (v0 :: v1 :: v2 :: v3 :: v4 :: some (.int x) :: l) (.int x :: st) M := lim_step dX6_copy_79
theorem sX6_copy_81 : lim cal sc 6 cX6_copy ret 81 lv (.int x :: st) M = if x < 0 then lim cal sc 6 cX6_copy ret 119 lv st M else lim cal sc 6 cX6_copy ret 84 lv st M := (lim_step dX6_copy_81).trans (e_iflt (t := 119) (by decide))
theorem sX6_copy_84 : lim cal sc 6 cX6_copy ret 84 (v0 :: v1 :: some (.int x) :: l) st M = lim cal sc 6 cX6_copy ret 85 (v0 :: v1 :: some (.int x) :: l) (.int x :: st) M := lim_step dX6_copy_84
theorem sX6_copy_85 : lim cal sc 6 cX6_copy ret 85 lv (.int x :: st) M = lim cal sc 6 cX6_copy ret 86 lv (.long x.toInt64 :: st) M := lim_step dX6_copy_85
theorem sX6_copy_86 : lim cal sc 6 cX6_copy ret 86 (v0 :: v1 :: v2 :: v3 :: v4 :: some (.int x) :: l) st M = lim cal sc 6 cX6_copy ret 88 (v0 :: v1 :: v2 :: v3 :: v4 :: some (.int x) :: l) (.int x :: st) M := lim_step dX6_copy_86
theorem sX6_copy_88 : lim cal sc 6 cX6_copy ret 88 lv (.int x :: st) M = lim cal sc 6 cX6_copy ret 89 lv (.long x.toInt64 :: st) M := lim_step dX6_copy_88
theorem sX6_copy_89 : ∀ {p q : Int64}, lim cal sc 6 cX6_copy ret 89 lv (.long q :: .long p :: st) M = lim cal sc 6 cX6_copy ret 90 lv (.long (p + q) :: st) M := fun {_ _} => lim_step dX6_copy_89
theorem sX6_copy_90 : lim cal sc 6 cX6_copy ret 90 (some (.ref h) :: l) st M = lim cal sc 6 cX6_copy ret 91 (some (.ref h) :: l) (.ref h :: st) M := lim_step dX6_copy_90
theorem sX6_copy_91 : lim cal sc 6 cX6_copy ret 91 lv (.ref h :: st) M = opK (slotV 5 28 h M) fun q => lim cal sc 6 cX6_copy ret 94 lv (q :: st) M := (lim_step dX6_copy_91).trans (e_get (by decide) rf_6_60)
theorem sX6_copy_94 : lim cal sc 6 cX6_copy ret 94 (v0 :: some (.int x) :: l) st M = lim cal sc 6 cX6_copy ret 95 (v0 :: some (.int x) :: l) (.int x :: st) M := lim_step dX6_copy_94
theorem sX6_copy_95 : lim cal sc 6 cX6_copy ret 95 lv (.int x :: .ref h :: st) M = opK (arrV9 sc h M) fun q => guK (inb x q.1) (lim cal sc 6 cX6_copy ret 96 lv (.int (q.2 x.toNatClampNeg) :: st) M) := (lim_step dX6_copy_95).trans (e_iald)
theorem sX6_copy_96 : lim cal sc 6 cX6_copy ret 96 lv (.int x :: st) M = lim cal sc 6 cX6_copy ret 97 lv (.long x.toInt64 :: st) M := lim_step dX6_copy_96
theorem sX6_copy_97 : ∀ {p q : Int64}, lim cal sc 6 cX6_copy ret 97 lv (.long q :: .long p :: st) M = lim cal sc 6 cX6_copy ret 98 lv (.int (lg_cmp p q) :: st) M := fun {_ _} => lim_step dX6_copy_97
theorem sX6_copy_98 : lim cal sc 6 cX6_copy ret 98 lv (.int x :: st) M = if 0 < x then lim cal sc 6 cX6_copy ret 119 lv st M else lim cal sc 6 cX6_copy ret 101 lv st M := (lim_step dX6_copy_98).trans (e_ifgt (t := 119) (by decide))
theorem sX6_copy_101 : lim cal sc 6 cX6_copy ret 101 (v0 :: v1 :: v2 :: v3 :: some (.int x) :: l) st M = lim cal sc 6 cX6_copy ret 103 (v0 :: v1 :: v2 :: v3 :: some (.int x) :: l) (.int x :: st) M := lim_step dX6_copy_101
theorem sX6_copy_103 : lim cal sc 6 cX6_copy ret 103 lv (.int x :: st) M = lim cal sc 6 cX6_copy ret 104 lv (.long x.toInt64 :: st) M := lim_step dX6_copy_103
theorem sX6_copy_104 : lim cal sc 6 cX6_copy ret 104 (v0 :: v1 :: v2 :: v3 :: v4 :: some (.int x) :: l) st M = lim cal sc 6 cX6_copy ret 106 (v0 :: v1 :: v2 :: v3 :: v4 :: some (.int x) :: l) (.int x :: st) M := lim_step dX6_copy_104
theorem sX6_copy_106 : lim cal sc 6 cX6_copy ret 106 lv (.int x :: st) M = lim cal sc 6 cX6_copy ret 107 lv (.long x.toInt64 :: st) M := lim_step dX6_copy_106
theorem sX6_copy_107 : ∀ {p q : Int64}, lim cal sc 6 cX6_copy ret 107 lv (.long q :: .long p :: st) M = lim cal sc 6 cX6_copy ret 108 lv (.long (p + q) :: st) M := fun {_ _} => lim_step dX6_copy_107
theorem sX6_copy_108 : lim cal sc 6 cX6_copy ret 108 (some (.ref h) :: l) st M = lim cal sc 6 cX6_copy ret 109 (some (.ref h) :: l) (.ref h :: st) M := lim_step dX6_copy_108
theorem sX6_copy_109 : lim cal sc 6 cX6_copy ret 109 lv (.ref h :: st) M = opK (slotV 5 28 h M) fun q => lim cal sc 6 cX6_copy ret 112 lv (q :: st) M := (lim_step dX6_copy_109).trans (e_get (by decide) rf_6_60)
theorem sX6_copy_112 : lim cal sc 6 cX6_copy ret 112 (v0 :: v1 :: v2 :: some (.int x) :: l) st M = lim cal sc 6 cX6_copy ret 113 (v0 :: v1 :: v2 :: some (.int x) :: l) (.int x :: st) M := lim_step dX6_copy_112
theorem sX6_copy_113 : lim cal sc 6 cX6_copy ret 113 lv (.int x :: .ref h :: st) M = opK (arrV9 sc h M) fun q => guK (inb x q.1) (lim cal sc 6 cX6_copy ret 114 lv (.int (q.2 x.toNatClampNeg) :: st) M) := (lim_step dX6_copy_113).trans (e_iald)
theorem sX6_copy_114 : lim cal sc 6 cX6_copy ret 114 lv (.int x :: st) M = lim cal sc 6 cX6_copy ret 115 lv (.long x.toInt64 :: st) M := lim_step dX6_copy_114
theorem sX6_copy_115 : ∀ {p q : Int64}, lim cal sc 6 cX6_copy ret 115 lv (.long q :: .long p :: st) M = lim cal sc 6 cX6_copy ret 116 lv (.int (lg_cmp p q) :: st) M := fun {_ _} => lim_step dX6_copy_115
theorem sX6_copy_116 : lim cal sc 6 cX6_copy ret 116 lv (.int x :: st) M = if x ≤ 0 then lim cal sc 6 cX6_copy ret 126 lv st M else lim cal sc 6 cX6_copy ret 119 lv st M := (lim_step dX6_copy_116).trans (e_ifle (t := 126) (by decide))
theorem sX6_copy_119 : lim cal sc 6 cX6_copy ret 119 (some (.ref h) :: l) st M = lim cal sc 6 cX6_copy ret 120 (some (.ref h) :: l) (.ref h :: st) M := lim_step dX6_copy_119
theorem sX6_copy_120 : lim cal sc 6 cX6_copy ret 120 lv st M = lim cal sc 6 cX6_copy ret 122 lv (.int (-1000001) :: st) M := (lim_step dX6_copy_120).trans (e_ldc rc_6_69)
theorem sX6_copy_122 : lim cal sc 6 cX6_copy ret 122 lv (a1 :: .ref h :: st) M = guK (isCl 5 h) (guK (rk 8 st) (calK (cal 137 [.ref h, a1] M) fun q M' => lim cal sc 6 cX6_copy ret 125 lv (q.toList ++ st) M')) := (lim_step dX6_copy_122).trans (e_virt1 rm_6_86 mq_137)
theorem sX6_copy_125 : lim cal sc 6 cX6_copy (some .int) 125 lv [.int x] M = some (some (.int x), M) := (lim_step dX6_copy_125).trans (e_iret)
theorem sX6_copy_126 : lim cal sc 6 cX6_copy ret 126 lv st M = lim cal sc 6 cX6_copy ret 127 lv (.int 0 :: st) M := (lim_step dX6_copy_126).trans (e_ic k_i_0)
theorem sX6_copy_127 : lim cal sc 6 cX6_copy ret 127 (v0 :: v1 :: v2 :: v3 :: v4 :: v5 :: v :: l) (.int x :: st) M = lim cal sc 6 cX6_copy ret 129 (v0 :: v1 :: v2 :: v3 :: v4 :: v5 :: some (.int x) :: l) st M := (lim_step dX6_copy_127).trans (e_ist6)
theorem sX6_copy_129 : lim cal sc 6 cX6_copy ret 129 (v0 :: v1 :: v2 :: v3 :: v4 :: v5 :: some (.int x) :: l) st M = lim cal sc 6 cX6_copy ret 131 (v0 :: v1 :: v2 :: v3 :: v4 :: v5 :: some (.int x) :: l) (.int x :: st) M := lim_step dX6_copy_129
theorem sX6_copy_131 : lim cal sc 6 cX6_copy ret 131 (v0 :: v1 :: v2 :: v3 :: v4 :: some (.int x) :: l) st M = lim cal sc 6 cX6_copy ret 133 (v0 :: v1 :: v2 :: v3 :: v4 :: some (.int x) :: l) (.int x :: st) M := lim_step dX6_copy_131
theorem sX6_copy_133 : lim cal sc 6 cX6_copy ret 133 lv (.int y :: .int x :: st) M = if y ≤ x then lim cal sc 6 cX6_copy ret 163 lv st M else lim cal sc 6 cX6_copy ret 136 lv st M := (lim_step dX6_copy_133).trans (e_cmpge (t := 163) (by decide))
theorem sX6_copy_136 : lim cal sc 6 cX6_copy ret 136 (some (.ref h) :: l) st M = lim cal sc 6 cX6_copy ret 137 (some (.ref h) :: l) (.ref h :: st) M := lim_step dX6_copy_136
theorem sX6_copy_137 : lim cal sc 6 cX6_copy ret 137 lv (.ref h :: st) M = opK (slotV 5 30 h M) fun q => lim cal sc 6 cX6_copy ret 140 lv (q :: st) M := (lim_step dX6_copy_137).trans (e_get (by decide) rf_6_66)
theorem sX6_copy_140 : lim cal sc 6 cX6_copy ret 140 (v0 :: v1 :: v2 :: v3 :: v4 :: v5 :: some (.int x) :: l) st M = lim cal sc 6 cX6_copy ret 142 (v0 :: v1 :: v2 :: v3 :: v4 :: v5 :: some (.int x) :: l) (.int x :: st) M := lim_step dX6_copy_140
theorem sX6_copy_142 : lim cal sc 6 cX6_copy ret 142 (some (.ref h) :: l) st M = lim cal sc 6 cX6_copy ret 143 (some (.ref h) :: l) (.ref h :: st) M := lim_step dX6_copy_142
theorem sX6_copy_143 : lim cal sc 6 cX6_copy ret 143 lv (.ref h :: st) M = opK (slotV 5 29 h M) fun q => lim cal sc 6 cX6_copy ret 146 lv (q :: st) M := (lim_step dX6_copy_143).trans (e_get (by decide) rf_6_63)
theorem sX6_copy_146 : lim cal sc 6 cX6_copy ret 146 lv st M = lim cal sc 6 cX6_copy ret 148 lv (.int 40 :: st) M := (lim_step dX6_copy_146).trans (e_bi k_b_40)
theorem sX6_copy_148 : lim cal sc 6 cX6_copy ret 148 (v0 :: some (.int x) :: l) st M = lim cal sc 6 cX6_copy ret 149 (v0 :: some (.int x) :: l) (.int x :: st) M := lim_step dX6_copy_148
theorem sX6_copy_149 : lim cal sc 6 cX6_copy ret 149 lv (.int y :: .int x :: st) M = lim cal sc 6 cX6_copy ret 150 lv (.int (x * y) :: st) M := lim_step dX6_copy_149
theorem sX6_copy_150 : lim cal sc 6 cX6_copy ret 150 (v0 :: v1 :: some (.int x) :: l) st M = lim cal sc 6 cX6_copy ret 151 (v0 :: v1 :: some (.int x) :: l) (.int x :: st) M := lim_step dX6_copy_150
theorem sX6_copy_151 : lim cal sc 6 cX6_copy ret 151 lv (.int y :: .int x :: st) M = lim cal sc 6 cX6_copy ret 152 lv (.int (x + y) :: st) M := lim_step dX6_copy_151
theorem sX6_copy_152 : lim cal sc 6 cX6_copy ret 152 (v0 :: v1 :: v2 :: v3 :: v4 :: v5 :: some (.int x) :: l) st M = lim cal sc 6 cX6_copy ret 154 (v0 :: v1 :: v2 :: v3 :: v4 :: v5 :: some (.int x) :: l) (.int x :: st) M := lim_step dX6_copy_152
theorem sX6_copy_154 : lim cal sc 6 cX6_copy ret 154 lv (.int y :: .int x :: st) M = lim cal sc 6 cX6_copy ret 155 lv (.int (x + y) :: st) M := lim_step dX6_copy_154
theorem sX6_copy_155 : lim cal sc 6 cX6_copy ret 155 lv (.int x :: .ref h :: st) M = opK (arrV9 sc h M) fun q => guK (inb x q.1) (lim cal sc 6 cX6_copy ret 156 lv (.int (q.2 x.toNatClampNeg) :: st) M) := (lim_step dX6_copy_155).trans (e_iald)
theorem sX6_copy_156 : lim cal sc 6 cX6_copy ret 156 lv (.int y :: .int x :: .ref h :: st) M = opK (arrN h) fun q => guK (inb x q) (lim cal sc 6 cX6_copy ret 157 lv st (mset M h x.toNatClampNeg y)) := (lim_step dX6_copy_156).trans (e_iast)
theorem sX6_copy_157 : lim cal sc 6 cX6_copy ret 157 (v0 :: v1 :: v2 :: v3 :: v4 :: v5 :: some (.int x) :: l) st M = lim cal sc 6 cX6_copy ret 160 (v0 :: v1 :: v2 :: v3 :: v4 :: v5 :: some (.int (x + 1)) :: l) st M := (lim_step dX6_copy_157).trans (e_inc6 k_i_1)
theorem sX6_copy_160 : lim cal sc 6 cX6_copy ret 160 lv st M = lim cal sc 6 cX6_copy ret 129 lv st M := (lim_step dX6_copy_160).trans (e_goto (t := 129) (by decide))
theorem sX6_copy_163 : lim cal sc 6 cX6_copy ret 163 lv st M = lim cal sc 6 cX6_copy ret 164 lv (.int 0 :: st) M := (lim_step dX6_copy_163).trans (e_ic k_i_0)
theorem sX6_copy_164 : lim cal sc 6 cX6_copy ret 164 (v0 :: v1 :: v2 :: v3 :: v4 :: v5 :: v :: l) (.int x :: st) M = lim cal sc 6 cX6_copy ret 166 (v0 :: v1 :: v2 :: v3 :: v4 :: v5 :: some (.int x) :: l) st M := (lim_step dX6_copy_164).trans (e_ist6)
theorem sX6_copy_166 : lim cal sc 6 cX6_copy ret 166 (v0 :: v1 :: v2 :: v3 :: v4 :: v5 :: some (.int x) :: l) st M = lim cal sc 6 cX6_copy ret 168 (v0 :: v1 :: v2 :: v3 :: v4 :: v5 :: some (.int x) :: l) (.int x :: st) M := lim_step dX6_copy_166
theorem sX6_copy_168 : lim cal sc 6 cX6_copy ret 168 (v0 :: v1 :: v2 :: v3 :: v4 :: some (.int x) :: l) st M = lim cal sc 6 cX6_copy ret 170 (v0 :: v1 :: v2 :: v3 :: v4 :: some (.int x) :: l) (.int x :: st) M := lim_step dX6_copy_168
theorem sX6_copy_170 : lim cal sc 6 cX6_copy ret 170 lv (.int y :: .int x :: st) M = if y ≤ x then lim cal sc 6 cX6_copy ret 201 lv st M else lim cal sc 6 cX6_copy ret 173 lv st M := (lim_step dX6_copy_170).trans (e_cmpge (t := 201) (by decide))
theorem sX6_copy_173 : lim cal sc 6 cX6_copy ret 173 (some (.ref h) :: l) st M = lim cal sc 6 cX6_copy ret 174 (some (.ref h) :: l) (.ref h :: st) M := lim_step dX6_copy_173
theorem sX6_copy_174 : lim cal sc 6 cX6_copy ret 174 lv (.ref h :: st) M = opK (slotV 5 29 h M) fun q => lim cal sc 6 cX6_copy ret 177 lv (q :: st) M := (lim_step dX6_copy_174).trans (e_get (by decide) rf_6_63)
theorem sX6_copy_177 : lim cal sc 6 cX6_copy ret 177 lv st M = lim cal sc 6 cX6_copy ret 179 lv (.int 40 :: st) M := (lim_step dX6_copy_177).trans (e_bi k_b_40)
theorem sX6_copy_179 : lim cal sc 6 cX6_copy ret 179 (v0 :: v1 :: v2 :: some (.int x) :: l) st M = lim cal sc 6 cX6_copy ret 180 (v0 :: v1 :: v2 :: some (.int x) :: l) (.int x :: st) M := lim_step dX6_copy_179
theorem sX6_copy_180 : lim cal sc 6 cX6_copy ret 180 lv (.int y :: .int x :: st) M = lim cal sc 6 cX6_copy ret 181 lv (.int (x * y) :: st) M := lim_step dX6_copy_180
theorem sX6_copy_181 : lim cal sc 6 cX6_copy ret 181 (v0 :: v1 :: v2 :: v3 :: some (.int x) :: l) st M = lim cal sc 6 cX6_copy ret 183 (v0 :: v1 :: v2 :: v3 :: some (.int x) :: l) (.int x :: st) M := lim_step dX6_copy_181
theorem sX6_copy_183 : lim cal sc 6 cX6_copy ret 183 lv (.int y :: .int x :: st) M = lim cal sc 6 cX6_copy ret 184 lv (.int (x + y) :: st) M := lim_step dX6_copy_183
theorem sX6_copy_184 : lim cal sc 6 cX6_copy ret 184 (v0 :: v1 :: v2 :: v3 :: v4 :: v5 :: some (.int x) :: l) st M = lim cal sc 6 cX6_copy ret 186 (v0 :: v1 :: v2 :: v3 :: v4 :: v5 :: some (.int x) :: l) (.int x :: st) M := lim_step dX6_copy_184
theorem sX6_copy_186 : lim cal sc 6 cX6_copy ret 186 lv (.int y :: .int x :: st) M = lim cal sc 6 cX6_copy ret 187 lv (.int (x + y) :: st) M := lim_step dX6_copy_186
theorem sX6_copy_187 : lim cal sc 6 cX6_copy ret 187 (some (.ref h) :: l) st M = lim cal sc 6 cX6_copy ret 188 (some (.ref h) :: l) (.ref h :: st) M := lim_step dX6_copy_187
theorem sX6_copy_188 : lim cal sc 6 cX6_copy ret 188 lv (.ref h :: st) M = opK (slotV 5 30 h M) fun q => lim cal sc 6 cX6_copy ret 191 lv (q :: st) M := (lim_step dX6_copy_188).trans (e_get (by decide) rf_6_66)
theorem sX6_copy_191 : lim cal sc 6 cX6_copy ret 191 (v0 :: v1 :: v2 :: v3 :: v4 :: v5 :: some (.int x) :: l) st M = lim cal sc 6 cX6_copy ret 193 (v0 :: v1 :: v2 :: v3 :: v4 :: v5 :: some (.int x) :: l) (.int x :: st) M := lim_step dX6_copy_191
theorem sX6_copy_193 : lim cal sc 6 cX6_copy ret 193 lv (.int x :: .ref h :: st) M = opK (arrV9 sc h M) fun q => guK (inb x q.1) (lim cal sc 6 cX6_copy ret 194 lv (.int (q.2 x.toNatClampNeg) :: st) M) := (lim_step dX6_copy_193).trans (e_iald)
theorem sX6_copy_194 : lim cal sc 6 cX6_copy ret 194 lv (.int y :: .int x :: .ref h :: st) M = opK (arrN h) fun q => guK (inb x q) (lim cal sc 6 cX6_copy ret 195 lv st (mset M h x.toNatClampNeg y)) := (lim_step dX6_copy_194).trans (e_iast)
theorem sX6_copy_195 : lim cal sc 6 cX6_copy ret 195 (v0 :: v1 :: v2 :: v3 :: v4 :: v5 :: some (.int x) :: l) st M = lim cal sc 6 cX6_copy ret 198 (v0 :: v1 :: v2 :: v3 :: v4 :: v5 :: some (.int (x + 1)) :: l) st M := (lim_step dX6_copy_195).trans (e_inc6 k_i_1)
theorem sX6_copy_198 : lim cal sc 6 cX6_copy ret 198 lv st M = lim cal sc 6 cX6_copy ret 166 lv st M := (lim_step dX6_copy_198).trans (e_goto (t := 166) (by decide))
theorem sX6_copy_201 : lim cal sc 6 cX6_copy ret 201 (v0 :: v1 :: v2 :: v3 :: v4 :: some (.int x) :: l) st M = lim cal sc 6 cX6_copy ret 203 (v0 :: v1 :: v2 :: v3 :: v4 :: some (.int x) :: l) (.int x :: st) M := lim_step dX6_copy_201
theorem sX6_copy_203 : lim cal sc 6 cX6_copy (some .int) 203 lv [.int x] M = some (some (.int x), M) := (lim_step dX6_copy_203).trans (e_iret)
theorem sX6_load_0 : lim cal sc 6 cX6_load ret 0 (v0 :: some (.int x) :: l) st M = lim cal sc 6 cX6_load ret 1 (v0 :: some (.int x) :: l) (.int x :: st) M := lim_step dX6_load_0
theorem sX6_load_1 : lim cal sc 6 cX6_load ret 1 lv (a1 :: st) M = guK (rk 8 st) (calK (cal 235 [a1] M) fun q M' => lim cal sc 6 cX6_load ret 4 lv (q.toList ++ st) M') := (lim_step dX6_load_1).trans (e_stat1 rm_6_360)
theorem sX6_load_4 : lim cal sc 6 cX6_load ret 4 lv (.int x :: st) M = if x = 0 then lim cal sc 6 cX6_load ret 7 lv st M else lim cal sc 6 cX6_load ret 14 lv st M := (lim_step dX6_load_4).trans (e_ifne (t := 14) (by decide))
theorem sX6_load_7 : lim cal sc 6 cX6_load ret 7 (some (.ref h) :: l) st M = lim cal sc 6 cX6_load ret 8 (some (.ref h) :: l) (.ref h :: st) M := lim_step dX6_load_7
theorem sX6_load_8 : lim cal sc 6 cX6_load ret 8 lv st M = lim cal sc 6 cX6_load ret 10 lv (.int (-1000001) :: st) M := (lim_step dX6_load_8).trans (e_ldc rc_6_69)
theorem sX6_load_10 : lim cal sc 6 cX6_load ret 10 lv (a1 :: .ref h :: st) M = guK (isCl 5 h) (guK (rk 8 st) (calK (cal 137 [.ref h, a1] M) fun q M' => lim cal sc 6 cX6_load ret 13 lv (q.toList ++ st) M')) := (lim_step dX6_load_10).trans (e_virt1 rm_6_86 mq_137)
theorem sX6_load_13 : lim cal sc 6 cX6_load (some .int) 13 lv [.int x] M = some (some (.int x), M) := (lim_step dX6_load_13).trans (e_iret)
theorem sX6_load_14 : lim cal sc 6 cX6_load ret 14 (some (.ref h) :: l) st M = lim cal sc 6 cX6_load ret 15 (some (.ref h) :: l) (.ref h :: st) M := lim_step dX6_load_14
theorem sX6_load_15 : lim cal sc 6 cX6_load ret 15 lv (.ref h :: st) M = opK (slotV 5 27 h M) fun q => lim cal sc 6 cX6_load ret 18 lv (q :: st) M := (lim_step dX6_load_15).trans (e_get (by decide) rf_6_57)
theorem sX6_load_18 : lim cal sc 6 cX6_load ret 18 (v0 :: some (.int x) :: l) st M = lim cal sc 6 cX6_load ret 19 (v0 :: some (.int x) :: l) (.int x :: st) M := lim_step dX6_load_18
theorem sX6_load_19 : lim cal sc 6 cX6_load ret 19 lv (.int x :: .ref h :: st) M = opK (arrV9 sc h M) fun q => guK (inb x q.1) (lim cal sc 6 cX6_load ret 20 lv (.int (q.2 x.toNatClampNeg) :: st) M) := (lim_step dX6_load_19).trans (e_iald)
theorem sX6_load_20 : lim cal sc 6 cX6_load ret 20 lv (.int x :: st) M = if x = 0 then lim cal sc 6 cX6_load ret 23 lv st M else lim cal sc 6 cX6_load ret 31 lv st M := (lim_step dX6_load_20).trans (e_ifne (t := 31) (by decide))
theorem sX6_load_23 : lim cal sc 6 cX6_load ret 23 (some (.ref h) :: l) st M = lim cal sc 6 cX6_load ret 24 (some (.ref h) :: l) (.ref h :: st) M := lim_step dX6_load_23
theorem sX6_load_24 : lim cal sc 6 cX6_load ret 24 lv st M = lim cal sc 6 cX6_load ret 27 lv (.int (-1000006) :: st) M := (lim_step dX6_load_24).trans (e_ldcw rc_6_358)
theorem sX6_load_27 : lim cal sc 6 cX6_load ret 27 lv (a1 :: .ref h :: st) M = guK (isCl 5 h) (guK (rk 8 st) (calK (cal 137 [.ref h, a1] M) fun q M' => lim cal sc 6 cX6_load ret 30 lv (q.toList ++ st) M')) := (lim_step dX6_load_27).trans (e_virt1 rm_6_86 mq_137)
theorem sX6_load_30 : lim cal sc 6 cX6_load (some .int) 30 lv [.int x] M = some (some (.int x), M) := (lim_step dX6_load_30).trans (e_iret)
theorem sX6_load_31 : lim cal sc 6 cX6_load ret 31 lv st M = lim cal sc 6 cX6_load ret 32 lv (.int 0 :: st) M := (lim_step dX6_load_31).trans (e_ic k_i_0)
theorem sX6_load_32 : lim cal sc 6 cX6_load ret 32 (v0 :: v1 :: v :: l) (.int x :: st) M = lim cal sc 6 cX6_load ret 33 (v0 :: v1 :: some (.int x) :: l) st M := (lim_step dX6_load_32).trans (e_istn2)
theorem sX6_load_33 : lim cal sc 6 cX6_load ret 33 (v0 :: v1 :: some (.int x) :: l) st M = lim cal sc 6 cX6_load ret 34 (v0 :: v1 :: some (.int x) :: l) (.int x :: st) M := lim_step dX6_load_33
theorem sX6_load_34 : lim cal sc 6 cX6_load ret 34 (some (.ref h) :: l) st M = lim cal sc 6 cX6_load ret 35 (some (.ref h) :: l) (.ref h :: st) M := lim_step dX6_load_34
theorem sX6_load_35 : lim cal sc 6 cX6_load ret 35 lv (.ref h :: st) M = opK (slotV 5 28 h M) fun q => lim cal sc 6 cX6_load ret 38 lv (q :: st) M := (lim_step dX6_load_35).trans (e_get (by decide) rf_6_60)
theorem sX6_load_38 : lim cal sc 6 cX6_load ret 38 (v0 :: some (.int x) :: l) st M = lim cal sc 6 cX6_load ret 39 (v0 :: some (.int x) :: l) (.int x :: st) M := lim_step dX6_load_38
theorem sX6_load_39 : lim cal sc 6 cX6_load ret 39 lv (.int x :: .ref h :: st) M = opK (arrV9 sc h M) fun q => guK (inb x q.1) (lim cal sc 6 cX6_load ret 40 lv (.int (q.2 x.toNatClampNeg) :: st) M) := (lim_step dX6_load_39).trans (e_iald)
theorem sX6_load_40 : lim cal sc 6 cX6_load ret 40 lv (.int y :: .int x :: st) M = if y ≤ x then lim cal sc 6 cX6_load ret 98 lv st M else lim cal sc 6 cX6_load ret 43 lv st M := (lim_step dX6_load_40).trans (e_cmpge (t := 98) (by decide))
theorem sX6_load_43 : lim cal sc 6 cX6_load ret 43 (some (.ref h) :: l) st M = lim cal sc 6 cX6_load ret 44 (some (.ref h) :: l) (.ref h :: st) M := lim_step dX6_load_43
theorem sX6_load_44 : lim cal sc 6 cX6_load ret 44 (v0 :: v1 :: some (.int x) :: l) st M = lim cal sc 6 cX6_load ret 45 (v0 :: v1 :: some (.int x) :: l) (.int x :: st) M := lim_step dX6_load_44
theorem sX6_load_45 : lim cal sc 6 cX6_load ret 45 lv (a1 :: .ref h :: st) M = guK (isCl 5 h) (guK (rk 8 st) (calK (cal 141 [.ref h, a1] M) fun q M' => lim cal sc 6 cX6_load ret 48 lv (q.toList ++ st) M')) := (lim_step dX6_load_45).trans (e_virt1 rm_6_110 mq_141)
theorem sX6_load_48 : lim cal sc 6 cX6_load ret 48 lv (.int x :: st) M = if x = 0 then lim cal sc 6 cX6_load ret 98 lv st M else lim cal sc 6 cX6_load ret 51 lv st M := (lim_step dX6_load_48).trans (e_ifeq (t := 98) (by decide))
theorem sX6_load_51 : lim cal sc 6 cX6_load ret 51 (some (.ref h) :: l) st M = lim cal sc 6 cX6_load ret 52 (some (.ref h) :: l) (.ref h :: st) M := lim_step dX6_load_51
theorem sX6_load_52 : lim cal sc 6 cX6_load ret 52 lv (.ref h :: st) M = opK (slotV 5 29 h M) fun q => lim cal sc 6 cX6_load ret 55 lv (q :: st) M := (lim_step dX6_load_52).trans (e_get (by decide) rf_6_63)
theorem sX6_load_55 : lim cal sc 6 cX6_load ret 55 lv st M = lim cal sc 6 cX6_load ret 57 lv (.int 40 :: st) M := (lim_step dX6_load_55).trans (e_bi k_b_40)
theorem sX6_load_57 : lim cal sc 6 cX6_load ret 57 (v0 :: some (.int x) :: l) st M = lim cal sc 6 cX6_load ret 58 (v0 :: some (.int x) :: l) (.int x :: st) M := lim_step dX6_load_57
theorem sX6_load_58 : lim cal sc 6 cX6_load ret 58 lv (.int y :: .int x :: st) M = lim cal sc 6 cX6_load ret 59 lv (.int (x * y) :: st) M := lim_step dX6_load_58
theorem sX6_load_59 : lim cal sc 6 cX6_load ret 59 (v0 :: v1 :: some (.int x) :: l) st M = lim cal sc 6 cX6_load ret 60 (v0 :: v1 :: some (.int x) :: l) (.int x :: st) M := lim_step dX6_load_59
theorem sX6_load_60 : lim cal sc 6 cX6_load ret 60 lv (.int y :: .int x :: st) M = lim cal sc 6 cX6_load ret 61 lv (.int (x + y) :: st) M := lim_step dX6_load_60
theorem sX6_load_61 : lim cal sc 6 cX6_load ret 61 lv (.int x :: .ref h :: st) M = opK (arrV9 sc h M) fun q => guK (inb x q.1) (lim cal sc 6 cX6_load ret 62 lv (.int (q.2 x.toNatClampNeg) :: st) M) := (lim_step dX6_load_61).trans (e_iald)
theorem sX6_load_62 : lim cal sc 6 cX6_load ret 62 lv st M = lim cal sc 6 cX6_load ret 63 lv (.int 0 :: st) M := (lim_step dX6_load_62).trans (e_ic k_i_0)
theorem sX6_load_63 : lim cal sc 6 cX6_load ret 63 lv st M = lim cal sc 6 cX6_load ret 65 lv (.int 99 :: st) M := (lim_step dX6_load_63).trans (e_bi k_b_99)
theorem sX6_load_65 : lim cal sc 6 cX6_load ret 65 lv (a3 :: a2 :: a1 :: st) M = guK (rk 8 st) (calK (cal 136 [a1, a2, a3] M) fun q M' => lim cal sc 6 cX6_load ret 68 lv (q.toList ++ st) M') := (lim_step dX6_load_65).trans (e_stat3 rm_6_74)
theorem sX6_load_68 : lim cal sc 6 cX6_load ret 68 lv (.int x :: st) M = if x = 0 then lim cal sc 6 cX6_load ret 98 lv st M else lim cal sc 6 cX6_load ret 71 lv st M := (lim_step dX6_load_68).trans (e_ifeq (t := 98) (by decide))
theorem sX6_load_71 : lim cal sc 6 cX6_load ret 71 (some (.ref h) :: l) st M = lim cal sc 6 cX6_load ret 72 (some (.ref h) :: l) (.ref h :: st) M := lim_step dX6_load_71
theorem sX6_load_72 : lim cal sc 6 cX6_load ret 72 lv (.ref h :: st) M = opK (slotV 5 0 h M) fun q => lim cal sc 6 cX6_load ret 75 lv (q :: st) M := (lim_step dX6_load_72).trans (e_get (by decide) rf_6_9)
theorem sX6_load_75 : lim cal sc 6 cX6_load ret 75 (v0 :: v1 :: some (.int x) :: l) st M = lim cal sc 6 cX6_load ret 76 (v0 :: v1 :: some (.int x) :: l) (.int x :: st) M := lim_step dX6_load_75
theorem sX6_load_76 : lim cal sc 6 cX6_load ret 76 lv st M = lim cal sc 6 cX6_load ret 77 lv (.int 2 :: st) M := (lim_step dX6_load_76).trans (e_ic k_i_2)
theorem sX6_load_77 : lim cal sc 6 cX6_load ret 77 lv (a2 :: a1 :: st) M = guK (rk 8 st) (calK (cal 139 [a1, a2] M) fun q M' => lim cal sc 6 cX6_load ret 80 lv (q.toList ++ st) M') := (lim_step dX6_load_77).trans (e_stat2 rm_6_78)
theorem sX6_load_80 : lim cal sc 6 cX6_load ret 80 (some (.ref h) :: l) st M = lim cal sc 6 cX6_load ret 81 (some (.ref h) :: l) (.ref h :: st) M := lim_step dX6_load_80
theorem sX6_load_81 : lim cal sc 6 cX6_load ret 81 lv (.ref h :: st) M = opK (slotV 5 29 h M) fun q => lim cal sc 6 cX6_load ret 84 lv (q :: st) M := (lim_step dX6_load_81).trans (e_get (by decide) rf_6_63)
theorem sX6_load_84 : lim cal sc 6 cX6_load ret 84 lv st M = lim cal sc 6 cX6_load ret 86 lv (.int 40 :: st) M := (lim_step dX6_load_84).trans (e_bi k_b_40)
theorem sX6_load_86 : lim cal sc 6 cX6_load ret 86 (v0 :: some (.int x) :: l) st M = lim cal sc 6 cX6_load ret 87 (v0 :: some (.int x) :: l) (.int x :: st) M := lim_step dX6_load_86
theorem sX6_load_87 : lim cal sc 6 cX6_load ret 87 lv (.int y :: .int x :: st) M = lim cal sc 6 cX6_load ret 88 lv (.int (x * y) :: st) M := lim_step dX6_load_87
theorem sX6_load_88 : lim cal sc 6 cX6_load ret 88 (v0 :: v1 :: some (.int x) :: l) st M = lim cal sc 6 cX6_load ret 89 (v0 :: v1 :: some (.int x) :: l) (.int x :: st) M := lim_step dX6_load_88
theorem sX6_load_89 : lim cal sc 6 cX6_load ret 89 lv (.int y :: .int x :: st) M = lim cal sc 6 cX6_load ret 90 lv (.int (x + y) :: st) M := lim_step dX6_load_89
theorem sX6_load_90 : lim cal sc 6 cX6_load ret 90 lv (.int x :: .ref h :: st) M = opK (arrV9 sc h M) fun q => guK (inb x q.1) (lim cal sc 6 cX6_load ret 91 lv (.int (q.2 x.toNatClampNeg) :: st) M) := (lim_step dX6_load_90).trans (e_iald)
theorem sX6_load_91 : lim cal sc 6 cX6_load ret 91 lv (.int y :: .int x :: .ref h :: st) M = opK (arrN h) fun q => guK (inb x q) (lim cal sc 6 cX6_load ret 92 lv st (mset M h x.toNatClampNeg y)) := (lim_step dX6_load_91).trans (e_iast)
theorem sX6_load_92 : lim cal sc 6 cX6_load ret 92 (v0 :: v1 :: some (.int x) :: l) st M = lim cal sc 6 cX6_load ret 95 (v0 :: v1 :: some (.int (x + 1)) :: l) st M := (lim_step dX6_load_92).trans (e_inc2 k_i_1)
theorem sX6_load_95 : lim cal sc 6 cX6_load ret 95 lv st M = lim cal sc 6 cX6_load ret 33 lv st M := (lim_step dX6_load_95).trans (e_goto (t := 33) (by decide))
theorem sX6_load_98 : lim cal sc 6 cX6_load ret 98 (v0 :: v1 :: some (.int x) :: l) st M = lim cal sc 6 cX6_load ret 99 (v0 :: v1 :: some (.int x) :: l) (.int x :: st) M := lim_step dX6_load_98
theorem sX6_load_99 : lim cal sc 6 cX6_load (some .int) 99 lv [.int x] M = some (some (.int x), M) := (lim_step dX6_load_99).trans (e_iret)
theorem sX6_judge_0 : lim cal sc 6 cX6_judge ret 0 (v0 :: some (.int x) :: l) st M = lim cal sc 6 cX6_judge ret 1 (v0 :: some (.int x) :: l) (.int x :: st) M := lim_step dX6_judge_0
theorem sX6_judge_1 : lim cal sc 6 cX6_judge ret 1 lv (a1 :: st) M = guK (rk 8 st) (calK (cal 235 [a1] M) fun q M' => lim cal sc 6 cX6_judge ret 4 lv (q.toList ++ st) M') := (lim_step dX6_judge_1).trans (e_stat1 rm_6_360)
theorem sX6_judge_4 : lim cal sc 6 cX6_judge ret 4 lv (.int x :: st) M = if x = 0 then lim cal sc 6 cX6_judge ret 7 lv st M else lim cal sc 6 cX6_judge ret 14 lv st M := (lim_step dX6_judge_4).trans (e_ifne (t := 14) (by decide))
theorem sX6_judge_7 : lim cal sc 6 cX6_judge ret 7 (some (.ref h) :: l) st M = lim cal sc 6 cX6_judge ret 8 (some (.ref h) :: l) (.ref h :: st) M := lim_step dX6_judge_7
theorem sX6_judge_8 : lim cal sc 6 cX6_judge ret 8 lv st M = lim cal sc 6 cX6_judge ret 10 lv (.int (-1000001) :: st) M := (lim_step dX6_judge_8).trans (e_ldc rc_6_69)
theorem sX6_judge_10 : lim cal sc 6 cX6_judge ret 10 lv (a1 :: .ref h :: st) M = guK (isCl 5 h) (guK (rk 8 st) (calK (cal 137 [.ref h, a1] M) fun q M' => lim cal sc 6 cX6_judge ret 13 lv (q.toList ++ st) M')) := (lim_step dX6_judge_10).trans (e_virt1 rm_6_86 mq_137)
theorem sX6_judge_13 : lim cal sc 6 cX6_judge (some .int) 13 lv [.int x] M = some (some (.int x), M) := (lim_step dX6_judge_13).trans (e_iret)
theorem sX6_judge_14 : lim cal sc 6 cX6_judge ret 14 (some (.ref h) :: l) st M = lim cal sc 6 cX6_judge ret 15 (some (.ref h) :: l) (.ref h :: st) M := lim_step dX6_judge_14
theorem sX6_judge_15 : lim cal sc 6 cX6_judge ret 15 lv (.ref h :: st) M = opK (slotV 5 27 h M) fun q => lim cal sc 6 cX6_judge ret 18 lv (q :: st) M := (lim_step dX6_judge_15).trans (e_get (by decide) rf_6_57)
theorem sX6_judge_18 : lim cal sc 6 cX6_judge ret 18 (v0 :: some (.int x) :: l) st M = lim cal sc 6 cX6_judge ret 19 (v0 :: some (.int x) :: l) (.int x :: st) M := lim_step dX6_judge_18
theorem sX6_judge_19 : lim cal sc 6 cX6_judge ret 19 lv (.int x :: .ref h :: st) M = opK (arrV9 sc h M) fun q => guK (inb x q.1) (lim cal sc 6 cX6_judge ret 20 lv (.int (q.2 x.toNatClampNeg) :: st) M) := (lim_step dX6_judge_19).trans (e_iald)
theorem sX6_judge_20 : lim cal sc 6 cX6_judge ret 20 lv (.int x :: st) M = if x = 0 then lim cal sc 6 cX6_judge ret 23 lv st M else lim cal sc 6 cX6_judge ret 31 lv st M := (lim_step dX6_judge_20).trans (e_ifne (t := 31) (by decide))
theorem sX6_judge_23 : lim cal sc 6 cX6_judge ret 23 (some (.ref h) :: l) st M = lim cal sc 6 cX6_judge ret 24 (some (.ref h) :: l) (.ref h :: st) M := lim_step dX6_judge_23
theorem sX6_judge_24 : lim cal sc 6 cX6_judge ret 24 lv st M = lim cal sc 6 cX6_judge ret 27 lv (.int (-1000006) :: st) M := (lim_step dX6_judge_24).trans (e_ldcw rc_6_358)
theorem sX6_judge_27 : lim cal sc 6 cX6_judge ret 27 lv (a1 :: .ref h :: st) M = guK (isCl 5 h) (guK (rk 8 st) (calK (cal 137 [.ref h, a1] M) fun q M' => lim cal sc 6 cX6_judge ret 30 lv (q.toList ++ st) M')) := (lim_step dX6_judge_27).trans (e_virt1 rm_6_86 mq_137)
theorem sX6_judge_30 : lim cal sc 6 cX6_judge (some .int) 30 lv [.int x] M = some (some (.int x), M) := (lim_step dX6_judge_30).trans (e_iret)
theorem sX6_judge_31 : lim cal sc 6 cX6_judge ret 31 (some (.ref h) :: l) st M = lim cal sc 6 cX6_judge ret 32 (some (.ref h) :: l) (.ref h :: st) M := lim_step dX6_judge_31
theorem sX6_judge_32 : lim cal sc 6 cX6_judge ret 32 (some (.ref h) :: l) st M = lim cal sc 6 cX6_judge ret 33 (some (.ref h) :: l) (.ref h :: st) M := lim_step dX6_judge_32
theorem sX6_judge_33 : lim cal sc 6 cX6_judge ret 33 lv (.ref h :: st) M = opK (slotV 5 28 h M) fun q => lim cal sc 6 cX6_judge ret 36 lv (q :: st) M := (lim_step dX6_judge_33).trans (e_get (by decide) rf_6_60)
theorem sX6_judge_36 : lim cal sc 6 cX6_judge ret 36 (v0 :: some (.int x) :: l) st M = lim cal sc 6 cX6_judge ret 37 (v0 :: some (.int x) :: l) (.int x :: st) M := lim_step dX6_judge_36
theorem sX6_judge_37 : lim cal sc 6 cX6_judge ret 37 lv (.int x :: .ref h :: st) M = opK (arrV9 sc h M) fun q => guK (inb x q.1) (lim cal sc 6 cX6_judge ret 38 lv (.int (q.2 x.toNatClampNeg) :: st) M) := (lim_step dX6_judge_37).trans (e_iald)
theorem sX6_judge_38 : lim cal sc 6 cX6_judge ret 38 lv (a1 :: .ref h :: st) M = guK (isCl 5 h) (guK (rk 8 st) (calK (cal 163 [.ref h, a1] M) fun q M' => lim cal sc 6 cX6_judge ret 41 lv (q.toList ++ st) M')) := (lim_step dX6_judge_38).trans (e_virt1 rm_6_176 mq_163)
theorem sX6_judge_41 : lim cal sc 6 cX6_judge ret 41 lv (.int x :: st) M = if x = 0 then lim cal sc 6 cX6_judge ret 51 lv st M else lim cal sc 6 cX6_judge ret 44 lv st M := (lim_step dX6_judge_41).trans (e_ifeq (t := 51) (by decide))
theorem sX6_judge_44 : lim cal sc 6 cX6_judge ret 44 (some (.ref h) :: l) st M = lim cal sc 6 cX6_judge ret 45 (some (.ref h) :: l) (.ref h :: st) M := lim_step dX6_judge_44
theorem sX6_judge_45 : lim cal sc 6 cX6_judge ret 45 lv st M = lim cal sc 6 cX6_judge ret 47 lv (.int (-1000005) :: st) M := (lim_step dX6_judge_45).trans (e_ldc rc_6_136)
theorem sX6_judge_47 : lim cal sc 6 cX6_judge ret 47 lv (a1 :: .ref h :: st) M = guK (isCl 5 h) (guK (rk 8 st) (calK (cal 137 [.ref h, a1] M) fun q M' => lim cal sc 6 cX6_judge ret 50 lv (q.toList ++ st) M')) := (lim_step dX6_judge_47).trans (e_virt1 rm_6_86 mq_137)
theorem sX6_judge_50 : lim cal sc 6 cX6_judge (some .int) 50 lv [.int x] M = some (some (.int x), M) := (lim_step dX6_judge_50).trans (e_iret)
theorem sX6_judge_51 : lim cal sc 6 cX6_judge ret 51 (some (.ref h) :: l) st M = lim cal sc 6 cX6_judge ret 52 (some (.ref h) :: l) (.ref h :: st) M := lim_step dX6_judge_51
theorem sX6_judge_52 : lim cal sc 6 cX6_judge ret 52 lv (.ref h :: st) M = opK (slotV 5 0 h M) fun q => lim cal sc 6 cX6_judge ret 55 lv (q :: st) M := (lim_step dX6_judge_52).trans (e_get (by decide) rf_6_9)
theorem sX6_judge_55 : lim cal sc 6 cX6_judge ret 55 (some (.ref h) :: l) st M = lim cal sc 6 cX6_judge ret 56 (some (.ref h) :: l) (.ref h :: st) M := lim_step dX6_judge_55
theorem sX6_judge_56 : lim cal sc 6 cX6_judge ret 56 lv (.ref h :: st) M = opK (slotV 5 2 h M) fun q => lim cal sc 6 cX6_judge ret 59 lv (q :: st) M := (lim_step dX6_judge_56).trans (e_get (by decide) rf_6_16)
theorem sX6_judge_59 : lim cal sc 6 cX6_judge ret 59 lv (a2 :: a1 :: st) M = guK (rk 8 st) (calK (cal 171 [a1, a2] M) fun q M' => lim cal sc 6 cX6_judge ret 62 lv (q.toList ++ st) M') := (lim_step dX6_judge_59).trans (e_stat2 rm_6_70)
theorem sX6_judge_62 : lim cal sc 6 cX6_judge ret 62 lv st M = lim cal sc 6 cX6_judge ret 63 lv (.int 0 :: st) M := (lim_step dX6_judge_62).trans (e_ic k_i_0)
theorem sX6_judge_63 : lim cal sc 6 cX6_judge ret 63 (v0 :: v1 :: v :: l) (.int x :: st) M = lim cal sc 6 cX6_judge ret 64 (v0 :: v1 :: some (.int x) :: l) st M := (lim_step dX6_judge_63).trans (e_istn2)
theorem sX6_judge_64 : lim cal sc 6 cX6_judge ret 64 lv st M = lim cal sc 6 cX6_judge ret 65 lv (.int 1 :: st) M := (lim_step dX6_judge_64).trans (e_ic k_i_1)
theorem sX6_judge_65 : lim cal sc 6 cX6_judge ret 65 (v0 :: v1 :: v2 :: v :: l) (.int x :: st) M = lim cal sc 6 cX6_judge ret 66 (v0 :: v1 :: v2 :: some (.int x) :: l) st M := (lim_step dX6_judge_65).trans (e_istn3)
theorem sX6_judge_66 : lim cal sc 6 cX6_judge ret 66 (v0 :: v1 :: some (.int x) :: l) st M = lim cal sc 6 cX6_judge ret 67 (v0 :: v1 :: some (.int x) :: l) (.int x :: st) M := lim_step dX6_judge_66
theorem sX6_judge_67 : lim cal sc 6 cX6_judge ret 67 (some (.ref h) :: l) st M = lim cal sc 6 cX6_judge ret 68 (some (.ref h) :: l) (.ref h :: st) M := lim_step dX6_judge_67
theorem sX6_judge_68 : lim cal sc 6 cX6_judge ret 68 lv (.ref h :: st) M = opK (slotV 5 28 h M) fun q => lim cal sc 6 cX6_judge ret 71 lv (q :: st) M := (lim_step dX6_judge_68).trans (e_get (by decide) rf_6_60)
theorem sX6_judge_71 : lim cal sc 6 cX6_judge ret 71 (v0 :: some (.int x) :: l) st M = lim cal sc 6 cX6_judge ret 72 (v0 :: some (.int x) :: l) (.int x :: st) M := lim_step dX6_judge_71
theorem sX6_judge_72 : lim cal sc 6 cX6_judge ret 72 lv (.int x :: .ref h :: st) M = opK (arrV9 sc h M) fun q => guK (inb x q.1) (lim cal sc 6 cX6_judge ret 73 lv (.int (q.2 x.toNatClampNeg) :: st) M) := (lim_step dX6_judge_72).trans (e_iald)
theorem sX6_judge_73 : lim cal sc 6 cX6_judge ret 73 lv (.int y :: .int x :: st) M = if y ≤ x then lim cal sc 6 cX6_judge ret 134 lv st M else lim cal sc 6 cX6_judge ret 76 lv st M := (lim_step dX6_judge_73).trans (e_cmpge (t := 134) (by decide))
theorem sX6_judge_76 : lim cal sc 6 cX6_judge ret 76 (v0 :: v1 :: v2 :: some (.int x) :: l) st M = lim cal sc 6 cX6_judge ret 77 (v0 :: v1 :: v2 :: some (.int x) :: l) (.int x :: st) M := lim_step dX6_judge_76
theorem sX6_judge_77 : lim cal sc 6 cX6_judge ret 77 lv (.int x :: st) M = if x = 0 then lim cal sc 6 cX6_judge ret 134 lv st M else lim cal sc 6 cX6_judge ret 80 lv st M := (lim_step dX6_judge_77).trans (e_ifeq (t := 134) (by decide))
theorem sX6_judge_80 : lim cal sc 6 cX6_judge ret 80 (some (.ref h) :: l) st M = lim cal sc 6 cX6_judge ret 81 (some (.ref h) :: l) (.ref h :: st) M := lim_step dX6_judge_80
theorem sX6_judge_81 : lim cal sc 6 cX6_judge ret 81 lv (.ref h :: st) M = guK (isCl 5 h) (guK (rk 8 st) (calK (cal 165 [.ref h] M) fun q M' => lim cal sc 6 cX6_judge ret 84 lv (q.toList ++ st) M')) := (lim_step dX6_judge_81).trans (e_virt0 rm_6_173 mq_165)
theorem sX6_judge_84 : lim cal sc 6 cX6_judge ret 84 (v0 :: v1 :: v2 :: v3 :: v :: l) (.int x :: st) M = lim cal sc 6 cX6_judge ret 86 (v0 :: v1 :: v2 :: v3 :: some (.int x) :: l) st M := (lim_step dX6_judge_84).trans (e_ist4)
theorem sX6_judge_86 : lim cal sc 6 cX6_judge ret 86 (some (.ref h) :: l) st M = lim cal sc 6 cX6_judge ret 87 (some (.ref h) :: l) (.ref h :: st) M := lim_step dX6_judge_86
theorem sX6_judge_87 : lim cal sc 6 cX6_judge ret 87 lv (.ref h :: st) M = opK (slotV 5 29 h M) fun q => lim cal sc 6 cX6_judge ret 90 lv (q :: st) M := (lim_step dX6_judge_87).trans (e_get (by decide) rf_6_63)
theorem sX6_judge_90 : lim cal sc 6 cX6_judge ret 90 lv st M = lim cal sc 6 cX6_judge ret 92 lv (.int 40 :: st) M := (lim_step dX6_judge_90).trans (e_bi k_b_40)
theorem sX6_judge_92 : lim cal sc 6 cX6_judge ret 92 (v0 :: some (.int x) :: l) st M = lim cal sc 6 cX6_judge ret 93 (v0 :: some (.int x) :: l) (.int x :: st) M := lim_step dX6_judge_92
theorem sX6_judge_93 : lim cal sc 6 cX6_judge ret 93 lv (.int y :: .int x :: st) M = lim cal sc 6 cX6_judge ret 94 lv (.int (x * y) :: st) M := lim_step dX6_judge_93
theorem sX6_judge_94 : lim cal sc 6 cX6_judge ret 94 (v0 :: v1 :: some (.int x) :: l) st M = lim cal sc 6 cX6_judge ret 95 (v0 :: v1 :: some (.int x) :: l) (.int x :: st) M := lim_step dX6_judge_94
theorem sX6_judge_95 : lim cal sc 6 cX6_judge ret 95 lv (.int y :: .int x :: st) M = lim cal sc 6 cX6_judge ret 96 lv (.int (x + y) :: st) M := lim_step dX6_judge_95
theorem sX6_judge_96 : lim cal sc 6 cX6_judge ret 96 lv (.int x :: .ref h :: st) M = opK (arrV9 sc h M) fun q => guK (inb x q.1) (lim cal sc 6 cX6_judge ret 97 lv (.int (q.2 x.toNatClampNeg) :: st) M) := (lim_step dX6_judge_96).trans (e_iald)
theorem sX6_judge_97 : lim cal sc 6 cX6_judge ret 97 (some (.ref h) :: l) st M = lim cal sc 6 cX6_judge ret 98 (some (.ref h) :: l) (.ref h :: st) M := lim_step dX6_judge_97
theorem sX6_judge_98 : lim cal sc 6 cX6_judge ret 98 lv (.ref h :: st) M = opK (slotV 5 5 h M) fun q => lim cal sc 6 cX6_judge ret 101 lv (q :: st) M := (lim_step dX6_judge_98).trans (e_get (by decide) rf_6_157)
theorem sX6_judge_101 : lim cal sc 6 cX6_judge ret 101 lv (.int x :: st) M = if 0 ≤ x then lim cal sc 6 cX6_judge ret 108 lv st M else lim cal sc 6 cX6_judge ret 104 lv st M := (lim_step dX6_judge_101).trans (e_ifge (t := 108) (by decide))
theorem sX6_judge_104 : lim cal sc 6 cX6_judge ret 104 lv st M = lim cal sc 6 cX6_judge ret 105 lv (.int (-1) :: st) M := (lim_step dX6_judge_104).trans (e_ic k_i_m1)
theorem sX6_judge_105 : lim cal sc 6 cX6_judge ret 105 lv st M = lim cal sc 6 cX6_judge ret 110 lv st M := (lim_step dX6_judge_105).trans (e_goto (t := 110) (by decide))
theorem sX6_judge_108 : lim cal sc 6 cX6_judge ret 108 (v0 :: v1 :: v2 :: v3 :: some (.int x) :: l) st M = lim cal sc 6 cX6_judge ret 110 (v0 :: v1 :: v2 :: v3 :: some (.int x) :: l) (.int x :: st) M := lim_step dX6_judge_108
theorem sX6_judge_110 : lim cal sc 6 cX6_judge ret 110 lv (.int y :: .int x :: st) M = if x = y then lim cal sc 6 cX6_judge ret 113 lv st M else lim cal sc 6 cX6_judge ret 117 lv st M := (lim_step dX6_judge_110).trans (e_cmpne (t := 117) (by decide))
theorem sX6_judge_113 : lim cal sc 6 cX6_judge ret 113 lv st M = lim cal sc 6 cX6_judge ret 114 lv (.int 1 :: st) M := (lim_step dX6_judge_113).trans (e_ic k_i_1)
theorem sX6_judge_114 : lim cal sc 6 cX6_judge ret 114 lv st M = lim cal sc 6 cX6_judge ret 118 lv st M := (lim_step dX6_judge_114).trans (e_goto (t := 118) (by decide))
theorem sX6_judge_117 : lim cal sc 6 cX6_judge ret 117 lv st M = lim cal sc 6 cX6_judge ret 118 lv (.int 0 :: st) M := (lim_step dX6_judge_117).trans (e_ic k_i_0)
theorem sX6_judge_118 : lim cal sc 6 cX6_judge ret 118 (v0 :: v1 :: v2 :: v :: l) (.int x :: st) M = lim cal sc 6 cX6_judge ret 119 (v0 :: v1 :: v2 :: some (.int x) :: l) st M := (lim_step dX6_judge_118).trans (e_istn3)
theorem sX6_judge_119 : lim cal sc 6 cX6_judge ret 119 (v0 :: v1 :: some (.int x) :: l) st M = lim cal sc 6 cX6_judge ret 120 (v0 :: v1 :: some (.int x) :: l) (.int x :: st) M := lim_step dX6_judge_119
theorem sX6_judge_120 : lim cal sc 6 cX6_judge ret 120 (v0 :: v1 :: v2 :: some (.int x) :: l) st M = lim cal sc 6 cX6_judge ret 121 (v0 :: v1 :: v2 :: some (.int x) :: l) (.int x :: st) M := lim_step dX6_judge_120
theorem sX6_judge_121 : lim cal sc 6 cX6_judge ret 121 lv (.int x :: st) M = if x = 0 then lim cal sc 6 cX6_judge ret 128 lv st M else lim cal sc 6 cX6_judge ret 124 lv st M := (lim_step dX6_judge_121).trans (e_ifeq (t := 128) (by decide))
theorem sX6_judge_124 : lim cal sc 6 cX6_judge ret 124 lv st M = lim cal sc 6 cX6_judge ret 125 lv (.int 1 :: st) M := (lim_step dX6_judge_124).trans (e_ic k_i_1)
theorem sX6_judge_125 : lim cal sc 6 cX6_judge ret 125 lv st M = lim cal sc 6 cX6_judge ret 129 lv st M := (lim_step dX6_judge_125).trans (e_goto (t := 129) (by decide))
theorem sX6_judge_128 : lim cal sc 6 cX6_judge ret 128 lv st M = lim cal sc 6 cX6_judge ret 129 lv (.int 0 :: st) M := (lim_step dX6_judge_128).trans (e_ic k_i_0)
theorem sX6_judge_129 : lim cal sc 6 cX6_judge ret 129 lv (.int y :: .int x :: st) M = lim cal sc 6 cX6_judge ret 130 lv (.int (x + y) :: st) M := lim_step dX6_judge_129
theorem sX6_judge_130 : lim cal sc 6 cX6_judge ret 130 (v0 :: v1 :: v :: l) (.int x :: st) M = lim cal sc 6 cX6_judge ret 131 (v0 :: v1 :: some (.int x) :: l) st M := (lim_step dX6_judge_130).trans (e_istn2)
theorem sX6_judge_131 : lim cal sc 6 cX6_judge ret 131 lv st M = lim cal sc 6 cX6_judge ret 66 lv st M := (lim_step dX6_judge_131).trans (e_goto (t := 66) (by decide))
theorem sX6_judge_134 : lim cal sc 6 cX6_judge ret 134 (some (.ref h) :: l) st M = lim cal sc 6 cX6_judge ret 135 (some (.ref h) :: l) (.ref h :: st) M := lim_step dX6_judge_134
theorem sX6_judge_135 : lim cal sc 6 cX6_judge ret 135 (v0 :: v1 :: v2 :: some (.int x) :: l) st M = lim cal sc 6 cX6_judge ret 136 (v0 :: v1 :: v2 :: some (.int x) :: l) (.int x :: st) M := lim_step dX6_judge_135
theorem sX6_judge_136 : lim cal sc 6 cX6_judge ret 136 lv (.int x :: st) M = if x = 0 then lim cal sc 6 cX6_judge ret 143 lv st M else lim cal sc 6 cX6_judge ret 139 lv st M := (lim_step dX6_judge_136).trans (e_ifeq (t := 143) (by decide))
theorem sX6_judge_139 : lim cal sc 6 cX6_judge ret 139 lv st M = lim cal sc 6 cX6_judge ret 140 lv (.int 0 :: st) M := (lim_step dX6_judge_139).trans (e_ic k_i_0)
theorem sX6_judge_140 : lim cal sc 6 cX6_judge ret 140 lv st M = lim cal sc 6 cX6_judge ret 146 lv st M := (lim_step dX6_judge_140).trans (e_goto (t := 146) (by decide))
theorem sX6_judge_143 : lim cal sc 6 cX6_judge ret 143 lv st M = lim cal sc 6 cX6_judge ret 144 lv (.int 1 :: st) M := (lim_step dX6_judge_143).trans (e_ic k_i_1)
theorem sX6_judge_144 : lim cal sc 6 cX6_judge ret 144 (v0 :: v1 :: some (.int x) :: l) st M = lim cal sc 6 cX6_judge ret 145 (v0 :: v1 :: some (.int x) :: l) (.int x :: st) M := lim_step dX6_judge_144
theorem sX6_judge_145 : lim cal sc 6 cX6_judge ret 145 lv (.int y :: .int x :: st) M = lim cal sc 6 cX6_judge ret 146 lv (.int (x + y) :: st) M := lim_step dX6_judge_145
theorem sX6_judge_146 : lim cal sc 6 cX6_judge ret 146 lv (a1 :: .ref h :: st) M = guK (isCl 5 h) (guK (rk 8 st) (calK (cal 172 [.ref h, a1] M) fun q M' => lim cal sc 6 cX6_judge ret 149 lv (q.toList ++ st) M')) := (lim_step dX6_judge_146).trans (e_virt1 rm_6_182 mq_172)
theorem sX6_judge_149 : lim cal sc 6 cX6_judge (some .int) 149 lv [.int x] M = some (some (.int x), M) := (lim_step dX6_judge_149).trans (e_iret)
theorem sX6_image_0 : lim cal sc 6 cX6_image ret 0 (some (.ref h) :: l) st M = lim cal sc 6 cX6_image ret 1 (some (.ref h) :: l) (.ref h :: st) M := lim_step dX6_image_0
theorem sX6_image_1 : lim cal sc 6 cX6_image ret 1 lv (.ref h :: st) M = opK (slotV 5 0 h M) fun q => lim cal sc 6 cX6_image ret 4 lv (q :: st) M := (lim_step dX6_image_1).trans (e_get (by decide) rf_6_9)
theorem sX6_image_4 : lim cal sc 6 cX6_image ret 4 (some (.ref h) :: l) st M = lim cal sc 6 cX6_image ret 5 (some (.ref h) :: l) (.ref h :: st) M := lim_step dX6_image_4
theorem sX6_image_5 : lim cal sc 6 cX6_image ret 5 lv (.ref h :: st) M = opK (slotV 5 1 h M) fun q => lim cal sc 6 cX6_image ret 8 lv (q :: st) M := (lim_step dX6_image_5).trans (e_get (by decide) rf_6_13)
theorem sX6_image_8 : lim cal sc 6 cX6_image ret 8 lv (a2 :: a1 :: st) M = guK (rk 8 st) (calK (cal 171 [a1, a2] M) fun q M' => lim cal sc 6 cX6_image ret 11 lv (q.toList ++ st) M') := (lim_step dX6_image_8).trans (e_stat2 rm_6_70)
theorem sX6_image_11 : lim cal sc 6 cX6_image ret 11 (some (.ref h) :: l) st M = lim cal sc 6 cX6_image ret 12 (some (.ref h) :: l) (.ref h :: st) M := lim_step dX6_image_11
theorem sX6_image_12 : lim cal sc 6 cX6_image ret 12 lv st M = lim cal sc 6 cX6_image ret 13 lv (.int 1 :: st) M := (lim_step dX6_image_12).trans (e_ic k_i_1)
theorem sX6_image_13 : lim cal sc 6 cX6_image ret 13 lv (.int x :: .ref h :: st) M = guK (isInt 5 3 h) (guK (narB .boolean x) (lim cal sc 6 cX6_image ret 16 lv st (mset M h 3 x))) := (lim_step dX6_image_13).trans (e_putz rf_6_367 rfl)
theorem sX6_image_16 : lim cal sc 6 cX6_image ret 16 lv st M = lim cal sc 6 cX6_image ret 17 lv (.int 1 :: st) M := (lim_step dX6_image_16).trans (e_ic k_i_1)
theorem sX6_image_17 : lim cal sc 6 cX6_image (some .int) 17 lv [.int x] M = some (some (.int x), M) := (lim_step dX6_image_17).trans (e_iret)
theorem sX6_undo_0 : lim cal sc 6 cX6_undo ret 0 (some (.ref h) :: l) st M = lim cal sc 6 cX6_undo ret 1 (some (.ref h) :: l) (.ref h :: st) M := lim_step dX6_undo_0
theorem sX6_undo_1 : lim cal sc 6 cX6_undo ret 1 lv (.ref h :: st) M = opK (slotV 5 3 h M) fun q => lim cal sc 6 cX6_undo ret 4 lv (q :: st) M := (lim_step dX6_undo_1).trans (e_get (by decide) rf_6_367)
theorem sX6_undo_4 : lim cal sc 6 cX6_undo ret 4 lv (.int x :: st) M = if x = 0 then lim cal sc 6 cX6_undo ret 7 lv st M else lim cal sc 6 cX6_undo ret 14 lv st M := (lim_step dX6_undo_4).trans (e_ifne (t := 14) (by decide))
theorem sX6_undo_7 : lim cal sc 6 cX6_undo ret 7 (some (.ref h) :: l) st M = lim cal sc 6 cX6_undo ret 8 (some (.ref h) :: l) (.ref h :: st) M := lim_step dX6_undo_7
theorem sX6_undo_8 : lim cal sc 6 cX6_undo ret 8 lv st M = lim cal sc 6 cX6_undo ret 10 lv (.int (-1000004) :: st) M := (lim_step dX6_undo_8).trans (e_ldc rc_6_152)
theorem sX6_undo_10 : lim cal sc 6 cX6_undo ret 10 lv (a1 :: .ref h :: st) M = guK (isCl 5 h) (guK (rk 8 st) (calK (cal 137 [.ref h, a1] M) fun q M' => lim cal sc 6 cX6_undo ret 13 lv (q.toList ++ st) M')) := (lim_step dX6_undo_10).trans (e_virt1 rm_6_86 mq_137)
theorem sX6_undo_13 : lim cal sc 6 cX6_undo (some .int) 13 lv [.int x] M = some (some (.int x), M) := (lim_step dX6_undo_13).trans (e_iret)
theorem sX6_undo_14 : lim cal sc 6 cX6_undo ret 14 (some (.ref h) :: l) st M = lim cal sc 6 cX6_undo ret 15 (some (.ref h) :: l) (.ref h :: st) M := lim_step dX6_undo_14
theorem sX6_undo_15 : lim cal sc 6 cX6_undo ret 15 lv (.ref h :: st) M = opK (slotV 5 1 h M) fun q => lim cal sc 6 cX6_undo ret 18 lv (q :: st) M := (lim_step dX6_undo_15).trans (e_get (by decide) rf_6_13)
theorem sX6_undo_18 : lim cal sc 6 cX6_undo ret 18 (some (.ref h) :: l) st M = lim cal sc 6 cX6_undo ret 19 (some (.ref h) :: l) (.ref h :: st) M := lim_step dX6_undo_18
theorem sX6_undo_19 : lim cal sc 6 cX6_undo ret 19 lv (.ref h :: st) M = opK (slotV 5 0 h M) fun q => lim cal sc 6 cX6_undo ret 22 lv (q :: st) M := (lim_step dX6_undo_19).trans (e_get (by decide) rf_6_9)
theorem sX6_undo_22 : lim cal sc 6 cX6_undo ret 22 lv (a2 :: a1 :: st) M = guK (rk 8 st) (calK (cal 171 [a1, a2] M) fun q M' => lim cal sc 6 cX6_undo ret 25 lv (q.toList ++ st) M') := (lim_step dX6_undo_22).trans (e_stat2 rm_6_70)
theorem sX6_undo_25 : lim cal sc 6 cX6_undo ret 25 (some (.ref h) :: l) st M = lim cal sc 6 cX6_undo ret 26 (some (.ref h) :: l) (.ref h :: st) M := lim_step dX6_undo_25
theorem sX6_undo_26 : lim cal sc 6 cX6_undo ret 26 lv (.ref h :: st) M = opK (slotV 5 0 h M) fun q => lim cal sc 6 cX6_undo ret 29 lv (q :: st) M := (lim_step dX6_undo_26).trans (e_get (by decide) rf_6_9)
theorem sX6_undo_29 : lim cal sc 6 cX6_undo ret 29 lv st M = lim cal sc 6 cX6_undo ret 30 lv (.int 0 :: st) M := (lim_step dX6_undo_29).trans (e_ic k_i_0)
theorem sX6_undo_30 : lim cal sc 6 cX6_undo ret 30 lv (.int x :: .ref h :: st) M = opK (arrV9 sc h M) fun q => guK (inb x q.1) (lim cal sc 6 cX6_undo ret 31 lv (.int (q.2 x.toNatClampNeg) :: st) M) := (lim_step dX6_undo_30).trans (e_iald)
theorem sX6_undo_31 : lim cal sc 6 cX6_undo (some .int) 31 lv [.int x] M = some (some (.int x), M) := (lim_step dX6_undo_31).trans (e_iret)
theorem sX6_tear_0 : lim cal sc 6 cX6_tear ret 0 (some (.ref h) :: l) st M = lim cal sc 6 cX6_tear ret 1 (some (.ref h) :: l) (.ref h :: st) M := lim_step dX6_tear_0
theorem sX6_tear_1 : lim cal sc 6 cX6_tear ret 1 lv (.ref h :: st) M = opK (slotV 5 3 h M) fun q => lim cal sc 6 cX6_tear ret 4 lv (q :: st) M := (lim_step dX6_tear_1).trans (e_get (by decide) rf_6_367)
theorem sX6_tear_4 : lim cal sc 6 cX6_tear ret 4 lv (.int x :: st) M = if x = 0 then lim cal sc 6 cX6_tear ret 11 lv st M else lim cal sc 6 cX6_tear ret 7 lv st M := (lim_step dX6_tear_4).trans (e_ifeq (t := 11) (by decide))
theorem sX6_tear_7 : lim cal sc 6 cX6_tear ret 7 lv st M = lim cal sc 6 cX6_tear ret 8 lv (.int 1 :: st) M := (lim_step dX6_tear_7).trans (e_ic k_i_1)
theorem sX6_tear_8 : lim cal sc 6 cX6_tear ret 8 lv st M = lim cal sc 6 cX6_tear ret 12 lv st M := (lim_step dX6_tear_8).trans (e_goto (t := 12) (by decide))
theorem sX6_tear_11 : lim cal sc 6 cX6_tear ret 11 lv st M = lim cal sc 6 cX6_tear ret 12 lv (.int 0 :: st) M := (lim_step dX6_tear_11).trans (e_ic k_i_0)
theorem sX6_tear_12 : lim cal sc 6 cX6_tear ret 12 (v0 :: v :: l) (.int x :: st) M = lim cal sc 6 cX6_tear ret 13 (v0 :: some (.int x) :: l) st M := (lim_step dX6_tear_12).trans (e_istn1)
theorem sX6_tear_13 : lim cal sc 6 cX6_tear ret 13 (some (.ref h) :: l) st M = lim cal sc 6 cX6_tear ret 14 (some (.ref h) :: l) (.ref h :: st) M := lim_step dX6_tear_13
theorem sX6_tear_14 : lim cal sc 6 cX6_tear ret 14 lv st M = lim cal sc 6 cX6_tear ret 15 lv (.int 0 :: st) M := (lim_step dX6_tear_14).trans (e_ic k_i_0)
theorem sX6_tear_15 : lim cal sc 6 cX6_tear ret 15 lv (.int x :: .ref h :: st) M = guK (isInt 5 3 h) (guK (narB .boolean x) (lim cal sc 6 cX6_tear ret 18 lv st (mset M h 3 x))) := (lim_step dX6_tear_15).trans (e_putz rf_6_367 rfl)
theorem sX6_tear_18 : lim cal sc 6 cX6_tear ret 18 (v0 :: some (.int x) :: l) st M = lim cal sc 6 cX6_tear ret 19 (v0 :: some (.int x) :: l) (.int x :: st) M := lim_step dX6_tear_18
theorem sX6_tear_19 : lim cal sc 6 cX6_tear (some .int) 19 lv [.int x] M = some (some (.int x), M) := (lim_step dX6_tear_19).trans (e_iret)
theorem sX6_count_0 : lim cal sc 6 cX6_count ret 0 lv st M = lim cal sc 6 cX6_count ret 1 lv (.int 0 :: st) M := (lim_step dX6_count_0).trans (e_ic k_i_0)
theorem sX6_count_1 : lim cal sc 6 cX6_count ret 1 (v0 :: v1 :: v :: l) (.int x :: st) M = lim cal sc 6 cX6_count ret 2 (v0 :: v1 :: some (.int x) :: l) st M := (lim_step dX6_count_1).trans (e_istn2)
theorem sX6_count_2 : lim cal sc 6 cX6_count ret 2 (v0 :: some (.int x) :: l) st M = lim cal sc 6 cX6_count ret 3 (v0 :: some (.int x) :: l) (.int x :: st) M := lim_step dX6_count_2
theorem sX6_count_3 : lim cal sc 6 cX6_count ret 3 lv (.int x :: st) M = if x.toInt < 0 ∨ 7 < x.toInt then lim cal sc 6 cX6_count ret 154 lv st M else lim cal sc 6 cX6_count ret ([48, 55, 62, 69, 76, 105, 110, 118].getD (x.toInt - 0).toNat 0) lv st M := (lim_step dX6_count_3).trans (e_tab [48, 55, 62, 69, 76, 105, 110, 118] (by decide) (by decide) (by decide))
theorem sX6_count_48 : lim cal sc 6 cX6_count ret 48 (some (.ref h) :: l) st M = lim cal sc 6 cX6_count ret 49 (some (.ref h) :: l) (.ref h :: st) M := lim_step dX6_count_48
theorem sX6_count_49 : lim cal sc 6 cX6_count ret 49 lv (.ref h :: st) M = opK (slotV 5 0 h M) fun q => lim cal sc 6 cX6_count ret 52 lv (q :: st) M := (lim_step dX6_count_49).trans (e_get (by decide) rf_6_9)
theorem sX6_count_52 : lim cal sc 6 cX6_count ret 52 lv st M = lim cal sc 6 cX6_count ret 53 lv (.int 0 :: st) M := (lim_step dX6_count_52).trans (e_ic k_i_0)
theorem sX6_count_53 : lim cal sc 6 cX6_count ret 53 lv (.int x :: .ref h :: st) M = opK (arrV9 sc h M) fun q => guK (inb x q.1) (lim cal sc 6 cX6_count ret 54 lv (.int (q.2 x.toNatClampNeg) :: st) M) := (lim_step dX6_count_53).trans (e_iald)
theorem sX6_count_54 : lim cal sc 6 cX6_count (some .int) 54 lv [.int x] M = some (some (.int x), M) := (lim_step dX6_count_54).trans (e_iret)
theorem sX6_count_55 : lim cal sc 6 cX6_count ret 55 (some (.ref h) :: l) st M = lim cal sc 6 cX6_count ret 56 (some (.ref h) :: l) (.ref h :: st) M := lim_step dX6_count_55
theorem sX6_count_56 : lim cal sc 6 cX6_count ret 56 lv (.ref h :: st) M = opK (slotV 5 0 h M) fun q => lim cal sc 6 cX6_count ret 59 lv (q :: st) M := (lim_step dX6_count_56).trans (e_get (by decide) rf_6_9)
theorem sX6_count_59 : lim cal sc 6 cX6_count ret 59 lv st M = lim cal sc 6 cX6_count ret 60 lv (.int 3 :: st) M := (lim_step dX6_count_59).trans (e_ic k_i_3)
theorem sX6_count_60 : lim cal sc 6 cX6_count ret 60 lv (.int x :: .ref h :: st) M = opK (arrV9 sc h M) fun q => guK (inb x q.1) (lim cal sc 6 cX6_count ret 61 lv (.int (q.2 x.toNatClampNeg) :: st) M) := (lim_step dX6_count_60).trans (e_iald)
theorem sX6_count_61 : lim cal sc 6 cX6_count (some .int) 61 lv [.int x] M = some (some (.int x), M) := (lim_step dX6_count_61).trans (e_iret)
theorem sX6_count_62 : lim cal sc 6 cX6_count ret 62 (some (.ref h) :: l) st M = lim cal sc 6 cX6_count ret 63 (some (.ref h) :: l) (.ref h :: st) M := lim_step dX6_count_62
theorem sX6_count_63 : lim cal sc 6 cX6_count ret 63 lv (.ref h :: st) M = opK (slotV 5 0 h M) fun q => lim cal sc 6 cX6_count ret 66 lv (q :: st) M := (lim_step dX6_count_63).trans (e_get (by decide) rf_6_9)
theorem sX6_count_66 : lim cal sc 6 cX6_count ret 66 lv st M = lim cal sc 6 cX6_count ret 67 lv (.int 4 :: st) M := (lim_step dX6_count_66).trans (e_ic k_i_4)
theorem sX6_count_67 : lim cal sc 6 cX6_count ret 67 lv (.int x :: .ref h :: st) M = opK (arrV9 sc h M) fun q => guK (inb x q.1) (lim cal sc 6 cX6_count ret 68 lv (.int (q.2 x.toNatClampNeg) :: st) M) := (lim_step dX6_count_67).trans (e_iald)
theorem sX6_count_68 : lim cal sc 6 cX6_count (some .int) 68 lv [.int x] M = some (some (.int x), M) := (lim_step dX6_count_68).trans (e_iret)
theorem sX6_count_69 : lim cal sc 6 cX6_count ret 69 (some (.ref h) :: l) st M = lim cal sc 6 cX6_count ret 70 (some (.ref h) :: l) (.ref h :: st) M := lim_step dX6_count_69
theorem sX6_count_70 : lim cal sc 6 cX6_count ret 70 lv (.ref h :: st) M = opK (slotV 5 0 h M) fun q => lim cal sc 6 cX6_count ret 73 lv (q :: st) M := (lim_step dX6_count_70).trans (e_get (by decide) rf_6_9)
theorem sX6_count_73 : lim cal sc 6 cX6_count ret 73 lv st M = lim cal sc 6 cX6_count ret 74 lv (.int 5 :: st) M := (lim_step dX6_count_73).trans (e_ic k_i_5)
theorem sX6_count_74 : lim cal sc 6 cX6_count ret 74 lv (.int x :: .ref h :: st) M = opK (arrV9 sc h M) fun q => guK (inb x q.1) (lim cal sc 6 cX6_count ret 75 lv (.int (q.2 x.toNatClampNeg) :: st) M) := (lim_step dX6_count_74).trans (e_iald)
theorem sX6_count_75 : lim cal sc 6 cX6_count (some .int) 75 lv [.int x] M = some (some (.int x), M) := (lim_step dX6_count_75).trans (e_iret)
theorem sX6_count_76 : lim cal sc 6 cX6_count ret 76 lv st M = lim cal sc 6 cX6_count ret 77 lv (.int 0 :: st) M := (lim_step dX6_count_76).trans (e_ic k_i_0)
theorem sX6_count_77 : lim cal sc 6 cX6_count ret 77 (v0 :: v1 :: v2 :: v :: l) (.int x :: st) M = lim cal sc 6 cX6_count ret 78 (v0 :: v1 :: v2 :: some (.int x) :: l) st M := (lim_step dX6_count_77).trans (e_istn3)
theorem sX6_count_78 : lim cal sc 6 cX6_count ret 78 (v0 :: v1 :: v2 :: some (.int x) :: l) st M = lim cal sc 6 cX6_count ret 79 (v0 :: v1 :: v2 :: some (.int x) :: l) (.int x :: st) M := lim_step dX6_count_78
theorem sX6_count_79 : lim cal sc 6 cX6_count ret 79 (some (.ref h) :: l) st M = lim cal sc 6 cX6_count ret 80 (some (.ref h) :: l) (.ref h :: st) M := lim_step dX6_count_79
theorem sX6_count_80 : lim cal sc 6 cX6_count ret 80 lv (.ref h :: st) M = opK (slotV 5 0 h M) fun q => lim cal sc 6 cX6_count ret 83 lv (q :: st) M := (lim_step dX6_count_80).trans (e_get (by decide) rf_6_9)
theorem sX6_count_83 : lim cal sc 6 cX6_count ret 83 lv st M = lim cal sc 6 cX6_count ret 84 lv (.int 3 :: st) M := (lim_step dX6_count_83).trans (e_ic k_i_3)
theorem sX6_count_84 : lim cal sc 6 cX6_count ret 84 lv (.int x :: .ref h :: st) M = opK (arrV9 sc h M) fun q => guK (inb x q.1) (lim cal sc 6 cX6_count ret 85 lv (.int (q.2 x.toNatClampNeg) :: st) M) := (lim_step dX6_count_84).trans (e_iald)
theorem sX6_count_85 : lim cal sc 6 cX6_count ret 85 lv (.int y :: .int x :: st) M = if y ≤ x then lim cal sc 6 cX6_count ret 103 lv st M else lim cal sc 6 cX6_count ret 88 lv st M := (lim_step dX6_count_85).trans (e_cmpge (t := 103) (by decide))
theorem sX6_count_88 : lim cal sc 6 cX6_count ret 88 (v0 :: v1 :: some (.int x) :: l) st M = lim cal sc 6 cX6_count ret 89 (v0 :: v1 :: some (.int x) :: l) (.int x :: st) M := lim_step dX6_count_88
theorem sX6_count_89 : lim cal sc 6 cX6_count ret 89 (some (.ref h) :: l) st M = lim cal sc 6 cX6_count ret 90 (some (.ref h) :: l) (.ref h :: st) M := lim_step dX6_count_89
theorem sX6_count_90 : lim cal sc 6 cX6_count ret 90 (v0 :: v1 :: v2 :: some (.int x) :: l) st M = lim cal sc 6 cX6_count ret 91 (v0 :: v1 :: v2 :: some (.int x) :: l) (.int x :: st) M := lim_step dX6_count_90
theorem sX6_count_91 : lim cal sc 6 cX6_count ret 91 lv st M = lim cal sc 6 cX6_count ret 92 lv (.int 2 :: st) M := (lim_step dX6_count_91).trans (e_ic k_i_2)
theorem sX6_count_92 : lim cal sc 6 cX6_count ret 92 lv (a2 :: a1 :: .ref h :: st) M = guK (isCl 5 h) (guK (rk 8 st) (calK (cal 142 [.ref h, a1, a2] M) fun q M' => lim cal sc 6 cX6_count ret 95 lv (q.toList ++ st) M')) := (lim_step dX6_count_92).trans (e_virt2 rm_6_98 mq_142)
theorem sX6_count_95 : lim cal sc 6 cX6_count ret 95 lv (.int y :: .int x :: st) M = lim cal sc 6 cX6_count ret 96 lv (.int (x + y) :: st) M := lim_step dX6_count_95
theorem sX6_count_96 : lim cal sc 6 cX6_count ret 96 (v0 :: v1 :: v :: l) (.int x :: st) M = lim cal sc 6 cX6_count ret 97 (v0 :: v1 :: some (.int x) :: l) st M := (lim_step dX6_count_96).trans (e_istn2)
theorem sX6_count_97 : lim cal sc 6 cX6_count ret 97 (v0 :: v1 :: v2 :: some (.int x) :: l) st M = lim cal sc 6 cX6_count ret 100 (v0 :: v1 :: v2 :: some (.int (x + 1)) :: l) st M := (lim_step dX6_count_97).trans (e_inc3 k_i_1)
theorem sX6_count_100 : lim cal sc 6 cX6_count ret 100 lv st M = lim cal sc 6 cX6_count ret 78 lv st M := (lim_step dX6_count_100).trans (e_goto (t := 78) (by decide))
theorem sX6_count_103 : lim cal sc 6 cX6_count ret 103 (v0 :: v1 :: some (.int x) :: l) st M = lim cal sc 6 cX6_count ret 104 (v0 :: v1 :: some (.int x) :: l) (.int x :: st) M := lim_step dX6_count_103
theorem sX6_count_104 : lim cal sc 6 cX6_count (some .int) 104 lv [.int x] M = some (some (.int x), M) := (lim_step dX6_count_104).trans (e_iret)
theorem sX6_count_105 : lim cal sc 6 cX6_count ret 105 (some (.ref h) :: l) st M = lim cal sc 6 cX6_count ret 106 (some (.ref h) :: l) (.ref h :: st) M := lim_step dX6_count_105
theorem sX6_count_106 : lim cal sc 6 cX6_count ret 106 lv (.ref h :: st) M = opK (slotV 5 17 h M) fun q => lim cal sc 6 cX6_count ret 109 lv (q :: st) M := (lim_step dX6_count_106).trans (e_get (by decide) rf_6_281)
theorem sX6_count_109 : lim cal sc 6 cX6_count (some .int) 109 lv [.int x] M = some (some (.int x), M) := (lim_step dX6_count_109).trans (e_iret)
theorem sX6_count_110 : lim cal sc 6 cX6_count ret 110 (some (.ref h) :: l) st M = lim cal sc 6 cX6_count ret 111 (some (.ref h) :: l) (.ref h :: st) M := lim_step dX6_count_110
theorem sX6_count_111 : lim cal sc 6 cX6_count ret 111 lv (.ref h :: st) M = opK (slotV 5 0 h M) fun q => lim cal sc 6 cX6_count ret 114 lv (q :: st) M := (lim_step dX6_count_111).trans (e_get (by decide) rf_6_9)
theorem sX6_count_114 : lim cal sc 6 cX6_count ret 114 lv st M = lim cal sc 6 cX6_count ret 116 lv (.int 7 :: st) M := (lim_step dX6_count_114).trans (e_bi k_b_7)
theorem sX6_count_116 : lim cal sc 6 cX6_count ret 116 lv (.int x :: .ref h :: st) M = opK (arrV9 sc h M) fun q => guK (inb x q.1) (lim cal sc 6 cX6_count ret 117 lv (.int (q.2 x.toNatClampNeg) :: st) M) := (lim_step dX6_count_116).trans (e_iald)
theorem sX6_count_117 : lim cal sc 6 cX6_count (some .int) 117 lv [.int x] M = some (some (.int x), M) := (lim_step dX6_count_117).trans (e_iret)
theorem sX6_count_118 : lim cal sc 6 cX6_count ret 118 lv st M = lim cal sc 6 cX6_count ret 119 lv (.int 0 :: st) M := (lim_step dX6_count_118).trans (e_ic k_i_0)
theorem sX6_count_119 : lim cal sc 6 cX6_count ret 119 (v0 :: v1 :: v2 :: v :: l) (.int x :: st) M = lim cal sc 6 cX6_count ret 120 (v0 :: v1 :: v2 :: some (.int x) :: l) st M := (lim_step dX6_count_119).trans (e_istn3)
theorem sX6_count_120 : lim cal sc 6 cX6_count ret 120 (v0 :: v1 :: v2 :: some (.int x) :: l) st M = lim cal sc 6 cX6_count ret 121 (v0 :: v1 :: v2 :: some (.int x) :: l) (.int x :: st) M := lim_step dX6_count_120
theorem sX6_count_121 : lim cal sc 6 cX6_count ret 121 lv st M = lim cal sc 6 cX6_count ret 123 lv (.int 10 :: st) M := (lim_step dX6_count_121).trans (e_bi k_b_10)
theorem sX6_count_123 : lim cal sc 6 cX6_count ret 123 lv (.int y :: .int x :: st) M = if y ≤ x then lim cal sc 6 cX6_count ret 152 lv st M else lim cal sc 6 cX6_count ret 126 lv st M := (lim_step dX6_count_123).trans (e_cmpge (t := 152) (by decide))
theorem sX6_count_126 : lim cal sc 6 cX6_count ret 126 (v0 :: v1 :: some (.int x) :: l) st M = lim cal sc 6 cX6_count ret 127 (v0 :: v1 :: some (.int x) :: l) (.int x :: st) M := lim_step dX6_count_126
theorem sX6_count_127 : lim cal sc 6 cX6_count ret 127 (some (.ref h) :: l) st M = lim cal sc 6 cX6_count ret 128 (some (.ref h) :: l) (.ref h :: st) M := lim_step dX6_count_127
theorem sX6_count_128 : lim cal sc 6 cX6_count ret 128 lv (.ref h :: st) M = opK (slotV 5 0 h M) fun q => lim cal sc 6 cX6_count ret 131 lv (q :: st) M := (lim_step dX6_count_128).trans (e_get (by decide) rf_6_9)
theorem sX6_count_131 : lim cal sc 6 cX6_count ret 131 lv st M = lim cal sc 6 cX6_count ret 133 lv (.int 8 :: st) M := (lim_step dX6_count_131).trans (e_bi k_b_8)
theorem sX6_count_133 : lim cal sc 6 cX6_count ret 133 (v0 :: v1 :: v2 :: some (.int x) :: l) st M = lim cal sc 6 cX6_count ret 134 (v0 :: v1 :: v2 :: some (.int x) :: l) (.int x :: st) M := lim_step dX6_count_133
theorem sX6_count_134 : lim cal sc 6 cX6_count ret 134 lv (.int y :: .int x :: st) M = lim cal sc 6 cX6_count ret 135 lv (.int (x + y) :: st) M := lim_step dX6_count_134
theorem sX6_count_135 : lim cal sc 6 cX6_count ret 135 lv (.int x :: .ref h :: st) M = opK (arrV9 sc h M) fun q => guK (inb x q.1) (lim cal sc 6 cX6_count ret 136 lv (.int (q.2 x.toNatClampNeg) :: st) M) := (lim_step dX6_count_135).trans (e_iald)
theorem sX6_count_136 : lim cal sc 6 cX6_count ret 136 lv (.int x :: st) M = if 0 ≤ x then lim cal sc 6 cX6_count ret 143 lv st M else lim cal sc 6 cX6_count ret 139 lv st M := (lim_step dX6_count_136).trans (e_ifge (t := 143) (by decide))
theorem sX6_count_139 : lim cal sc 6 cX6_count ret 139 lv st M = lim cal sc 6 cX6_count ret 140 lv (.int 0 :: st) M := (lim_step dX6_count_139).trans (e_ic k_i_0)
theorem sX6_count_140 : lim cal sc 6 cX6_count ret 140 lv st M = lim cal sc 6 cX6_count ret 144 lv st M := (lim_step dX6_count_140).trans (e_goto (t := 144) (by decide))
theorem sX6_count_143 : lim cal sc 6 cX6_count ret 143 lv st M = lim cal sc 6 cX6_count ret 144 lv (.int 1 :: st) M := (lim_step dX6_count_143).trans (e_ic k_i_1)
theorem sX6_count_144 : lim cal sc 6 cX6_count ret 144 lv (.int y :: .int x :: st) M = lim cal sc 6 cX6_count ret 145 lv (.int (x + y) :: st) M := lim_step dX6_count_144
theorem sX6_count_145 : lim cal sc 6 cX6_count ret 145 (v0 :: v1 :: v :: l) (.int x :: st) M = lim cal sc 6 cX6_count ret 146 (v0 :: v1 :: some (.int x) :: l) st M := (lim_step dX6_count_145).trans (e_istn2)
theorem sX6_count_146 : lim cal sc 6 cX6_count ret 146 (v0 :: v1 :: v2 :: some (.int x) :: l) st M = lim cal sc 6 cX6_count ret 149 (v0 :: v1 :: v2 :: some (.int (x + 1)) :: l) st M := (lim_step dX6_count_146).trans (e_inc3 k_i_1)
theorem sX6_count_149 : lim cal sc 6 cX6_count ret 149 lv st M = lim cal sc 6 cX6_count ret 120 lv st M := (lim_step dX6_count_149).trans (e_goto (t := 120) (by decide))
theorem sX6_count_152 : lim cal sc 6 cX6_count ret 152 (v0 :: v1 :: some (.int x) :: l) st M = lim cal sc 6 cX6_count ret 153 (v0 :: v1 :: some (.int x) :: l) (.int x :: st) M := lim_step dX6_count_152
theorem sX6_count_153 : lim cal sc 6 cX6_count (some .int) 153 lv [.int x] M = some (some (.int x), M) := (lim_step dX6_count_153).trans (e_iret)
theorem sX6_count_154 : lim cal sc 6 cX6_count ret 154 (some (.ref h) :: l) st M = lim cal sc 6 cX6_count ret 155 (some (.ref h) :: l) (.ref h :: st) M := lim_step dX6_count_154
theorem sX6_count_155 : lim cal sc 6 cX6_count ret 155 lv st M = lim cal sc 6 cX6_count ret 157 lv (.int (-1000001) :: st) M := (lim_step dX6_count_155).trans (e_ldc rc_6_69)
theorem sX6_count_157 : lim cal sc 6 cX6_count ret 157 lv (a1 :: .ref h :: st) M = guK (isCl 5 h) (guK (rk 8 st) (calK (cal 137 [.ref h, a1] M) fun q M' => lim cal sc 6 cX6_count ret 160 lv (q.toList ++ st) M')) := (lim_step dX6_count_157).trans (e_virt1 rm_6_86 mq_137)
theorem sX6_count_160 : lim cal sc 6 cX6_count (some .int) 160 lv [.int x] M = some (some (.int x), M) := (lim_step dX6_count_160).trans (e_iret)
theorem sX6_status_0 : lim cal sc 6 cX6_status ret 0 (v0 :: some (.int x) :: l) st M = lim cal sc 6 cX6_status ret 1 (v0 :: some (.int x) :: l) (.int x :: st) M := lim_step dX6_status_0
theorem sX6_status_1 : lim cal sc 6 cX6_status ret 1 lv st M = lim cal sc 6 cX6_status ret 2 lv (.int (-1) :: st) M := (lim_step dX6_status_1).trans (e_ic k_i_m1)
theorem sX6_status_2 : lim cal sc 6 cX6_status ret 2 lv st M = lim cal sc 6 cX6_status ret 4 lv (.int 6 :: st) M := (lim_step dX6_status_2).trans (e_bi k_b_6)
theorem sX6_status_4 : lim cal sc 6 cX6_status ret 4 lv (a3 :: a2 :: a1 :: st) M = guK (rk 8 st) (calK (cal 136 [a1, a2, a3] M) fun q M' => lim cal sc 6 cX6_status ret 7 lv (q.toList ++ st) M') := (lim_step dX6_status_4).trans (e_stat3 rm_6_74)
theorem sX6_status_7 : lim cal sc 6 cX6_status ret 7 lv (.int x :: st) M = if x = 0 then lim cal sc 6 cX6_status ret 21 lv st M else lim cal sc 6 cX6_status ret 10 lv st M := (lim_step dX6_status_7).trans (e_ifeq (t := 21) (by decide))
theorem sX6_status_10 : lim cal sc 6 cX6_status ret 10 (some (.ref h) :: l) st M = lim cal sc 6 cX6_status ret 11 (some (.ref h) :: l) (.ref h :: st) M := lim_step dX6_status_10
theorem sX6_status_11 : lim cal sc 6 cX6_status ret 11 lv (.ref h :: st) M = opK (slotV 5 4 h M) fun q => lim cal sc 6 cX6_status ret 14 lv (q :: st) M := (lim_step dX6_status_11).trans (e_get (by decide) rf_6_19)
theorem sX6_status_14 : lim cal sc 6 cX6_status ret 14 (v0 :: some (.int x) :: l) st M = lim cal sc 6 cX6_status ret 15 (v0 :: some (.int x) :: l) (.int x :: st) M := lim_step dX6_status_14
theorem sX6_status_15 : lim cal sc 6 cX6_status ret 15 lv st M = lim cal sc 6 cX6_status ret 16 lv (.int 1 :: st) M := (lim_step dX6_status_15).trans (e_ic k_i_1)
theorem sX6_status_16 : lim cal sc 6 cX6_status ret 16 lv (.int y :: .int x :: st) M = lim cal sc 6 cX6_status ret 17 lv (.int (x + y) :: st) M := lim_step dX6_status_16
theorem sX6_status_17 : lim cal sc 6 cX6_status ret 17 lv (.int x :: .ref h :: st) M = opK (arrV9 sc h M) fun q => guK (inb x q.1) (lim cal sc 6 cX6_status ret 18 lv (.int (q.2 x.toNatClampNeg) :: st) M) := (lim_step dX6_status_17).trans (e_iald)
theorem sX6_status_18 : lim cal sc 6 cX6_status ret 18 lv st M = lim cal sc 6 cX6_status ret 27 lv st M := (lim_step dX6_status_18).trans (e_goto (t := 27) (by decide))
theorem sX6_status_21 : lim cal sc 6 cX6_status ret 21 (some (.ref h) :: l) st M = lim cal sc 6 cX6_status ret 22 (some (.ref h) :: l) (.ref h :: st) M := lim_step dX6_status_21
theorem sX6_status_22 : lim cal sc 6 cX6_status ret 22 lv st M = lim cal sc 6 cX6_status ret 24 lv (.int (-1000001) :: st) M := (lim_step dX6_status_22).trans (e_ldc rc_6_69)
theorem sX6_status_24 : lim cal sc 6 cX6_status ret 24 lv (a1 :: .ref h :: st) M = guK (isCl 5 h) (guK (rk 8 st) (calK (cal 137 [.ref h, a1] M) fun q M' => lim cal sc 6 cX6_status ret 27 lv (q.toList ++ st) M')) := (lim_step dX6_status_24).trans (e_virt1 rm_6_86 mq_137)
theorem sX6_status_27 : lim cal sc 6 cX6_status (some .int) 27 lv [.int x] M = some (some (.int x), M) := (lim_step dX6_status_27).trans (e_iret)
theorem sJ6_bitCount_0f7a4_0 : lim cal sc 8 cJ6_bitCount_0f7a4 ret 0 (some (.int x) :: l) st M = lim cal sc 8 cJ6_bitCount_0f7a4 ret 1 (some (.int x) :: l) (.int x :: st) M := lim_step dJ6_bitCount_0f7a4_0
theorem sJ6_bitCount_0f7a4_1 : lim cal sc 8 cJ6_bitCount_0f7a4 ret 1 (some (.int x) :: l) st M = lim cal sc 8 cJ6_bitCount_0f7a4 ret 2 (some (.int x) :: l) (.int x :: st) M := lim_step dJ6_bitCount_0f7a4_1
theorem sJ6_bitCount_0f7a4_2 : lim cal sc 8 cJ6_bitCount_0f7a4 ret 2 lv st M = lim cal sc 8 cJ6_bitCount_0f7a4 ret 3 lv (.int 1 :: st) M := (lim_step dJ6_bitCount_0f7a4_2).trans (e_ic k_i_1)
theorem sJ6_bitCount_0f7a4_3 : lim cal sc 8 cJ6_bitCount_0f7a4 ret 3 lv (.int y :: .int x :: st) M = lim cal sc 8 cJ6_bitCount_0f7a4 ret 4 lv (.int (x.toUInt32 >>> (y.toUInt32 &&& Int32.toUInt32 31)).toInt32 :: st) M := lim_step dJ6_bitCount_0f7a4_3
theorem sJ6_bitCount_0f7a4_4 : lim cal sc 8 cJ6_bitCount_0f7a4 ret 4 lv st M = lim cal sc 8 cJ6_bitCount_0f7a4 ret 7 lv (.int 1431655765 :: st) M := (lim_step dJ6_bitCount_0f7a4_4).trans (e_ldcw rc_8_265)
theorem sJ6_bitCount_0f7a4_7 : lim cal sc 8 cJ6_bitCount_0f7a4 ret 7 lv (.int y :: .int x :: st) M = lim cal sc 8 cJ6_bitCount_0f7a4 ret 8 lv (.int (x &&& y) :: st) M := lim_step dJ6_bitCount_0f7a4_7
theorem sJ6_bitCount_0f7a4_8 : lim cal sc 8 cJ6_bitCount_0f7a4 ret 8 lv (.int y :: .int x :: st) M = lim cal sc 8 cJ6_bitCount_0f7a4 ret 9 lv (.int (x - y) :: st) M := lim_step dJ6_bitCount_0f7a4_8
theorem sJ6_bitCount_0f7a4_9 : lim cal sc 8 cJ6_bitCount_0f7a4 ret 9 (v :: l) (.int x :: st) M = lim cal sc 8 cJ6_bitCount_0f7a4 ret 10 (some (.int x) :: l) st M := (lim_step dJ6_bitCount_0f7a4_9).trans (e_istn0)
theorem sJ6_bitCount_0f7a4_10 : lim cal sc 8 cJ6_bitCount_0f7a4 ret 10 (some (.int x) :: l) st M = lim cal sc 8 cJ6_bitCount_0f7a4 ret 11 (some (.int x) :: l) (.int x :: st) M := lim_step dJ6_bitCount_0f7a4_10
theorem sJ6_bitCount_0f7a4_11 : lim cal sc 8 cJ6_bitCount_0f7a4 ret 11 lv st M = lim cal sc 8 cJ6_bitCount_0f7a4 ret 14 lv (.int 858993459 :: st) M := (lim_step dJ6_bitCount_0f7a4_11).trans (e_ldcw rc_8_266)
theorem sJ6_bitCount_0f7a4_14 : lim cal sc 8 cJ6_bitCount_0f7a4 ret 14 lv (.int y :: .int x :: st) M = lim cal sc 8 cJ6_bitCount_0f7a4 ret 15 lv (.int (x &&& y) :: st) M := lim_step dJ6_bitCount_0f7a4_14
theorem sJ6_bitCount_0f7a4_15 : lim cal sc 8 cJ6_bitCount_0f7a4 ret 15 (some (.int x) :: l) st M = lim cal sc 8 cJ6_bitCount_0f7a4 ret 16 (some (.int x) :: l) (.int x :: st) M := lim_step dJ6_bitCount_0f7a4_15
theorem sJ6_bitCount_0f7a4_16 : lim cal sc 8 cJ6_bitCount_0f7a4 ret 16 lv st M = lim cal sc 8 cJ6_bitCount_0f7a4 ret 17 lv (.int 2 :: st) M := (lim_step dJ6_bitCount_0f7a4_16).trans (e_ic k_i_2)
theorem sJ6_bitCount_0f7a4_17 : lim cal sc 8 cJ6_bitCount_0f7a4 ret 17 lv (.int y :: .int x :: st) M = lim cal sc 8 cJ6_bitCount_0f7a4 ret 18 lv (.int (x.toUInt32 >>> (y.toUInt32 &&& Int32.toUInt32 31)).toInt32 :: st) M := lim_step dJ6_bitCount_0f7a4_17
theorem sJ6_bitCount_0f7a4_18 : lim cal sc 8 cJ6_bitCount_0f7a4 ret 18 lv st M = lim cal sc 8 cJ6_bitCount_0f7a4 ret 21 lv (.int 858993459 :: st) M := (lim_step dJ6_bitCount_0f7a4_18).trans (e_ldcw rc_8_266)
theorem sJ6_bitCount_0f7a4_21 : lim cal sc 8 cJ6_bitCount_0f7a4 ret 21 lv (.int y :: .int x :: st) M = lim cal sc 8 cJ6_bitCount_0f7a4 ret 22 lv (.int (x &&& y) :: st) M := lim_step dJ6_bitCount_0f7a4_21
theorem sJ6_bitCount_0f7a4_22 : lim cal sc 8 cJ6_bitCount_0f7a4 ret 22 lv (.int y :: .int x :: st) M = lim cal sc 8 cJ6_bitCount_0f7a4 ret 23 lv (.int (x + y) :: st) M := lim_step dJ6_bitCount_0f7a4_22
theorem sJ6_bitCount_0f7a4_23 : lim cal sc 8 cJ6_bitCount_0f7a4 ret 23 (v :: l) (.int x :: st) M = lim cal sc 8 cJ6_bitCount_0f7a4 ret 24 (some (.int x) :: l) st M := (lim_step dJ6_bitCount_0f7a4_23).trans (e_istn0)
theorem sJ6_bitCount_0f7a4_24 : lim cal sc 8 cJ6_bitCount_0f7a4 ret 24 (some (.int x) :: l) st M = lim cal sc 8 cJ6_bitCount_0f7a4 ret 25 (some (.int x) :: l) (.int x :: st) M := lim_step dJ6_bitCount_0f7a4_24
theorem sJ6_bitCount_0f7a4_25 : lim cal sc 8 cJ6_bitCount_0f7a4 ret 25 (some (.int x) :: l) st M = lim cal sc 8 cJ6_bitCount_0f7a4 ret 26 (some (.int x) :: l) (.int x :: st) M := lim_step dJ6_bitCount_0f7a4_25
theorem sJ6_bitCount_0f7a4_26 : lim cal sc 8 cJ6_bitCount_0f7a4 ret 26 lv st M = lim cal sc 8 cJ6_bitCount_0f7a4 ret 27 lv (.int 4 :: st) M := (lim_step dJ6_bitCount_0f7a4_26).trans (e_ic k_i_4)
theorem sJ6_bitCount_0f7a4_27 : lim cal sc 8 cJ6_bitCount_0f7a4 ret 27 lv (.int y :: .int x :: st) M = lim cal sc 8 cJ6_bitCount_0f7a4 ret 28 lv (.int (x.toUInt32 >>> (y.toUInt32 &&& Int32.toUInt32 31)).toInt32 :: st) M := lim_step dJ6_bitCount_0f7a4_27
theorem sJ6_bitCount_0f7a4_28 : lim cal sc 8 cJ6_bitCount_0f7a4 ret 28 lv (.int y :: .int x :: st) M = lim cal sc 8 cJ6_bitCount_0f7a4 ret 29 lv (.int (x + y) :: st) M := lim_step dJ6_bitCount_0f7a4_28
theorem sJ6_bitCount_0f7a4_29 : lim cal sc 8 cJ6_bitCount_0f7a4 ret 29 lv st M = lim cal sc 8 cJ6_bitCount_0f7a4 ret 32 lv (.int 252645135 :: st) M := (lim_step dJ6_bitCount_0f7a4_29).trans (e_ldcw rc_8_267)
theorem sJ6_bitCount_0f7a4_32 : lim cal sc 8 cJ6_bitCount_0f7a4 ret 32 lv (.int y :: .int x :: st) M = lim cal sc 8 cJ6_bitCount_0f7a4 ret 33 lv (.int (x &&& y) :: st) M := lim_step dJ6_bitCount_0f7a4_32
theorem sJ6_bitCount_0f7a4_33 : lim cal sc 8 cJ6_bitCount_0f7a4 ret 33 (v :: l) (.int x :: st) M = lim cal sc 8 cJ6_bitCount_0f7a4 ret 34 (some (.int x) :: l) st M := (lim_step dJ6_bitCount_0f7a4_33).trans (e_istn0)
theorem sJ6_bitCount_0f7a4_34 : lim cal sc 8 cJ6_bitCount_0f7a4 ret 34 (some (.int x) :: l) st M = lim cal sc 8 cJ6_bitCount_0f7a4 ret 35 (some (.int x) :: l) (.int x :: st) M := lim_step dJ6_bitCount_0f7a4_34
theorem sJ6_bitCount_0f7a4_35 : lim cal sc 8 cJ6_bitCount_0f7a4 ret 35 (some (.int x) :: l) st M = lim cal sc 8 cJ6_bitCount_0f7a4 ret 36 (some (.int x) :: l) (.int x :: st) M := lim_step dJ6_bitCount_0f7a4_35
theorem sJ6_bitCount_0f7a4_36 : lim cal sc 8 cJ6_bitCount_0f7a4 ret 36 lv st M = lim cal sc 8 cJ6_bitCount_0f7a4 ret 38 lv (.int 8 :: st) M := (lim_step dJ6_bitCount_0f7a4_36).trans (e_bi k_b_8)
theorem sJ6_bitCount_0f7a4_38 : lim cal sc 8 cJ6_bitCount_0f7a4 ret 38 lv (.int y :: .int x :: st) M = lim cal sc 8 cJ6_bitCount_0f7a4 ret 39 lv (.int (x.toUInt32 >>> (y.toUInt32 &&& Int32.toUInt32 31)).toInt32 :: st) M := lim_step dJ6_bitCount_0f7a4_38
theorem sJ6_bitCount_0f7a4_39 : lim cal sc 8 cJ6_bitCount_0f7a4 ret 39 lv (.int y :: .int x :: st) M = lim cal sc 8 cJ6_bitCount_0f7a4 ret 40 lv (.int (x + y) :: st) M := lim_step dJ6_bitCount_0f7a4_39
theorem sJ6_bitCount_0f7a4_40 : lim cal sc 8 cJ6_bitCount_0f7a4 ret 40 (v :: l) (.int x :: st) M = lim cal sc 8 cJ6_bitCount_0f7a4 ret 41 (some (.int x) :: l) st M := (lim_step dJ6_bitCount_0f7a4_40).trans (e_istn0)
theorem sJ6_bitCount_0f7a4_41 : lim cal sc 8 cJ6_bitCount_0f7a4 ret 41 (some (.int x) :: l) st M = lim cal sc 8 cJ6_bitCount_0f7a4 ret 42 (some (.int x) :: l) (.int x :: st) M := lim_step dJ6_bitCount_0f7a4_41
theorem sJ6_bitCount_0f7a4_42 : lim cal sc 8 cJ6_bitCount_0f7a4 ret 42 (some (.int x) :: l) st M = lim cal sc 8 cJ6_bitCount_0f7a4 ret 43 (some (.int x) :: l) (.int x :: st) M := lim_step dJ6_bitCount_0f7a4_42
theorem sJ6_bitCount_0f7a4_43 : lim cal sc 8 cJ6_bitCount_0f7a4 ret 43 lv st M = lim cal sc 8 cJ6_bitCount_0f7a4 ret 45 lv (.int 16 :: st) M := (lim_step dJ6_bitCount_0f7a4_43).trans (e_bi k_b_16)
theorem sJ6_bitCount_0f7a4_45 : lim cal sc 8 cJ6_bitCount_0f7a4 ret 45 lv (.int y :: .int x :: st) M = lim cal sc 8 cJ6_bitCount_0f7a4 ret 46 lv (.int (x.toUInt32 >>> (y.toUInt32 &&& Int32.toUInt32 31)).toInt32 :: st) M := lim_step dJ6_bitCount_0f7a4_45
theorem sJ6_bitCount_0f7a4_46 : lim cal sc 8 cJ6_bitCount_0f7a4 ret 46 lv (.int y :: .int x :: st) M = lim cal sc 8 cJ6_bitCount_0f7a4 ret 47 lv (.int (x + y) :: st) M := lim_step dJ6_bitCount_0f7a4_46
theorem sJ6_bitCount_0f7a4_47 : lim cal sc 8 cJ6_bitCount_0f7a4 ret 47 (v :: l) (.int x :: st) M = lim cal sc 8 cJ6_bitCount_0f7a4 ret 48 (some (.int x) :: l) st M := (lim_step dJ6_bitCount_0f7a4_47).trans (e_istn0)
theorem sJ6_bitCount_0f7a4_48 : lim cal sc 8 cJ6_bitCount_0f7a4 ret 48 (some (.int x) :: l) st M = lim cal sc 8 cJ6_bitCount_0f7a4 ret 49 (some (.int x) :: l) (.int x :: st) M := lim_step dJ6_bitCount_0f7a4_48
theorem sJ6_bitCount_0f7a4_49 : lim cal sc 8 cJ6_bitCount_0f7a4 ret 49 lv st M = lim cal sc 8 cJ6_bitCount_0f7a4 ret 51 lv (.int 63 :: st) M := (lim_step dJ6_bitCount_0f7a4_49).trans (e_bi k_b_63)
theorem sJ6_bitCount_0f7a4_51 : lim cal sc 8 cJ6_bitCount_0f7a4 ret 51 lv (.int y :: .int x :: st) M = lim cal sc 8 cJ6_bitCount_0f7a4 ret 52 lv (.int (x &&& y) :: st) M := lim_step dJ6_bitCount_0f7a4_51
theorem sJ6_bitCount_0f7a4_52 : lim cal sc 8 cJ6_bitCount_0f7a4 (some .int) 52 lv [.int x] M = some (some (.int x), M) := (lim_step dJ6_bitCount_0f7a4_52).trans (e_iret)
theorem sJ0_length_8abf5_0 : lim cal sc 9 cJ0_length_8abf5 ret 0 (some (.ref h) :: l) st M = lim cal sc 9 cJ0_length_8abf5 ret 1 (some (.ref h) :: l) (.ref h :: st) M := lim_step dJ0_length_8abf5_0
theorem sJ0_length_8abf5_4 : ∀ {q : Nat × (Nat → Int32)}, arrV9 sc h M = some q → lim cal sc 9 cJ0_length_8abf5 ret 4 lv (.ref h :: st) M = lim cal sc 9 cJ0_length_8abf5 ret 5 lv (.int (Int32.ofNat q.1) :: st) M := fun {_} hq => (lim_step dJ0_length_8abf5_4).trans (e_len hq)
theorem sJ0_length_8abf5_5 : lim cal sc 9 cJ0_length_8abf5 ret 5 (some (.ref h) :: l) st M = lim cal sc 9 cJ0_length_8abf5 ret 6 (some (.ref h) :: l) (.ref h :: st) M := lim_step dJ0_length_8abf5_5
theorem sJ0_length_8abf5_6 : lim cal sc 9 cJ0_length_8abf5 ret 6 lv (.ref h :: st) M = guK (isCl 100 h) (guK (rk 8 st) (calK (cal 98 [.ref h] M) fun q M' => lim cal sc 9 cJ0_length_8abf5 ret 9 lv (q.toList ++ st) M')) := (lim_step dJ0_length_8abf5_6).trans (e_virt0 rm_9_335 mq_98)
theorem sJ0_length_8abf5_9 : lim cal sc 9 cJ0_length_8abf5 ret 9 lv (.int y :: .int x :: st) M = lim cal sc 9 cJ0_length_8abf5 ret 10 lv (.int (x >>> (y &&& 31)) :: st) M := lim_step dJ0_length_8abf5_9
theorem sJ0_length_8abf5_10 : lim cal sc 9 cJ0_length_8abf5 (some .int) 10 lv [.int x] M = some (some (.int x), M) := (lim_step dJ0_length_8abf5_10).trans (e_iret)
theorem sJ0_charAt_5068e_0 : lim cal sc 9 cJ0_charAt_5068e ret 0 (some (.ref h) :: l) st M = lim cal sc 9 cJ0_charAt_5068e ret 1 (some (.ref h) :: l) (.ref h :: st) M := lim_step dJ0_charAt_5068e_0
theorem sJ0_charAt_5068e_1 : lim cal sc 9 cJ0_charAt_5068e ret 1 lv (.ref h :: st) M = guK (isCl 100 h) (guK (rk 8 st) (calK (cal 100 [.ref h] M) fun q M' => lim cal sc 9 cJ0_charAt_5068e ret 4 lv (q.toList ++ st) M')) := (lim_step dJ0_charAt_5068e_1).trans (e_virt0 rm_9_492 mq_100)
theorem sJ0_charAt_5068e_4 : lim cal sc 9 cJ0_charAt_5068e ret 4 lv (.int x :: st) M = if x = 0 then lim cal sc 9 cJ0_charAt_5068e ret 16 lv st M else lim cal sc 9 cJ0_charAt_5068e ret 7 lv st M := (lim_step dJ0_charAt_5068e_4).trans (e_ifeq (t := 16) (by decide))
theorem sJ0_charAt_5068e_7 : lim cal sc 9 cJ0_charAt_5068e ret 7 (some (.ref h) :: l) st M = lim cal sc 9 cJ0_charAt_5068e ret 8 (some (.ref h) :: l) (.ref h :: st) M := lim_step dJ0_charAt_5068e_7
theorem sJ0_charAt_5068e_11 : lim cal sc 9 cJ0_charAt_5068e ret 11 (v0 :: some (.int x) :: l) st M = lim cal sc 9 cJ0_charAt_5068e ret 12 (v0 :: some (.int x) :: l) (.int x :: st) M := lim_step dJ0_charAt_5068e_11
theorem sJ0_charAt_5068e_12 : lim cal sc 9 cJ0_charAt_5068e ret 12 lv (a2 :: a1 :: st) M = guK (rk 8 st) (calK (cal 101 [a1, a2] M) fun q M' => lim cal sc 9 cJ0_charAt_5068e ret 15 lv (q.toList ++ st) M') := (lim_step dJ0_charAt_5068e_12).trans (e_stat2 rm_9_495)
theorem sJ0_charAt_5068e_15 : lim cal sc 9 cJ0_charAt_5068e (some .char) 15 lv [.int x] M = guK (narB .char x) (some (some (.int x), M)) := (lim_step dJ0_charAt_5068e_15).trans (e_zret)
theorem sJ0_charAt_5068e_16 : lim cal sc 9 cJ0_charAt_5068e ret 16 (some (.ref h) :: l) st M = lim cal sc 9 cJ0_charAt_5068e ret 17 (some (.ref h) :: l) (.ref h :: st) M := lim_step dJ0_charAt_5068e_16
theorem sJ0_charAt_5068e_20 : lim cal sc 9 cJ0_charAt_5068e ret 20 (v0 :: some (.int x) :: l) st M = lim cal sc 9 cJ0_charAt_5068e ret 21 (v0 :: some (.int x) :: l) (.int x :: st) M := lim_step dJ0_charAt_5068e_20
theorem sJ0_charAt_5068e_24 : lim cal sc 9 cJ0_charAt_5068e (some .char) 24 lv [.int x] M = guK (narB .char x) (some (some (.int x), M)) := (lim_step dJ0_charAt_5068e_24).trans (e_zret)
theorem sJ0_coder_7d493_0 : lim cal sc 9 cJ0_coder_7d493 ret 0 lv st M = lim cal sc 9 cJ0_coder_7d493 ret 3 lv (.int 1 :: st) M := lim_step dJ0_coder_7d493_0
theorem sJ0_coder_7d493_3 : lim cal sc 9 cJ0_coder_7d493 ret 3 lv (.int x :: st) M = if x = 0 then lim cal sc 9 cJ0_coder_7d493 ret 13 lv st M else lim cal sc 9 cJ0_coder_7d493 ret 6 lv st M := (lim_step dJ0_coder_7d493_3).trans (e_ifeq (t := 13) (by decide))
theorem sJ0_coder_7d493_6 : lim cal sc 9 cJ0_coder_7d493 ret 6 (some (.ref h) :: l) st M = lim cal sc 9 cJ0_coder_7d493 ret 7 (some (.ref h) :: l) (.ref h :: st) M := lim_step dJ0_coder_7d493_6
theorem sJ0_coder_7d493_10 : lim cal sc 9 cJ0_coder_7d493 ret 10 lv st M = lim cal sc 9 cJ0_coder_7d493 ret 14 lv st M := (lim_step dJ0_coder_7d493_10).trans (e_goto (t := 14) (by decide))
theorem sJ0_coder_7d493_13 : lim cal sc 9 cJ0_coder_7d493 ret 13 lv st M = lim cal sc 9 cJ0_coder_7d493 ret 14 lv (.int 1 :: st) M := (lim_step dJ0_coder_7d493_13).trans (e_ic k_i_1)
theorem sJ0_coder_7d493_14 : lim cal sc 9 cJ0_coder_7d493 (some .byte) 14 lv [.int x] M = guK (narB .byte x) (some (some (.int x), M)) := (lim_step dJ0_coder_7d493_14).trans (e_zret)
theorem sJ0_isLatin1_aae02_0 : lim cal sc 9 cJ0_isLatin1_aae02 ret 0 lv st M = lim cal sc 9 cJ0_isLatin1_aae02 ret 3 lv (.int 1 :: st) M := lim_step dJ0_isLatin1_aae02_0
theorem sJ0_isLatin1_aae02_3 : lim cal sc 9 cJ0_isLatin1_aae02 ret 3 lv (.int x :: st) M = if x = 0 then lim cal sc 9 cJ0_isLatin1_aae02 ret 17 lv st M else lim cal sc 9 cJ0_isLatin1_aae02 ret 6 lv st M := (lim_step dJ0_isLatin1_aae02_3).trans (e_ifeq (t := 17) (by decide))
theorem sJ0_isLatin1_aae02_6 : lim cal sc 9 cJ0_isLatin1_aae02 ret 6 (some (.ref h) :: l) st M = lim cal sc 9 cJ0_isLatin1_aae02 ret 7 (some (.ref h) :: l) (.ref h :: st) M := lim_step dJ0_isLatin1_aae02_6
theorem sJ0_isLatin1_aae02_10 : lim cal sc 9 cJ0_isLatin1_aae02 ret 10 lv (.int x :: st) M = if x = 0 then lim cal sc 9 cJ0_isLatin1_aae02 ret 13 lv st M else lim cal sc 9 cJ0_isLatin1_aae02 ret 17 lv st M := (lim_step dJ0_isLatin1_aae02_10).trans (e_ifne (t := 17) (by decide))
theorem sJ0_isLatin1_aae02_13 : lim cal sc 9 cJ0_isLatin1_aae02 ret 13 lv st M = lim cal sc 9 cJ0_isLatin1_aae02 ret 14 lv (.int 1 :: st) M := (lim_step dJ0_isLatin1_aae02_13).trans (e_ic k_i_1)
theorem sJ0_isLatin1_aae02_14 : lim cal sc 9 cJ0_isLatin1_aae02 ret 14 lv st M = lim cal sc 9 cJ0_isLatin1_aae02 ret 18 lv st M := (lim_step dJ0_isLatin1_aae02_14).trans (e_goto (t := 18) (by decide))
theorem sJ0_isLatin1_aae02_17 : lim cal sc 9 cJ0_isLatin1_aae02 ret 17 lv st M = lim cal sc 9 cJ0_isLatin1_aae02 ret 18 lv (.int 0 :: st) M := (lim_step dJ0_isLatin1_aae02_17).trans (e_ic k_i_0)
theorem sJ0_isLatin1_aae02_18 : lim cal sc 9 cJ0_isLatin1_aae02 (some .boolean) 18 lv [.int x] M = guK (narB .boolean x) (some (some (.int x), M)) := (lim_step dJ0_isLatin1_aae02_18).trans (e_zret)
theorem sJ0_checkIndex_df160_0 : lim cal sc 9 cJ0_checkIndex_df160 ret 0 (some (.int x) :: l) st M = lim cal sc 9 cJ0_checkIndex_df160 ret 1 (some (.int x) :: l) (.int x :: st) M := lim_step dJ0_checkIndex_df160_0
theorem sJ0_checkIndex_df160_1 : lim cal sc 9 cJ0_checkIndex_df160 ret 1 (v0 :: some (.int x) :: l) st M = lim cal sc 9 cJ0_checkIndex_df160 ret 2 (v0 :: some (.int x) :: l) (.int x :: st) M := lim_step dJ0_checkIndex_df160_1
theorem sJ0_checkIndex_df160_2 : lim cal sc 9 cJ0_checkIndex_df160 ret 2 lv st M = lim cal sc 9 cJ0_checkIndex_df160 ret 5 lv (.null :: st) M := lim_step dJ0_checkIndex_df160_2
theorem sJ0_checkIndex_df160_5 : lim cal sc 9 cJ0_checkIndex_df160 ret 5 lv (a3 :: a2 :: a1 :: st) M = guK (rk 8 st) (calK (cal 103 [a1, a2, a3] M) fun q M' => lim cal sc 9 cJ0_checkIndex_df160 ret 8 lv (q.toList ++ st) M') := (lim_step dJ0_checkIndex_df160_5).trans (e_stat3 rm_9_1059)
theorem sJ0_checkIndex_df160_8 : lim cal sc 9 cJ0_checkIndex_df160 ret 8 lv (.int x :: st) M = lim cal sc 9 cJ0_checkIndex_df160 ret 9 lv st M := lim_step dJ0_checkIndex_df160_8
theorem sJ0_checkIndex_df160_9 : lim cal sc 9 cJ0_checkIndex_df160 none 9 lv [] M = some (none, M) := (lim_step dJ0_checkIndex_df160_9).trans (e_vret)
theorem sJ1_charAt_3b067_0 : lim cal sc 10 cJ1_charAt_3b067 ret 0 (v0 :: some (.int x) :: l) st M = lim cal sc 10 cJ1_charAt_3b067 ret 1 (v0 :: some (.int x) :: l) (.int x :: st) M := lim_step dJ1_charAt_3b067_0
theorem sJ1_charAt_3b067_1 : lim cal sc 10 cJ1_charAt_3b067 ret 1 (some (.ref h) :: l) st M = lim cal sc 10 cJ1_charAt_3b067 ret 2 (some (.ref h) :: l) (.ref h :: st) M := lim_step dJ1_charAt_3b067_1
theorem sJ1_charAt_3b067_2 : ∀ {q : Nat × (Nat → Int32)}, arrV9 sc h M = some q → lim cal sc 10 cJ1_charAt_3b067 ret 2 lv (.ref h :: st) M = lim cal sc 10 cJ1_charAt_3b067 ret 3 lv (.int (Int32.ofNat q.1) :: st) M := fun {_} hq => (lim_step dJ1_charAt_3b067_2).trans (e_len hq)
theorem sJ1_charAt_3b067_3 : lim cal sc 10 cJ1_charAt_3b067 ret 3 lv (a2 :: a1 :: st) M = guK (rk 8 st) (calK (cal 102 [a1, a2] M) fun q M' => lim cal sc 10 cJ1_charAt_3b067 ret 6 lv (q.toList ++ st) M') := (lim_step dJ1_charAt_3b067_3).trans (e_stat2 rm_10_9)
theorem sJ1_charAt_3b067_6 : lim cal sc 10 cJ1_charAt_3b067 ret 6 (some (.ref h) :: l) st M = lim cal sc 10 cJ1_charAt_3b067 ret 7 (some (.ref h) :: l) (.ref h :: st) M := lim_step dJ1_charAt_3b067_6
theorem sJ1_charAt_3b067_7 : lim cal sc 10 cJ1_charAt_3b067 ret 7 (v0 :: some (.int x) :: l) st M = lim cal sc 10 cJ1_charAt_3b067 ret 8 (v0 :: some (.int x) :: l) (.int x :: st) M := lim_step dJ1_charAt_3b067_7
theorem sJ1_charAt_3b067_8 : lim cal sc 10 cJ1_charAt_3b067 ret 8 lv (.int x :: .ref h :: st) M = opK (arrB h) fun q => guK (inb x q.1) (lim cal sc 10 cJ1_charAt_3b067 ret 9 lv (.int (q.2 x.toNatClampNeg) :: st) M) := (lim_step dJ1_charAt_3b067_8).trans (e_bald)
theorem sJ1_charAt_3b067_9 : lim cal sc 10 cJ1_charAt_3b067 ret 9 lv st M = lim cal sc 10 cJ1_charAt_3b067 ret 12 lv (.int 255 :: st) M := (lim_step dJ1_charAt_3b067_9).trans (e_si k_s_255)
theorem sJ1_charAt_3b067_12 : lim cal sc 10 cJ1_charAt_3b067 ret 12 lv (.int y :: .int x :: st) M = lim cal sc 10 cJ1_charAt_3b067 ret 13 lv (.int (x &&& y) :: st) M := lim_step dJ1_charAt_3b067_12
theorem sJ1_charAt_3b067_13 : lim cal sc 10 cJ1_charAt_3b067 ret 13 lv (.int x :: st) M = lim cal sc 10 cJ1_charAt_3b067 ret 14 lv (.int (x.toUInt32 % 65536).toInt32 :: st) M := lim_step dJ1_charAt_3b067_13
theorem sJ1_charAt_3b067_14 : lim cal sc 10 cJ1_charAt_3b067 (some .char) 14 lv [.int x] M = guK (narB .char x) (some (some (.int x), M)) := (lim_step dJ1_charAt_3b067_14).trans (e_zret)
theorem sJ3_checkIndex_8e157_0 : lim cal sc 11 cJ3_checkIndex_8e157 ret 0 (some (.int x) :: l) st M = lim cal sc 11 cJ3_checkIndex_8e157 ret 1 (some (.int x) :: l) (.int x :: st) M := lim_step dJ3_checkIndex_8e157_0
theorem sJ3_checkIndex_8e157_1 : lim cal sc 11 cJ3_checkIndex_8e157 ret 1 lv (.int x :: st) M = if x < 0 then lim cal sc 11 cJ3_checkIndex_8e157 ret 9 lv st M else lim cal sc 11 cJ3_checkIndex_8e157 ret 4 lv st M := (lim_step dJ3_checkIndex_8e157_1).trans (e_iflt (t := 9) (by decide))
theorem sJ3_checkIndex_8e157_4 : lim cal sc 11 cJ3_checkIndex_8e157 ret 4 (some (.int x) :: l) st M = lim cal sc 11 cJ3_checkIndex_8e157 ret 5 (some (.int x) :: l) (.int x :: st) M := lim_step dJ3_checkIndex_8e157_4
theorem sJ3_checkIndex_8e157_5 : lim cal sc 11 cJ3_checkIndex_8e157 ret 5 (v0 :: some (.int x) :: l) st M = lim cal sc 11 cJ3_checkIndex_8e157 ret 6 (v0 :: some (.int x) :: l) (.int x :: st) M := lim_step dJ3_checkIndex_8e157_5
theorem sJ3_checkIndex_8e157_6 : lim cal sc 11 cJ3_checkIndex_8e157 ret 6 lv (.int y :: .int x :: st) M = if x < y then lim cal sc 11 cJ3_checkIndex_8e157 ret 16 lv st M else lim cal sc 11 cJ3_checkIndex_8e157 ret 9 lv st M := (lim_step dJ3_checkIndex_8e157_6).trans (e_cmplt (t := 16) (by decide))
theorem sJ3_checkIndex_8e157_9 : lim cal sc 11 cJ3_checkIndex_8e157 ret 9 (v0 :: v1 :: some (.ref h) :: l) st M = lim cal sc 11 cJ3_checkIndex_8e157 ret 10 (v0 :: v1 :: some (.ref h) :: l) (.ref h :: st) M := lim_step dJ3_checkIndex_8e157_9
theorem sJ3_checkIndex_8e157_10 : lim cal sc 11 cJ3_checkIndex_8e157 ret 10 (some (.int x) :: l) st M = lim cal sc 11 cJ3_checkIndex_8e157 ret 11 (some (.int x) :: l) (.int x :: st) M := lim_step dJ3_checkIndex_8e157_10
theorem sJ3_checkIndex_8e157_11 : lim cal sc 11 cJ3_checkIndex_8e157 ret 11 (v0 :: some (.int x) :: l) st M = lim cal sc 11 cJ3_checkIndex_8e157 ret 12 (v0 :: some (.int x) :: l) (.int x :: st) M := lim_step dJ3_checkIndex_8e157_11
theorem sJ3_checkIndex_8e157_16 : lim cal sc 11 cJ3_checkIndex_8e157 ret 16 (some (.int x) :: l) st M = lim cal sc 11 cJ3_checkIndex_8e157 ret 17 (some (.int x) :: l) (.int x :: st) M := lim_step dJ3_checkIndex_8e157_16
theorem sJ3_checkIndex_8e157_17 : lim cal sc 11 cJ3_checkIndex_8e157 (some .int) 17 lv [.int x] M = some (some (.int x), M) := (lim_step dJ3_checkIndex_8e157_17).trans (e_iret)
theorem sL_law_3 : lim cal sc 7 cL_law ret 3 lv (.ref h :: st) M = lim cal sc 7 cL_law ret 4 lv (.ref h :: .ref h :: st) M := lim_step dL_law_3
theorem sL_law_3_i : lim cal sc 7 cL_law ret 3 lv (.int x :: st) M = lim cal sc 7 cL_law ret 4 lv (.int x :: .int x :: st) M := lim_step dL_law_3
theorem sL_law_7 : lim cal sc 7 cL_law ret 7 (v0 :: v :: l) (.ref h :: st) M = lim cal sc 7 cL_law ret 8 (v0 :: some (.ref h) :: l) st M := (lim_step dL_law_7).trans (e_astn1)
theorem sL_law_11 : lim cal sc 7 cL_law ret 11 lv (.ref h :: st) M = lim cal sc 7 cL_law ret 12 lv (.ref h :: .ref h :: st) M := lim_step dL_law_11
theorem sL_law_11_i : lim cal sc 7 cL_law ret 11 lv (.int x :: st) M = lim cal sc 7 cL_law ret 12 lv (.int x :: .int x :: st) M := lim_step dL_law_11
theorem sL_law_15 : lim cal sc 7 cL_law ret 15 (v0 :: v1 :: v :: l) (.ref h :: st) M = lim cal sc 7 cL_law ret 16 (v0 :: v1 :: some (.ref h) :: l) st M := (lim_step dL_law_15).trans (e_astn2)
theorem sL_law_16 : lim cal sc 7 cL_law ret 16 lv st M = lim cal sc 7 cL_law ret 17 lv (.int 0 :: st) M := (lim_step dL_law_16).trans (e_ic k_i_0)
theorem sL_law_17 : lim cal sc 7 cL_law ret 17 (v0 :: v1 :: v2 :: v :: l) (.int x :: st) M = lim cal sc 7 cL_law ret 18 (v0 :: v1 :: v2 :: some (.int x) :: l) st M := (lim_step dL_law_17).trans (e_istn3)
theorem sL_law_18 : lim cal sc 7 cL_law ret 18 (v0 :: v1 :: v2 :: some (.int x) :: l) st M = lim cal sc 7 cL_law ret 19 (v0 :: v1 :: v2 :: some (.int x) :: l) (.int x :: st) M := lim_step dL_law_18
theorem sL_law_19 : lim cal sc 7 cL_law ret 19 (some (.ref h) :: l) st M = lim cal sc 7 cL_law ret 20 (some (.ref h) :: l) (.ref h :: st) M := lim_step dL_law_19
theorem sL_law_20 : ∀ {q : Nat × (Nat → Int32)}, arrV9 sc h M = some q → lim cal sc 7 cL_law ret 20 lv (.ref h :: st) M = lim cal sc 7 cL_law ret 21 lv (.int (Int32.ofNat q.1) :: st) M := fun {_} hq => (lim_step dL_law_20).trans (e_len hq)
theorem sL_law_21 : lim cal sc 7 cL_law ret 21 lv st M = lim cal sc 7 cL_law ret 23 lv (.int 6 :: st) M := (lim_step dL_law_21).trans (e_bi k_b_6)
theorem sL_law_23 : lim cal sc 7 cL_law ret 23 lv (.int y :: .int x :: st) M = lim cal sc 7 cL_law ret 24 lv (.int (x - y) :: st) M := lim_step dL_law_23
theorem sL_law_24 : lim cal sc 7 cL_law ret 24 lv (.int y :: .int x :: st) M = if y < x then lim cal sc 7 cL_law ret 1506 lv st M else lim cal sc 7 cL_law ret 27 lv st M := (lim_step dL_law_24).trans (e_cmpgt (t := 1506) (by decide))
theorem sL_law_27 : lim cal sc 7 cL_law ret 27 (some (.ref h) :: l) st M = lim cal sc 7 cL_law ret 28 (some (.ref h) :: l) (.ref h :: st) M := lim_step dL_law_27
theorem sL_law_28 : lim cal sc 7 cL_law ret 28 (v0 :: v1 :: v2 :: some (.int x) :: l) st M = lim cal sc 7 cL_law ret 29 (v0 :: v1 :: v2 :: some (.int x) :: l) (.int x :: st) M := lim_step dL_law_28
theorem sL_law_29 : lim cal sc 7 cL_law ret 29 lv (.int x :: .ref h :: st) M = opK (arrV9 sc h M) fun q => guK (inb x q.1) (lim cal sc 7 cL_law ret 30 lv (.int (q.2 x.toNatClampNeg) :: st) M) := (lim_step dL_law_29).trans (e_iald)
theorem sL_law_30 : lim cal sc 7 cL_law ret 30 lv st M = lim cal sc 7 cL_law ret 32 lv (.int 63 :: st) M := (lim_step dL_law_30).trans (e_bi k_b_63)
theorem sL_law_32 : lim cal sc 7 cL_law ret 32 lv (.int y :: .int x :: st) M = lim cal sc 7 cL_law ret 33 lv (.int (x &&& y) :: st) M := lim_step dL_law_32
theorem sL_law_33 : lim cal sc 7 cL_law ret 33 lv (.int x :: st) M = if x.toInt < 0 ∨ 45 < x.toInt then lim cal sc 7 cL_law ret 1500 lv st M else lim cal sc 7 cL_law ret ([232, 255, 288, 331, 364, 387, 410, 433, 466, 489, 512, 545, 568, 591, 604, 637, 670, 713, 736, 759, 792, 815, 848, 881, 914, 947, 980, 1003, 1026, 1049, 1072, 1095, 1128, 1141, 1154, 1187, 1220, 1263, 1306, 1369, 1392, 1415, 1428, 1441, 1454, 1477].getD (x.toInt - 0).toNat 0) lv st M := (lim_step dL_law_33).trans (e_tab [232, 255, 288, 331, 364, 387, 410, 433, 466, 489, 512, 545, 568, 591, 604, 637, 670, 713, 736, 759, 792, 815, 848, 881, 914, 947, 980, 1003, 1026, 1049, 1072, 1095, 1128, 1141, 1154, 1187, 1220, 1263, 1306, 1369, 1392, 1415, 1428, 1441, 1454, 1477] (by decide) (by decide) (by decide))
theorem sL_law_232 : lim cal sc 7 cL_law ret 232 (v0 :: some (.ref h) :: l) st M = lim cal sc 7 cL_law ret 233 (v0 :: some (.ref h) :: l) (.ref h :: st) M := lim_step dL_law_232
theorem sL_law_233 : lim cal sc 7 cL_law ret 233 (some (.ref h) :: l) st M = lim cal sc 7 cL_law ret 234 (some (.ref h) :: l) (.ref h :: st) M := lim_step dL_law_233
theorem sL_law_234 : lim cal sc 7 cL_law ret 234 (v0 :: v1 :: v2 :: some (.int x) :: l) st M = lim cal sc 7 cL_law ret 235 (v0 :: v1 :: v2 :: some (.int x) :: l) (.int x :: st) M := lim_step dL_law_234
theorem sL_law_235 : lim cal sc 7 cL_law ret 235 lv st M = lim cal sc 7 cL_law ret 236 lv (.int 1 :: st) M := (lim_step dL_law_235).trans (e_ic k_i_1)
theorem sL_law_236 : lim cal sc 7 cL_law ret 236 lv (.int y :: .int x :: st) M = lim cal sc 7 cL_law ret 237 lv (.int (x + y) :: st) M := lim_step dL_law_236
theorem sL_law_237 : lim cal sc 7 cL_law ret 237 lv (.int x :: .ref h :: st) M = opK (arrV9 sc h M) fun q => guK (inb x q.1) (lim cal sc 7 cL_law ret 238 lv (.int (q.2 x.toNatClampNeg) :: st) M) := (lim_step dL_law_237).trans (e_iald)
theorem sL_law_238 : lim cal sc 7 cL_law ret 238 lv (a1 :: .ref h :: st) M = guK (isCl 4 h) (guK (rk 8 st) (calK (cal 0 [.ref h, a1] M) fun q M' => lim cal sc 7 cL_law ret 241 lv (q.toList ++ st) M')) := (lim_step dL_law_238).trans (e_virt1 rm_7_13 mq_0)
theorem sL_law_241 : lim cal sc 7 cL_law ret 241 (v0 :: v1 :: some (.ref h) :: l) st M = lim cal sc 7 cL_law ret 242 (v0 :: v1 :: some (.ref h) :: l) (.ref h :: st) M := lim_step dL_law_241
theorem sL_law_242 : lim cal sc 7 cL_law ret 242 (some (.ref h) :: l) st M = lim cal sc 7 cL_law ret 243 (some (.ref h) :: l) (.ref h :: st) M := lim_step dL_law_242
theorem sL_law_243 : lim cal sc 7 cL_law ret 243 (v0 :: v1 :: v2 :: some (.int x) :: l) st M = lim cal sc 7 cL_law ret 244 (v0 :: v1 :: v2 :: some (.int x) :: l) (.int x :: st) M := lim_step dL_law_243
theorem sL_law_244 : lim cal sc 7 cL_law ret 244 lv st M = lim cal sc 7 cL_law ret 245 lv (.int 1 :: st) M := (lim_step dL_law_244).trans (e_ic k_i_1)
theorem sL_law_245 : lim cal sc 7 cL_law ret 245 lv (.int y :: .int x :: st) M = lim cal sc 7 cL_law ret 246 lv (.int (x + y) :: st) M := lim_step dL_law_245
theorem sL_law_246 : lim cal sc 7 cL_law ret 246 lv (.int x :: .ref h :: st) M = opK (arrV9 sc h M) fun q => guK (inb x q.1) (lim cal sc 7 cL_law ret 247 lv (.int (q.2 x.toNatClampNeg) :: st) M) := (lim_step dL_law_246).trans (e_iald)
theorem sL_law_247 : lim cal sc 7 cL_law ret 247 lv (a1 :: .ref h :: st) M = guK (isCl 5 h) (guK (rk 8 st) (calK (cal 134 [.ref h, a1] M) fun q M' => lim cal sc 7 cL_law ret 250 lv (q.toList ++ st) M')) := (lim_step dL_law_247).trans (e_virt1 rm_7_17 mq_134)
theorem sL_law_250 : lim cal sc 7 cL_law ret 250 lv (.int y :: .int x :: st) M = if x = y then lim cal sc 7 cL_law ret 1500 lv st M else lim cal sc 7 cL_law ret 253 lv st M := (lim_step dL_law_250).trans (e_cmpeq (t := 1500) (by decide))
theorem sL_law_253 : lim cal sc 7 cL_law ret 253 lv st M = lim cal sc 7 cL_law ret 254 lv (.int 0 :: st) M := (lim_step dL_law_253).trans (e_ic k_i_0)
theorem sL_law_254 : lim cal sc 7 cL_law (some .boolean) 254 lv [.int x] M = guK (narB .boolean x) (some (some (.int x), M)) := (lim_step dL_law_254).trans (e_zret)
theorem sL_law_255 : lim cal sc 7 cL_law ret 255 (v0 :: some (.ref h) :: l) st M = lim cal sc 7 cL_law ret 256 (v0 :: some (.ref h) :: l) (.ref h :: st) M := lim_step dL_law_255
theorem sL_law_256 : lim cal sc 7 cL_law ret 256 (some (.ref h) :: l) st M = lim cal sc 7 cL_law ret 257 (some (.ref h) :: l) (.ref h :: st) M := lim_step dL_law_256
theorem sL_law_257 : lim cal sc 7 cL_law ret 257 (v0 :: v1 :: v2 :: some (.int x) :: l) st M = lim cal sc 7 cL_law ret 258 (v0 :: v1 :: v2 :: some (.int x) :: l) (.int x :: st) M := lim_step dL_law_257
theorem sL_law_258 : lim cal sc 7 cL_law ret 258 lv st M = lim cal sc 7 cL_law ret 259 lv (.int 1 :: st) M := (lim_step dL_law_258).trans (e_ic k_i_1)
theorem sL_law_259 : lim cal sc 7 cL_law ret 259 lv (.int y :: .int x :: st) M = lim cal sc 7 cL_law ret 260 lv (.int (x + y) :: st) M := lim_step dL_law_259
theorem sL_law_260 : lim cal sc 7 cL_law ret 260 lv (.int x :: .ref h :: st) M = opK (arrV9 sc h M) fun q => guK (inb x q.1) (lim cal sc 7 cL_law ret 261 lv (.int (q.2 x.toNatClampNeg) :: st) M) := (lim_step dL_law_260).trans (e_iald)
theorem sL_law_261 : lim cal sc 7 cL_law ret 261 (some (.ref h) :: l) st M = lim cal sc 7 cL_law ret 262 (some (.ref h) :: l) (.ref h :: st) M := lim_step dL_law_261
theorem sL_law_262 : lim cal sc 7 cL_law ret 262 (v0 :: v1 :: v2 :: some (.int x) :: l) st M = lim cal sc 7 cL_law ret 263 (v0 :: v1 :: v2 :: some (.int x) :: l) (.int x :: st) M := lim_step dL_law_262
theorem sL_law_263 : lim cal sc 7 cL_law ret 263 lv st M = lim cal sc 7 cL_law ret 264 lv (.int 2 :: st) M := (lim_step dL_law_263).trans (e_ic k_i_2)
theorem sL_law_264 : lim cal sc 7 cL_law ret 264 lv (.int y :: .int x :: st) M = lim cal sc 7 cL_law ret 265 lv (.int (x + y) :: st) M := lim_step dL_law_264
theorem sL_law_265 : lim cal sc 7 cL_law ret 265 lv (.int x :: .ref h :: st) M = opK (arrV9 sc h M) fun q => guK (inb x q.1) (lim cal sc 7 cL_law ret 266 lv (.int (q.2 x.toNatClampNeg) :: st) M) := (lim_step dL_law_265).trans (e_iald)
theorem sL_law_266 : lim cal sc 7 cL_law ret 266 lv (a2 :: a1 :: .ref h :: st) M = guK (isCl 4 h) (guK (rk 8 st) (calK (cal 5 [.ref h, a1, a2] M) fun q M' => lim cal sc 7 cL_law ret 269 lv (q.toList ++ st) M')) := (lim_step dL_law_266).trans (e_virt2 rm_7_18 mq_5)
theorem sL_law_269 : lim cal sc 7 cL_law ret 269 (v0 :: v1 :: some (.ref h) :: l) st M = lim cal sc 7 cL_law ret 270 (v0 :: v1 :: some (.ref h) :: l) (.ref h :: st) M := lim_step dL_law_269
theorem sL_law_270 : lim cal sc 7 cL_law ret 270 (some (.ref h) :: l) st M = lim cal sc 7 cL_law ret 271 (some (.ref h) :: l) (.ref h :: st) M := lim_step dL_law_270
theorem sL_law_271 : lim cal sc 7 cL_law ret 271 (v0 :: v1 :: v2 :: some (.int x) :: l) st M = lim cal sc 7 cL_law ret 272 (v0 :: v1 :: v2 :: some (.int x) :: l) (.int x :: st) M := lim_step dL_law_271
theorem sL_law_272 : lim cal sc 7 cL_law ret 272 lv st M = lim cal sc 7 cL_law ret 273 lv (.int 1 :: st) M := (lim_step dL_law_272).trans (e_ic k_i_1)
theorem sL_law_273 : lim cal sc 7 cL_law ret 273 lv (.int y :: .int x :: st) M = lim cal sc 7 cL_law ret 274 lv (.int (x + y) :: st) M := lim_step dL_law_273
theorem sL_law_274 : lim cal sc 7 cL_law ret 274 lv (.int x :: .ref h :: st) M = opK (arrV9 sc h M) fun q => guK (inb x q.1) (lim cal sc 7 cL_law ret 275 lv (.int (q.2 x.toNatClampNeg) :: st) M) := (lim_step dL_law_274).trans (e_iald)
theorem sL_law_275 : lim cal sc 7 cL_law ret 275 (some (.ref h) :: l) st M = lim cal sc 7 cL_law ret 276 (some (.ref h) :: l) (.ref h :: st) M := lim_step dL_law_275
theorem sL_law_276 : lim cal sc 7 cL_law ret 276 (v0 :: v1 :: v2 :: some (.int x) :: l) st M = lim cal sc 7 cL_law ret 277 (v0 :: v1 :: v2 :: some (.int x) :: l) (.int x :: st) M := lim_step dL_law_276
theorem sL_law_277 : lim cal sc 7 cL_law ret 277 lv st M = lim cal sc 7 cL_law ret 278 lv (.int 2 :: st) M := (lim_step dL_law_277).trans (e_ic k_i_2)
theorem sL_law_278 : lim cal sc 7 cL_law ret 278 lv (.int y :: .int x :: st) M = lim cal sc 7 cL_law ret 279 lv (.int (x + y) :: st) M := lim_step dL_law_278
theorem sL_law_279 : lim cal sc 7 cL_law ret 279 lv (.int x :: .ref h :: st) M = opK (arrV9 sc h M) fun q => guK (inb x q.1) (lim cal sc 7 cL_law ret 280 lv (.int (q.2 x.toNatClampNeg) :: st) M) := (lim_step dL_law_279).trans (e_iald)
theorem sL_law_280 : lim cal sc 7 cL_law ret 280 lv (a2 :: a1 :: .ref h :: st) M = guK (isCl 5 h) (guK (rk 8 st) (calK (cal 140 [.ref h, a1, a2] M) fun q M' => lim cal sc 7 cL_law ret 283 lv (q.toList ++ st) M')) := (lim_step dL_law_280).trans (e_virt2 rm_7_22 mq_140)
theorem sL_law_283 : lim cal sc 7 cL_law ret 283 lv (.int y :: .int x :: st) M = if x = y then lim cal sc 7 cL_law ret 1500 lv st M else lim cal sc 7 cL_law ret 286 lv st M := (lim_step dL_law_283).trans (e_cmpeq (t := 1500) (by decide))
theorem sL_law_286 : lim cal sc 7 cL_law ret 286 lv st M = lim cal sc 7 cL_law ret 287 lv (.int 0 :: st) M := (lim_step dL_law_286).trans (e_ic k_i_0)
theorem sL_law_287 : lim cal sc 7 cL_law (some .boolean) 287 lv [.int x] M = guK (narB .boolean x) (some (some (.int x), M)) := (lim_step dL_law_287).trans (e_zret)
theorem sL_law_288 : lim cal sc 7 cL_law ret 288 (v0 :: some (.ref h) :: l) st M = lim cal sc 7 cL_law ret 289 (v0 :: some (.ref h) :: l) (.ref h :: st) M := lim_step dL_law_288
theorem sL_law_289 : lim cal sc 7 cL_law ret 289 (some (.ref h) :: l) st M = lim cal sc 7 cL_law ret 290 (some (.ref h) :: l) (.ref h :: st) M := lim_step dL_law_289
theorem sL_law_290 : lim cal sc 7 cL_law ret 290 (v0 :: v1 :: v2 :: some (.int x) :: l) st M = lim cal sc 7 cL_law ret 291 (v0 :: v1 :: v2 :: some (.int x) :: l) (.int x :: st) M := lim_step dL_law_290
theorem sL_law_291 : lim cal sc 7 cL_law ret 291 lv st M = lim cal sc 7 cL_law ret 292 lv (.int 1 :: st) M := (lim_step dL_law_291).trans (e_ic k_i_1)
theorem sL_law_292 : lim cal sc 7 cL_law ret 292 lv (.int y :: .int x :: st) M = lim cal sc 7 cL_law ret 293 lv (.int (x + y) :: st) M := lim_step dL_law_292
theorem sL_law_293 : lim cal sc 7 cL_law ret 293 lv (.int x :: .ref h :: st) M = opK (arrV9 sc h M) fun q => guK (inb x q.1) (lim cal sc 7 cL_law ret 294 lv (.int (q.2 x.toNatClampNeg) :: st) M) := (lim_step dL_law_293).trans (e_iald)
theorem sL_law_294 : lim cal sc 7 cL_law ret 294 (some (.ref h) :: l) st M = lim cal sc 7 cL_law ret 295 (some (.ref h) :: l) (.ref h :: st) M := lim_step dL_law_294
theorem sL_law_295 : lim cal sc 7 cL_law ret 295 (v0 :: v1 :: v2 :: some (.int x) :: l) st M = lim cal sc 7 cL_law ret 296 (v0 :: v1 :: v2 :: some (.int x) :: l) (.int x :: st) M := lim_step dL_law_295
theorem sL_law_296 : lim cal sc 7 cL_law ret 296 lv st M = lim cal sc 7 cL_law ret 297 lv (.int 2 :: st) M := (lim_step dL_law_296).trans (e_ic k_i_2)
theorem sL_law_297 : lim cal sc 7 cL_law ret 297 lv (.int y :: .int x :: st) M = lim cal sc 7 cL_law ret 298 lv (.int (x + y) :: st) M := lim_step dL_law_297
theorem sL_law_298 : lim cal sc 7 cL_law ret 298 lv (.int x :: .ref h :: st) M = opK (arrV9 sc h M) fun q => guK (inb x q.1) (lim cal sc 7 cL_law ret 299 lv (.int (q.2 x.toNatClampNeg) :: st) M) := (lim_step dL_law_298).trans (e_iald)
theorem sL_law_299 : lim cal sc 7 cL_law ret 299 (some (.ref h) :: l) st M = lim cal sc 7 cL_law ret 300 (some (.ref h) :: l) (.ref h :: st) M := lim_step dL_law_299
theorem sL_law_300 : lim cal sc 7 cL_law ret 300 (v0 :: v1 :: v2 :: some (.int x) :: l) st M = lim cal sc 7 cL_law ret 301 (v0 :: v1 :: v2 :: some (.int x) :: l) (.int x :: st) M := lim_step dL_law_300
theorem sL_law_301 : lim cal sc 7 cL_law ret 301 lv st M = lim cal sc 7 cL_law ret 302 lv (.int 3 :: st) M := (lim_step dL_law_301).trans (e_ic k_i_3)
theorem sL_law_302 : lim cal sc 7 cL_law ret 302 lv (.int y :: .int x :: st) M = lim cal sc 7 cL_law ret 303 lv (.int (x + y) :: st) M := lim_step dL_law_302
theorem sL_law_303 : lim cal sc 7 cL_law ret 303 lv (.int x :: .ref h :: st) M = opK (arrV9 sc h M) fun q => guK (inb x q.1) (lim cal sc 7 cL_law ret 304 lv (.int (q.2 x.toNatClampNeg) :: st) M) := (lim_step dL_law_303).trans (e_iald)
theorem sL_law_304 : lim cal sc 7 cL_law ret 304 lv (a3 :: a2 :: a1 :: .ref h :: st) M = guK (isCl 4 h) (guK (rk 8 st) (calK (cal 9 [.ref h, a1, a2, a3] M) fun q M' => lim cal sc 7 cL_law ret 307 lv (q.toList ++ st) M')) := (lim_step dL_law_304).trans (e_virt3 rm_7_23 mq_9)
theorem sL_law_307 : lim cal sc 7 cL_law ret 307 (v0 :: v1 :: some (.ref h) :: l) st M = lim cal sc 7 cL_law ret 308 (v0 :: v1 :: some (.ref h) :: l) (.ref h :: st) M := lim_step dL_law_307
theorem sL_law_308 : lim cal sc 7 cL_law ret 308 (some (.ref h) :: l) st M = lim cal sc 7 cL_law ret 309 (some (.ref h) :: l) (.ref h :: st) M := lim_step dL_law_308
theorem sL_law_309 : lim cal sc 7 cL_law ret 309 (v0 :: v1 :: v2 :: some (.int x) :: l) st M = lim cal sc 7 cL_law ret 310 (v0 :: v1 :: v2 :: some (.int x) :: l) (.int x :: st) M := lim_step dL_law_309
theorem sL_law_310 : lim cal sc 7 cL_law ret 310 lv st M = lim cal sc 7 cL_law ret 311 lv (.int 1 :: st) M := (lim_step dL_law_310).trans (e_ic k_i_1)
theorem sL_law_311 : lim cal sc 7 cL_law ret 311 lv (.int y :: .int x :: st) M = lim cal sc 7 cL_law ret 312 lv (.int (x + y) :: st) M := lim_step dL_law_311
theorem sL_law_312 : lim cal sc 7 cL_law ret 312 lv (.int x :: .ref h :: st) M = opK (arrV9 sc h M) fun q => guK (inb x q.1) (lim cal sc 7 cL_law ret 313 lv (.int (q.2 x.toNatClampNeg) :: st) M) := (lim_step dL_law_312).trans (e_iald)
theorem sL_law_313 : lim cal sc 7 cL_law ret 313 (some (.ref h) :: l) st M = lim cal sc 7 cL_law ret 314 (some (.ref h) :: l) (.ref h :: st) M := lim_step dL_law_313
theorem sL_law_314 : lim cal sc 7 cL_law ret 314 (v0 :: v1 :: v2 :: some (.int x) :: l) st M = lim cal sc 7 cL_law ret 315 (v0 :: v1 :: v2 :: some (.int x) :: l) (.int x :: st) M := lim_step dL_law_314
theorem sL_law_315 : lim cal sc 7 cL_law ret 315 lv st M = lim cal sc 7 cL_law ret 316 lv (.int 2 :: st) M := (lim_step dL_law_315).trans (e_ic k_i_2)
theorem sL_law_316 : lim cal sc 7 cL_law ret 316 lv (.int y :: .int x :: st) M = lim cal sc 7 cL_law ret 317 lv (.int (x + y) :: st) M := lim_step dL_law_316
theorem sL_law_317 : lim cal sc 7 cL_law ret 317 lv (.int x :: .ref h :: st) M = opK (arrV9 sc h M) fun q => guK (inb x q.1) (lim cal sc 7 cL_law ret 318 lv (.int (q.2 x.toNatClampNeg) :: st) M) := (lim_step dL_law_317).trans (e_iald)
theorem sL_law_318 : lim cal sc 7 cL_law ret 318 (some (.ref h) :: l) st M = lim cal sc 7 cL_law ret 319 (some (.ref h) :: l) (.ref h :: st) M := lim_step dL_law_318
theorem sL_law_319 : lim cal sc 7 cL_law ret 319 (v0 :: v1 :: v2 :: some (.int x) :: l) st M = lim cal sc 7 cL_law ret 320 (v0 :: v1 :: v2 :: some (.int x) :: l) (.int x :: st) M := lim_step dL_law_319
theorem sL_law_320 : lim cal sc 7 cL_law ret 320 lv st M = lim cal sc 7 cL_law ret 321 lv (.int 3 :: st) M := (lim_step dL_law_320).trans (e_ic k_i_3)
theorem sL_law_321 : lim cal sc 7 cL_law ret 321 lv (.int y :: .int x :: st) M = lim cal sc 7 cL_law ret 322 lv (.int (x + y) :: st) M := lim_step dL_law_321
theorem sL_law_322 : lim cal sc 7 cL_law ret 322 lv (.int x :: .ref h :: st) M = opK (arrV9 sc h M) fun q => guK (inb x q.1) (lim cal sc 7 cL_law ret 323 lv (.int (q.2 x.toNatClampNeg) :: st) M) := (lim_step dL_law_322).trans (e_iald)
theorem sL_law_323 : lim cal sc 7 cL_law ret 323 lv (a3 :: a2 :: a1 :: .ref h :: st) M = guK (isCl 5 h) (guK (rk 8 st) (calK (cal 148 [.ref h, a1, a2, a3] M) fun q M' => lim cal sc 7 cL_law ret 326 lv (q.toList ++ st) M')) := (lim_step dL_law_323).trans (e_virt3 rm_7_27 mq_148)
theorem sL_law_326 : lim cal sc 7 cL_law ret 326 lv (.int y :: .int x :: st) M = if x = y then lim cal sc 7 cL_law ret 1500 lv st M else lim cal sc 7 cL_law ret 329 lv st M := (lim_step dL_law_326).trans (e_cmpeq (t := 1500) (by decide))
theorem sL_law_329 : lim cal sc 7 cL_law ret 329 lv st M = lim cal sc 7 cL_law ret 330 lv (.int 0 :: st) M := (lim_step dL_law_329).trans (e_ic k_i_0)
theorem sL_law_330 : lim cal sc 7 cL_law (some .boolean) 330 lv [.int x] M = guK (narB .boolean x) (some (some (.int x), M)) := (lim_step dL_law_330).trans (e_zret)
theorem sL_law_331 : lim cal sc 7 cL_law ret 331 (v0 :: some (.ref h) :: l) st M = lim cal sc 7 cL_law ret 332 (v0 :: some (.ref h) :: l) (.ref h :: st) M := lim_step dL_law_331
theorem sL_law_332 : lim cal sc 7 cL_law ret 332 (some (.ref h) :: l) st M = lim cal sc 7 cL_law ret 333 (some (.ref h) :: l) (.ref h :: st) M := lim_step dL_law_332
theorem sL_law_333 : lim cal sc 7 cL_law ret 333 (v0 :: v1 :: v2 :: some (.int x) :: l) st M = lim cal sc 7 cL_law ret 334 (v0 :: v1 :: v2 :: some (.int x) :: l) (.int x :: st) M := lim_step dL_law_333
theorem sL_law_334 : lim cal sc 7 cL_law ret 334 lv st M = lim cal sc 7 cL_law ret 335 lv (.int 1 :: st) M := (lim_step dL_law_334).trans (e_ic k_i_1)
theorem sL_law_335 : lim cal sc 7 cL_law ret 335 lv (.int y :: .int x :: st) M = lim cal sc 7 cL_law ret 336 lv (.int (x + y) :: st) M := lim_step dL_law_335
theorem sL_law_336 : lim cal sc 7 cL_law ret 336 lv (.int x :: .ref h :: st) M = opK (arrV9 sc h M) fun q => guK (inb x q.1) (lim cal sc 7 cL_law ret 337 lv (.int (q.2 x.toNatClampNeg) :: st) M) := (lim_step dL_law_336).trans (e_iald)
theorem sL_law_337 : lim cal sc 7 cL_law ret 337 (some (.ref h) :: l) st M = lim cal sc 7 cL_law ret 338 (some (.ref h) :: l) (.ref h :: st) M := lim_step dL_law_337
theorem sL_law_338 : lim cal sc 7 cL_law ret 338 (v0 :: v1 :: v2 :: some (.int x) :: l) st M = lim cal sc 7 cL_law ret 339 (v0 :: v1 :: v2 :: some (.int x) :: l) (.int x :: st) M := lim_step dL_law_338
theorem sL_law_339 : lim cal sc 7 cL_law ret 339 lv st M = lim cal sc 7 cL_law ret 340 lv (.int 2 :: st) M := (lim_step dL_law_339).trans (e_ic k_i_2)
theorem sL_law_340 : lim cal sc 7 cL_law ret 340 lv (.int y :: .int x :: st) M = lim cal sc 7 cL_law ret 341 lv (.int (x + y) :: st) M := lim_step dL_law_340
theorem sL_law_341 : lim cal sc 7 cL_law ret 341 lv (.int x :: .ref h :: st) M = opK (arrV9 sc h M) fun q => guK (inb x q.1) (lim cal sc 7 cL_law ret 342 lv (.int (q.2 x.toNatClampNeg) :: st) M) := (lim_step dL_law_341).trans (e_iald)
theorem sL_law_342 : lim cal sc 7 cL_law ret 342 lv (a2 :: a1 :: .ref h :: st) M = guK (isCl 4 h) (guK (rk 8 st) (calK (cal 12 [.ref h, a1, a2] M) fun q M' => lim cal sc 7 cL_law ret 345 lv (q.toList ++ st) M')) := (lim_step dL_law_342).trans (e_virt2 rm_7_28 mq_12)
theorem sL_law_345 : lim cal sc 7 cL_law ret 345 (v0 :: v1 :: some (.ref h) :: l) st M = lim cal sc 7 cL_law ret 346 (v0 :: v1 :: some (.ref h) :: l) (.ref h :: st) M := lim_step dL_law_345
theorem sL_law_346 : lim cal sc 7 cL_law ret 346 (some (.ref h) :: l) st M = lim cal sc 7 cL_law ret 347 (some (.ref h) :: l) (.ref h :: st) M := lim_step dL_law_346
theorem sL_law_347 : lim cal sc 7 cL_law ret 347 (v0 :: v1 :: v2 :: some (.int x) :: l) st M = lim cal sc 7 cL_law ret 348 (v0 :: v1 :: v2 :: some (.int x) :: l) (.int x :: st) M := lim_step dL_law_347
theorem sL_law_348 : lim cal sc 7 cL_law ret 348 lv st M = lim cal sc 7 cL_law ret 349 lv (.int 1 :: st) M := (lim_step dL_law_348).trans (e_ic k_i_1)
theorem sL_law_349 : lim cal sc 7 cL_law ret 349 lv (.int y :: .int x :: st) M = lim cal sc 7 cL_law ret 350 lv (.int (x + y) :: st) M := lim_step dL_law_349
theorem sL_law_350 : lim cal sc 7 cL_law ret 350 lv (.int x :: .ref h :: st) M = opK (arrV9 sc h M) fun q => guK (inb x q.1) (lim cal sc 7 cL_law ret 351 lv (.int (q.2 x.toNatClampNeg) :: st) M) := (lim_step dL_law_350).trans (e_iald)
theorem sL_law_351 : lim cal sc 7 cL_law ret 351 (some (.ref h) :: l) st M = lim cal sc 7 cL_law ret 352 (some (.ref h) :: l) (.ref h :: st) M := lim_step dL_law_351
theorem sL_law_352 : lim cal sc 7 cL_law ret 352 (v0 :: v1 :: v2 :: some (.int x) :: l) st M = lim cal sc 7 cL_law ret 353 (v0 :: v1 :: v2 :: some (.int x) :: l) (.int x :: st) M := lim_step dL_law_352
theorem sL_law_353 : lim cal sc 7 cL_law ret 353 lv st M = lim cal sc 7 cL_law ret 354 lv (.int 2 :: st) M := (lim_step dL_law_353).trans (e_ic k_i_2)
theorem sL_law_354 : lim cal sc 7 cL_law ret 354 lv (.int y :: .int x :: st) M = lim cal sc 7 cL_law ret 355 lv (.int (x + y) :: st) M := lim_step dL_law_354
theorem sL_law_355 : lim cal sc 7 cL_law ret 355 lv (.int x :: .ref h :: st) M = opK (arrV9 sc h M) fun q => guK (inb x q.1) (lim cal sc 7 cL_law ret 356 lv (.int (q.2 x.toNatClampNeg) :: st) M) := (lim_step dL_law_355).trans (e_iald)
theorem sL_law_356 : lim cal sc 7 cL_law ret 356 lv (a2 :: a1 :: .ref h :: st) M = guK (isCl 5 h) (guK (rk 8 st) (calK (cal 150 [.ref h, a1, a2] M) fun q M' => lim cal sc 7 cL_law ret 359 lv (q.toList ++ st) M')) := (lim_step dL_law_356).trans (e_virt2 rm_7_31 mq_150)
theorem sL_law_359 : lim cal sc 7 cL_law ret 359 lv (.int y :: .int x :: st) M = if x = y then lim cal sc 7 cL_law ret 1500 lv st M else lim cal sc 7 cL_law ret 362 lv st M := (lim_step dL_law_359).trans (e_cmpeq (t := 1500) (by decide))
theorem sL_law_362 : lim cal sc 7 cL_law ret 362 lv st M = lim cal sc 7 cL_law ret 363 lv (.int 0 :: st) M := (lim_step dL_law_362).trans (e_ic k_i_0)
theorem sL_law_363 : lim cal sc 7 cL_law (some .boolean) 363 lv [.int x] M = guK (narB .boolean x) (some (some (.int x), M)) := (lim_step dL_law_363).trans (e_zret)
theorem sL_law_364 : lim cal sc 7 cL_law ret 364 (v0 :: some (.ref h) :: l) st M = lim cal sc 7 cL_law ret 365 (v0 :: some (.ref h) :: l) (.ref h :: st) M := lim_step dL_law_364
theorem sL_law_365 : lim cal sc 7 cL_law ret 365 (some (.ref h) :: l) st M = lim cal sc 7 cL_law ret 366 (some (.ref h) :: l) (.ref h :: st) M := lim_step dL_law_365
theorem sL_law_366 : lim cal sc 7 cL_law ret 366 (v0 :: v1 :: v2 :: some (.int x) :: l) st M = lim cal sc 7 cL_law ret 367 (v0 :: v1 :: v2 :: some (.int x) :: l) (.int x :: st) M := lim_step dL_law_366
theorem sL_law_367 : lim cal sc 7 cL_law ret 367 lv st M = lim cal sc 7 cL_law ret 368 lv (.int 1 :: st) M := (lim_step dL_law_367).trans (e_ic k_i_1)
theorem sL_law_368 : lim cal sc 7 cL_law ret 368 lv (.int y :: .int x :: st) M = lim cal sc 7 cL_law ret 369 lv (.int (x + y) :: st) M := lim_step dL_law_368
theorem sL_law_369 : lim cal sc 7 cL_law ret 369 lv (.int x :: .ref h :: st) M = opK (arrV9 sc h M) fun q => guK (inb x q.1) (lim cal sc 7 cL_law ret 370 lv (.int (q.2 x.toNatClampNeg) :: st) M) := (lim_step dL_law_369).trans (e_iald)
theorem sL_law_370 : lim cal sc 7 cL_law ret 370 lv (a1 :: .ref h :: st) M = guK (isCl 4 h) (guK (rk 8 st) (calK (cal 13 [.ref h, a1] M) fun q M' => lim cal sc 7 cL_law ret 373 lv (q.toList ++ st) M')) := (lim_step dL_law_370).trans (e_virt1 rm_7_32 mq_13)
theorem sL_law_373 : lim cal sc 7 cL_law ret 373 (v0 :: v1 :: some (.ref h) :: l) st M = lim cal sc 7 cL_law ret 374 (v0 :: v1 :: some (.ref h) :: l) (.ref h :: st) M := lim_step dL_law_373
theorem sL_law_374 : lim cal sc 7 cL_law ret 374 (some (.ref h) :: l) st M = lim cal sc 7 cL_law ret 375 (some (.ref h) :: l) (.ref h :: st) M := lim_step dL_law_374
theorem sL_law_375 : lim cal sc 7 cL_law ret 375 (v0 :: v1 :: v2 :: some (.int x) :: l) st M = lim cal sc 7 cL_law ret 376 (v0 :: v1 :: v2 :: some (.int x) :: l) (.int x :: st) M := lim_step dL_law_375
theorem sL_law_376 : lim cal sc 7 cL_law ret 376 lv st M = lim cal sc 7 cL_law ret 377 lv (.int 1 :: st) M := (lim_step dL_law_376).trans (e_ic k_i_1)
theorem sL_law_377 : lim cal sc 7 cL_law ret 377 lv (.int y :: .int x :: st) M = lim cal sc 7 cL_law ret 378 lv (.int (x + y) :: st) M := lim_step dL_law_377
theorem sL_law_378 : lim cal sc 7 cL_law ret 378 lv (.int x :: .ref h :: st) M = opK (arrV9 sc h M) fun q => guK (inb x q.1) (lim cal sc 7 cL_law ret 379 lv (.int (q.2 x.toNatClampNeg) :: st) M) := (lim_step dL_law_378).trans (e_iald)
theorem sL_law_379 : lim cal sc 7 cL_law ret 379 lv (a1 :: .ref h :: st) M = guK (isCl 5 h) (guK (rk 8 st) (calK (cal 151 [.ref h, a1] M) fun q M' => lim cal sc 7 cL_law ret 382 lv (q.toList ++ st) M')) := (lim_step dL_law_379).trans (e_virt1 rm_7_35 mq_151)
theorem sL_law_382 : lim cal sc 7 cL_law ret 382 lv (.int y :: .int x :: st) M = if x = y then lim cal sc 7 cL_law ret 1500 lv st M else lim cal sc 7 cL_law ret 385 lv st M := (lim_step dL_law_382).trans (e_cmpeq (t := 1500) (by decide))
theorem sL_law_385 : lim cal sc 7 cL_law ret 385 lv st M = lim cal sc 7 cL_law ret 386 lv (.int 0 :: st) M := (lim_step dL_law_385).trans (e_ic k_i_0)
theorem sL_law_386 : lim cal sc 7 cL_law (some .boolean) 386 lv [.int x] M = guK (narB .boolean x) (some (some (.int x), M)) := (lim_step dL_law_386).trans (e_zret)
theorem sL_law_387 : lim cal sc 7 cL_law ret 387 (v0 :: some (.ref h) :: l) st M = lim cal sc 7 cL_law ret 388 (v0 :: some (.ref h) :: l) (.ref h :: st) M := lim_step dL_law_387
theorem sL_law_388 : lim cal sc 7 cL_law ret 388 (some (.ref h) :: l) st M = lim cal sc 7 cL_law ret 389 (some (.ref h) :: l) (.ref h :: st) M := lim_step dL_law_388
theorem sL_law_389 : lim cal sc 7 cL_law ret 389 (v0 :: v1 :: v2 :: some (.int x) :: l) st M = lim cal sc 7 cL_law ret 390 (v0 :: v1 :: v2 :: some (.int x) :: l) (.int x :: st) M := lim_step dL_law_389
theorem sL_law_390 : lim cal sc 7 cL_law ret 390 lv st M = lim cal sc 7 cL_law ret 391 lv (.int 1 :: st) M := (lim_step dL_law_390).trans (e_ic k_i_1)
theorem sL_law_391 : lim cal sc 7 cL_law ret 391 lv (.int y :: .int x :: st) M = lim cal sc 7 cL_law ret 392 lv (.int (x + y) :: st) M := lim_step dL_law_391
theorem sL_law_392 : lim cal sc 7 cL_law ret 392 lv (.int x :: .ref h :: st) M = opK (arrV9 sc h M) fun q => guK (inb x q.1) (lim cal sc 7 cL_law ret 393 lv (.int (q.2 x.toNatClampNeg) :: st) M) := (lim_step dL_law_392).trans (e_iald)
theorem sL_law_393 : lim cal sc 7 cL_law ret 393 lv (a1 :: .ref h :: st) M = guK (isCl 4 h) (guK (rk 8 st) (calK (cal 18 [.ref h, a1] M) fun q M' => lim cal sc 7 cL_law ret 396 lv (q.toList ++ st) M')) := (lim_step dL_law_393).trans (e_virt1 rm_7_36 mq_18)
theorem sL_law_396 : lim cal sc 7 cL_law ret 396 (v0 :: v1 :: some (.ref h) :: l) st M = lim cal sc 7 cL_law ret 397 (v0 :: v1 :: some (.ref h) :: l) (.ref h :: st) M := lim_step dL_law_396
theorem sL_law_397 : lim cal sc 7 cL_law ret 397 (some (.ref h) :: l) st M = lim cal sc 7 cL_law ret 398 (some (.ref h) :: l) (.ref h :: st) M := lim_step dL_law_397
theorem sL_law_398 : lim cal sc 7 cL_law ret 398 (v0 :: v1 :: v2 :: some (.int x) :: l) st M = lim cal sc 7 cL_law ret 399 (v0 :: v1 :: v2 :: some (.int x) :: l) (.int x :: st) M := lim_step dL_law_398
theorem sL_law_399 : lim cal sc 7 cL_law ret 399 lv st M = lim cal sc 7 cL_law ret 400 lv (.int 1 :: st) M := (lim_step dL_law_399).trans (e_ic k_i_1)
theorem sL_law_400 : lim cal sc 7 cL_law ret 400 lv (.int y :: .int x :: st) M = lim cal sc 7 cL_law ret 401 lv (.int (x + y) :: st) M := lim_step dL_law_400
theorem sL_law_401 : lim cal sc 7 cL_law ret 401 lv (.int x :: .ref h :: st) M = opK (arrV9 sc h M) fun q => guK (inb x q.1) (lim cal sc 7 cL_law ret 402 lv (.int (q.2 x.toNatClampNeg) :: st) M) := (lim_step dL_law_401).trans (e_iald)
theorem sL_law_402 : lim cal sc 7 cL_law ret 402 lv (a1 :: .ref h :: st) M = guK (isCl 5 h) (guK (rk 8 st) (calK (cal 157 [.ref h, a1] M) fun q M' => lim cal sc 7 cL_law ret 405 lv (q.toList ++ st) M')) := (lim_step dL_law_402).trans (e_virt1 rm_7_39 mq_157)
theorem sL_law_405 : lim cal sc 7 cL_law ret 405 lv (.int y :: .int x :: st) M = if x = y then lim cal sc 7 cL_law ret 1500 lv st M else lim cal sc 7 cL_law ret 408 lv st M := (lim_step dL_law_405).trans (e_cmpeq (t := 1500) (by decide))
theorem sL_law_408 : lim cal sc 7 cL_law ret 408 lv st M = lim cal sc 7 cL_law ret 409 lv (.int 0 :: st) M := (lim_step dL_law_408).trans (e_ic k_i_0)
theorem sL_law_409 : lim cal sc 7 cL_law (some .boolean) 409 lv [.int x] M = guK (narB .boolean x) (some (some (.int x), M)) := (lim_step dL_law_409).trans (e_zret)
theorem sL_law_410 : lim cal sc 7 cL_law ret 410 (v0 :: some (.ref h) :: l) st M = lim cal sc 7 cL_law ret 411 (v0 :: some (.ref h) :: l) (.ref h :: st) M := lim_step dL_law_410
theorem sL_law_411 : lim cal sc 7 cL_law ret 411 (some (.ref h) :: l) st M = lim cal sc 7 cL_law ret 412 (some (.ref h) :: l) (.ref h :: st) M := lim_step dL_law_411
theorem sL_law_412 : lim cal sc 7 cL_law ret 412 (v0 :: v1 :: v2 :: some (.int x) :: l) st M = lim cal sc 7 cL_law ret 413 (v0 :: v1 :: v2 :: some (.int x) :: l) (.int x :: st) M := lim_step dL_law_412
theorem sL_law_413 : lim cal sc 7 cL_law ret 413 lv st M = lim cal sc 7 cL_law ret 414 lv (.int 1 :: st) M := (lim_step dL_law_413).trans (e_ic k_i_1)
theorem sL_law_414 : lim cal sc 7 cL_law ret 414 lv (.int y :: .int x :: st) M = lim cal sc 7 cL_law ret 415 lv (.int (x + y) :: st) M := lim_step dL_law_414
theorem sL_law_415 : lim cal sc 7 cL_law ret 415 lv (.int x :: .ref h :: st) M = opK (arrV9 sc h M) fun q => guK (inb x q.1) (lim cal sc 7 cL_law ret 416 lv (.int (q.2 x.toNatClampNeg) :: st) M) := (lim_step dL_law_415).trans (e_iald)
theorem sL_law_416 : lim cal sc 7 cL_law ret 416 lv (a1 :: .ref h :: st) M = guK (isCl 4 h) (guK (rk 8 st) (calK (cal 21 [.ref h, a1] M) fun q M' => lim cal sc 7 cL_law ret 419 lv (q.toList ++ st) M')) := (lim_step dL_law_416).trans (e_virt1 rm_7_40 mq_21)
theorem sL_law_419 : lim cal sc 7 cL_law ret 419 (v0 :: v1 :: some (.ref h) :: l) st M = lim cal sc 7 cL_law ret 420 (v0 :: v1 :: some (.ref h) :: l) (.ref h :: st) M := lim_step dL_law_419
theorem sL_law_420 : lim cal sc 7 cL_law ret 420 (some (.ref h) :: l) st M = lim cal sc 7 cL_law ret 421 (some (.ref h) :: l) (.ref h :: st) M := lim_step dL_law_420
theorem sL_law_421 : lim cal sc 7 cL_law ret 421 (v0 :: v1 :: v2 :: some (.int x) :: l) st M = lim cal sc 7 cL_law ret 422 (v0 :: v1 :: v2 :: some (.int x) :: l) (.int x :: st) M := lim_step dL_law_421
theorem sL_law_422 : lim cal sc 7 cL_law ret 422 lv st M = lim cal sc 7 cL_law ret 423 lv (.int 1 :: st) M := (lim_step dL_law_422).trans (e_ic k_i_1)
theorem sL_law_423 : lim cal sc 7 cL_law ret 423 lv (.int y :: .int x :: st) M = lim cal sc 7 cL_law ret 424 lv (.int (x + y) :: st) M := lim_step dL_law_423
theorem sL_law_424 : lim cal sc 7 cL_law ret 424 lv (.int x :: .ref h :: st) M = opK (arrV9 sc h M) fun q => guK (inb x q.1) (lim cal sc 7 cL_law ret 425 lv (.int (q.2 x.toNatClampNeg) :: st) M) := (lim_step dL_law_424).trans (e_iald)
theorem sL_law_425 : lim cal sc 7 cL_law ret 425 lv (a1 :: .ref h :: st) M = guK (isCl 5 h) (guK (rk 8 st) (calK (cal 160 [.ref h, a1] M) fun q M' => lim cal sc 7 cL_law ret 428 lv (q.toList ++ st) M')) := (lim_step dL_law_425).trans (e_virt1 rm_7_43 mq_160)
theorem sL_law_428 : lim cal sc 7 cL_law ret 428 lv (.int y :: .int x :: st) M = if x = y then lim cal sc 7 cL_law ret 1500 lv st M else lim cal sc 7 cL_law ret 431 lv st M := (lim_step dL_law_428).trans (e_cmpeq (t := 1500) (by decide))
theorem sL_law_431 : lim cal sc 7 cL_law ret 431 lv st M = lim cal sc 7 cL_law ret 432 lv (.int 0 :: st) M := (lim_step dL_law_431).trans (e_ic k_i_0)
theorem sL_law_432 : lim cal sc 7 cL_law (some .boolean) 432 lv [.int x] M = guK (narB .boolean x) (some (some (.int x), M)) := (lim_step dL_law_432).trans (e_zret)
theorem sL_law_433 : lim cal sc 7 cL_law ret 433 (v0 :: some (.ref h) :: l) st M = lim cal sc 7 cL_law ret 434 (v0 :: some (.ref h) :: l) (.ref h :: st) M := lim_step dL_law_433
theorem sL_law_434 : lim cal sc 7 cL_law ret 434 (some (.ref h) :: l) st M = lim cal sc 7 cL_law ret 435 (some (.ref h) :: l) (.ref h :: st) M := lim_step dL_law_434
theorem sL_law_435 : lim cal sc 7 cL_law ret 435 (v0 :: v1 :: v2 :: some (.int x) :: l) st M = lim cal sc 7 cL_law ret 436 (v0 :: v1 :: v2 :: some (.int x) :: l) (.int x :: st) M := lim_step dL_law_435
theorem sL_law_436 : lim cal sc 7 cL_law ret 436 lv st M = lim cal sc 7 cL_law ret 437 lv (.int 1 :: st) M := (lim_step dL_law_436).trans (e_ic k_i_1)
theorem sL_law_437 : lim cal sc 7 cL_law ret 437 lv (.int y :: .int x :: st) M = lim cal sc 7 cL_law ret 438 lv (.int (x + y) :: st) M := lim_step dL_law_437
theorem sL_law_438 : lim cal sc 7 cL_law ret 438 lv (.int x :: .ref h :: st) M = opK (arrV9 sc h M) fun q => guK (inb x q.1) (lim cal sc 7 cL_law ret 439 lv (.int (q.2 x.toNatClampNeg) :: st) M) := (lim_step dL_law_438).trans (e_iald)
theorem sL_law_439 : lim cal sc 7 cL_law ret 439 (some (.ref h) :: l) st M = lim cal sc 7 cL_law ret 440 (some (.ref h) :: l) (.ref h :: st) M := lim_step dL_law_439
theorem sL_law_440 : lim cal sc 7 cL_law ret 440 (v0 :: v1 :: v2 :: some (.int x) :: l) st M = lim cal sc 7 cL_law ret 441 (v0 :: v1 :: v2 :: some (.int x) :: l) (.int x :: st) M := lim_step dL_law_440
theorem sL_law_441 : lim cal sc 7 cL_law ret 441 lv st M = lim cal sc 7 cL_law ret 442 lv (.int 2 :: st) M := (lim_step dL_law_441).trans (e_ic k_i_2)
theorem sL_law_442 : lim cal sc 7 cL_law ret 442 lv (.int y :: .int x :: st) M = lim cal sc 7 cL_law ret 443 lv (.int (x + y) :: st) M := lim_step dL_law_442
theorem sL_law_443 : lim cal sc 7 cL_law ret 443 lv (.int x :: .ref h :: st) M = opK (arrV9 sc h M) fun q => guK (inb x q.1) (lim cal sc 7 cL_law ret 444 lv (.int (q.2 x.toNatClampNeg) :: st) M) := (lim_step dL_law_443).trans (e_iald)
theorem sL_law_444 : lim cal sc 7 cL_law ret 444 lv (a2 :: a1 :: .ref h :: st) M = guK (isCl 4 h) (guK (rk 8 st) (calK (cal 22 [.ref h, a1, a2] M) fun q M' => lim cal sc 7 cL_law ret 447 lv (q.toList ++ st) M')) := (lim_step dL_law_444).trans (e_virt2 rm_7_44 mq_22)
theorem sL_law_447 : lim cal sc 7 cL_law ret 447 (v0 :: v1 :: some (.ref h) :: l) st M = lim cal sc 7 cL_law ret 448 (v0 :: v1 :: some (.ref h) :: l) (.ref h :: st) M := lim_step dL_law_447
theorem sL_law_448 : lim cal sc 7 cL_law ret 448 (some (.ref h) :: l) st M = lim cal sc 7 cL_law ret 449 (some (.ref h) :: l) (.ref h :: st) M := lim_step dL_law_448
theorem sL_law_449 : lim cal sc 7 cL_law ret 449 (v0 :: v1 :: v2 :: some (.int x) :: l) st M = lim cal sc 7 cL_law ret 450 (v0 :: v1 :: v2 :: some (.int x) :: l) (.int x :: st) M := lim_step dL_law_449
theorem sL_law_450 : lim cal sc 7 cL_law ret 450 lv st M = lim cal sc 7 cL_law ret 451 lv (.int 1 :: st) M := (lim_step dL_law_450).trans (e_ic k_i_1)
theorem sL_law_451 : lim cal sc 7 cL_law ret 451 lv (.int y :: .int x :: st) M = lim cal sc 7 cL_law ret 452 lv (.int (x + y) :: st) M := lim_step dL_law_451
theorem sL_law_452 : lim cal sc 7 cL_law ret 452 lv (.int x :: .ref h :: st) M = opK (arrV9 sc h M) fun q => guK (inb x q.1) (lim cal sc 7 cL_law ret 453 lv (.int (q.2 x.toNatClampNeg) :: st) M) := (lim_step dL_law_452).trans (e_iald)
theorem sL_law_453 : lim cal sc 7 cL_law ret 453 (some (.ref h) :: l) st M = lim cal sc 7 cL_law ret 454 (some (.ref h) :: l) (.ref h :: st) M := lim_step dL_law_453
theorem sL_law_454 : lim cal sc 7 cL_law ret 454 (v0 :: v1 :: v2 :: some (.int x) :: l) st M = lim cal sc 7 cL_law ret 455 (v0 :: v1 :: v2 :: some (.int x) :: l) (.int x :: st) M := lim_step dL_law_454
theorem sL_law_455 : lim cal sc 7 cL_law ret 455 lv st M = lim cal sc 7 cL_law ret 456 lv (.int 2 :: st) M := (lim_step dL_law_455).trans (e_ic k_i_2)
theorem sL_law_456 : lim cal sc 7 cL_law ret 456 lv (.int y :: .int x :: st) M = lim cal sc 7 cL_law ret 457 lv (.int (x + y) :: st) M := lim_step dL_law_456
theorem sL_law_457 : lim cal sc 7 cL_law ret 457 lv (.int x :: .ref h :: st) M = opK (arrV9 sc h M) fun q => guK (inb x q.1) (lim cal sc 7 cL_law ret 458 lv (.int (q.2 x.toNatClampNeg) :: st) M) := (lim_step dL_law_457).trans (e_iald)
theorem sL_law_458 : lim cal sc 7 cL_law ret 458 lv (a2 :: a1 :: .ref h :: st) M = guK (isCl 5 h) (guK (rk 8 st) (calK (cal 161 [.ref h, a1, a2] M) fun q M' => lim cal sc 7 cL_law ret 461 lv (q.toList ++ st) M')) := (lim_step dL_law_458).trans (e_virt2 rm_7_47 mq_161)
theorem sL_law_461 : lim cal sc 7 cL_law ret 461 lv (.int y :: .int x :: st) M = if x = y then lim cal sc 7 cL_law ret 1500 lv st M else lim cal sc 7 cL_law ret 464 lv st M := (lim_step dL_law_461).trans (e_cmpeq (t := 1500) (by decide))
theorem sL_law_464 : lim cal sc 7 cL_law ret 464 lv st M = lim cal sc 7 cL_law ret 465 lv (.int 0 :: st) M := (lim_step dL_law_464).trans (e_ic k_i_0)
theorem sL_law_465 : lim cal sc 7 cL_law (some .boolean) 465 lv [.int x] M = guK (narB .boolean x) (some (some (.int x), M)) := (lim_step dL_law_465).trans (e_zret)
theorem sL_law_466 : lim cal sc 7 cL_law ret 466 (v0 :: some (.ref h) :: l) st M = lim cal sc 7 cL_law ret 467 (v0 :: some (.ref h) :: l) (.ref h :: st) M := lim_step dL_law_466
theorem sL_law_467 : lim cal sc 7 cL_law ret 467 (some (.ref h) :: l) st M = lim cal sc 7 cL_law ret 468 (some (.ref h) :: l) (.ref h :: st) M := lim_step dL_law_467
theorem sL_law_468 : lim cal sc 7 cL_law ret 468 (v0 :: v1 :: v2 :: some (.int x) :: l) st M = lim cal sc 7 cL_law ret 469 (v0 :: v1 :: v2 :: some (.int x) :: l) (.int x :: st) M := lim_step dL_law_468
theorem sL_law_469 : lim cal sc 7 cL_law ret 469 lv st M = lim cal sc 7 cL_law ret 470 lv (.int 1 :: st) M := (lim_step dL_law_469).trans (e_ic k_i_1)
theorem sL_law_470 : lim cal sc 7 cL_law ret 470 lv (.int y :: .int x :: st) M = lim cal sc 7 cL_law ret 471 lv (.int (x + y) :: st) M := lim_step dL_law_470
theorem sL_law_471 : lim cal sc 7 cL_law ret 471 lv (.int x :: .ref h :: st) M = opK (arrV9 sc h M) fun q => guK (inb x q.1) (lim cal sc 7 cL_law ret 472 lv (.int (q.2 x.toNatClampNeg) :: st) M) := (lim_step dL_law_471).trans (e_iald)
theorem sL_law_472 : lim cal sc 7 cL_law ret 472 lv (a1 :: .ref h :: st) M = guK (isCl 4 h) (guK (rk 8 st) (calK (cal 23 [.ref h, a1] M) fun q M' => lim cal sc 7 cL_law ret 475 lv (q.toList ++ st) M')) := (lim_step dL_law_472).trans (e_virt1 rm_7_48 mq_23)
theorem sL_law_475 : lim cal sc 7 cL_law ret 475 (v0 :: v1 :: some (.ref h) :: l) st M = lim cal sc 7 cL_law ret 476 (v0 :: v1 :: some (.ref h) :: l) (.ref h :: st) M := lim_step dL_law_475
theorem sL_law_476 : lim cal sc 7 cL_law ret 476 (some (.ref h) :: l) st M = lim cal sc 7 cL_law ret 477 (some (.ref h) :: l) (.ref h :: st) M := lim_step dL_law_476
theorem sL_law_477 : lim cal sc 7 cL_law ret 477 (v0 :: v1 :: v2 :: some (.int x) :: l) st M = lim cal sc 7 cL_law ret 478 (v0 :: v1 :: v2 :: some (.int x) :: l) (.int x :: st) M := lim_step dL_law_477
theorem sL_law_478 : lim cal sc 7 cL_law ret 478 lv st M = lim cal sc 7 cL_law ret 479 lv (.int 1 :: st) M := (lim_step dL_law_478).trans (e_ic k_i_1)
theorem sL_law_479 : lim cal sc 7 cL_law ret 479 lv (.int y :: .int x :: st) M = lim cal sc 7 cL_law ret 480 lv (.int (x + y) :: st) M := lim_step dL_law_479
theorem sL_law_480 : lim cal sc 7 cL_law ret 480 lv (.int x :: .ref h :: st) M = opK (arrV9 sc h M) fun q => guK (inb x q.1) (lim cal sc 7 cL_law ret 481 lv (.int (q.2 x.toNatClampNeg) :: st) M) := (lim_step dL_law_480).trans (e_iald)
theorem sL_law_481 : lim cal sc 7 cL_law ret 481 lv (a1 :: .ref h :: st) M = guK (isCl 5 h) (guK (rk 8 st) (calK (cal 162 [.ref h, a1] M) fun q M' => lim cal sc 7 cL_law ret 484 lv (q.toList ++ st) M')) := (lim_step dL_law_481).trans (e_virt1 rm_7_51 mq_162)
theorem sL_law_484 : lim cal sc 7 cL_law ret 484 lv (.int y :: .int x :: st) M = if x = y then lim cal sc 7 cL_law ret 1500 lv st M else lim cal sc 7 cL_law ret 487 lv st M := (lim_step dL_law_484).trans (e_cmpeq (t := 1500) (by decide))
theorem sL_law_487 : lim cal sc 7 cL_law ret 487 lv st M = lim cal sc 7 cL_law ret 488 lv (.int 0 :: st) M := (lim_step dL_law_487).trans (e_ic k_i_0)
theorem sL_law_488 : lim cal sc 7 cL_law (some .boolean) 488 lv [.int x] M = guK (narB .boolean x) (some (some (.int x), M)) := (lim_step dL_law_488).trans (e_zret)
theorem sL_law_489 : lim cal sc 7 cL_law ret 489 (v0 :: some (.ref h) :: l) st M = lim cal sc 7 cL_law ret 490 (v0 :: some (.ref h) :: l) (.ref h :: st) M := lim_step dL_law_489
theorem sL_law_490 : lim cal sc 7 cL_law ret 490 (some (.ref h) :: l) st M = lim cal sc 7 cL_law ret 491 (some (.ref h) :: l) (.ref h :: st) M := lim_step dL_law_490
theorem sL_law_491 : lim cal sc 7 cL_law ret 491 (v0 :: v1 :: v2 :: some (.int x) :: l) st M = lim cal sc 7 cL_law ret 492 (v0 :: v1 :: v2 :: some (.int x) :: l) (.int x :: st) M := lim_step dL_law_491
theorem sL_law_492 : lim cal sc 7 cL_law ret 492 lv st M = lim cal sc 7 cL_law ret 493 lv (.int 1 :: st) M := (lim_step dL_law_492).trans (e_ic k_i_1)
theorem sL_law_493 : lim cal sc 7 cL_law ret 493 lv (.int y :: .int x :: st) M = lim cal sc 7 cL_law ret 494 lv (.int (x + y) :: st) M := lim_step dL_law_493
theorem sL_law_494 : lim cal sc 7 cL_law ret 494 lv (.int x :: .ref h :: st) M = opK (arrV9 sc h M) fun q => guK (inb x q.1) (lim cal sc 7 cL_law ret 495 lv (.int (q.2 x.toNatClampNeg) :: st) M) := (lim_step dL_law_494).trans (e_iald)
theorem sL_law_495 : lim cal sc 7 cL_law ret 495 lv (a1 :: .ref h :: st) M = guK (isCl 4 h) (guK (rk 8 st) (calK (cal 32 [.ref h, a1] M) fun q M' => lim cal sc 7 cL_law ret 498 lv (q.toList ++ st) M')) := (lim_step dL_law_495).trans (e_virt1 rm_7_52 mq_32)
theorem sL_law_498 : lim cal sc 7 cL_law ret 498 (v0 :: v1 :: some (.ref h) :: l) st M = lim cal sc 7 cL_law ret 499 (v0 :: v1 :: some (.ref h) :: l) (.ref h :: st) M := lim_step dL_law_498
theorem sL_law_499 : lim cal sc 7 cL_law ret 499 (some (.ref h) :: l) st M = lim cal sc 7 cL_law ret 500 (some (.ref h) :: l) (.ref h :: st) M := lim_step dL_law_499
theorem sL_law_500 : lim cal sc 7 cL_law ret 500 (v0 :: v1 :: v2 :: some (.int x) :: l) st M = lim cal sc 7 cL_law ret 501 (v0 :: v1 :: v2 :: some (.int x) :: l) (.int x :: st) M := lim_step dL_law_500
theorem sL_law_501 : lim cal sc 7 cL_law ret 501 lv st M = lim cal sc 7 cL_law ret 502 lv (.int 1 :: st) M := (lim_step dL_law_501).trans (e_ic k_i_1)
theorem sL_law_502 : lim cal sc 7 cL_law ret 502 lv (.int y :: .int x :: st) M = lim cal sc 7 cL_law ret 503 lv (.int (x + y) :: st) M := lim_step dL_law_502
theorem sL_law_503 : lim cal sc 7 cL_law ret 503 lv (.int x :: .ref h :: st) M = opK (arrV9 sc h M) fun q => guK (inb x q.1) (lim cal sc 7 cL_law ret 504 lv (.int (q.2 x.toNatClampNeg) :: st) M) := (lim_step dL_law_503).trans (e_iald)
theorem sL_law_504 : lim cal sc 7 cL_law ret 504 lv (a1 :: .ref h :: st) M = guK (isCl 5 h) (guK (rk 8 st) (calK (cal 169 [.ref h, a1] M) fun q M' => lim cal sc 7 cL_law ret 507 lv (q.toList ++ st) M')) := (lim_step dL_law_504).trans (e_virt1 rm_7_55 mq_169)
theorem sL_law_507 : lim cal sc 7 cL_law ret 507 lv (.int y :: .int x :: st) M = if x = y then lim cal sc 7 cL_law ret 1500 lv st M else lim cal sc 7 cL_law ret 510 lv st M := (lim_step dL_law_507).trans (e_cmpeq (t := 1500) (by decide))
theorem sL_law_510 : lim cal sc 7 cL_law ret 510 lv st M = lim cal sc 7 cL_law ret 511 lv (.int 0 :: st) M := (lim_step dL_law_510).trans (e_ic k_i_0)
theorem sL_law_511 : lim cal sc 7 cL_law (some .boolean) 511 lv [.int x] M = guK (narB .boolean x) (some (some (.int x), M)) := (lim_step dL_law_511).trans (e_zret)
theorem sL_law_512 : lim cal sc 7 cL_law ret 512 (v0 :: some (.ref h) :: l) st M = lim cal sc 7 cL_law ret 513 (v0 :: some (.ref h) :: l) (.ref h :: st) M := lim_step dL_law_512
theorem sL_law_513 : lim cal sc 7 cL_law ret 513 (some (.ref h) :: l) st M = lim cal sc 7 cL_law ret 514 (some (.ref h) :: l) (.ref h :: st) M := lim_step dL_law_513
theorem sL_law_514 : lim cal sc 7 cL_law ret 514 (v0 :: v1 :: v2 :: some (.int x) :: l) st M = lim cal sc 7 cL_law ret 515 (v0 :: v1 :: v2 :: some (.int x) :: l) (.int x :: st) M := lim_step dL_law_514
theorem sL_law_515 : lim cal sc 7 cL_law ret 515 lv st M = lim cal sc 7 cL_law ret 516 lv (.int 1 :: st) M := (lim_step dL_law_515).trans (e_ic k_i_1)
theorem sL_law_516 : lim cal sc 7 cL_law ret 516 lv (.int y :: .int x :: st) M = lim cal sc 7 cL_law ret 517 lv (.int (x + y) :: st) M := lim_step dL_law_516
theorem sL_law_517 : lim cal sc 7 cL_law ret 517 lv (.int x :: .ref h :: st) M = opK (arrV9 sc h M) fun q => guK (inb x q.1) (lim cal sc 7 cL_law ret 518 lv (.int (q.2 x.toNatClampNeg) :: st) M) := (lim_step dL_law_517).trans (e_iald)
theorem sL_law_518 : lim cal sc 7 cL_law ret 518 (some (.ref h) :: l) st M = lim cal sc 7 cL_law ret 519 (some (.ref h) :: l) (.ref h :: st) M := lim_step dL_law_518
theorem sL_law_519 : lim cal sc 7 cL_law ret 519 (v0 :: v1 :: v2 :: some (.int x) :: l) st M = lim cal sc 7 cL_law ret 520 (v0 :: v1 :: v2 :: some (.int x) :: l) (.int x :: st) M := lim_step dL_law_519
theorem sL_law_520 : lim cal sc 7 cL_law ret 520 lv st M = lim cal sc 7 cL_law ret 521 lv (.int 2 :: st) M := (lim_step dL_law_520).trans (e_ic k_i_2)
theorem sL_law_521 : lim cal sc 7 cL_law ret 521 lv (.int y :: .int x :: st) M = lim cal sc 7 cL_law ret 522 lv (.int (x + y) :: st) M := lim_step dL_law_521
theorem sL_law_522 : lim cal sc 7 cL_law ret 522 lv (.int x :: .ref h :: st) M = opK (arrV9 sc h M) fun q => guK (inb x q.1) (lim cal sc 7 cL_law ret 523 lv (.int (q.2 x.toNatClampNeg) :: st) M) := (lim_step dL_law_522).trans (e_iald)
theorem sL_law_523 : lim cal sc 7 cL_law ret 523 lv (a2 :: a1 :: .ref h :: st) M = guK (isCl 4 h) (guK (rk 8 st) (calK (cal 33 [.ref h, a1, a2] M) fun q M' => lim cal sc 7 cL_law ret 526 lv (q.toList ++ st) M')) := (lim_step dL_law_523).trans (e_virt2 rm_7_56 mq_33)
theorem sL_law_526 : lim cal sc 7 cL_law ret 526 (v0 :: v1 :: some (.ref h) :: l) st M = lim cal sc 7 cL_law ret 527 (v0 :: v1 :: some (.ref h) :: l) (.ref h :: st) M := lim_step dL_law_526
theorem sL_law_527 : lim cal sc 7 cL_law ret 527 (some (.ref h) :: l) st M = lim cal sc 7 cL_law ret 528 (some (.ref h) :: l) (.ref h :: st) M := lim_step dL_law_527
theorem sL_law_528 : lim cal sc 7 cL_law ret 528 (v0 :: v1 :: v2 :: some (.int x) :: l) st M = lim cal sc 7 cL_law ret 529 (v0 :: v1 :: v2 :: some (.int x) :: l) (.int x :: st) M := lim_step dL_law_528
theorem sL_law_529 : lim cal sc 7 cL_law ret 529 lv st M = lim cal sc 7 cL_law ret 530 lv (.int 1 :: st) M := (lim_step dL_law_529).trans (e_ic k_i_1)
theorem sL_law_530 : lim cal sc 7 cL_law ret 530 lv (.int y :: .int x :: st) M = lim cal sc 7 cL_law ret 531 lv (.int (x + y) :: st) M := lim_step dL_law_530
theorem sL_law_531 : lim cal sc 7 cL_law ret 531 lv (.int x :: .ref h :: st) M = opK (arrV9 sc h M) fun q => guK (inb x q.1) (lim cal sc 7 cL_law ret 532 lv (.int (q.2 x.toNatClampNeg) :: st) M) := (lim_step dL_law_531).trans (e_iald)
theorem sL_law_532 : lim cal sc 7 cL_law ret 532 (some (.ref h) :: l) st M = lim cal sc 7 cL_law ret 533 (some (.ref h) :: l) (.ref h :: st) M := lim_step dL_law_532
theorem sL_law_533 : lim cal sc 7 cL_law ret 533 (v0 :: v1 :: v2 :: some (.int x) :: l) st M = lim cal sc 7 cL_law ret 534 (v0 :: v1 :: v2 :: some (.int x) :: l) (.int x :: st) M := lim_step dL_law_533
theorem sL_law_534 : lim cal sc 7 cL_law ret 534 lv st M = lim cal sc 7 cL_law ret 535 lv (.int 2 :: st) M := (lim_step dL_law_534).trans (e_ic k_i_2)
theorem sL_law_535 : lim cal sc 7 cL_law ret 535 lv (.int y :: .int x :: st) M = lim cal sc 7 cL_law ret 536 lv (.int (x + y) :: st) M := lim_step dL_law_535
theorem sL_law_536 : lim cal sc 7 cL_law ret 536 lv (.int x :: .ref h :: st) M = opK (arrV9 sc h M) fun q => guK (inb x q.1) (lim cal sc 7 cL_law ret 537 lv (.int (q.2 x.toNatClampNeg) :: st) M) := (lim_step dL_law_536).trans (e_iald)
theorem sL_law_537 : lim cal sc 7 cL_law ret 537 lv (a2 :: a1 :: .ref h :: st) M = guK (isCl 5 h) (guK (rk 8 st) (calK (cal 170 [.ref h, a1, a2] M) fun q M' => lim cal sc 7 cL_law ret 540 lv (q.toList ++ st) M')) := (lim_step dL_law_537).trans (e_virt2 rm_7_59 mq_170)
theorem sL_law_540 : lim cal sc 7 cL_law ret 540 lv (.int y :: .int x :: st) M = if x = y then lim cal sc 7 cL_law ret 1500 lv st M else lim cal sc 7 cL_law ret 543 lv st M := (lim_step dL_law_540).trans (e_cmpeq (t := 1500) (by decide))
theorem sL_law_543 : lim cal sc 7 cL_law ret 543 lv st M = lim cal sc 7 cL_law ret 544 lv (.int 0 :: st) M := (lim_step dL_law_543).trans (e_ic k_i_0)
theorem sL_law_544 : lim cal sc 7 cL_law (some .boolean) 544 lv [.int x] M = guK (narB .boolean x) (some (some (.int x), M)) := (lim_step dL_law_544).trans (e_zret)
theorem sL_law_545 : lim cal sc 7 cL_law ret 545 (v0 :: some (.ref h) :: l) st M = lim cal sc 7 cL_law ret 546 (v0 :: some (.ref h) :: l) (.ref h :: st) M := lim_step dL_law_545
theorem sL_law_546 : lim cal sc 7 cL_law ret 546 (some (.ref h) :: l) st M = lim cal sc 7 cL_law ret 547 (some (.ref h) :: l) (.ref h :: st) M := lim_step dL_law_546
theorem sL_law_547 : lim cal sc 7 cL_law ret 547 (v0 :: v1 :: v2 :: some (.int x) :: l) st M = lim cal sc 7 cL_law ret 548 (v0 :: v1 :: v2 :: some (.int x) :: l) (.int x :: st) M := lim_step dL_law_547
theorem sL_law_548 : lim cal sc 7 cL_law ret 548 lv st M = lim cal sc 7 cL_law ret 549 lv (.int 1 :: st) M := (lim_step dL_law_548).trans (e_ic k_i_1)
theorem sL_law_549 : lim cal sc 7 cL_law ret 549 lv (.int y :: .int x :: st) M = lim cal sc 7 cL_law ret 550 lv (.int (x + y) :: st) M := lim_step dL_law_549
theorem sL_law_550 : lim cal sc 7 cL_law ret 550 lv (.int x :: .ref h :: st) M = opK (arrV9 sc h M) fun q => guK (inb x q.1) (lim cal sc 7 cL_law ret 551 lv (.int (q.2 x.toNatClampNeg) :: st) M) := (lim_step dL_law_550).trans (e_iald)
theorem sL_law_551 : lim cal sc 7 cL_law ret 551 lv (a1 :: .ref h :: st) M = guK (isCl 4 h) (guK (rk 8 st) (calK (cal 37 [.ref h, a1] M) fun q M' => lim cal sc 7 cL_law ret 554 lv (q.toList ++ st) M')) := (lim_step dL_law_551).trans (e_virt1 rm_7_60 mq_37)
theorem sL_law_554 : lim cal sc 7 cL_law ret 554 (v0 :: v1 :: some (.ref h) :: l) st M = lim cal sc 7 cL_law ret 555 (v0 :: v1 :: some (.ref h) :: l) (.ref h :: st) M := lim_step dL_law_554
theorem sL_law_555 : lim cal sc 7 cL_law ret 555 (some (.ref h) :: l) st M = lim cal sc 7 cL_law ret 556 (some (.ref h) :: l) (.ref h :: st) M := lim_step dL_law_555
theorem sL_law_556 : lim cal sc 7 cL_law ret 556 (v0 :: v1 :: v2 :: some (.int x) :: l) st M = lim cal sc 7 cL_law ret 557 (v0 :: v1 :: v2 :: some (.int x) :: l) (.int x :: st) M := lim_step dL_law_556
theorem sL_law_557 : lim cal sc 7 cL_law ret 557 lv st M = lim cal sc 7 cL_law ret 558 lv (.int 1 :: st) M := (lim_step dL_law_557).trans (e_ic k_i_1)
theorem sL_law_558 : lim cal sc 7 cL_law ret 558 lv (.int y :: .int x :: st) M = lim cal sc 7 cL_law ret 559 lv (.int (x + y) :: st) M := lim_step dL_law_558
theorem sL_law_559 : lim cal sc 7 cL_law ret 559 lv (.int x :: .ref h :: st) M = opK (arrV9 sc h M) fun q => guK (inb x q.1) (lim cal sc 7 cL_law ret 560 lv (.int (q.2 x.toNatClampNeg) :: st) M) := (lim_step dL_law_559).trans (e_iald)
theorem sL_law_560 : lim cal sc 7 cL_law ret 560 lv (a1 :: .ref h :: st) M = guK (isCl 5 h) (guK (rk 8 st) (calK (cal 174 [.ref h, a1] M) fun q M' => lim cal sc 7 cL_law ret 563 lv (q.toList ++ st) M')) := (lim_step dL_law_560).trans (e_virt1 rm_7_63 mq_174)
theorem sL_law_563 : lim cal sc 7 cL_law ret 563 lv (.int y :: .int x :: st) M = if x = y then lim cal sc 7 cL_law ret 1500 lv st M else lim cal sc 7 cL_law ret 566 lv st M := (lim_step dL_law_563).trans (e_cmpeq (t := 1500) (by decide))
theorem sL_law_566 : lim cal sc 7 cL_law ret 566 lv st M = lim cal sc 7 cL_law ret 567 lv (.int 0 :: st) M := (lim_step dL_law_566).trans (e_ic k_i_0)
theorem sL_law_567 : lim cal sc 7 cL_law (some .boolean) 567 lv [.int x] M = guK (narB .boolean x) (some (some (.int x), M)) := (lim_step dL_law_567).trans (e_zret)
theorem sL_law_568 : lim cal sc 7 cL_law ret 568 (v0 :: some (.ref h) :: l) st M = lim cal sc 7 cL_law ret 569 (v0 :: some (.ref h) :: l) (.ref h :: st) M := lim_step dL_law_568
theorem sL_law_569 : lim cal sc 7 cL_law ret 569 (some (.ref h) :: l) st M = lim cal sc 7 cL_law ret 570 (some (.ref h) :: l) (.ref h :: st) M := lim_step dL_law_569
theorem sL_law_570 : lim cal sc 7 cL_law ret 570 (v0 :: v1 :: v2 :: some (.int x) :: l) st M = lim cal sc 7 cL_law ret 571 (v0 :: v1 :: v2 :: some (.int x) :: l) (.int x :: st) M := lim_step dL_law_570
theorem sL_law_571 : lim cal sc 7 cL_law ret 571 lv st M = lim cal sc 7 cL_law ret 572 lv (.int 1 :: st) M := (lim_step dL_law_571).trans (e_ic k_i_1)
theorem sL_law_572 : lim cal sc 7 cL_law ret 572 lv (.int y :: .int x :: st) M = lim cal sc 7 cL_law ret 573 lv (.int (x + y) :: st) M := lim_step dL_law_572
theorem sL_law_573 : lim cal sc 7 cL_law ret 573 lv (.int x :: .ref h :: st) M = opK (arrV9 sc h M) fun q => guK (inb x q.1) (lim cal sc 7 cL_law ret 574 lv (.int (q.2 x.toNatClampNeg) :: st) M) := (lim_step dL_law_573).trans (e_iald)
theorem sL_law_574 : lim cal sc 7 cL_law ret 574 lv (a1 :: .ref h :: st) M = guK (isCl 4 h) (guK (rk 8 st) (calK (cal 40 [.ref h, a1] M) fun q M' => lim cal sc 7 cL_law ret 577 lv (q.toList ++ st) M')) := (lim_step dL_law_574).trans (e_virt1 rm_7_64 mq_40)
theorem sL_law_577 : lim cal sc 7 cL_law ret 577 (v0 :: v1 :: some (.ref h) :: l) st M = lim cal sc 7 cL_law ret 578 (v0 :: v1 :: some (.ref h) :: l) (.ref h :: st) M := lim_step dL_law_577
theorem sL_law_578 : lim cal sc 7 cL_law ret 578 (some (.ref h) :: l) st M = lim cal sc 7 cL_law ret 579 (some (.ref h) :: l) (.ref h :: st) M := lim_step dL_law_578
theorem sL_law_579 : lim cal sc 7 cL_law ret 579 (v0 :: v1 :: v2 :: some (.int x) :: l) st M = lim cal sc 7 cL_law ret 580 (v0 :: v1 :: v2 :: some (.int x) :: l) (.int x :: st) M := lim_step dL_law_579
theorem sL_law_580 : lim cal sc 7 cL_law ret 580 lv st M = lim cal sc 7 cL_law ret 581 lv (.int 1 :: st) M := (lim_step dL_law_580).trans (e_ic k_i_1)
theorem sL_law_581 : lim cal sc 7 cL_law ret 581 lv (.int y :: .int x :: st) M = lim cal sc 7 cL_law ret 582 lv (.int (x + y) :: st) M := lim_step dL_law_581
theorem sL_law_582 : lim cal sc 7 cL_law ret 582 lv (.int x :: .ref h :: st) M = opK (arrV9 sc h M) fun q => guK (inb x q.1) (lim cal sc 7 cL_law ret 583 lv (.int (q.2 x.toNatClampNeg) :: st) M) := (lim_step dL_law_582).trans (e_iald)
theorem sL_law_583 : lim cal sc 7 cL_law ret 583 lv (a1 :: .ref h :: st) M = guK (isCl 5 h) (guK (rk 8 st) (calK (cal 178 [.ref h, a1] M) fun q M' => lim cal sc 7 cL_law ret 586 lv (q.toList ++ st) M')) := (lim_step dL_law_583).trans (e_virt1 rm_7_67 mq_178)
theorem sL_law_586 : lim cal sc 7 cL_law ret 586 lv (.int y :: .int x :: st) M = if x = y then lim cal sc 7 cL_law ret 1500 lv st M else lim cal sc 7 cL_law ret 589 lv st M := (lim_step dL_law_586).trans (e_cmpeq (t := 1500) (by decide))
theorem sL_law_589 : lim cal sc 7 cL_law ret 589 lv st M = lim cal sc 7 cL_law ret 590 lv (.int 0 :: st) M := (lim_step dL_law_589).trans (e_ic k_i_0)
theorem sL_law_590 : lim cal sc 7 cL_law (some .boolean) 590 lv [.int x] M = guK (narB .boolean x) (some (some (.int x), M)) := (lim_step dL_law_590).trans (e_zret)
theorem sL_law_591 : lim cal sc 7 cL_law ret 591 (v0 :: some (.ref h) :: l) st M = lim cal sc 7 cL_law ret 592 (v0 :: some (.ref h) :: l) (.ref h :: st) M := lim_step dL_law_591
theorem sL_law_592 : lim cal sc 7 cL_law ret 592 lv (.ref h :: st) M = guK (isCl 4 h) (guK (rk 8 st) (calK (cal 41 [.ref h] M) fun q M' => lim cal sc 7 cL_law ret 595 lv (q.toList ++ st) M')) := (lim_step dL_law_592).trans (e_virt0 rm_7_68 mq_41)
theorem sL_law_595 : lim cal sc 7 cL_law ret 595 (v0 :: v1 :: some (.ref h) :: l) st M = lim cal sc 7 cL_law ret 596 (v0 :: v1 :: some (.ref h) :: l) (.ref h :: st) M := lim_step dL_law_595
theorem sL_law_596 : lim cal sc 7 cL_law ret 596 lv (.ref h :: st) M = guK (isCl 5 h) (guK (rk 8 st) (calK (cal 179 [.ref h] M) fun q M' => lim cal sc 7 cL_law ret 599 lv (q.toList ++ st) M')) := (lim_step dL_law_596).trans (e_virt0 rm_7_72 mq_179)
theorem sL_law_599 : lim cal sc 7 cL_law ret 599 lv (.int y :: .int x :: st) M = if x = y then lim cal sc 7 cL_law ret 1500 lv st M else lim cal sc 7 cL_law ret 602 lv st M := (lim_step dL_law_599).trans (e_cmpeq (t := 1500) (by decide))
theorem sL_law_602 : lim cal sc 7 cL_law ret 602 lv st M = lim cal sc 7 cL_law ret 603 lv (.int 0 :: st) M := (lim_step dL_law_602).trans (e_ic k_i_0)
theorem sL_law_603 : lim cal sc 7 cL_law (some .boolean) 603 lv [.int x] M = guK (narB .boolean x) (some (some (.int x), M)) := (lim_step dL_law_603).trans (e_zret)
theorem sL_law_604 : lim cal sc 7 cL_law ret 604 (v0 :: some (.ref h) :: l) st M = lim cal sc 7 cL_law ret 605 (v0 :: some (.ref h) :: l) (.ref h :: st) M := lim_step dL_law_604
theorem sL_law_605 : lim cal sc 7 cL_law ret 605 (some (.ref h) :: l) st M = lim cal sc 7 cL_law ret 606 (some (.ref h) :: l) (.ref h :: st) M := lim_step dL_law_605
theorem sL_law_606 : lim cal sc 7 cL_law ret 606 (v0 :: v1 :: v2 :: some (.int x) :: l) st M = lim cal sc 7 cL_law ret 607 (v0 :: v1 :: v2 :: some (.int x) :: l) (.int x :: st) M := lim_step dL_law_606
theorem sL_law_607 : lim cal sc 7 cL_law ret 607 lv st M = lim cal sc 7 cL_law ret 608 lv (.int 1 :: st) M := (lim_step dL_law_607).trans (e_ic k_i_1)
theorem sL_law_608 : lim cal sc 7 cL_law ret 608 lv (.int y :: .int x :: st) M = lim cal sc 7 cL_law ret 609 lv (.int (x + y) :: st) M := lim_step dL_law_608
theorem sL_law_609 : lim cal sc 7 cL_law ret 609 lv (.int x :: .ref h :: st) M = opK (arrV9 sc h M) fun q => guK (inb x q.1) (lim cal sc 7 cL_law ret 610 lv (.int (q.2 x.toNatClampNeg) :: st) M) := (lim_step dL_law_609).trans (e_iald)
theorem sL_law_610 : lim cal sc 7 cL_law ret 610 (some (.ref h) :: l) st M = lim cal sc 7 cL_law ret 611 (some (.ref h) :: l) (.ref h :: st) M := lim_step dL_law_610
theorem sL_law_611 : lim cal sc 7 cL_law ret 611 (v0 :: v1 :: v2 :: some (.int x) :: l) st M = lim cal sc 7 cL_law ret 612 (v0 :: v1 :: v2 :: some (.int x) :: l) (.int x :: st) M := lim_step dL_law_611
theorem sL_law_612 : lim cal sc 7 cL_law ret 612 lv st M = lim cal sc 7 cL_law ret 613 lv (.int 2 :: st) M := (lim_step dL_law_612).trans (e_ic k_i_2)
theorem sL_law_613 : lim cal sc 7 cL_law ret 613 lv (.int y :: .int x :: st) M = lim cal sc 7 cL_law ret 614 lv (.int (x + y) :: st) M := lim_step dL_law_613
theorem sL_law_614 : lim cal sc 7 cL_law ret 614 lv (.int x :: .ref h :: st) M = opK (arrV9 sc h M) fun q => guK (inb x q.1) (lim cal sc 7 cL_law ret 615 lv (.int (q.2 x.toNatClampNeg) :: st) M) := (lim_step dL_law_614).trans (e_iald)
theorem sL_law_615 : lim cal sc 7 cL_law ret 615 lv (a2 :: a1 :: .ref h :: st) M = guK (isCl 4 h) (guK (rk 8 st) (calK (cal 42 [.ref h, a1, a2] M) fun q M' => lim cal sc 7 cL_law ret 618 lv (q.toList ++ st) M')) := (lim_step dL_law_615).trans (e_virt2 rm_7_73 mq_42)
theorem sL_law_618 : lim cal sc 7 cL_law ret 618 (v0 :: v1 :: some (.ref h) :: l) st M = lim cal sc 7 cL_law ret 619 (v0 :: v1 :: some (.ref h) :: l) (.ref h :: st) M := lim_step dL_law_618
theorem sL_law_619 : lim cal sc 7 cL_law ret 619 (some (.ref h) :: l) st M = lim cal sc 7 cL_law ret 620 (some (.ref h) :: l) (.ref h :: st) M := lim_step dL_law_619
theorem sL_law_620 : lim cal sc 7 cL_law ret 620 (v0 :: v1 :: v2 :: some (.int x) :: l) st M = lim cal sc 7 cL_law ret 621 (v0 :: v1 :: v2 :: some (.int x) :: l) (.int x :: st) M := lim_step dL_law_620
theorem sL_law_621 : lim cal sc 7 cL_law ret 621 lv st M = lim cal sc 7 cL_law ret 622 lv (.int 1 :: st) M := (lim_step dL_law_621).trans (e_ic k_i_1)
theorem sL_law_622 : lim cal sc 7 cL_law ret 622 lv (.int y :: .int x :: st) M = lim cal sc 7 cL_law ret 623 lv (.int (x + y) :: st) M := lim_step dL_law_622
theorem sL_law_623 : lim cal sc 7 cL_law ret 623 lv (.int x :: .ref h :: st) M = opK (arrV9 sc h M) fun q => guK (inb x q.1) (lim cal sc 7 cL_law ret 624 lv (.int (q.2 x.toNatClampNeg) :: st) M) := (lim_step dL_law_623).trans (e_iald)
theorem sL_law_624 : lim cal sc 7 cL_law ret 624 (some (.ref h) :: l) st M = lim cal sc 7 cL_law ret 625 (some (.ref h) :: l) (.ref h :: st) M := lim_step dL_law_624
theorem sL_law_625 : lim cal sc 7 cL_law ret 625 (v0 :: v1 :: v2 :: some (.int x) :: l) st M = lim cal sc 7 cL_law ret 626 (v0 :: v1 :: v2 :: some (.int x) :: l) (.int x :: st) M := lim_step dL_law_625
theorem sL_law_626 : lim cal sc 7 cL_law ret 626 lv st M = lim cal sc 7 cL_law ret 627 lv (.int 2 :: st) M := (lim_step dL_law_626).trans (e_ic k_i_2)
theorem sL_law_627 : lim cal sc 7 cL_law ret 627 lv (.int y :: .int x :: st) M = lim cal sc 7 cL_law ret 628 lv (.int (x + y) :: st) M := lim_step dL_law_627
theorem sL_law_628 : lim cal sc 7 cL_law ret 628 lv (.int x :: .ref h :: st) M = opK (arrV9 sc h M) fun q => guK (inb x q.1) (lim cal sc 7 cL_law ret 629 lv (.int (q.2 x.toNatClampNeg) :: st) M) := (lim_step dL_law_628).trans (e_iald)
theorem sL_law_629 : lim cal sc 7 cL_law ret 629 lv (a2 :: a1 :: .ref h :: st) M = guK (isCl 5 h) (guK (rk 8 st) (calK (cal 180 [.ref h, a1, a2] M) fun q M' => lim cal sc 7 cL_law ret 632 lv (q.toList ++ st) M')) := (lim_step dL_law_629).trans (e_virt2 rm_7_76 mq_180)
theorem sL_law_632 : lim cal sc 7 cL_law ret 632 lv (.int y :: .int x :: st) M = if x = y then lim cal sc 7 cL_law ret 1500 lv st M else lim cal sc 7 cL_law ret 635 lv st M := (lim_step dL_law_632).trans (e_cmpeq (t := 1500) (by decide))
theorem sL_law_635 : lim cal sc 7 cL_law ret 635 lv st M = lim cal sc 7 cL_law ret 636 lv (.int 0 :: st) M := (lim_step dL_law_635).trans (e_ic k_i_0)
theorem sL_law_636 : lim cal sc 7 cL_law (some .boolean) 636 lv [.int x] M = guK (narB .boolean x) (some (some (.int x), M)) := (lim_step dL_law_636).trans (e_zret)
theorem sL_law_637 : lim cal sc 7 cL_law ret 637 (v0 :: some (.ref h) :: l) st M = lim cal sc 7 cL_law ret 638 (v0 :: some (.ref h) :: l) (.ref h :: st) M := lim_step dL_law_637
theorem sL_law_638 : lim cal sc 7 cL_law ret 638 (some (.ref h) :: l) st M = lim cal sc 7 cL_law ret 639 (some (.ref h) :: l) (.ref h :: st) M := lim_step dL_law_638
theorem sL_law_639 : lim cal sc 7 cL_law ret 639 (v0 :: v1 :: v2 :: some (.int x) :: l) st M = lim cal sc 7 cL_law ret 640 (v0 :: v1 :: v2 :: some (.int x) :: l) (.int x :: st) M := lim_step dL_law_639
theorem sL_law_640 : lim cal sc 7 cL_law ret 640 lv st M = lim cal sc 7 cL_law ret 641 lv (.int 1 :: st) M := (lim_step dL_law_640).trans (e_ic k_i_1)
theorem sL_law_641 : lim cal sc 7 cL_law ret 641 lv (.int y :: .int x :: st) M = lim cal sc 7 cL_law ret 642 lv (.int (x + y) :: st) M := lim_step dL_law_641
theorem sL_law_642 : lim cal sc 7 cL_law ret 642 lv (.int x :: .ref h :: st) M = opK (arrV9 sc h M) fun q => guK (inb x q.1) (lim cal sc 7 cL_law ret 643 lv (.int (q.2 x.toNatClampNeg) :: st) M) := (lim_step dL_law_642).trans (e_iald)
theorem sL_law_643 : lim cal sc 7 cL_law ret 643 (some (.ref h) :: l) st M = lim cal sc 7 cL_law ret 644 (some (.ref h) :: l) (.ref h :: st) M := lim_step dL_law_643
theorem sL_law_644 : lim cal sc 7 cL_law ret 644 (v0 :: v1 :: v2 :: some (.int x) :: l) st M = lim cal sc 7 cL_law ret 645 (v0 :: v1 :: v2 :: some (.int x) :: l) (.int x :: st) M := lim_step dL_law_644
theorem sL_law_645 : lim cal sc 7 cL_law ret 645 lv st M = lim cal sc 7 cL_law ret 646 lv (.int 2 :: st) M := (lim_step dL_law_645).trans (e_ic k_i_2)
theorem sL_law_646 : lim cal sc 7 cL_law ret 646 lv (.int y :: .int x :: st) M = lim cal sc 7 cL_law ret 647 lv (.int (x + y) :: st) M := lim_step dL_law_646
theorem sL_law_647 : lim cal sc 7 cL_law ret 647 lv (.int x :: .ref h :: st) M = opK (arrV9 sc h M) fun q => guK (inb x q.1) (lim cal sc 7 cL_law ret 648 lv (.int (q.2 x.toNatClampNeg) :: st) M) := (lim_step dL_law_647).trans (e_iald)
theorem sL_law_648 : lim cal sc 7 cL_law ret 648 lv (a2 :: a1 :: .ref h :: st) M = guK (isCl 4 h) (guK (rk 8 st) (calK (cal 48 [.ref h, a1, a2] M) fun q M' => lim cal sc 7 cL_law ret 651 lv (q.toList ++ st) M')) := (lim_step dL_law_648).trans (e_virt2 rm_7_77 mq_48)
theorem sL_law_651 : lim cal sc 7 cL_law ret 651 (v0 :: v1 :: some (.ref h) :: l) st M = lim cal sc 7 cL_law ret 652 (v0 :: v1 :: some (.ref h) :: l) (.ref h :: st) M := lim_step dL_law_651
theorem sL_law_652 : lim cal sc 7 cL_law ret 652 (some (.ref h) :: l) st M = lim cal sc 7 cL_law ret 653 (some (.ref h) :: l) (.ref h :: st) M := lim_step dL_law_652
theorem sL_law_653 : lim cal sc 7 cL_law ret 653 (v0 :: v1 :: v2 :: some (.int x) :: l) st M = lim cal sc 7 cL_law ret 654 (v0 :: v1 :: v2 :: some (.int x) :: l) (.int x :: st) M := lim_step dL_law_653
theorem sL_law_654 : lim cal sc 7 cL_law ret 654 lv st M = lim cal sc 7 cL_law ret 655 lv (.int 1 :: st) M := (lim_step dL_law_654).trans (e_ic k_i_1)
theorem sL_law_655 : lim cal sc 7 cL_law ret 655 lv (.int y :: .int x :: st) M = lim cal sc 7 cL_law ret 656 lv (.int (x + y) :: st) M := lim_step dL_law_655
theorem sL_law_656 : lim cal sc 7 cL_law ret 656 lv (.int x :: .ref h :: st) M = opK (arrV9 sc h M) fun q => guK (inb x q.1) (lim cal sc 7 cL_law ret 657 lv (.int (q.2 x.toNatClampNeg) :: st) M) := (lim_step dL_law_656).trans (e_iald)
theorem sL_law_657 : lim cal sc 7 cL_law ret 657 (some (.ref h) :: l) st M = lim cal sc 7 cL_law ret 658 (some (.ref h) :: l) (.ref h :: st) M := lim_step dL_law_657
theorem sL_law_658 : lim cal sc 7 cL_law ret 658 (v0 :: v1 :: v2 :: some (.int x) :: l) st M = lim cal sc 7 cL_law ret 659 (v0 :: v1 :: v2 :: some (.int x) :: l) (.int x :: st) M := lim_step dL_law_658
theorem sL_law_659 : lim cal sc 7 cL_law ret 659 lv st M = lim cal sc 7 cL_law ret 660 lv (.int 2 :: st) M := (lim_step dL_law_659).trans (e_ic k_i_2)
theorem sL_law_660 : lim cal sc 7 cL_law ret 660 lv (.int y :: .int x :: st) M = lim cal sc 7 cL_law ret 661 lv (.int (x + y) :: st) M := lim_step dL_law_660
theorem sL_law_661 : lim cal sc 7 cL_law ret 661 lv (.int x :: .ref h :: st) M = opK (arrV9 sc h M) fun q => guK (inb x q.1) (lim cal sc 7 cL_law ret 662 lv (.int (q.2 x.toNatClampNeg) :: st) M) := (lim_step dL_law_661).trans (e_iald)
theorem sL_law_662 : lim cal sc 7 cL_law ret 662 lv (a2 :: a1 :: .ref h :: st) M = guK (isCl 5 h) (guK (rk 8 st) (calK (cal 187 [.ref h, a1, a2] M) fun q M' => lim cal sc 7 cL_law ret 665 lv (q.toList ++ st) M')) := (lim_step dL_law_662).trans (e_virt2 rm_7_80 mq_187)
theorem sL_law_665 : lim cal sc 7 cL_law ret 665 lv (.int y :: .int x :: st) M = if x = y then lim cal sc 7 cL_law ret 1500 lv st M else lim cal sc 7 cL_law ret 668 lv st M := (lim_step dL_law_665).trans (e_cmpeq (t := 1500) (by decide))
theorem sL_law_668 : lim cal sc 7 cL_law ret 668 lv st M = lim cal sc 7 cL_law ret 669 lv (.int 0 :: st) M := (lim_step dL_law_668).trans (e_ic k_i_0)
theorem sL_law_669 : lim cal sc 7 cL_law (some .boolean) 669 lv [.int x] M = guK (narB .boolean x) (some (some (.int x), M)) := (lim_step dL_law_669).trans (e_zret)
theorem sL_law_670 : lim cal sc 7 cL_law ret 670 (v0 :: some (.ref h) :: l) st M = lim cal sc 7 cL_law ret 671 (v0 :: some (.ref h) :: l) (.ref h :: st) M := lim_step dL_law_670
theorem sL_law_671 : lim cal sc 7 cL_law ret 671 (some (.ref h) :: l) st M = lim cal sc 7 cL_law ret 672 (some (.ref h) :: l) (.ref h :: st) M := lim_step dL_law_671
theorem sL_law_672 : lim cal sc 7 cL_law ret 672 (v0 :: v1 :: v2 :: some (.int x) :: l) st M = lim cal sc 7 cL_law ret 673 (v0 :: v1 :: v2 :: some (.int x) :: l) (.int x :: st) M := lim_step dL_law_672
theorem sL_law_673 : lim cal sc 7 cL_law ret 673 lv st M = lim cal sc 7 cL_law ret 674 lv (.int 1 :: st) M := (lim_step dL_law_673).trans (e_ic k_i_1)
theorem sL_law_674 : lim cal sc 7 cL_law ret 674 lv (.int y :: .int x :: st) M = lim cal sc 7 cL_law ret 675 lv (.int (x + y) :: st) M := lim_step dL_law_674
theorem sL_law_675 : lim cal sc 7 cL_law ret 675 lv (.int x :: .ref h :: st) M = opK (arrV9 sc h M) fun q => guK (inb x q.1) (lim cal sc 7 cL_law ret 676 lv (.int (q.2 x.toNatClampNeg) :: st) M) := (lim_step dL_law_675).trans (e_iald)
theorem sL_law_676 : lim cal sc 7 cL_law ret 676 (some (.ref h) :: l) st M = lim cal sc 7 cL_law ret 677 (some (.ref h) :: l) (.ref h :: st) M := lim_step dL_law_676
theorem sL_law_677 : lim cal sc 7 cL_law ret 677 (v0 :: v1 :: v2 :: some (.int x) :: l) st M = lim cal sc 7 cL_law ret 678 (v0 :: v1 :: v2 :: some (.int x) :: l) (.int x :: st) M := lim_step dL_law_677
theorem sL_law_678 : lim cal sc 7 cL_law ret 678 lv st M = lim cal sc 7 cL_law ret 679 lv (.int 2 :: st) M := (lim_step dL_law_678).trans (e_ic k_i_2)
theorem sL_law_679 : lim cal sc 7 cL_law ret 679 lv (.int y :: .int x :: st) M = lim cal sc 7 cL_law ret 680 lv (.int (x + y) :: st) M := lim_step dL_law_679
theorem sL_law_680 : lim cal sc 7 cL_law ret 680 lv (.int x :: .ref h :: st) M = opK (arrV9 sc h M) fun q => guK (inb x q.1) (lim cal sc 7 cL_law ret 681 lv (.int (q.2 x.toNatClampNeg) :: st) M) := (lim_step dL_law_680).trans (e_iald)
theorem sL_law_681 : lim cal sc 7 cL_law ret 681 (some (.ref h) :: l) st M = lim cal sc 7 cL_law ret 682 (some (.ref h) :: l) (.ref h :: st) M := lim_step dL_law_681
theorem sL_law_682 : lim cal sc 7 cL_law ret 682 (v0 :: v1 :: v2 :: some (.int x) :: l) st M = lim cal sc 7 cL_law ret 683 (v0 :: v1 :: v2 :: some (.int x) :: l) (.int x :: st) M := lim_step dL_law_682
theorem sL_law_683 : lim cal sc 7 cL_law ret 683 lv st M = lim cal sc 7 cL_law ret 684 lv (.int 3 :: st) M := (lim_step dL_law_683).trans (e_ic k_i_3)
theorem sL_law_684 : lim cal sc 7 cL_law ret 684 lv (.int y :: .int x :: st) M = lim cal sc 7 cL_law ret 685 lv (.int (x + y) :: st) M := lim_step dL_law_684
theorem sL_law_685 : lim cal sc 7 cL_law ret 685 lv (.int x :: .ref h :: st) M = opK (arrV9 sc h M) fun q => guK (inb x q.1) (lim cal sc 7 cL_law ret 686 lv (.int (q.2 x.toNatClampNeg) :: st) M) := (lim_step dL_law_685).trans (e_iald)
theorem sL_law_686 : lim cal sc 7 cL_law ret 686 lv (a3 :: a2 :: a1 :: .ref h :: st) M = guK (isCl 4 h) (guK (rk 8 st) (calK (cal 54 [.ref h, a1, a2, a3] M) fun q M' => lim cal sc 7 cL_law ret 689 lv (q.toList ++ st) M')) := (lim_step dL_law_686).trans (e_virt3 rm_7_81 mq_54)
theorem sL_law_689 : lim cal sc 7 cL_law ret 689 (v0 :: v1 :: some (.ref h) :: l) st M = lim cal sc 7 cL_law ret 690 (v0 :: v1 :: some (.ref h) :: l) (.ref h :: st) M := lim_step dL_law_689
theorem sL_law_690 : lim cal sc 7 cL_law ret 690 (some (.ref h) :: l) st M = lim cal sc 7 cL_law ret 691 (some (.ref h) :: l) (.ref h :: st) M := lim_step dL_law_690
theorem sL_law_691 : lim cal sc 7 cL_law ret 691 (v0 :: v1 :: v2 :: some (.int x) :: l) st M = lim cal sc 7 cL_law ret 692 (v0 :: v1 :: v2 :: some (.int x) :: l) (.int x :: st) M := lim_step dL_law_691
theorem sL_law_692 : lim cal sc 7 cL_law ret 692 lv st M = lim cal sc 7 cL_law ret 693 lv (.int 1 :: st) M := (lim_step dL_law_692).trans (e_ic k_i_1)
theorem sL_law_693 : lim cal sc 7 cL_law ret 693 lv (.int y :: .int x :: st) M = lim cal sc 7 cL_law ret 694 lv (.int (x + y) :: st) M := lim_step dL_law_693
theorem sL_law_694 : lim cal sc 7 cL_law ret 694 lv (.int x :: .ref h :: st) M = opK (arrV9 sc h M) fun q => guK (inb x q.1) (lim cal sc 7 cL_law ret 695 lv (.int (q.2 x.toNatClampNeg) :: st) M) := (lim_step dL_law_694).trans (e_iald)
theorem sL_law_695 : lim cal sc 7 cL_law ret 695 (some (.ref h) :: l) st M = lim cal sc 7 cL_law ret 696 (some (.ref h) :: l) (.ref h :: st) M := lim_step dL_law_695
theorem sL_law_696 : lim cal sc 7 cL_law ret 696 (v0 :: v1 :: v2 :: some (.int x) :: l) st M = lim cal sc 7 cL_law ret 697 (v0 :: v1 :: v2 :: some (.int x) :: l) (.int x :: st) M := lim_step dL_law_696
theorem sL_law_697 : lim cal sc 7 cL_law ret 697 lv st M = lim cal sc 7 cL_law ret 698 lv (.int 2 :: st) M := (lim_step dL_law_697).trans (e_ic k_i_2)
theorem sL_law_698 : lim cal sc 7 cL_law ret 698 lv (.int y :: .int x :: st) M = lim cal sc 7 cL_law ret 699 lv (.int (x + y) :: st) M := lim_step dL_law_698
theorem sL_law_699 : lim cal sc 7 cL_law ret 699 lv (.int x :: .ref h :: st) M = opK (arrV9 sc h M) fun q => guK (inb x q.1) (lim cal sc 7 cL_law ret 700 lv (.int (q.2 x.toNatClampNeg) :: st) M) := (lim_step dL_law_699).trans (e_iald)
theorem sL_law_700 : lim cal sc 7 cL_law ret 700 (some (.ref h) :: l) st M = lim cal sc 7 cL_law ret 701 (some (.ref h) :: l) (.ref h :: st) M := lim_step dL_law_700
theorem sL_law_701 : lim cal sc 7 cL_law ret 701 (v0 :: v1 :: v2 :: some (.int x) :: l) st M = lim cal sc 7 cL_law ret 702 (v0 :: v1 :: v2 :: some (.int x) :: l) (.int x :: st) M := lim_step dL_law_701
theorem sL_law_702 : lim cal sc 7 cL_law ret 702 lv st M = lim cal sc 7 cL_law ret 703 lv (.int 3 :: st) M := (lim_step dL_law_702).trans (e_ic k_i_3)
theorem sL_law_703 : lim cal sc 7 cL_law ret 703 lv (.int y :: .int x :: st) M = lim cal sc 7 cL_law ret 704 lv (.int (x + y) :: st) M := lim_step dL_law_703
theorem sL_law_704 : lim cal sc 7 cL_law ret 704 lv (.int x :: .ref h :: st) M = opK (arrV9 sc h M) fun q => guK (inb x q.1) (lim cal sc 7 cL_law ret 705 lv (.int (q.2 x.toNatClampNeg) :: st) M) := (lim_step dL_law_704).trans (e_iald)
theorem sL_law_705 : lim cal sc 7 cL_law ret 705 lv (a3 :: a2 :: a1 :: .ref h :: st) M = guK (isCl 5 h) (guK (rk 8 st) (calK (cal 192 [.ref h, a1, a2, a3] M) fun q M' => lim cal sc 7 cL_law ret 708 lv (q.toList ++ st) M')) := (lim_step dL_law_705).trans (e_virt3 rm_7_84 mq_192)
theorem sL_law_708 : lim cal sc 7 cL_law ret 708 lv (.int y :: .int x :: st) M = if x = y then lim cal sc 7 cL_law ret 1500 lv st M else lim cal sc 7 cL_law ret 711 lv st M := (lim_step dL_law_708).trans (e_cmpeq (t := 1500) (by decide))
theorem sL_law_711 : lim cal sc 7 cL_law ret 711 lv st M = lim cal sc 7 cL_law ret 712 lv (.int 0 :: st) M := (lim_step dL_law_711).trans (e_ic k_i_0)
theorem sL_law_712 : lim cal sc 7 cL_law (some .boolean) 712 lv [.int x] M = guK (narB .boolean x) (some (some (.int x), M)) := (lim_step dL_law_712).trans (e_zret)
theorem sL_law_713 : lim cal sc 7 cL_law ret 713 (v0 :: some (.ref h) :: l) st M = lim cal sc 7 cL_law ret 714 (v0 :: some (.ref h) :: l) (.ref h :: st) M := lim_step dL_law_713
theorem sL_law_714 : lim cal sc 7 cL_law ret 714 (some (.ref h) :: l) st M = lim cal sc 7 cL_law ret 715 (some (.ref h) :: l) (.ref h :: st) M := lim_step dL_law_714
theorem sL_law_715 : lim cal sc 7 cL_law ret 715 (v0 :: v1 :: v2 :: some (.int x) :: l) st M = lim cal sc 7 cL_law ret 716 (v0 :: v1 :: v2 :: some (.int x) :: l) (.int x :: st) M := lim_step dL_law_715
theorem sL_law_716 : lim cal sc 7 cL_law ret 716 lv st M = lim cal sc 7 cL_law ret 717 lv (.int 1 :: st) M := (lim_step dL_law_716).trans (e_ic k_i_1)
theorem sL_law_717 : lim cal sc 7 cL_law ret 717 lv (.int y :: .int x :: st) M = lim cal sc 7 cL_law ret 718 lv (.int (x + y) :: st) M := lim_step dL_law_717
theorem sL_law_718 : lim cal sc 7 cL_law ret 718 lv (.int x :: .ref h :: st) M = opK (arrV9 sc h M) fun q => guK (inb x q.1) (lim cal sc 7 cL_law ret 719 lv (.int (q.2 x.toNatClampNeg) :: st) M) := (lim_step dL_law_718).trans (e_iald)
theorem sL_law_719 : lim cal sc 7 cL_law ret 719 lv (a1 :: .ref h :: st) M = guK (isCl 4 h) (guK (rk 8 st) (calK (cal 55 [.ref h, a1] M) fun q M' => lim cal sc 7 cL_law ret 722 lv (q.toList ++ st) M')) := (lim_step dL_law_719).trans (e_virt1 rm_7_85 mq_55)
theorem sL_law_722 : lim cal sc 7 cL_law ret 722 (v0 :: v1 :: some (.ref h) :: l) st M = lim cal sc 7 cL_law ret 723 (v0 :: v1 :: some (.ref h) :: l) (.ref h :: st) M := lim_step dL_law_722
theorem sL_law_723 : lim cal sc 7 cL_law ret 723 (some (.ref h) :: l) st M = lim cal sc 7 cL_law ret 724 (some (.ref h) :: l) (.ref h :: st) M := lim_step dL_law_723
theorem sL_law_724 : lim cal sc 7 cL_law ret 724 (v0 :: v1 :: v2 :: some (.int x) :: l) st M = lim cal sc 7 cL_law ret 725 (v0 :: v1 :: v2 :: some (.int x) :: l) (.int x :: st) M := lim_step dL_law_724
theorem sL_law_725 : lim cal sc 7 cL_law ret 725 lv st M = lim cal sc 7 cL_law ret 726 lv (.int 1 :: st) M := (lim_step dL_law_725).trans (e_ic k_i_1)
theorem sL_law_726 : lim cal sc 7 cL_law ret 726 lv (.int y :: .int x :: st) M = lim cal sc 7 cL_law ret 727 lv (.int (x + y) :: st) M := lim_step dL_law_726
theorem sL_law_727 : lim cal sc 7 cL_law ret 727 lv (.int x :: .ref h :: st) M = opK (arrV9 sc h M) fun q => guK (inb x q.1) (lim cal sc 7 cL_law ret 728 lv (.int (q.2 x.toNatClampNeg) :: st) M) := (lim_step dL_law_727).trans (e_iald)
theorem sL_law_728 : lim cal sc 7 cL_law ret 728 lv (a1 :: .ref h :: st) M = guK (isCl 5 h) (guK (rk 8 st) (calK (cal 193 [.ref h, a1] M) fun q M' => lim cal sc 7 cL_law ret 731 lv (q.toList ++ st) M')) := (lim_step dL_law_728).trans (e_virt1 rm_7_88 mq_193)
theorem sL_law_731 : lim cal sc 7 cL_law ret 731 lv (.int y :: .int x :: st) M = if x = y then lim cal sc 7 cL_law ret 1500 lv st M else lim cal sc 7 cL_law ret 734 lv st M := (lim_step dL_law_731).trans (e_cmpeq (t := 1500) (by decide))
theorem sL_law_734 : lim cal sc 7 cL_law ret 734 lv st M = lim cal sc 7 cL_law ret 735 lv (.int 0 :: st) M := (lim_step dL_law_734).trans (e_ic k_i_0)
theorem sL_law_735 : lim cal sc 7 cL_law (some .boolean) 735 lv [.int x] M = guK (narB .boolean x) (some (some (.int x), M)) := (lim_step dL_law_735).trans (e_zret)
theorem sL_law_736 : lim cal sc 7 cL_law ret 736 (v0 :: some (.ref h) :: l) st M = lim cal sc 7 cL_law ret 737 (v0 :: some (.ref h) :: l) (.ref h :: st) M := lim_step dL_law_736
theorem sL_law_737 : lim cal sc 7 cL_law ret 737 (some (.ref h) :: l) st M = lim cal sc 7 cL_law ret 738 (some (.ref h) :: l) (.ref h :: st) M := lim_step dL_law_737
theorem sL_law_738 : lim cal sc 7 cL_law ret 738 (v0 :: v1 :: v2 :: some (.int x) :: l) st M = lim cal sc 7 cL_law ret 739 (v0 :: v1 :: v2 :: some (.int x) :: l) (.int x :: st) M := lim_step dL_law_738
theorem sL_law_739 : lim cal sc 7 cL_law ret 739 lv st M = lim cal sc 7 cL_law ret 740 lv (.int 1 :: st) M := (lim_step dL_law_739).trans (e_ic k_i_1)
theorem sL_law_740 : lim cal sc 7 cL_law ret 740 lv (.int y :: .int x :: st) M = lim cal sc 7 cL_law ret 741 lv (.int (x + y) :: st) M := lim_step dL_law_740
theorem sL_law_741 : lim cal sc 7 cL_law ret 741 lv (.int x :: .ref h :: st) M = opK (arrV9 sc h M) fun q => guK (inb x q.1) (lim cal sc 7 cL_law ret 742 lv (.int (q.2 x.toNatClampNeg) :: st) M) := (lim_step dL_law_741).trans (e_iald)
theorem sL_law_742 : lim cal sc 7 cL_law ret 742 lv (a1 :: .ref h :: st) M = guK (isCl 4 h) (guK (rk 8 st) (calK (cal 56 [.ref h, a1] M) fun q M' => lim cal sc 7 cL_law ret 745 lv (q.toList ++ st) M')) := (lim_step dL_law_742).trans (e_virt1 rm_7_89 mq_56)
theorem sL_law_745 : lim cal sc 7 cL_law ret 745 (v0 :: v1 :: some (.ref h) :: l) st M = lim cal sc 7 cL_law ret 746 (v0 :: v1 :: some (.ref h) :: l) (.ref h :: st) M := lim_step dL_law_745
theorem sL_law_746 : lim cal sc 7 cL_law ret 746 (some (.ref h) :: l) st M = lim cal sc 7 cL_law ret 747 (some (.ref h) :: l) (.ref h :: st) M := lim_step dL_law_746
theorem sL_law_747 : lim cal sc 7 cL_law ret 747 (v0 :: v1 :: v2 :: some (.int x) :: l) st M = lim cal sc 7 cL_law ret 748 (v0 :: v1 :: v2 :: some (.int x) :: l) (.int x :: st) M := lim_step dL_law_747
theorem sL_law_748 : lim cal sc 7 cL_law ret 748 lv st M = lim cal sc 7 cL_law ret 749 lv (.int 1 :: st) M := (lim_step dL_law_748).trans (e_ic k_i_1)
theorem sL_law_749 : lim cal sc 7 cL_law ret 749 lv (.int y :: .int x :: st) M = lim cal sc 7 cL_law ret 750 lv (.int (x + y) :: st) M := lim_step dL_law_749
theorem sL_law_750 : lim cal sc 7 cL_law ret 750 lv (.int x :: .ref h :: st) M = opK (arrV9 sc h M) fun q => guK (inb x q.1) (lim cal sc 7 cL_law ret 751 lv (.int (q.2 x.toNatClampNeg) :: st) M) := (lim_step dL_law_750).trans (e_iald)
theorem sL_law_751 : lim cal sc 7 cL_law ret 751 lv (a1 :: .ref h :: st) M = guK (isCl 5 h) (guK (rk 8 st) (calK (cal 195 [.ref h, a1] M) fun q M' => lim cal sc 7 cL_law ret 754 lv (q.toList ++ st) M')) := (lim_step dL_law_751).trans (e_virt1 rm_7_92 mq_195)
theorem sL_law_754 : lim cal sc 7 cL_law ret 754 lv (.int y :: .int x :: st) M = if x = y then lim cal sc 7 cL_law ret 1500 lv st M else lim cal sc 7 cL_law ret 757 lv st M := (lim_step dL_law_754).trans (e_cmpeq (t := 1500) (by decide))
theorem sL_law_757 : lim cal sc 7 cL_law ret 757 lv st M = lim cal sc 7 cL_law ret 758 lv (.int 0 :: st) M := (lim_step dL_law_757).trans (e_ic k_i_0)
theorem sL_law_758 : lim cal sc 7 cL_law (some .boolean) 758 lv [.int x] M = guK (narB .boolean x) (some (some (.int x), M)) := (lim_step dL_law_758).trans (e_zret)
theorem sL_law_759 : lim cal sc 7 cL_law ret 759 (v0 :: some (.ref h) :: l) st M = lim cal sc 7 cL_law ret 760 (v0 :: some (.ref h) :: l) (.ref h :: st) M := lim_step dL_law_759
theorem sL_law_760 : lim cal sc 7 cL_law ret 760 (some (.ref h) :: l) st M = lim cal sc 7 cL_law ret 761 (some (.ref h) :: l) (.ref h :: st) M := lim_step dL_law_760
theorem sL_law_761 : lim cal sc 7 cL_law ret 761 (v0 :: v1 :: v2 :: some (.int x) :: l) st M = lim cal sc 7 cL_law ret 762 (v0 :: v1 :: v2 :: some (.int x) :: l) (.int x :: st) M := lim_step dL_law_761
theorem sL_law_762 : lim cal sc 7 cL_law ret 762 lv st M = lim cal sc 7 cL_law ret 763 lv (.int 1 :: st) M := (lim_step dL_law_762).trans (e_ic k_i_1)
theorem sL_law_763 : lim cal sc 7 cL_law ret 763 lv (.int y :: .int x :: st) M = lim cal sc 7 cL_law ret 764 lv (.int (x + y) :: st) M := lim_step dL_law_763
theorem sL_law_764 : lim cal sc 7 cL_law ret 764 lv (.int x :: .ref h :: st) M = opK (arrV9 sc h M) fun q => guK (inb x q.1) (lim cal sc 7 cL_law ret 765 lv (.int (q.2 x.toNatClampNeg) :: st) M) := (lim_step dL_law_764).trans (e_iald)
theorem sL_law_765 : lim cal sc 7 cL_law ret 765 (some (.ref h) :: l) st M = lim cal sc 7 cL_law ret 766 (some (.ref h) :: l) (.ref h :: st) M := lim_step dL_law_765
theorem sL_law_766 : lim cal sc 7 cL_law ret 766 (v0 :: v1 :: v2 :: some (.int x) :: l) st M = lim cal sc 7 cL_law ret 767 (v0 :: v1 :: v2 :: some (.int x) :: l) (.int x :: st) M := lim_step dL_law_766
theorem sL_law_767 : lim cal sc 7 cL_law ret 767 lv st M = lim cal sc 7 cL_law ret 768 lv (.int 2 :: st) M := (lim_step dL_law_767).trans (e_ic k_i_2)
theorem sL_law_768 : lim cal sc 7 cL_law ret 768 lv (.int y :: .int x :: st) M = lim cal sc 7 cL_law ret 769 lv (.int (x + y) :: st) M := lim_step dL_law_768
theorem sL_law_769 : lim cal sc 7 cL_law ret 769 lv (.int x :: .ref h :: st) M = opK (arrV9 sc h M) fun q => guK (inb x q.1) (lim cal sc 7 cL_law ret 770 lv (.int (q.2 x.toNatClampNeg) :: st) M) := (lim_step dL_law_769).trans (e_iald)
theorem sL_law_770 : lim cal sc 7 cL_law ret 770 lv (a2 :: a1 :: .ref h :: st) M = guK (isCl 4 h) (guK (rk 8 st) (calK (cal 58 [.ref h, a1, a2] M) fun q M' => lim cal sc 7 cL_law ret 773 lv (q.toList ++ st) M')) := (lim_step dL_law_770).trans (e_virt2 rm_7_93 mq_58)
theorem sL_law_773 : lim cal sc 7 cL_law ret 773 (v0 :: v1 :: some (.ref h) :: l) st M = lim cal sc 7 cL_law ret 774 (v0 :: v1 :: some (.ref h) :: l) (.ref h :: st) M := lim_step dL_law_773
theorem sL_law_774 : lim cal sc 7 cL_law ret 774 (some (.ref h) :: l) st M = lim cal sc 7 cL_law ret 775 (some (.ref h) :: l) (.ref h :: st) M := lim_step dL_law_774
theorem sL_law_775 : lim cal sc 7 cL_law ret 775 (v0 :: v1 :: v2 :: some (.int x) :: l) st M = lim cal sc 7 cL_law ret 776 (v0 :: v1 :: v2 :: some (.int x) :: l) (.int x :: st) M := lim_step dL_law_775
theorem sL_law_776 : lim cal sc 7 cL_law ret 776 lv st M = lim cal sc 7 cL_law ret 777 lv (.int 1 :: st) M := (lim_step dL_law_776).trans (e_ic k_i_1)
theorem sL_law_777 : lim cal sc 7 cL_law ret 777 lv (.int y :: .int x :: st) M = lim cal sc 7 cL_law ret 778 lv (.int (x + y) :: st) M := lim_step dL_law_777
theorem sL_law_778 : lim cal sc 7 cL_law ret 778 lv (.int x :: .ref h :: st) M = opK (arrV9 sc h M) fun q => guK (inb x q.1) (lim cal sc 7 cL_law ret 779 lv (.int (q.2 x.toNatClampNeg) :: st) M) := (lim_step dL_law_778).trans (e_iald)
theorem sL_law_779 : lim cal sc 7 cL_law ret 779 (some (.ref h) :: l) st M = lim cal sc 7 cL_law ret 780 (some (.ref h) :: l) (.ref h :: st) M := lim_step dL_law_779
theorem sL_law_780 : lim cal sc 7 cL_law ret 780 (v0 :: v1 :: v2 :: some (.int x) :: l) st M = lim cal sc 7 cL_law ret 781 (v0 :: v1 :: v2 :: some (.int x) :: l) (.int x :: st) M := lim_step dL_law_780
theorem sL_law_781 : lim cal sc 7 cL_law ret 781 lv st M = lim cal sc 7 cL_law ret 782 lv (.int 2 :: st) M := (lim_step dL_law_781).trans (e_ic k_i_2)
theorem sL_law_782 : lim cal sc 7 cL_law ret 782 lv (.int y :: .int x :: st) M = lim cal sc 7 cL_law ret 783 lv (.int (x + y) :: st) M := lim_step dL_law_782
theorem sL_law_783 : lim cal sc 7 cL_law ret 783 lv (.int x :: .ref h :: st) M = opK (arrV9 sc h M) fun q => guK (inb x q.1) (lim cal sc 7 cL_law ret 784 lv (.int (q.2 x.toNatClampNeg) :: st) M) := (lim_step dL_law_783).trans (e_iald)
theorem sL_law_784 : lim cal sc 7 cL_law ret 784 lv (a2 :: a1 :: .ref h :: st) M = guK (isCl 5 h) (guK (rk 8 st) (calK (cal 196 [.ref h, a1, a2] M) fun q M' => lim cal sc 7 cL_law ret 787 lv (q.toList ++ st) M')) := (lim_step dL_law_784).trans (e_virt2 rm_7_96 mq_196)
theorem sL_law_787 : lim cal sc 7 cL_law ret 787 lv (.int y :: .int x :: st) M = if x = y then lim cal sc 7 cL_law ret 1500 lv st M else lim cal sc 7 cL_law ret 790 lv st M := (lim_step dL_law_787).trans (e_cmpeq (t := 1500) (by decide))
theorem sL_law_790 : lim cal sc 7 cL_law ret 790 lv st M = lim cal sc 7 cL_law ret 791 lv (.int 0 :: st) M := (lim_step dL_law_790).trans (e_ic k_i_0)
theorem sL_law_791 : lim cal sc 7 cL_law (some .boolean) 791 lv [.int x] M = guK (narB .boolean x) (some (some (.int x), M)) := (lim_step dL_law_791).trans (e_zret)
theorem sL_law_792 : lim cal sc 7 cL_law ret 792 (v0 :: some (.ref h) :: l) st M = lim cal sc 7 cL_law ret 793 (v0 :: some (.ref h) :: l) (.ref h :: st) M := lim_step dL_law_792
theorem sL_law_793 : lim cal sc 7 cL_law ret 793 (some (.ref h) :: l) st M = lim cal sc 7 cL_law ret 794 (some (.ref h) :: l) (.ref h :: st) M := lim_step dL_law_793
theorem sL_law_794 : lim cal sc 7 cL_law ret 794 (v0 :: v1 :: v2 :: some (.int x) :: l) st M = lim cal sc 7 cL_law ret 795 (v0 :: v1 :: v2 :: some (.int x) :: l) (.int x :: st) M := lim_step dL_law_794
theorem sL_law_795 : lim cal sc 7 cL_law ret 795 lv st M = lim cal sc 7 cL_law ret 796 lv (.int 1 :: st) M := (lim_step dL_law_795).trans (e_ic k_i_1)
theorem sL_law_796 : lim cal sc 7 cL_law ret 796 lv (.int y :: .int x :: st) M = lim cal sc 7 cL_law ret 797 lv (.int (x + y) :: st) M := lim_step dL_law_796
theorem sL_law_797 : lim cal sc 7 cL_law ret 797 lv (.int x :: .ref h :: st) M = opK (arrV9 sc h M) fun q => guK (inb x q.1) (lim cal sc 7 cL_law ret 798 lv (.int (q.2 x.toNatClampNeg) :: st) M) := (lim_step dL_law_797).trans (e_iald)
theorem sL_law_798 : lim cal sc 7 cL_law ret 798 lv (a1 :: .ref h :: st) M = guK (isCl 4 h) (guK (rk 8 st) (calK (cal 60 [.ref h, a1] M) fun q M' => lim cal sc 7 cL_law ret 801 lv (q.toList ++ st) M')) := (lim_step dL_law_798).trans (e_virt1 rm_7_97 mq_60)
theorem sL_law_801 : lim cal sc 7 cL_law ret 801 (v0 :: v1 :: some (.ref h) :: l) st M = lim cal sc 7 cL_law ret 802 (v0 :: v1 :: some (.ref h) :: l) (.ref h :: st) M := lim_step dL_law_801
theorem sL_law_802 : lim cal sc 7 cL_law ret 802 (some (.ref h) :: l) st M = lim cal sc 7 cL_law ret 803 (some (.ref h) :: l) (.ref h :: st) M := lim_step dL_law_802
theorem sL_law_803 : lim cal sc 7 cL_law ret 803 (v0 :: v1 :: v2 :: some (.int x) :: l) st M = lim cal sc 7 cL_law ret 804 (v0 :: v1 :: v2 :: some (.int x) :: l) (.int x :: st) M := lim_step dL_law_803
theorem sL_law_804 : lim cal sc 7 cL_law ret 804 lv st M = lim cal sc 7 cL_law ret 805 lv (.int 1 :: st) M := (lim_step dL_law_804).trans (e_ic k_i_1)
theorem sL_law_805 : lim cal sc 7 cL_law ret 805 lv (.int y :: .int x :: st) M = lim cal sc 7 cL_law ret 806 lv (.int (x + y) :: st) M := lim_step dL_law_805
theorem sL_law_806 : lim cal sc 7 cL_law ret 806 lv (.int x :: .ref h :: st) M = opK (arrV9 sc h M) fun q => guK (inb x q.1) (lim cal sc 7 cL_law ret 807 lv (.int (q.2 x.toNatClampNeg) :: st) M) := (lim_step dL_law_806).trans (e_iald)
theorem sL_law_807 : lim cal sc 7 cL_law ret 807 lv (a1 :: .ref h :: st) M = guK (isCl 5 h) (guK (rk 8 st) (calK (cal 198 [.ref h, a1] M) fun q M' => lim cal sc 7 cL_law ret 810 lv (q.toList ++ st) M')) := (lim_step dL_law_807).trans (e_virt1 rm_7_100 mq_198)
theorem sL_law_810 : lim cal sc 7 cL_law ret 810 lv (.int y :: .int x :: st) M = if x = y then lim cal sc 7 cL_law ret 1500 lv st M else lim cal sc 7 cL_law ret 813 lv st M := (lim_step dL_law_810).trans (e_cmpeq (t := 1500) (by decide))
theorem sL_law_813 : lim cal sc 7 cL_law ret 813 lv st M = lim cal sc 7 cL_law ret 814 lv (.int 0 :: st) M := (lim_step dL_law_813).trans (e_ic k_i_0)
theorem sL_law_814 : lim cal sc 7 cL_law (some .boolean) 814 lv [.int x] M = guK (narB .boolean x) (some (some (.int x), M)) := (lim_step dL_law_814).trans (e_zret)
theorem sL_law_815 : lim cal sc 7 cL_law ret 815 (v0 :: some (.ref h) :: l) st M = lim cal sc 7 cL_law ret 816 (v0 :: some (.ref h) :: l) (.ref h :: st) M := lim_step dL_law_815
theorem sL_law_816 : lim cal sc 7 cL_law ret 816 (some (.ref h) :: l) st M = lim cal sc 7 cL_law ret 817 (some (.ref h) :: l) (.ref h :: st) M := lim_step dL_law_816
theorem sL_law_817 : lim cal sc 7 cL_law ret 817 (v0 :: v1 :: v2 :: some (.int x) :: l) st M = lim cal sc 7 cL_law ret 818 (v0 :: v1 :: v2 :: some (.int x) :: l) (.int x :: st) M := lim_step dL_law_817
theorem sL_law_818 : lim cal sc 7 cL_law ret 818 lv st M = lim cal sc 7 cL_law ret 819 lv (.int 1 :: st) M := (lim_step dL_law_818).trans (e_ic k_i_1)
theorem sL_law_819 : lim cal sc 7 cL_law ret 819 lv (.int y :: .int x :: st) M = lim cal sc 7 cL_law ret 820 lv (.int (x + y) :: st) M := lim_step dL_law_819
theorem sL_law_820 : lim cal sc 7 cL_law ret 820 lv (.int x :: .ref h :: st) M = opK (arrV9 sc h M) fun q => guK (inb x q.1) (lim cal sc 7 cL_law ret 821 lv (.int (q.2 x.toNatClampNeg) :: st) M) := (lim_step dL_law_820).trans (e_iald)
theorem sL_law_821 : lim cal sc 7 cL_law ret 821 (some (.ref h) :: l) st M = lim cal sc 7 cL_law ret 822 (some (.ref h) :: l) (.ref h :: st) M := lim_step dL_law_821
theorem sL_law_822 : lim cal sc 7 cL_law ret 822 (v0 :: v1 :: v2 :: some (.int x) :: l) st M = lim cal sc 7 cL_law ret 823 (v0 :: v1 :: v2 :: some (.int x) :: l) (.int x :: st) M := lim_step dL_law_822
theorem sL_law_823 : lim cal sc 7 cL_law ret 823 lv st M = lim cal sc 7 cL_law ret 824 lv (.int 2 :: st) M := (lim_step dL_law_823).trans (e_ic k_i_2)
theorem sL_law_824 : lim cal sc 7 cL_law ret 824 lv (.int y :: .int x :: st) M = lim cal sc 7 cL_law ret 825 lv (.int (x + y) :: st) M := lim_step dL_law_824
theorem sL_law_825 : lim cal sc 7 cL_law ret 825 lv (.int x :: .ref h :: st) M = opK (arrV9 sc h M) fun q => guK (inb x q.1) (lim cal sc 7 cL_law ret 826 lv (.int (q.2 x.toNatClampNeg) :: st) M) := (lim_step dL_law_825).trans (e_iald)
theorem sL_law_826 : lim cal sc 7 cL_law ret 826 lv (a2 :: a1 :: .ref h :: st) M = guK (isCl 4 h) (guK (rk 8 st) (calK (cal 64 [.ref h, a1, a2] M) fun q M' => lim cal sc 7 cL_law ret 829 lv (q.toList ++ st) M')) := (lim_step dL_law_826).trans (e_virt2 rm_7_101 mq_64)
theorem sL_law_829 : lim cal sc 7 cL_law ret 829 (v0 :: v1 :: some (.ref h) :: l) st M = lim cal sc 7 cL_law ret 830 (v0 :: v1 :: some (.ref h) :: l) (.ref h :: st) M := lim_step dL_law_829
theorem sL_law_830 : lim cal sc 7 cL_law ret 830 (some (.ref h) :: l) st M = lim cal sc 7 cL_law ret 831 (some (.ref h) :: l) (.ref h :: st) M := lim_step dL_law_830
theorem sL_law_831 : lim cal sc 7 cL_law ret 831 (v0 :: v1 :: v2 :: some (.int x) :: l) st M = lim cal sc 7 cL_law ret 832 (v0 :: v1 :: v2 :: some (.int x) :: l) (.int x :: st) M := lim_step dL_law_831
theorem sL_law_832 : lim cal sc 7 cL_law ret 832 lv st M = lim cal sc 7 cL_law ret 833 lv (.int 1 :: st) M := (lim_step dL_law_832).trans (e_ic k_i_1)
theorem sL_law_833 : lim cal sc 7 cL_law ret 833 lv (.int y :: .int x :: st) M = lim cal sc 7 cL_law ret 834 lv (.int (x + y) :: st) M := lim_step dL_law_833
theorem sL_law_834 : lim cal sc 7 cL_law ret 834 lv (.int x :: .ref h :: st) M = opK (arrV9 sc h M) fun q => guK (inb x q.1) (lim cal sc 7 cL_law ret 835 lv (.int (q.2 x.toNatClampNeg) :: st) M) := (lim_step dL_law_834).trans (e_iald)
theorem sL_law_835 : lim cal sc 7 cL_law ret 835 (some (.ref h) :: l) st M = lim cal sc 7 cL_law ret 836 (some (.ref h) :: l) (.ref h :: st) M := lim_step dL_law_835
theorem sL_law_836 : lim cal sc 7 cL_law ret 836 (v0 :: v1 :: v2 :: some (.int x) :: l) st M = lim cal sc 7 cL_law ret 837 (v0 :: v1 :: v2 :: some (.int x) :: l) (.int x :: st) M := lim_step dL_law_836
theorem sL_law_837 : lim cal sc 7 cL_law ret 837 lv st M = lim cal sc 7 cL_law ret 838 lv (.int 2 :: st) M := (lim_step dL_law_837).trans (e_ic k_i_2)
theorem sL_law_838 : lim cal sc 7 cL_law ret 838 lv (.int y :: .int x :: st) M = lim cal sc 7 cL_law ret 839 lv (.int (x + y) :: st) M := lim_step dL_law_838
theorem sL_law_839 : lim cal sc 7 cL_law ret 839 lv (.int x :: .ref h :: st) M = opK (arrV9 sc h M) fun q => guK (inb x q.1) (lim cal sc 7 cL_law ret 840 lv (.int (q.2 x.toNatClampNeg) :: st) M) := (lim_step dL_law_839).trans (e_iald)
theorem sL_law_840 : lim cal sc 7 cL_law ret 840 lv (a2 :: a1 :: .ref h :: st) M = guK (isCl 5 h) (guK (rk 8 st) (calK (cal 199 [.ref h, a1, a2] M) fun q M' => lim cal sc 7 cL_law ret 843 lv (q.toList ++ st) M')) := (lim_step dL_law_840).trans (e_virt2 rm_7_104 mq_199)
theorem sL_law_843 : lim cal sc 7 cL_law ret 843 lv (.int y :: .int x :: st) M = if x = y then lim cal sc 7 cL_law ret 1500 lv st M else lim cal sc 7 cL_law ret 846 lv st M := (lim_step dL_law_843).trans (e_cmpeq (t := 1500) (by decide))
theorem sL_law_846 : lim cal sc 7 cL_law ret 846 lv st M = lim cal sc 7 cL_law ret 847 lv (.int 0 :: st) M := (lim_step dL_law_846).trans (e_ic k_i_0)
theorem sL_law_847 : lim cal sc 7 cL_law (some .boolean) 847 lv [.int x] M = guK (narB .boolean x) (some (some (.int x), M)) := (lim_step dL_law_847).trans (e_zret)
theorem sL_law_848 : lim cal sc 7 cL_law ret 848 (v0 :: some (.ref h) :: l) st M = lim cal sc 7 cL_law ret 849 (v0 :: some (.ref h) :: l) (.ref h :: st) M := lim_step dL_law_848
theorem sL_law_849 : lim cal sc 7 cL_law ret 849 (some (.ref h) :: l) st M = lim cal sc 7 cL_law ret 850 (some (.ref h) :: l) (.ref h :: st) M := lim_step dL_law_849
theorem sL_law_850 : lim cal sc 7 cL_law ret 850 (v0 :: v1 :: v2 :: some (.int x) :: l) st M = lim cal sc 7 cL_law ret 851 (v0 :: v1 :: v2 :: some (.int x) :: l) (.int x :: st) M := lim_step dL_law_850
theorem sL_law_851 : lim cal sc 7 cL_law ret 851 lv st M = lim cal sc 7 cL_law ret 852 lv (.int 1 :: st) M := (lim_step dL_law_851).trans (e_ic k_i_1)
theorem sL_law_852 : lim cal sc 7 cL_law ret 852 lv (.int y :: .int x :: st) M = lim cal sc 7 cL_law ret 853 lv (.int (x + y) :: st) M := lim_step dL_law_852
theorem sL_law_853 : lim cal sc 7 cL_law ret 853 lv (.int x :: .ref h :: st) M = opK (arrV9 sc h M) fun q => guK (inb x q.1) (lim cal sc 7 cL_law ret 854 lv (.int (q.2 x.toNatClampNeg) :: st) M) := (lim_step dL_law_853).trans (e_iald)
theorem sL_law_854 : lim cal sc 7 cL_law ret 854 (some (.ref h) :: l) st M = lim cal sc 7 cL_law ret 855 (some (.ref h) :: l) (.ref h :: st) M := lim_step dL_law_854
theorem sL_law_855 : lim cal sc 7 cL_law ret 855 (v0 :: v1 :: v2 :: some (.int x) :: l) st M = lim cal sc 7 cL_law ret 856 (v0 :: v1 :: v2 :: some (.int x) :: l) (.int x :: st) M := lim_step dL_law_855
theorem sL_law_856 : lim cal sc 7 cL_law ret 856 lv st M = lim cal sc 7 cL_law ret 857 lv (.int 2 :: st) M := (lim_step dL_law_856).trans (e_ic k_i_2)
theorem sL_law_857 : lim cal sc 7 cL_law ret 857 lv (.int y :: .int x :: st) M = lim cal sc 7 cL_law ret 858 lv (.int (x + y) :: st) M := lim_step dL_law_857
theorem sL_law_858 : lim cal sc 7 cL_law ret 858 lv (.int x :: .ref h :: st) M = opK (arrV9 sc h M) fun q => guK (inb x q.1) (lim cal sc 7 cL_law ret 859 lv (.int (q.2 x.toNatClampNeg) :: st) M) := (lim_step dL_law_858).trans (e_iald)
theorem sL_law_859 : lim cal sc 7 cL_law ret 859 lv (a2 :: a1 :: .ref h :: st) M = guK (isCl 4 h) (guK (rk 8 st) (calK (cal 72 [.ref h, a1, a2] M) fun q M' => lim cal sc 7 cL_law ret 862 lv (q.toList ++ st) M')) := (lim_step dL_law_859).trans (e_virt2 rm_7_105 mq_72)
theorem sL_law_862 : lim cal sc 7 cL_law ret 862 (v0 :: v1 :: some (.ref h) :: l) st M = lim cal sc 7 cL_law ret 863 (v0 :: v1 :: some (.ref h) :: l) (.ref h :: st) M := lim_step dL_law_862
theorem sL_law_863 : lim cal sc 7 cL_law ret 863 (some (.ref h) :: l) st M = lim cal sc 7 cL_law ret 864 (some (.ref h) :: l) (.ref h :: st) M := lim_step dL_law_863
theorem sL_law_864 : lim cal sc 7 cL_law ret 864 (v0 :: v1 :: v2 :: some (.int x) :: l) st M = lim cal sc 7 cL_law ret 865 (v0 :: v1 :: v2 :: some (.int x) :: l) (.int x :: st) M := lim_step dL_law_864
theorem sL_law_865 : lim cal sc 7 cL_law ret 865 lv st M = lim cal sc 7 cL_law ret 866 lv (.int 1 :: st) M := (lim_step dL_law_865).trans (e_ic k_i_1)
theorem sL_law_866 : lim cal sc 7 cL_law ret 866 lv (.int y :: .int x :: st) M = lim cal sc 7 cL_law ret 867 lv (.int (x + y) :: st) M := lim_step dL_law_866
theorem sL_law_867 : lim cal sc 7 cL_law ret 867 lv (.int x :: .ref h :: st) M = opK (arrV9 sc h M) fun q => guK (inb x q.1) (lim cal sc 7 cL_law ret 868 lv (.int (q.2 x.toNatClampNeg) :: st) M) := (lim_step dL_law_867).trans (e_iald)
theorem sL_law_868 : lim cal sc 7 cL_law ret 868 (some (.ref h) :: l) st M = lim cal sc 7 cL_law ret 869 (some (.ref h) :: l) (.ref h :: st) M := lim_step dL_law_868
theorem sL_law_869 : lim cal sc 7 cL_law ret 869 (v0 :: v1 :: v2 :: some (.int x) :: l) st M = lim cal sc 7 cL_law ret 870 (v0 :: v1 :: v2 :: some (.int x) :: l) (.int x :: st) M := lim_step dL_law_869
theorem sL_law_870 : lim cal sc 7 cL_law ret 870 lv st M = lim cal sc 7 cL_law ret 871 lv (.int 2 :: st) M := (lim_step dL_law_870).trans (e_ic k_i_2)
theorem sL_law_871 : lim cal sc 7 cL_law ret 871 lv (.int y :: .int x :: st) M = lim cal sc 7 cL_law ret 872 lv (.int (x + y) :: st) M := lim_step dL_law_871
theorem sL_law_872 : lim cal sc 7 cL_law ret 872 lv (.int x :: .ref h :: st) M = opK (arrV9 sc h M) fun q => guK (inb x q.1) (lim cal sc 7 cL_law ret 873 lv (.int (q.2 x.toNatClampNeg) :: st) M) := (lim_step dL_law_872).trans (e_iald)
theorem sL_law_873 : lim cal sc 7 cL_law ret 873 lv (a2 :: a1 :: .ref h :: st) M = guK (isCl 5 h) (guK (rk 8 st) (calK (cal 205 [.ref h, a1, a2] M) fun q M' => lim cal sc 7 cL_law ret 876 lv (q.toList ++ st) M')) := (lim_step dL_law_873).trans (e_virt2 rm_7_108 mq_205)
theorem sL_law_876 : lim cal sc 7 cL_law ret 876 lv (.int y :: .int x :: st) M = if x = y then lim cal sc 7 cL_law ret 1500 lv st M else lim cal sc 7 cL_law ret 879 lv st M := (lim_step dL_law_876).trans (e_cmpeq (t := 1500) (by decide))
theorem sL_law_879 : lim cal sc 7 cL_law ret 879 lv st M = lim cal sc 7 cL_law ret 880 lv (.int 0 :: st) M := (lim_step dL_law_879).trans (e_ic k_i_0)
theorem sL_law_880 : lim cal sc 7 cL_law (some .boolean) 880 lv [.int x] M = guK (narB .boolean x) (some (some (.int x), M)) := (lim_step dL_law_880).trans (e_zret)
theorem sL_law_881 : lim cal sc 7 cL_law ret 881 (v0 :: some (.ref h) :: l) st M = lim cal sc 7 cL_law ret 882 (v0 :: some (.ref h) :: l) (.ref h :: st) M := lim_step dL_law_881
theorem sL_law_882 : lim cal sc 7 cL_law ret 882 (some (.ref h) :: l) st M = lim cal sc 7 cL_law ret 883 (some (.ref h) :: l) (.ref h :: st) M := lim_step dL_law_882
theorem sL_law_883 : lim cal sc 7 cL_law ret 883 (v0 :: v1 :: v2 :: some (.int x) :: l) st M = lim cal sc 7 cL_law ret 884 (v0 :: v1 :: v2 :: some (.int x) :: l) (.int x :: st) M := lim_step dL_law_883
theorem sL_law_884 : lim cal sc 7 cL_law ret 884 lv st M = lim cal sc 7 cL_law ret 885 lv (.int 1 :: st) M := (lim_step dL_law_884).trans (e_ic k_i_1)
theorem sL_law_885 : lim cal sc 7 cL_law ret 885 lv (.int y :: .int x :: st) M = lim cal sc 7 cL_law ret 886 lv (.int (x + y) :: st) M := lim_step dL_law_885
theorem sL_law_886 : lim cal sc 7 cL_law ret 886 lv (.int x :: .ref h :: st) M = opK (arrV9 sc h M) fun q => guK (inb x q.1) (lim cal sc 7 cL_law ret 887 lv (.int (q.2 x.toNatClampNeg) :: st) M) := (lim_step dL_law_886).trans (e_iald)
theorem sL_law_887 : lim cal sc 7 cL_law ret 887 (some (.ref h) :: l) st M = lim cal sc 7 cL_law ret 888 (some (.ref h) :: l) (.ref h :: st) M := lim_step dL_law_887
theorem sL_law_888 : lim cal sc 7 cL_law ret 888 (v0 :: v1 :: v2 :: some (.int x) :: l) st M = lim cal sc 7 cL_law ret 889 (v0 :: v1 :: v2 :: some (.int x) :: l) (.int x :: st) M := lim_step dL_law_888
theorem sL_law_889 : lim cal sc 7 cL_law ret 889 lv st M = lim cal sc 7 cL_law ret 890 lv (.int 2 :: st) M := (lim_step dL_law_889).trans (e_ic k_i_2)
theorem sL_law_890 : lim cal sc 7 cL_law ret 890 lv (.int y :: .int x :: st) M = lim cal sc 7 cL_law ret 891 lv (.int (x + y) :: st) M := lim_step dL_law_890
theorem sL_law_891 : lim cal sc 7 cL_law ret 891 lv (.int x :: .ref h :: st) M = opK (arrV9 sc h M) fun q => guK (inb x q.1) (lim cal sc 7 cL_law ret 892 lv (.int (q.2 x.toNatClampNeg) :: st) M) := (lim_step dL_law_891).trans (e_iald)
theorem sL_law_892 : lim cal sc 7 cL_law ret 892 lv (a2 :: a1 :: .ref h :: st) M = guK (isCl 4 h) (guK (rk 8 st) (calK (cal 73 [.ref h, a1, a2] M) fun q M' => lim cal sc 7 cL_law ret 895 lv (q.toList ++ st) M')) := (lim_step dL_law_892).trans (e_virt2 rm_7_109 mq_73)
theorem sL_law_895 : lim cal sc 7 cL_law ret 895 (v0 :: v1 :: some (.ref h) :: l) st M = lim cal sc 7 cL_law ret 896 (v0 :: v1 :: some (.ref h) :: l) (.ref h :: st) M := lim_step dL_law_895
theorem sL_law_896 : lim cal sc 7 cL_law ret 896 (some (.ref h) :: l) st M = lim cal sc 7 cL_law ret 897 (some (.ref h) :: l) (.ref h :: st) M := lim_step dL_law_896
theorem sL_law_897 : lim cal sc 7 cL_law ret 897 (v0 :: v1 :: v2 :: some (.int x) :: l) st M = lim cal sc 7 cL_law ret 898 (v0 :: v1 :: v2 :: some (.int x) :: l) (.int x :: st) M := lim_step dL_law_897
theorem sL_law_898 : lim cal sc 7 cL_law ret 898 lv st M = lim cal sc 7 cL_law ret 899 lv (.int 1 :: st) M := (lim_step dL_law_898).trans (e_ic k_i_1)
theorem sL_law_899 : lim cal sc 7 cL_law ret 899 lv (.int y :: .int x :: st) M = lim cal sc 7 cL_law ret 900 lv (.int (x + y) :: st) M := lim_step dL_law_899
theorem sL_law_900 : lim cal sc 7 cL_law ret 900 lv (.int x :: .ref h :: st) M = opK (arrV9 sc h M) fun q => guK (inb x q.1) (lim cal sc 7 cL_law ret 901 lv (.int (q.2 x.toNatClampNeg) :: st) M) := (lim_step dL_law_900).trans (e_iald)
theorem sL_law_901 : lim cal sc 7 cL_law ret 901 (some (.ref h) :: l) st M = lim cal sc 7 cL_law ret 902 (some (.ref h) :: l) (.ref h :: st) M := lim_step dL_law_901
theorem sL_law_902 : lim cal sc 7 cL_law ret 902 (v0 :: v1 :: v2 :: some (.int x) :: l) st M = lim cal sc 7 cL_law ret 903 (v0 :: v1 :: v2 :: some (.int x) :: l) (.int x :: st) M := lim_step dL_law_902
theorem sL_law_903 : lim cal sc 7 cL_law ret 903 lv st M = lim cal sc 7 cL_law ret 904 lv (.int 2 :: st) M := (lim_step dL_law_903).trans (e_ic k_i_2)
theorem sL_law_904 : lim cal sc 7 cL_law ret 904 lv (.int y :: .int x :: st) M = lim cal sc 7 cL_law ret 905 lv (.int (x + y) :: st) M := lim_step dL_law_904
theorem sL_law_905 : lim cal sc 7 cL_law ret 905 lv (.int x :: .ref h :: st) M = opK (arrV9 sc h M) fun q => guK (inb x q.1) (lim cal sc 7 cL_law ret 906 lv (.int (q.2 x.toNatClampNeg) :: st) M) := (lim_step dL_law_905).trans (e_iald)
theorem sL_law_906 : lim cal sc 7 cL_law ret 906 lv (a2 :: a1 :: .ref h :: st) M = guK (isCl 5 h) (guK (rk 8 st) (calK (cal 206 [.ref h, a1, a2] M) fun q M' => lim cal sc 7 cL_law ret 909 lv (q.toList ++ st) M')) := (lim_step dL_law_906).trans (e_virt2 rm_7_112 mq_206)
theorem sL_law_909 : lim cal sc 7 cL_law ret 909 lv (.int y :: .int x :: st) M = if x = y then lim cal sc 7 cL_law ret 1500 lv st M else lim cal sc 7 cL_law ret 912 lv st M := (lim_step dL_law_909).trans (e_cmpeq (t := 1500) (by decide))
theorem sL_law_912 : lim cal sc 7 cL_law ret 912 lv st M = lim cal sc 7 cL_law ret 913 lv (.int 0 :: st) M := (lim_step dL_law_912).trans (e_ic k_i_0)
theorem sL_law_913 : lim cal sc 7 cL_law (some .boolean) 913 lv [.int x] M = guK (narB .boolean x) (some (some (.int x), M)) := (lim_step dL_law_913).trans (e_zret)
theorem sL_law_914 : lim cal sc 7 cL_law ret 914 (v0 :: some (.ref h) :: l) st M = lim cal sc 7 cL_law ret 915 (v0 :: some (.ref h) :: l) (.ref h :: st) M := lim_step dL_law_914
theorem sL_law_915 : lim cal sc 7 cL_law ret 915 (some (.ref h) :: l) st M = lim cal sc 7 cL_law ret 916 (some (.ref h) :: l) (.ref h :: st) M := lim_step dL_law_915
theorem sL_law_916 : lim cal sc 7 cL_law ret 916 (v0 :: v1 :: v2 :: some (.int x) :: l) st M = lim cal sc 7 cL_law ret 917 (v0 :: v1 :: v2 :: some (.int x) :: l) (.int x :: st) M := lim_step dL_law_916
theorem sL_law_917 : lim cal sc 7 cL_law ret 917 lv st M = lim cal sc 7 cL_law ret 918 lv (.int 1 :: st) M := (lim_step dL_law_917).trans (e_ic k_i_1)
theorem sL_law_918 : lim cal sc 7 cL_law ret 918 lv (.int y :: .int x :: st) M = lim cal sc 7 cL_law ret 919 lv (.int (x + y) :: st) M := lim_step dL_law_918
theorem sL_law_919 : lim cal sc 7 cL_law ret 919 lv (.int x :: .ref h :: st) M = opK (arrV9 sc h M) fun q => guK (inb x q.1) (lim cal sc 7 cL_law ret 920 lv (.int (q.2 x.toNatClampNeg) :: st) M) := (lim_step dL_law_919).trans (e_iald)
theorem sL_law_920 : lim cal sc 7 cL_law ret 920 (some (.ref h) :: l) st M = lim cal sc 7 cL_law ret 921 (some (.ref h) :: l) (.ref h :: st) M := lim_step dL_law_920
theorem sL_law_921 : lim cal sc 7 cL_law ret 921 (v0 :: v1 :: v2 :: some (.int x) :: l) st M = lim cal sc 7 cL_law ret 922 (v0 :: v1 :: v2 :: some (.int x) :: l) (.int x :: st) M := lim_step dL_law_921
theorem sL_law_922 : lim cal sc 7 cL_law ret 922 lv st M = lim cal sc 7 cL_law ret 923 lv (.int 2 :: st) M := (lim_step dL_law_922).trans (e_ic k_i_2)
theorem sL_law_923 : lim cal sc 7 cL_law ret 923 lv (.int y :: .int x :: st) M = lim cal sc 7 cL_law ret 924 lv (.int (x + y) :: st) M := lim_step dL_law_923
theorem sL_law_924 : lim cal sc 7 cL_law ret 924 lv (.int x :: .ref h :: st) M = opK (arrV9 sc h M) fun q => guK (inb x q.1) (lim cal sc 7 cL_law ret 925 lv (.int (q.2 x.toNatClampNeg) :: st) M) := (lim_step dL_law_924).trans (e_iald)
theorem sL_law_925 : lim cal sc 7 cL_law ret 925 lv (a2 :: a1 :: .ref h :: st) M = guK (isCl 4 h) (guK (rk 8 st) (calK (cal 74 [.ref h, a1, a2] M) fun q M' => lim cal sc 7 cL_law ret 928 lv (q.toList ++ st) M')) := (lim_step dL_law_925).trans (e_virt2 rm_7_113 mq_74)
theorem sL_law_928 : lim cal sc 7 cL_law ret 928 (v0 :: v1 :: some (.ref h) :: l) st M = lim cal sc 7 cL_law ret 929 (v0 :: v1 :: some (.ref h) :: l) (.ref h :: st) M := lim_step dL_law_928
theorem sL_law_929 : lim cal sc 7 cL_law ret 929 (some (.ref h) :: l) st M = lim cal sc 7 cL_law ret 930 (some (.ref h) :: l) (.ref h :: st) M := lim_step dL_law_929
theorem sL_law_930 : lim cal sc 7 cL_law ret 930 (v0 :: v1 :: v2 :: some (.int x) :: l) st M = lim cal sc 7 cL_law ret 931 (v0 :: v1 :: v2 :: some (.int x) :: l) (.int x :: st) M := lim_step dL_law_930
theorem sL_law_931 : lim cal sc 7 cL_law ret 931 lv st M = lim cal sc 7 cL_law ret 932 lv (.int 1 :: st) M := (lim_step dL_law_931).trans (e_ic k_i_1)
theorem sL_law_932 : lim cal sc 7 cL_law ret 932 lv (.int y :: .int x :: st) M = lim cal sc 7 cL_law ret 933 lv (.int (x + y) :: st) M := lim_step dL_law_932
theorem sL_law_933 : lim cal sc 7 cL_law ret 933 lv (.int x :: .ref h :: st) M = opK (arrV9 sc h M) fun q => guK (inb x q.1) (lim cal sc 7 cL_law ret 934 lv (.int (q.2 x.toNatClampNeg) :: st) M) := (lim_step dL_law_933).trans (e_iald)
theorem sL_law_934 : lim cal sc 7 cL_law ret 934 (some (.ref h) :: l) st M = lim cal sc 7 cL_law ret 935 (some (.ref h) :: l) (.ref h :: st) M := lim_step dL_law_934
theorem sL_law_935 : lim cal sc 7 cL_law ret 935 (v0 :: v1 :: v2 :: some (.int x) :: l) st M = lim cal sc 7 cL_law ret 936 (v0 :: v1 :: v2 :: some (.int x) :: l) (.int x :: st) M := lim_step dL_law_935
theorem sL_law_936 : lim cal sc 7 cL_law ret 936 lv st M = lim cal sc 7 cL_law ret 937 lv (.int 2 :: st) M := (lim_step dL_law_936).trans (e_ic k_i_2)
theorem sL_law_937 : lim cal sc 7 cL_law ret 937 lv (.int y :: .int x :: st) M = lim cal sc 7 cL_law ret 938 lv (.int (x + y) :: st) M := lim_step dL_law_937
theorem sL_law_938 : lim cal sc 7 cL_law ret 938 lv (.int x :: .ref h :: st) M = opK (arrV9 sc h M) fun q => guK (inb x q.1) (lim cal sc 7 cL_law ret 939 lv (.int (q.2 x.toNatClampNeg) :: st) M) := (lim_step dL_law_938).trans (e_iald)
theorem sL_law_939 : lim cal sc 7 cL_law ret 939 lv (a2 :: a1 :: .ref h :: st) M = guK (isCl 5 h) (guK (rk 8 st) (calK (cal 207 [.ref h, a1, a2] M) fun q M' => lim cal sc 7 cL_law ret 942 lv (q.toList ++ st) M')) := (lim_step dL_law_939).trans (e_virt2 rm_7_116 mq_207)
theorem sL_law_942 : lim cal sc 7 cL_law ret 942 lv (.int y :: .int x :: st) M = if x = y then lim cal sc 7 cL_law ret 1500 lv st M else lim cal sc 7 cL_law ret 945 lv st M := (lim_step dL_law_942).trans (e_cmpeq (t := 1500) (by decide))
theorem sL_law_945 : lim cal sc 7 cL_law ret 945 lv st M = lim cal sc 7 cL_law ret 946 lv (.int 0 :: st) M := (lim_step dL_law_945).trans (e_ic k_i_0)
theorem sL_law_946 : lim cal sc 7 cL_law (some .boolean) 946 lv [.int x] M = guK (narB .boolean x) (some (some (.int x), M)) := (lim_step dL_law_946).trans (e_zret)
theorem sL_law_947 : lim cal sc 7 cL_law ret 947 (v0 :: some (.ref h) :: l) st M = lim cal sc 7 cL_law ret 948 (v0 :: some (.ref h) :: l) (.ref h :: st) M := lim_step dL_law_947
theorem sL_law_948 : lim cal sc 7 cL_law ret 948 (some (.ref h) :: l) st M = lim cal sc 7 cL_law ret 949 (some (.ref h) :: l) (.ref h :: st) M := lim_step dL_law_948
theorem sL_law_949 : lim cal sc 7 cL_law ret 949 (v0 :: v1 :: v2 :: some (.int x) :: l) st M = lim cal sc 7 cL_law ret 950 (v0 :: v1 :: v2 :: some (.int x) :: l) (.int x :: st) M := lim_step dL_law_949
theorem sL_law_950 : lim cal sc 7 cL_law ret 950 lv st M = lim cal sc 7 cL_law ret 951 lv (.int 1 :: st) M := (lim_step dL_law_950).trans (e_ic k_i_1)
theorem sL_law_951 : lim cal sc 7 cL_law ret 951 lv (.int y :: .int x :: st) M = lim cal sc 7 cL_law ret 952 lv (.int (x + y) :: st) M := lim_step dL_law_951
theorem sL_law_952 : lim cal sc 7 cL_law ret 952 lv (.int x :: .ref h :: st) M = opK (arrV9 sc h M) fun q => guK (inb x q.1) (lim cal sc 7 cL_law ret 953 lv (.int (q.2 x.toNatClampNeg) :: st) M) := (lim_step dL_law_952).trans (e_iald)
theorem sL_law_953 : lim cal sc 7 cL_law ret 953 (some (.ref h) :: l) st M = lim cal sc 7 cL_law ret 954 (some (.ref h) :: l) (.ref h :: st) M := lim_step dL_law_953
theorem sL_law_954 : lim cal sc 7 cL_law ret 954 (v0 :: v1 :: v2 :: some (.int x) :: l) st M = lim cal sc 7 cL_law ret 955 (v0 :: v1 :: v2 :: some (.int x) :: l) (.int x :: st) M := lim_step dL_law_954
theorem sL_law_955 : lim cal sc 7 cL_law ret 955 lv st M = lim cal sc 7 cL_law ret 956 lv (.int 2 :: st) M := (lim_step dL_law_955).trans (e_ic k_i_2)
theorem sL_law_956 : lim cal sc 7 cL_law ret 956 lv (.int y :: .int x :: st) M = lim cal sc 7 cL_law ret 957 lv (.int (x + y) :: st) M := lim_step dL_law_956
theorem sL_law_957 : lim cal sc 7 cL_law ret 957 lv (.int x :: .ref h :: st) M = opK (arrV9 sc h M) fun q => guK (inb x q.1) (lim cal sc 7 cL_law ret 958 lv (.int (q.2 x.toNatClampNeg) :: st) M) := (lim_step dL_law_957).trans (e_iald)
theorem sL_law_958 : lim cal sc 7 cL_law ret 958 lv (a2 :: a1 :: .ref h :: st) M = guK (isCl 4 h) (guK (rk 8 st) (calK (cal 78 [.ref h, a1, a2] M) fun q M' => lim cal sc 7 cL_law ret 961 lv (q.toList ++ st) M')) := (lim_step dL_law_958).trans (e_virt2 rm_7_117 mq_78)
theorem sL_law_961 : lim cal sc 7 cL_law ret 961 (v0 :: v1 :: some (.ref h) :: l) st M = lim cal sc 7 cL_law ret 962 (v0 :: v1 :: some (.ref h) :: l) (.ref h :: st) M := lim_step dL_law_961
theorem sL_law_962 : lim cal sc 7 cL_law ret 962 (some (.ref h) :: l) st M = lim cal sc 7 cL_law ret 963 (some (.ref h) :: l) (.ref h :: st) M := lim_step dL_law_962
theorem sL_law_963 : lim cal sc 7 cL_law ret 963 (v0 :: v1 :: v2 :: some (.int x) :: l) st M = lim cal sc 7 cL_law ret 964 (v0 :: v1 :: v2 :: some (.int x) :: l) (.int x :: st) M := lim_step dL_law_963
theorem sL_law_964 : lim cal sc 7 cL_law ret 964 lv st M = lim cal sc 7 cL_law ret 965 lv (.int 1 :: st) M := (lim_step dL_law_964).trans (e_ic k_i_1)
theorem sL_law_965 : lim cal sc 7 cL_law ret 965 lv (.int y :: .int x :: st) M = lim cal sc 7 cL_law ret 966 lv (.int (x + y) :: st) M := lim_step dL_law_965
theorem sL_law_966 : lim cal sc 7 cL_law ret 966 lv (.int x :: .ref h :: st) M = opK (arrV9 sc h M) fun q => guK (inb x q.1) (lim cal sc 7 cL_law ret 967 lv (.int (q.2 x.toNatClampNeg) :: st) M) := (lim_step dL_law_966).trans (e_iald)
theorem sL_law_967 : lim cal sc 7 cL_law ret 967 (some (.ref h) :: l) st M = lim cal sc 7 cL_law ret 968 (some (.ref h) :: l) (.ref h :: st) M := lim_step dL_law_967
theorem sL_law_968 : lim cal sc 7 cL_law ret 968 (v0 :: v1 :: v2 :: some (.int x) :: l) st M = lim cal sc 7 cL_law ret 969 (v0 :: v1 :: v2 :: some (.int x) :: l) (.int x :: st) M := lim_step dL_law_968
theorem sL_law_969 : lim cal sc 7 cL_law ret 969 lv st M = lim cal sc 7 cL_law ret 970 lv (.int 2 :: st) M := (lim_step dL_law_969).trans (e_ic k_i_2)
theorem sL_law_970 : lim cal sc 7 cL_law ret 970 lv (.int y :: .int x :: st) M = lim cal sc 7 cL_law ret 971 lv (.int (x + y) :: st) M := lim_step dL_law_970
theorem sL_law_971 : lim cal sc 7 cL_law ret 971 lv (.int x :: .ref h :: st) M = opK (arrV9 sc h M) fun q => guK (inb x q.1) (lim cal sc 7 cL_law ret 972 lv (.int (q.2 x.toNatClampNeg) :: st) M) := (lim_step dL_law_971).trans (e_iald)
theorem sL_law_972 : lim cal sc 7 cL_law ret 972 lv (a2 :: a1 :: .ref h :: st) M = guK (isCl 5 h) (guK (rk 8 st) (calK (cal 210 [.ref h, a1, a2] M) fun q M' => lim cal sc 7 cL_law ret 975 lv (q.toList ++ st) M')) := (lim_step dL_law_972).trans (e_virt2 rm_7_120 mq_210)
theorem sL_law_975 : lim cal sc 7 cL_law ret 975 lv (.int y :: .int x :: st) M = if x = y then lim cal sc 7 cL_law ret 1500 lv st M else lim cal sc 7 cL_law ret 978 lv st M := (lim_step dL_law_975).trans (e_cmpeq (t := 1500) (by decide))
theorem sL_law_978 : lim cal sc 7 cL_law ret 978 lv st M = lim cal sc 7 cL_law ret 979 lv (.int 0 :: st) M := (lim_step dL_law_978).trans (e_ic k_i_0)
theorem sL_law_979 : lim cal sc 7 cL_law (some .boolean) 979 lv [.int x] M = guK (narB .boolean x) (some (some (.int x), M)) := (lim_step dL_law_979).trans (e_zret)
theorem sL_law_980 : lim cal sc 7 cL_law ret 980 (v0 :: some (.ref h) :: l) st M = lim cal sc 7 cL_law ret 981 (v0 :: some (.ref h) :: l) (.ref h :: st) M := lim_step dL_law_980
theorem sL_law_981 : lim cal sc 7 cL_law ret 981 (some (.ref h) :: l) st M = lim cal sc 7 cL_law ret 982 (some (.ref h) :: l) (.ref h :: st) M := lim_step dL_law_981
theorem sL_law_982 : lim cal sc 7 cL_law ret 982 (v0 :: v1 :: v2 :: some (.int x) :: l) st M = lim cal sc 7 cL_law ret 983 (v0 :: v1 :: v2 :: some (.int x) :: l) (.int x :: st) M := lim_step dL_law_982
theorem sL_law_983 : lim cal sc 7 cL_law ret 983 lv st M = lim cal sc 7 cL_law ret 984 lv (.int 1 :: st) M := (lim_step dL_law_983).trans (e_ic k_i_1)
theorem sL_law_984 : lim cal sc 7 cL_law ret 984 lv (.int y :: .int x :: st) M = lim cal sc 7 cL_law ret 985 lv (.int (x + y) :: st) M := lim_step dL_law_984
theorem sL_law_985 : lim cal sc 7 cL_law ret 985 lv (.int x :: .ref h :: st) M = opK (arrV9 sc h M) fun q => guK (inb x q.1) (lim cal sc 7 cL_law ret 986 lv (.int (q.2 x.toNatClampNeg) :: st) M) := (lim_step dL_law_985).trans (e_iald)
theorem sL_law_986 : lim cal sc 7 cL_law ret 986 lv (a1 :: .ref h :: st) M = guK (isCl 4 h) (guK (rk 8 st) (calK (cal 79 [.ref h, a1] M) fun q M' => lim cal sc 7 cL_law ret 989 lv (q.toList ++ st) M')) := (lim_step dL_law_986).trans (e_virt1 rm_7_121 mq_79)
theorem sL_law_989 : lim cal sc 7 cL_law ret 989 (v0 :: v1 :: some (.ref h) :: l) st M = lim cal sc 7 cL_law ret 990 (v0 :: v1 :: some (.ref h) :: l) (.ref h :: st) M := lim_step dL_law_989
theorem sL_law_990 : lim cal sc 7 cL_law ret 990 (some (.ref h) :: l) st M = lim cal sc 7 cL_law ret 991 (some (.ref h) :: l) (.ref h :: st) M := lim_step dL_law_990
theorem sL_law_991 : lim cal sc 7 cL_law ret 991 (v0 :: v1 :: v2 :: some (.int x) :: l) st M = lim cal sc 7 cL_law ret 992 (v0 :: v1 :: v2 :: some (.int x) :: l) (.int x :: st) M := lim_step dL_law_991
theorem sL_law_992 : lim cal sc 7 cL_law ret 992 lv st M = lim cal sc 7 cL_law ret 993 lv (.int 1 :: st) M := (lim_step dL_law_992).trans (e_ic k_i_1)
theorem sL_law_993 : lim cal sc 7 cL_law ret 993 lv (.int y :: .int x :: st) M = lim cal sc 7 cL_law ret 994 lv (.int (x + y) :: st) M := lim_step dL_law_993
theorem sL_law_994 : lim cal sc 7 cL_law ret 994 lv (.int x :: .ref h :: st) M = opK (arrV9 sc h M) fun q => guK (inb x q.1) (lim cal sc 7 cL_law ret 995 lv (.int (q.2 x.toNatClampNeg) :: st) M) := (lim_step dL_law_994).trans (e_iald)
theorem sL_law_995 : lim cal sc 7 cL_law ret 995 lv (a1 :: .ref h :: st) M = guK (isCl 5 h) (guK (rk 8 st) (calK (cal 211 [.ref h, a1] M) fun q M' => lim cal sc 7 cL_law ret 998 lv (q.toList ++ st) M')) := (lim_step dL_law_995).trans (e_virt1 rm_7_124 mq_211)
theorem sL_law_998 : lim cal sc 7 cL_law ret 998 lv (.int y :: .int x :: st) M = if x = y then lim cal sc 7 cL_law ret 1500 lv st M else lim cal sc 7 cL_law ret 1001 lv st M := (lim_step dL_law_998).trans (e_cmpeq (t := 1500) (by decide))
theorem sL_law_1001 : lim cal sc 7 cL_law ret 1001 lv st M = lim cal sc 7 cL_law ret 1002 lv (.int 0 :: st) M := (lim_step dL_law_1001).trans (e_ic k_i_0)
theorem sL_law_1002 : lim cal sc 7 cL_law (some .boolean) 1002 lv [.int x] M = guK (narB .boolean x) (some (some (.int x), M)) := (lim_step dL_law_1002).trans (e_zret)
theorem sL_law_1003 : lim cal sc 7 cL_law ret 1003 (v0 :: some (.ref h) :: l) st M = lim cal sc 7 cL_law ret 1004 (v0 :: some (.ref h) :: l) (.ref h :: st) M := lim_step dL_law_1003
theorem sL_law_1004 : lim cal sc 7 cL_law ret 1004 (some (.ref h) :: l) st M = lim cal sc 7 cL_law ret 1005 (some (.ref h) :: l) (.ref h :: st) M := lim_step dL_law_1004
theorem sL_law_1005 : lim cal sc 7 cL_law ret 1005 (v0 :: v1 :: v2 :: some (.int x) :: l) st M = lim cal sc 7 cL_law ret 1006 (v0 :: v1 :: v2 :: some (.int x) :: l) (.int x :: st) M := lim_step dL_law_1005
theorem sL_law_1006 : lim cal sc 7 cL_law ret 1006 lv st M = lim cal sc 7 cL_law ret 1007 lv (.int 1 :: st) M := (lim_step dL_law_1006).trans (e_ic k_i_1)
theorem sL_law_1007 : lim cal sc 7 cL_law ret 1007 lv (.int y :: .int x :: st) M = lim cal sc 7 cL_law ret 1008 lv (.int (x + y) :: st) M := lim_step dL_law_1007
theorem sL_law_1008 : lim cal sc 7 cL_law ret 1008 lv (.int x :: .ref h :: st) M = opK (arrV9 sc h M) fun q => guK (inb x q.1) (lim cal sc 7 cL_law ret 1009 lv (.int (q.2 x.toNatClampNeg) :: st) M) := (lim_step dL_law_1008).trans (e_iald)
theorem sL_law_1009 : lim cal sc 7 cL_law ret 1009 lv (a1 :: .ref h :: st) M = guK (isCl 4 h) (guK (rk 8 st) (calK (cal 80 [.ref h, a1] M) fun q M' => lim cal sc 7 cL_law ret 1012 lv (q.toList ++ st) M')) := (lim_step dL_law_1009).trans (e_virt1 rm_7_125 mq_80)
theorem sL_law_1012 : lim cal sc 7 cL_law ret 1012 (v0 :: v1 :: some (.ref h) :: l) st M = lim cal sc 7 cL_law ret 1013 (v0 :: v1 :: some (.ref h) :: l) (.ref h :: st) M := lim_step dL_law_1012
theorem sL_law_1013 : lim cal sc 7 cL_law ret 1013 (some (.ref h) :: l) st M = lim cal sc 7 cL_law ret 1014 (some (.ref h) :: l) (.ref h :: st) M := lim_step dL_law_1013
theorem sL_law_1014 : lim cal sc 7 cL_law ret 1014 (v0 :: v1 :: v2 :: some (.int x) :: l) st M = lim cal sc 7 cL_law ret 1015 (v0 :: v1 :: v2 :: some (.int x) :: l) (.int x :: st) M := lim_step dL_law_1014
theorem sL_law_1015 : lim cal sc 7 cL_law ret 1015 lv st M = lim cal sc 7 cL_law ret 1016 lv (.int 1 :: st) M := (lim_step dL_law_1015).trans (e_ic k_i_1)
theorem sL_law_1016 : lim cal sc 7 cL_law ret 1016 lv (.int y :: .int x :: st) M = lim cal sc 7 cL_law ret 1017 lv (.int (x + y) :: st) M := lim_step dL_law_1016
theorem sL_law_1017 : lim cal sc 7 cL_law ret 1017 lv (.int x :: .ref h :: st) M = opK (arrV9 sc h M) fun q => guK (inb x q.1) (lim cal sc 7 cL_law ret 1018 lv (.int (q.2 x.toNatClampNeg) :: st) M) := (lim_step dL_law_1017).trans (e_iald)
theorem sL_law_1018 : lim cal sc 7 cL_law ret 1018 lv (a1 :: .ref h :: st) M = guK (isCl 5 h) (guK (rk 8 st) (calK (cal 212 [.ref h, a1] M) fun q M' => lim cal sc 7 cL_law ret 1021 lv (q.toList ++ st) M')) := (lim_step dL_law_1018).trans (e_virt1 rm_7_128 mq_212)
theorem sL_law_1021 : lim cal sc 7 cL_law ret 1021 lv (.int y :: .int x :: st) M = if x = y then lim cal sc 7 cL_law ret 1500 lv st M else lim cal sc 7 cL_law ret 1024 lv st M := (lim_step dL_law_1021).trans (e_cmpeq (t := 1500) (by decide))
theorem sL_law_1024 : lim cal sc 7 cL_law ret 1024 lv st M = lim cal sc 7 cL_law ret 1025 lv (.int 0 :: st) M := (lim_step dL_law_1024).trans (e_ic k_i_0)
theorem sL_law_1025 : lim cal sc 7 cL_law (some .boolean) 1025 lv [.int x] M = guK (narB .boolean x) (some (some (.int x), M)) := (lim_step dL_law_1025).trans (e_zret)
theorem sL_law_1026 : lim cal sc 7 cL_law ret 1026 (v0 :: some (.ref h) :: l) st M = lim cal sc 7 cL_law ret 1027 (v0 :: some (.ref h) :: l) (.ref h :: st) M := lim_step dL_law_1026
theorem sL_law_1027 : lim cal sc 7 cL_law ret 1027 (some (.ref h) :: l) st M = lim cal sc 7 cL_law ret 1028 (some (.ref h) :: l) (.ref h :: st) M := lim_step dL_law_1027
theorem sL_law_1028 : lim cal sc 7 cL_law ret 1028 (v0 :: v1 :: v2 :: some (.int x) :: l) st M = lim cal sc 7 cL_law ret 1029 (v0 :: v1 :: v2 :: some (.int x) :: l) (.int x :: st) M := lim_step dL_law_1028
theorem sL_law_1029 : lim cal sc 7 cL_law ret 1029 lv st M = lim cal sc 7 cL_law ret 1030 lv (.int 1 :: st) M := (lim_step dL_law_1029).trans (e_ic k_i_1)
theorem sL_law_1030 : lim cal sc 7 cL_law ret 1030 lv (.int y :: .int x :: st) M = lim cal sc 7 cL_law ret 1031 lv (.int (x + y) :: st) M := lim_step dL_law_1030
theorem sL_law_1031 : lim cal sc 7 cL_law ret 1031 lv (.int x :: .ref h :: st) M = opK (arrV9 sc h M) fun q => guK (inb x q.1) (lim cal sc 7 cL_law ret 1032 lv (.int (q.2 x.toNatClampNeg) :: st) M) := (lim_step dL_law_1031).trans (e_iald)
theorem sL_law_1032 : lim cal sc 7 cL_law ret 1032 lv (a1 :: .ref h :: st) M = guK (isCl 4 h) (guK (rk 8 st) (calK (cal 82 [.ref h, a1] M) fun q M' => lim cal sc 7 cL_law ret 1035 lv (q.toList ++ st) M')) := (lim_step dL_law_1032).trans (e_virt1 rm_7_129 mq_82)
theorem sL_law_1035 : lim cal sc 7 cL_law ret 1035 (v0 :: v1 :: some (.ref h) :: l) st M = lim cal sc 7 cL_law ret 1036 (v0 :: v1 :: some (.ref h) :: l) (.ref h :: st) M := lim_step dL_law_1035
theorem sL_law_1036 : lim cal sc 7 cL_law ret 1036 (some (.ref h) :: l) st M = lim cal sc 7 cL_law ret 1037 (some (.ref h) :: l) (.ref h :: st) M := lim_step dL_law_1036
theorem sL_law_1037 : lim cal sc 7 cL_law ret 1037 (v0 :: v1 :: v2 :: some (.int x) :: l) st M = lim cal sc 7 cL_law ret 1038 (v0 :: v1 :: v2 :: some (.int x) :: l) (.int x :: st) M := lim_step dL_law_1037
theorem sL_law_1038 : lim cal sc 7 cL_law ret 1038 lv st M = lim cal sc 7 cL_law ret 1039 lv (.int 1 :: st) M := (lim_step dL_law_1038).trans (e_ic k_i_1)
theorem sL_law_1039 : lim cal sc 7 cL_law ret 1039 lv (.int y :: .int x :: st) M = lim cal sc 7 cL_law ret 1040 lv (.int (x + y) :: st) M := lim_step dL_law_1039
theorem sL_law_1040 : lim cal sc 7 cL_law ret 1040 lv (.int x :: .ref h :: st) M = opK (arrV9 sc h M) fun q => guK (inb x q.1) (lim cal sc 7 cL_law ret 1041 lv (.int (q.2 x.toNatClampNeg) :: st) M) := (lim_step dL_law_1040).trans (e_iald)
theorem sL_law_1041 : lim cal sc 7 cL_law ret 1041 lv (a1 :: .ref h :: st) M = guK (isCl 5 h) (guK (rk 8 st) (calK (cal 214 [.ref h, a1] M) fun q M' => lim cal sc 7 cL_law ret 1044 lv (q.toList ++ st) M')) := (lim_step dL_law_1041).trans (e_virt1 rm_7_132 mq_214)
theorem sL_law_1044 : lim cal sc 7 cL_law ret 1044 lv (.int y :: .int x :: st) M = if x = y then lim cal sc 7 cL_law ret 1500 lv st M else lim cal sc 7 cL_law ret 1047 lv st M := (lim_step dL_law_1044).trans (e_cmpeq (t := 1500) (by decide))
theorem sL_law_1047 : lim cal sc 7 cL_law ret 1047 lv st M = lim cal sc 7 cL_law ret 1048 lv (.int 0 :: st) M := (lim_step dL_law_1047).trans (e_ic k_i_0)
theorem sL_law_1048 : lim cal sc 7 cL_law (some .boolean) 1048 lv [.int x] M = guK (narB .boolean x) (some (some (.int x), M)) := (lim_step dL_law_1048).trans (e_zret)
theorem sL_law_1049 : lim cal sc 7 cL_law ret 1049 (v0 :: some (.ref h) :: l) st M = lim cal sc 7 cL_law ret 1050 (v0 :: some (.ref h) :: l) (.ref h :: st) M := lim_step dL_law_1049
theorem sL_law_1050 : lim cal sc 7 cL_law ret 1050 (some (.ref h) :: l) st M = lim cal sc 7 cL_law ret 1051 (some (.ref h) :: l) (.ref h :: st) M := lim_step dL_law_1050
theorem sL_law_1051 : lim cal sc 7 cL_law ret 1051 (v0 :: v1 :: v2 :: some (.int x) :: l) st M = lim cal sc 7 cL_law ret 1052 (v0 :: v1 :: v2 :: some (.int x) :: l) (.int x :: st) M := lim_step dL_law_1051
theorem sL_law_1052 : lim cal sc 7 cL_law ret 1052 lv st M = lim cal sc 7 cL_law ret 1053 lv (.int 1 :: st) M := (lim_step dL_law_1052).trans (e_ic k_i_1)
theorem sL_law_1053 : lim cal sc 7 cL_law ret 1053 lv (.int y :: .int x :: st) M = lim cal sc 7 cL_law ret 1054 lv (.int (x + y) :: st) M := lim_step dL_law_1053
theorem sL_law_1054 : lim cal sc 7 cL_law ret 1054 lv (.int x :: .ref h :: st) M = opK (arrV9 sc h M) fun q => guK (inb x q.1) (lim cal sc 7 cL_law ret 1055 lv (.int (q.2 x.toNatClampNeg) :: st) M) := (lim_step dL_law_1054).trans (e_iald)
theorem sL_law_1055 : lim cal sc 7 cL_law ret 1055 lv (a1 :: .ref h :: st) M = guK (isCl 4 h) (guK (rk 8 st) (calK (cal 83 [.ref h, a1] M) fun q M' => lim cal sc 7 cL_law ret 1058 lv (q.toList ++ st) M')) := (lim_step dL_law_1055).trans (e_virt1 rm_7_133 mq_83)
theorem sL_law_1058 : lim cal sc 7 cL_law ret 1058 (v0 :: v1 :: some (.ref h) :: l) st M = lim cal sc 7 cL_law ret 1059 (v0 :: v1 :: some (.ref h) :: l) (.ref h :: st) M := lim_step dL_law_1058
theorem sL_law_1059 : lim cal sc 7 cL_law ret 1059 (some (.ref h) :: l) st M = lim cal sc 7 cL_law ret 1060 (some (.ref h) :: l) (.ref h :: st) M := lim_step dL_law_1059
theorem sL_law_1060 : lim cal sc 7 cL_law ret 1060 (v0 :: v1 :: v2 :: some (.int x) :: l) st M = lim cal sc 7 cL_law ret 1061 (v0 :: v1 :: v2 :: some (.int x) :: l) (.int x :: st) M := lim_step dL_law_1060
theorem sL_law_1061 : lim cal sc 7 cL_law ret 1061 lv st M = lim cal sc 7 cL_law ret 1062 lv (.int 1 :: st) M := (lim_step dL_law_1061).trans (e_ic k_i_1)
theorem sL_law_1062 : lim cal sc 7 cL_law ret 1062 lv (.int y :: .int x :: st) M = lim cal sc 7 cL_law ret 1063 lv (.int (x + y) :: st) M := lim_step dL_law_1062
theorem sL_law_1063 : lim cal sc 7 cL_law ret 1063 lv (.int x :: .ref h :: st) M = opK (arrV9 sc h M) fun q => guK (inb x q.1) (lim cal sc 7 cL_law ret 1064 lv (.int (q.2 x.toNatClampNeg) :: st) M) := (lim_step dL_law_1063).trans (e_iald)
theorem sL_law_1064 : lim cal sc 7 cL_law ret 1064 lv (a1 :: .ref h :: st) M = guK (isCl 5 h) (guK (rk 8 st) (calK (cal 215 [.ref h, a1] M) fun q M' => lim cal sc 7 cL_law ret 1067 lv (q.toList ++ st) M')) := (lim_step dL_law_1064).trans (e_virt1 rm_7_136 mq_215)
theorem sL_law_1067 : lim cal sc 7 cL_law ret 1067 lv (.int y :: .int x :: st) M = if x = y then lim cal sc 7 cL_law ret 1500 lv st M else lim cal sc 7 cL_law ret 1070 lv st M := (lim_step dL_law_1067).trans (e_cmpeq (t := 1500) (by decide))
theorem sL_law_1070 : lim cal sc 7 cL_law ret 1070 lv st M = lim cal sc 7 cL_law ret 1071 lv (.int 0 :: st) M := (lim_step dL_law_1070).trans (e_ic k_i_0)
theorem sL_law_1071 : lim cal sc 7 cL_law (some .boolean) 1071 lv [.int x] M = guK (narB .boolean x) (some (some (.int x), M)) := (lim_step dL_law_1071).trans (e_zret)
theorem sL_law_1072 : lim cal sc 7 cL_law ret 1072 (v0 :: some (.ref h) :: l) st M = lim cal sc 7 cL_law ret 1073 (v0 :: some (.ref h) :: l) (.ref h :: st) M := lim_step dL_law_1072
theorem sL_law_1073 : lim cal sc 7 cL_law ret 1073 (some (.ref h) :: l) st M = lim cal sc 7 cL_law ret 1074 (some (.ref h) :: l) (.ref h :: st) M := lim_step dL_law_1073
theorem sL_law_1074 : lim cal sc 7 cL_law ret 1074 (v0 :: v1 :: v2 :: some (.int x) :: l) st M = lim cal sc 7 cL_law ret 1075 (v0 :: v1 :: v2 :: some (.int x) :: l) (.int x :: st) M := lim_step dL_law_1074
theorem sL_law_1075 : lim cal sc 7 cL_law ret 1075 lv st M = lim cal sc 7 cL_law ret 1076 lv (.int 1 :: st) M := (lim_step dL_law_1075).trans (e_ic k_i_1)
theorem sL_law_1076 : lim cal sc 7 cL_law ret 1076 lv (.int y :: .int x :: st) M = lim cal sc 7 cL_law ret 1077 lv (.int (x + y) :: st) M := lim_step dL_law_1076
theorem sL_law_1077 : lim cal sc 7 cL_law ret 1077 lv (.int x :: .ref h :: st) M = opK (arrV9 sc h M) fun q => guK (inb x q.1) (lim cal sc 7 cL_law ret 1078 lv (.int (q.2 x.toNatClampNeg) :: st) M) := (lim_step dL_law_1077).trans (e_iald)
theorem sL_law_1078 : lim cal sc 7 cL_law ret 1078 lv (a1 :: .ref h :: st) M = guK (isCl 4 h) (guK (rk 8 st) (calK (cal 85 [.ref h, a1] M) fun q M' => lim cal sc 7 cL_law ret 1081 lv (q.toList ++ st) M')) := (lim_step dL_law_1078).trans (e_virt1 rm_7_137 mq_85)
theorem sL_law_1081 : lim cal sc 7 cL_law ret 1081 (v0 :: v1 :: some (.ref h) :: l) st M = lim cal sc 7 cL_law ret 1082 (v0 :: v1 :: some (.ref h) :: l) (.ref h :: st) M := lim_step dL_law_1081
theorem sL_law_1082 : lim cal sc 7 cL_law ret 1082 (some (.ref h) :: l) st M = lim cal sc 7 cL_law ret 1083 (some (.ref h) :: l) (.ref h :: st) M := lim_step dL_law_1082
theorem sL_law_1083 : lim cal sc 7 cL_law ret 1083 (v0 :: v1 :: v2 :: some (.int x) :: l) st M = lim cal sc 7 cL_law ret 1084 (v0 :: v1 :: v2 :: some (.int x) :: l) (.int x :: st) M := lim_step dL_law_1083
theorem sL_law_1084 : lim cal sc 7 cL_law ret 1084 lv st M = lim cal sc 7 cL_law ret 1085 lv (.int 1 :: st) M := (lim_step dL_law_1084).trans (e_ic k_i_1)
theorem sL_law_1085 : lim cal sc 7 cL_law ret 1085 lv (.int y :: .int x :: st) M = lim cal sc 7 cL_law ret 1086 lv (.int (x + y) :: st) M := lim_step dL_law_1085
theorem sL_law_1086 : lim cal sc 7 cL_law ret 1086 lv (.int x :: .ref h :: st) M = opK (arrV9 sc h M) fun q => guK (inb x q.1) (lim cal sc 7 cL_law ret 1087 lv (.int (q.2 x.toNatClampNeg) :: st) M) := (lim_step dL_law_1086).trans (e_iald)
theorem sL_law_1087 : lim cal sc 7 cL_law ret 1087 lv (a1 :: .ref h :: st) M = guK (isCl 5 h) (guK (rk 8 st) (calK (cal 217 [.ref h, a1] M) fun q M' => lim cal sc 7 cL_law ret 1090 lv (q.toList ++ st) M')) := (lim_step dL_law_1087).trans (e_virt1 rm_7_140 mq_217)
theorem sL_law_1090 : lim cal sc 7 cL_law ret 1090 lv (.int y :: .int x :: st) M = if x = y then lim cal sc 7 cL_law ret 1500 lv st M else lim cal sc 7 cL_law ret 1093 lv st M := (lim_step dL_law_1090).trans (e_cmpeq (t := 1500) (by decide))
theorem sL_law_1093 : lim cal sc 7 cL_law ret 1093 lv st M = lim cal sc 7 cL_law ret 1094 lv (.int 0 :: st) M := (lim_step dL_law_1093).trans (e_ic k_i_0)
theorem sL_law_1094 : lim cal sc 7 cL_law (some .boolean) 1094 lv [.int x] M = guK (narB .boolean x) (some (some (.int x), M)) := (lim_step dL_law_1094).trans (e_zret)
theorem sL_law_1095 : lim cal sc 7 cL_law ret 1095 (v0 :: some (.ref h) :: l) st M = lim cal sc 7 cL_law ret 1096 (v0 :: some (.ref h) :: l) (.ref h :: st) M := lim_step dL_law_1095
theorem sL_law_1096 : lim cal sc 7 cL_law ret 1096 (some (.ref h) :: l) st M = lim cal sc 7 cL_law ret 1097 (some (.ref h) :: l) (.ref h :: st) M := lim_step dL_law_1096
theorem sL_law_1097 : lim cal sc 7 cL_law ret 1097 (v0 :: v1 :: v2 :: some (.int x) :: l) st M = lim cal sc 7 cL_law ret 1098 (v0 :: v1 :: v2 :: some (.int x) :: l) (.int x :: st) M := lim_step dL_law_1097
theorem sL_law_1098 : lim cal sc 7 cL_law ret 1098 lv st M = lim cal sc 7 cL_law ret 1099 lv (.int 1 :: st) M := (lim_step dL_law_1098).trans (e_ic k_i_1)
theorem sL_law_1099 : lim cal sc 7 cL_law ret 1099 lv (.int y :: .int x :: st) M = lim cal sc 7 cL_law ret 1100 lv (.int (x + y) :: st) M := lim_step dL_law_1099
theorem sL_law_1100 : lim cal sc 7 cL_law ret 1100 lv (.int x :: .ref h :: st) M = opK (arrV9 sc h M) fun q => guK (inb x q.1) (lim cal sc 7 cL_law ret 1101 lv (.int (q.2 x.toNatClampNeg) :: st) M) := (lim_step dL_law_1100).trans (e_iald)
theorem sL_law_1101 : lim cal sc 7 cL_law ret 1101 (some (.ref h) :: l) st M = lim cal sc 7 cL_law ret 1102 (some (.ref h) :: l) (.ref h :: st) M := lim_step dL_law_1101
theorem sL_law_1102 : lim cal sc 7 cL_law ret 1102 (v0 :: v1 :: v2 :: some (.int x) :: l) st M = lim cal sc 7 cL_law ret 1103 (v0 :: v1 :: v2 :: some (.int x) :: l) (.int x :: st) M := lim_step dL_law_1102
theorem sL_law_1103 : lim cal sc 7 cL_law ret 1103 lv st M = lim cal sc 7 cL_law ret 1104 lv (.int 2 :: st) M := (lim_step dL_law_1103).trans (e_ic k_i_2)
theorem sL_law_1104 : lim cal sc 7 cL_law ret 1104 lv (.int y :: .int x :: st) M = lim cal sc 7 cL_law ret 1105 lv (.int (x + y) :: st) M := lim_step dL_law_1104
theorem sL_law_1105 : lim cal sc 7 cL_law ret 1105 lv (.int x :: .ref h :: st) M = opK (arrV9 sc h M) fun q => guK (inb x q.1) (lim cal sc 7 cL_law ret 1106 lv (.int (q.2 x.toNatClampNeg) :: st) M) := (lim_step dL_law_1105).trans (e_iald)
theorem sL_law_1106 : lim cal sc 7 cL_law ret 1106 lv (a2 :: a1 :: .ref h :: st) M = guK (isCl 4 h) (guK (rk 8 st) (calK (cal 86 [.ref h, a1, a2] M) fun q M' => lim cal sc 7 cL_law ret 1109 lv (q.toList ++ st) M')) := (lim_step dL_law_1106).trans (e_virt2 rm_7_141 mq_86)
theorem sL_law_1109 : lim cal sc 7 cL_law ret 1109 (v0 :: v1 :: some (.ref h) :: l) st M = lim cal sc 7 cL_law ret 1110 (v0 :: v1 :: some (.ref h) :: l) (.ref h :: st) M := lim_step dL_law_1109
theorem sL_law_1110 : lim cal sc 7 cL_law ret 1110 (some (.ref h) :: l) st M = lim cal sc 7 cL_law ret 1111 (some (.ref h) :: l) (.ref h :: st) M := lim_step dL_law_1110
theorem sL_law_1111 : lim cal sc 7 cL_law ret 1111 (v0 :: v1 :: v2 :: some (.int x) :: l) st M = lim cal sc 7 cL_law ret 1112 (v0 :: v1 :: v2 :: some (.int x) :: l) (.int x :: st) M := lim_step dL_law_1111
theorem sL_law_1112 : lim cal sc 7 cL_law ret 1112 lv st M = lim cal sc 7 cL_law ret 1113 lv (.int 1 :: st) M := (lim_step dL_law_1112).trans (e_ic k_i_1)
theorem sL_law_1113 : lim cal sc 7 cL_law ret 1113 lv (.int y :: .int x :: st) M = lim cal sc 7 cL_law ret 1114 lv (.int (x + y) :: st) M := lim_step dL_law_1113
theorem sL_law_1114 : lim cal sc 7 cL_law ret 1114 lv (.int x :: .ref h :: st) M = opK (arrV9 sc h M) fun q => guK (inb x q.1) (lim cal sc 7 cL_law ret 1115 lv (.int (q.2 x.toNatClampNeg) :: st) M) := (lim_step dL_law_1114).trans (e_iald)
theorem sL_law_1115 : lim cal sc 7 cL_law ret 1115 (some (.ref h) :: l) st M = lim cal sc 7 cL_law ret 1116 (some (.ref h) :: l) (.ref h :: st) M := lim_step dL_law_1115
theorem sL_law_1116 : lim cal sc 7 cL_law ret 1116 (v0 :: v1 :: v2 :: some (.int x) :: l) st M = lim cal sc 7 cL_law ret 1117 (v0 :: v1 :: v2 :: some (.int x) :: l) (.int x :: st) M := lim_step dL_law_1116
theorem sL_law_1117 : lim cal sc 7 cL_law ret 1117 lv st M = lim cal sc 7 cL_law ret 1118 lv (.int 2 :: st) M := (lim_step dL_law_1117).trans (e_ic k_i_2)
theorem sL_law_1118 : lim cal sc 7 cL_law ret 1118 lv (.int y :: .int x :: st) M = lim cal sc 7 cL_law ret 1119 lv (.int (x + y) :: st) M := lim_step dL_law_1118
theorem sL_law_1119 : lim cal sc 7 cL_law ret 1119 lv (.int x :: .ref h :: st) M = opK (arrV9 sc h M) fun q => guK (inb x q.1) (lim cal sc 7 cL_law ret 1120 lv (.int (q.2 x.toNatClampNeg) :: st) M) := (lim_step dL_law_1119).trans (e_iald)
theorem sL_law_1120 : lim cal sc 7 cL_law ret 1120 lv (a2 :: a1 :: .ref h :: st) M = guK (isCl 5 h) (guK (rk 8 st) (calK (cal 218 [.ref h, a1, a2] M) fun q M' => lim cal sc 7 cL_law ret 1123 lv (q.toList ++ st) M')) := (lim_step dL_law_1120).trans (e_virt2 rm_7_144 mq_218)
theorem sL_law_1123 : lim cal sc 7 cL_law ret 1123 lv (.int y :: .int x :: st) M = if x = y then lim cal sc 7 cL_law ret 1500 lv st M else lim cal sc 7 cL_law ret 1126 lv st M := (lim_step dL_law_1123).trans (e_cmpeq (t := 1500) (by decide))
theorem sL_law_1126 : lim cal sc 7 cL_law ret 1126 lv st M = lim cal sc 7 cL_law ret 1127 lv (.int 0 :: st) M := (lim_step dL_law_1126).trans (e_ic k_i_0)
theorem sL_law_1127 : lim cal sc 7 cL_law (some .boolean) 1127 lv [.int x] M = guK (narB .boolean x) (some (some (.int x), M)) := (lim_step dL_law_1127).trans (e_zret)
theorem sL_law_1128 : lim cal sc 7 cL_law ret 1128 (v0 :: some (.ref h) :: l) st M = lim cal sc 7 cL_law ret 1129 (v0 :: some (.ref h) :: l) (.ref h :: st) M := lim_step dL_law_1128
theorem sL_law_1129 : lim cal sc 7 cL_law ret 1129 lv (.ref h :: st) M = guK (isCl 4 h) (guK (rk 8 st) (calK (cal 88 [.ref h] M) fun q M' => lim cal sc 7 cL_law ret 1132 lv (q.toList ++ st) M')) := (lim_step dL_law_1129).trans (e_virt0 rm_7_145 mq_88)
theorem sL_law_1132 : lim cal sc 7 cL_law ret 1132 (v0 :: v1 :: some (.ref h) :: l) st M = lim cal sc 7 cL_law ret 1133 (v0 :: v1 :: some (.ref h) :: l) (.ref h :: st) M := lim_step dL_law_1132
theorem sL_law_1133 : lim cal sc 7 cL_law ret 1133 lv (.ref h :: st) M = guK (isCl 5 h) (guK (rk 8 st) (calK (cal 219 [.ref h] M) fun q M' => lim cal sc 7 cL_law ret 1136 lv (q.toList ++ st) M')) := (lim_step dL_law_1133).trans (e_virt0 rm_7_148 mq_219)
theorem sL_law_1136 : lim cal sc 7 cL_law ret 1136 lv (.int y :: .int x :: st) M = if x = y then lim cal sc 7 cL_law ret 1500 lv st M else lim cal sc 7 cL_law ret 1139 lv st M := (lim_step dL_law_1136).trans (e_cmpeq (t := 1500) (by decide))
theorem sL_law_1139 : lim cal sc 7 cL_law ret 1139 lv st M = lim cal sc 7 cL_law ret 1140 lv (.int 0 :: st) M := (lim_step dL_law_1139).trans (e_ic k_i_0)
theorem sL_law_1140 : lim cal sc 7 cL_law (some .boolean) 1140 lv [.int x] M = guK (narB .boolean x) (some (some (.int x), M)) := (lim_step dL_law_1140).trans (e_zret)
theorem sL_law_1141 : lim cal sc 7 cL_law ret 1141 (v0 :: some (.ref h) :: l) st M = lim cal sc 7 cL_law ret 1142 (v0 :: some (.ref h) :: l) (.ref h :: st) M := lim_step dL_law_1141
theorem sL_law_1142 : lim cal sc 7 cL_law ret 1142 lv (.ref h :: st) M = guK (isCl 4 h) (guK (rk 8 st) (calK (cal 89 [.ref h] M) fun q M' => lim cal sc 7 cL_law ret 1145 lv (q.toList ++ st) M')) := (lim_step dL_law_1142).trans (e_virt0 rm_7_149 mq_89)
theorem sL_law_1145 : lim cal sc 7 cL_law ret 1145 (v0 :: v1 :: some (.ref h) :: l) st M = lim cal sc 7 cL_law ret 1146 (v0 :: v1 :: some (.ref h) :: l) (.ref h :: st) M := lim_step dL_law_1145
theorem sL_law_1146 : lim cal sc 7 cL_law ret 1146 lv (.ref h :: st) M = guK (isCl 5 h) (guK (rk 8 st) (calK (cal 220 [.ref h] M) fun q M' => lim cal sc 7 cL_law ret 1149 lv (q.toList ++ st) M')) := (lim_step dL_law_1146).trans (e_virt0 rm_7_152 mq_220)
theorem sL_law_1149 : lim cal sc 7 cL_law ret 1149 lv (.int y :: .int x :: st) M = if x = y then lim cal sc 7 cL_law ret 1500 lv st M else lim cal sc 7 cL_law ret 1152 lv st M := (lim_step dL_law_1149).trans (e_cmpeq (t := 1500) (by decide))
theorem sL_law_1152 : lim cal sc 7 cL_law ret 1152 lv st M = lim cal sc 7 cL_law ret 1153 lv (.int 0 :: st) M := (lim_step dL_law_1152).trans (e_ic k_i_0)
theorem sL_law_1153 : lim cal sc 7 cL_law (some .boolean) 1153 lv [.int x] M = guK (narB .boolean x) (some (some (.int x), M)) := (lim_step dL_law_1153).trans (e_zret)
theorem sL_law_1154 : lim cal sc 7 cL_law ret 1154 (v0 :: some (.ref h) :: l) st M = lim cal sc 7 cL_law ret 1155 (v0 :: some (.ref h) :: l) (.ref h :: st) M := lim_step dL_law_1154
theorem sL_law_1155 : lim cal sc 7 cL_law ret 1155 (some (.ref h) :: l) st M = lim cal sc 7 cL_law ret 1156 (some (.ref h) :: l) (.ref h :: st) M := lim_step dL_law_1155
theorem sL_law_1156 : lim cal sc 7 cL_law ret 1156 (v0 :: v1 :: v2 :: some (.int x) :: l) st M = lim cal sc 7 cL_law ret 1157 (v0 :: v1 :: v2 :: some (.int x) :: l) (.int x :: st) M := lim_step dL_law_1156
theorem sL_law_1157 : lim cal sc 7 cL_law ret 1157 lv st M = lim cal sc 7 cL_law ret 1158 lv (.int 1 :: st) M := (lim_step dL_law_1157).trans (e_ic k_i_1)
theorem sL_law_1158 : lim cal sc 7 cL_law ret 1158 lv (.int y :: .int x :: st) M = lim cal sc 7 cL_law ret 1159 lv (.int (x + y) :: st) M := lim_step dL_law_1158
theorem sL_law_1159 : lim cal sc 7 cL_law ret 1159 lv (.int x :: .ref h :: st) M = opK (arrV9 sc h M) fun q => guK (inb x q.1) (lim cal sc 7 cL_law ret 1160 lv (.int (q.2 x.toNatClampNeg) :: st) M) := (lim_step dL_law_1159).trans (e_iald)
theorem sL_law_1160 : lim cal sc 7 cL_law ret 1160 (some (.ref h) :: l) st M = lim cal sc 7 cL_law ret 1161 (some (.ref h) :: l) (.ref h :: st) M := lim_step dL_law_1160
theorem sL_law_1161 : lim cal sc 7 cL_law ret 1161 (v0 :: v1 :: v2 :: some (.int x) :: l) st M = lim cal sc 7 cL_law ret 1162 (v0 :: v1 :: v2 :: some (.int x) :: l) (.int x :: st) M := lim_step dL_law_1161
theorem sL_law_1162 : lim cal sc 7 cL_law ret 1162 lv st M = lim cal sc 7 cL_law ret 1163 lv (.int 2 :: st) M := (lim_step dL_law_1162).trans (e_ic k_i_2)
theorem sL_law_1163 : lim cal sc 7 cL_law ret 1163 lv (.int y :: .int x :: st) M = lim cal sc 7 cL_law ret 1164 lv (.int (x + y) :: st) M := lim_step dL_law_1163
theorem sL_law_1164 : lim cal sc 7 cL_law ret 1164 lv (.int x :: .ref h :: st) M = opK (arrV9 sc h M) fun q => guK (inb x q.1) (lim cal sc 7 cL_law ret 1165 lv (.int (q.2 x.toNatClampNeg) :: st) M) := (lim_step dL_law_1164).trans (e_iald)
theorem sL_law_1165 : lim cal sc 7 cL_law ret 1165 lv (a2 :: a1 :: .ref h :: st) M = guK (isCl 4 h) (guK (rk 8 st) (calK (cal 113 [.ref h, a1, a2] M) fun q M' => lim cal sc 7 cL_law ret 1168 lv (q.toList ++ st) M')) := (lim_step dL_law_1165).trans (e_virt2 rm_7_153 mq_113)
theorem sL_law_1168 : lim cal sc 7 cL_law ret 1168 (v0 :: v1 :: some (.ref h) :: l) st M = lim cal sc 7 cL_law ret 1169 (v0 :: v1 :: some (.ref h) :: l) (.ref h :: st) M := lim_step dL_law_1168
theorem sL_law_1169 : lim cal sc 7 cL_law ret 1169 (some (.ref h) :: l) st M = lim cal sc 7 cL_law ret 1170 (some (.ref h) :: l) (.ref h :: st) M := lim_step dL_law_1169
theorem sL_law_1170 : lim cal sc 7 cL_law ret 1170 (v0 :: v1 :: v2 :: some (.int x) :: l) st M = lim cal sc 7 cL_law ret 1171 (v0 :: v1 :: v2 :: some (.int x) :: l) (.int x :: st) M := lim_step dL_law_1170
theorem sL_law_1171 : lim cal sc 7 cL_law ret 1171 lv st M = lim cal sc 7 cL_law ret 1172 lv (.int 1 :: st) M := (lim_step dL_law_1171).trans (e_ic k_i_1)
theorem sL_law_1172 : lim cal sc 7 cL_law ret 1172 lv (.int y :: .int x :: st) M = lim cal sc 7 cL_law ret 1173 lv (.int (x + y) :: st) M := lim_step dL_law_1172
theorem sL_law_1173 : lim cal sc 7 cL_law ret 1173 lv (.int x :: .ref h :: st) M = opK (arrV9 sc h M) fun q => guK (inb x q.1) (lim cal sc 7 cL_law ret 1174 lv (.int (q.2 x.toNatClampNeg) :: st) M) := (lim_step dL_law_1173).trans (e_iald)
theorem sL_law_1174 : lim cal sc 7 cL_law ret 1174 (some (.ref h) :: l) st M = lim cal sc 7 cL_law ret 1175 (some (.ref h) :: l) (.ref h :: st) M := lim_step dL_law_1174
theorem sL_law_1175 : lim cal sc 7 cL_law ret 1175 (v0 :: v1 :: v2 :: some (.int x) :: l) st M = lim cal sc 7 cL_law ret 1176 (v0 :: v1 :: v2 :: some (.int x) :: l) (.int x :: st) M := lim_step dL_law_1175
theorem sL_law_1176 : lim cal sc 7 cL_law ret 1176 lv st M = lim cal sc 7 cL_law ret 1177 lv (.int 2 :: st) M := (lim_step dL_law_1176).trans (e_ic k_i_2)
theorem sL_law_1177 : lim cal sc 7 cL_law ret 1177 lv (.int y :: .int x :: st) M = lim cal sc 7 cL_law ret 1178 lv (.int (x + y) :: st) M := lim_step dL_law_1177
theorem sL_law_1178 : lim cal sc 7 cL_law ret 1178 lv (.int x :: .ref h :: st) M = opK (arrV9 sc h M) fun q => guK (inb x q.1) (lim cal sc 7 cL_law ret 1179 lv (.int (q.2 x.toNatClampNeg) :: st) M) := (lim_step dL_law_1178).trans (e_iald)
theorem sL_law_1179 : lim cal sc 7 cL_law ret 1179 lv (a2 :: a1 :: .ref h :: st) M = guK (isCl 5 h) (guK (rk 8 st) (calK (cal 231 [.ref h, a1, a2] M) fun q M' => lim cal sc 7 cL_law ret 1182 lv (q.toList ++ st) M')) := (lim_step dL_law_1179).trans (e_virt2 rm_7_156 mq_231)
theorem sL_law_1182 : lim cal sc 7 cL_law ret 1182 lv (.int y :: .int x :: st) M = if x = y then lim cal sc 7 cL_law ret 1500 lv st M else lim cal sc 7 cL_law ret 1185 lv st M := (lim_step dL_law_1182).trans (e_cmpeq (t := 1500) (by decide))
theorem sL_law_1185 : lim cal sc 7 cL_law ret 1185 lv st M = lim cal sc 7 cL_law ret 1186 lv (.int 0 :: st) M := (lim_step dL_law_1185).trans (e_ic k_i_0)
theorem sL_law_1186 : lim cal sc 7 cL_law (some .boolean) 1186 lv [.int x] M = guK (narB .boolean x) (some (some (.int x), M)) := (lim_step dL_law_1186).trans (e_zret)
theorem sL_law_1187 : lim cal sc 7 cL_law ret 1187 (v0 :: some (.ref h) :: l) st M = lim cal sc 7 cL_law ret 1188 (v0 :: some (.ref h) :: l) (.ref h :: st) M := lim_step dL_law_1187
theorem sL_law_1188 : lim cal sc 7 cL_law ret 1188 (some (.ref h) :: l) st M = lim cal sc 7 cL_law ret 1189 (some (.ref h) :: l) (.ref h :: st) M := lim_step dL_law_1188
theorem sL_law_1189 : lim cal sc 7 cL_law ret 1189 (v0 :: v1 :: v2 :: some (.int x) :: l) st M = lim cal sc 7 cL_law ret 1190 (v0 :: v1 :: v2 :: some (.int x) :: l) (.int x :: st) M := lim_step dL_law_1189
theorem sL_law_1190 : lim cal sc 7 cL_law ret 1190 lv st M = lim cal sc 7 cL_law ret 1191 lv (.int 1 :: st) M := (lim_step dL_law_1190).trans (e_ic k_i_1)
theorem sL_law_1191 : lim cal sc 7 cL_law ret 1191 lv (.int y :: .int x :: st) M = lim cal sc 7 cL_law ret 1192 lv (.int (x + y) :: st) M := lim_step dL_law_1191
theorem sL_law_1192 : lim cal sc 7 cL_law ret 1192 lv (.int x :: .ref h :: st) M = opK (arrV9 sc h M) fun q => guK (inb x q.1) (lim cal sc 7 cL_law ret 1193 lv (.int (q.2 x.toNatClampNeg) :: st) M) := (lim_step dL_law_1192).trans (e_iald)
theorem sL_law_1193 : lim cal sc 7 cL_law ret 1193 (some (.ref h) :: l) st M = lim cal sc 7 cL_law ret 1194 (some (.ref h) :: l) (.ref h :: st) M := lim_step dL_law_1193
theorem sL_law_1194 : lim cal sc 7 cL_law ret 1194 (v0 :: v1 :: v2 :: some (.int x) :: l) st M = lim cal sc 7 cL_law ret 1195 (v0 :: v1 :: v2 :: some (.int x) :: l) (.int x :: st) M := lim_step dL_law_1194
theorem sL_law_1195 : lim cal sc 7 cL_law ret 1195 lv st M = lim cal sc 7 cL_law ret 1196 lv (.int 2 :: st) M := (lim_step dL_law_1195).trans (e_ic k_i_2)
theorem sL_law_1196 : lim cal sc 7 cL_law ret 1196 lv (.int y :: .int x :: st) M = lim cal sc 7 cL_law ret 1197 lv (.int (x + y) :: st) M := lim_step dL_law_1196
theorem sL_law_1197 : lim cal sc 7 cL_law ret 1197 lv (.int x :: .ref h :: st) M = opK (arrV9 sc h M) fun q => guK (inb x q.1) (lim cal sc 7 cL_law ret 1198 lv (.int (q.2 x.toNatClampNeg) :: st) M) := (lim_step dL_law_1197).trans (e_iald)
theorem sL_law_1198 : lim cal sc 7 cL_law ret 1198 lv (a2 :: a1 :: .ref h :: st) M = guK (isCl 4 h) (guK (rk 8 st) (calK (cal 114 [.ref h, a1, a2] M) fun q M' => lim cal sc 7 cL_law ret 1201 lv (q.toList ++ st) M')) := (lim_step dL_law_1198).trans (e_virt2 rm_7_157 mq_114)
theorem sL_law_1201 : lim cal sc 7 cL_law ret 1201 (v0 :: v1 :: some (.ref h) :: l) st M = lim cal sc 7 cL_law ret 1202 (v0 :: v1 :: some (.ref h) :: l) (.ref h :: st) M := lim_step dL_law_1201
theorem sL_law_1202 : lim cal sc 7 cL_law ret 1202 (some (.ref h) :: l) st M = lim cal sc 7 cL_law ret 1203 (some (.ref h) :: l) (.ref h :: st) M := lim_step dL_law_1202
theorem sL_law_1203 : lim cal sc 7 cL_law ret 1203 (v0 :: v1 :: v2 :: some (.int x) :: l) st M = lim cal sc 7 cL_law ret 1204 (v0 :: v1 :: v2 :: some (.int x) :: l) (.int x :: st) M := lim_step dL_law_1203
theorem sL_law_1204 : lim cal sc 7 cL_law ret 1204 lv st M = lim cal sc 7 cL_law ret 1205 lv (.int 1 :: st) M := (lim_step dL_law_1204).trans (e_ic k_i_1)
theorem sL_law_1205 : lim cal sc 7 cL_law ret 1205 lv (.int y :: .int x :: st) M = lim cal sc 7 cL_law ret 1206 lv (.int (x + y) :: st) M := lim_step dL_law_1205
theorem sL_law_1206 : lim cal sc 7 cL_law ret 1206 lv (.int x :: .ref h :: st) M = opK (arrV9 sc h M) fun q => guK (inb x q.1) (lim cal sc 7 cL_law ret 1207 lv (.int (q.2 x.toNatClampNeg) :: st) M) := (lim_step dL_law_1206).trans (e_iald)
theorem sL_law_1207 : lim cal sc 7 cL_law ret 1207 (some (.ref h) :: l) st M = lim cal sc 7 cL_law ret 1208 (some (.ref h) :: l) (.ref h :: st) M := lim_step dL_law_1207
theorem sL_law_1208 : lim cal sc 7 cL_law ret 1208 (v0 :: v1 :: v2 :: some (.int x) :: l) st M = lim cal sc 7 cL_law ret 1209 (v0 :: v1 :: v2 :: some (.int x) :: l) (.int x :: st) M := lim_step dL_law_1208
theorem sL_law_1209 : lim cal sc 7 cL_law ret 1209 lv st M = lim cal sc 7 cL_law ret 1210 lv (.int 2 :: st) M := (lim_step dL_law_1209).trans (e_ic k_i_2)
theorem sL_law_1210 : lim cal sc 7 cL_law ret 1210 lv (.int y :: .int x :: st) M = lim cal sc 7 cL_law ret 1211 lv (.int (x + y) :: st) M := lim_step dL_law_1210
theorem sL_law_1211 : lim cal sc 7 cL_law ret 1211 lv (.int x :: .ref h :: st) M = opK (arrV9 sc h M) fun q => guK (inb x q.1) (lim cal sc 7 cL_law ret 1212 lv (.int (q.2 x.toNatClampNeg) :: st) M) := (lim_step dL_law_1211).trans (e_iald)
theorem sL_law_1212 : lim cal sc 7 cL_law ret 1212 lv (a2 :: a1 :: .ref h :: st) M = guK (isCl 5 h) (guK (rk 8 st) (calK (cal 233 [.ref h, a1, a2] M) fun q M' => lim cal sc 7 cL_law ret 1215 lv (q.toList ++ st) M')) := (lim_step dL_law_1212).trans (e_virt2 rm_7_160 mq_233)
theorem sL_law_1215 : lim cal sc 7 cL_law ret 1215 lv (.int y :: .int x :: st) M = if x = y then lim cal sc 7 cL_law ret 1500 lv st M else lim cal sc 7 cL_law ret 1218 lv st M := (lim_step dL_law_1215).trans (e_cmpeq (t := 1500) (by decide))
theorem sL_law_1218 : lim cal sc 7 cL_law ret 1218 lv st M = lim cal sc 7 cL_law ret 1219 lv (.int 0 :: st) M := (lim_step dL_law_1218).trans (e_ic k_i_0)
theorem sL_law_1219 : lim cal sc 7 cL_law (some .boolean) 1219 lv [.int x] M = guK (narB .boolean x) (some (some (.int x), M)) := (lim_step dL_law_1219).trans (e_zret)
theorem sL_law_1220 : lim cal sc 7 cL_law ret 1220 (v0 :: some (.ref h) :: l) st M = lim cal sc 7 cL_law ret 1221 (v0 :: some (.ref h) :: l) (.ref h :: st) M := lim_step dL_law_1220
theorem sL_law_1221 : lim cal sc 7 cL_law ret 1221 (some (.ref h) :: l) st M = lim cal sc 7 cL_law ret 1222 (some (.ref h) :: l) (.ref h :: st) M := lim_step dL_law_1221
theorem sL_law_1222 : lim cal sc 7 cL_law ret 1222 (v0 :: v1 :: v2 :: some (.int x) :: l) st M = lim cal sc 7 cL_law ret 1223 (v0 :: v1 :: v2 :: some (.int x) :: l) (.int x :: st) M := lim_step dL_law_1222
theorem sL_law_1223 : lim cal sc 7 cL_law ret 1223 lv st M = lim cal sc 7 cL_law ret 1224 lv (.int 1 :: st) M := (lim_step dL_law_1223).trans (e_ic k_i_1)
theorem sL_law_1224 : lim cal sc 7 cL_law ret 1224 lv (.int y :: .int x :: st) M = lim cal sc 7 cL_law ret 1225 lv (.int (x + y) :: st) M := lim_step dL_law_1224
theorem sL_law_1225 : lim cal sc 7 cL_law ret 1225 lv (.int x :: .ref h :: st) M = opK (arrV9 sc h M) fun q => guK (inb x q.1) (lim cal sc 7 cL_law ret 1226 lv (.int (q.2 x.toNatClampNeg) :: st) M) := (lim_step dL_law_1225).trans (e_iald)
theorem sL_law_1226 : lim cal sc 7 cL_law ret 1226 (some (.ref h) :: l) st M = lim cal sc 7 cL_law ret 1227 (some (.ref h) :: l) (.ref h :: st) M := lim_step dL_law_1226
theorem sL_law_1227 : lim cal sc 7 cL_law ret 1227 (v0 :: v1 :: v2 :: some (.int x) :: l) st M = lim cal sc 7 cL_law ret 1228 (v0 :: v1 :: v2 :: some (.int x) :: l) (.int x :: st) M := lim_step dL_law_1227
theorem sL_law_1228 : lim cal sc 7 cL_law ret 1228 lv st M = lim cal sc 7 cL_law ret 1229 lv (.int 2 :: st) M := (lim_step dL_law_1228).trans (e_ic k_i_2)
theorem sL_law_1229 : lim cal sc 7 cL_law ret 1229 lv (.int y :: .int x :: st) M = lim cal sc 7 cL_law ret 1230 lv (.int (x + y) :: st) M := lim_step dL_law_1229
theorem sL_law_1230 : lim cal sc 7 cL_law ret 1230 lv (.int x :: .ref h :: st) M = opK (arrV9 sc h M) fun q => guK (inb x q.1) (lim cal sc 7 cL_law ret 1231 lv (.int (q.2 x.toNatClampNeg) :: st) M) := (lim_step dL_law_1230).trans (e_iald)
theorem sL_law_1231 : lim cal sc 7 cL_law ret 1231 (some (.ref h) :: l) st M = lim cal sc 7 cL_law ret 1232 (some (.ref h) :: l) (.ref h :: st) M := lim_step dL_law_1231
theorem sL_law_1232 : lim cal sc 7 cL_law ret 1232 (v0 :: v1 :: v2 :: some (.int x) :: l) st M = lim cal sc 7 cL_law ret 1233 (v0 :: v1 :: v2 :: some (.int x) :: l) (.int x :: st) M := lim_step dL_law_1232
theorem sL_law_1233 : lim cal sc 7 cL_law ret 1233 lv st M = lim cal sc 7 cL_law ret 1234 lv (.int 3 :: st) M := (lim_step dL_law_1233).trans (e_ic k_i_3)
theorem sL_law_1234 : lim cal sc 7 cL_law ret 1234 lv (.int y :: .int x :: st) M = lim cal sc 7 cL_law ret 1235 lv (.int (x + y) :: st) M := lim_step dL_law_1234
theorem sL_law_1235 : lim cal sc 7 cL_law ret 1235 lv (.int x :: .ref h :: st) M = opK (arrV9 sc h M) fun q => guK (inb x q.1) (lim cal sc 7 cL_law ret 1236 lv (.int (q.2 x.toNatClampNeg) :: st) M) := (lim_step dL_law_1235).trans (e_iald)
theorem sL_law_1236 : lim cal sc 7 cL_law ret 1236 lv (a3 :: a2 :: a1 :: .ref h :: st) M = guK (isCl 4 h) (guK (rk 8 st) (calK (cal 116 [.ref h, a1, a2, a3] M) fun q M' => lim cal sc 7 cL_law ret 1239 lv (q.toList ++ st) M')) := (lim_step dL_law_1236).trans (e_virt3 rm_7_161 mq_116)
theorem sL_law_1239 : lim cal sc 7 cL_law ret 1239 (v0 :: v1 :: some (.ref h) :: l) st M = lim cal sc 7 cL_law ret 1240 (v0 :: v1 :: some (.ref h) :: l) (.ref h :: st) M := lim_step dL_law_1239
theorem sL_law_1240 : lim cal sc 7 cL_law ret 1240 (some (.ref h) :: l) st M = lim cal sc 7 cL_law ret 1241 (some (.ref h) :: l) (.ref h :: st) M := lim_step dL_law_1240
theorem sL_law_1241 : lim cal sc 7 cL_law ret 1241 (v0 :: v1 :: v2 :: some (.int x) :: l) st M = lim cal sc 7 cL_law ret 1242 (v0 :: v1 :: v2 :: some (.int x) :: l) (.int x :: st) M := lim_step dL_law_1241
theorem sL_law_1242 : lim cal sc 7 cL_law ret 1242 lv st M = lim cal sc 7 cL_law ret 1243 lv (.int 1 :: st) M := (lim_step dL_law_1242).trans (e_ic k_i_1)
theorem sL_law_1243 : lim cal sc 7 cL_law ret 1243 lv (.int y :: .int x :: st) M = lim cal sc 7 cL_law ret 1244 lv (.int (x + y) :: st) M := lim_step dL_law_1243
theorem sL_law_1244 : lim cal sc 7 cL_law ret 1244 lv (.int x :: .ref h :: st) M = opK (arrV9 sc h M) fun q => guK (inb x q.1) (lim cal sc 7 cL_law ret 1245 lv (.int (q.2 x.toNatClampNeg) :: st) M) := (lim_step dL_law_1244).trans (e_iald)
theorem sL_law_1245 : lim cal sc 7 cL_law ret 1245 (some (.ref h) :: l) st M = lim cal sc 7 cL_law ret 1246 (some (.ref h) :: l) (.ref h :: st) M := lim_step dL_law_1245
theorem sL_law_1246 : lim cal sc 7 cL_law ret 1246 (v0 :: v1 :: v2 :: some (.int x) :: l) st M = lim cal sc 7 cL_law ret 1247 (v0 :: v1 :: v2 :: some (.int x) :: l) (.int x :: st) M := lim_step dL_law_1246
theorem sL_law_1247 : lim cal sc 7 cL_law ret 1247 lv st M = lim cal sc 7 cL_law ret 1248 lv (.int 2 :: st) M := (lim_step dL_law_1247).trans (e_ic k_i_2)
theorem sL_law_1248 : lim cal sc 7 cL_law ret 1248 lv (.int y :: .int x :: st) M = lim cal sc 7 cL_law ret 1249 lv (.int (x + y) :: st) M := lim_step dL_law_1248
theorem sL_law_1249 : lim cal sc 7 cL_law ret 1249 lv (.int x :: .ref h :: st) M = opK (arrV9 sc h M) fun q => guK (inb x q.1) (lim cal sc 7 cL_law ret 1250 lv (.int (q.2 x.toNatClampNeg) :: st) M) := (lim_step dL_law_1249).trans (e_iald)
theorem sL_law_1250 : lim cal sc 7 cL_law ret 1250 (some (.ref h) :: l) st M = lim cal sc 7 cL_law ret 1251 (some (.ref h) :: l) (.ref h :: st) M := lim_step dL_law_1250
theorem sL_law_1251 : lim cal sc 7 cL_law ret 1251 (v0 :: v1 :: v2 :: some (.int x) :: l) st M = lim cal sc 7 cL_law ret 1252 (v0 :: v1 :: v2 :: some (.int x) :: l) (.int x :: st) M := lim_step dL_law_1251
theorem sL_law_1252 : lim cal sc 7 cL_law ret 1252 lv st M = lim cal sc 7 cL_law ret 1253 lv (.int 3 :: st) M := (lim_step dL_law_1252).trans (e_ic k_i_3)
theorem sL_law_1253 : lim cal sc 7 cL_law ret 1253 lv (.int y :: .int x :: st) M = lim cal sc 7 cL_law ret 1254 lv (.int (x + y) :: st) M := lim_step dL_law_1253
theorem sL_law_1254 : lim cal sc 7 cL_law ret 1254 lv (.int x :: .ref h :: st) M = opK (arrV9 sc h M) fun q => guK (inb x q.1) (lim cal sc 7 cL_law ret 1255 lv (.int (q.2 x.toNatClampNeg) :: st) M) := (lim_step dL_law_1254).trans (e_iald)
theorem sL_law_1255 : lim cal sc 7 cL_law ret 1255 lv (a3 :: a2 :: a1 :: .ref h :: st) M = guK (isCl 5 h) (guK (rk 8 st) (calK (cal 234 [.ref h, a1, a2, a3] M) fun q M' => lim cal sc 7 cL_law ret 1258 lv (q.toList ++ st) M')) := (lim_step dL_law_1255).trans (e_virt3 rm_7_164 mq_234)
theorem sL_law_1258 : lim cal sc 7 cL_law ret 1258 lv (.int y :: .int x :: st) M = if x = y then lim cal sc 7 cL_law ret 1500 lv st M else lim cal sc 7 cL_law ret 1261 lv st M := (lim_step dL_law_1258).trans (e_cmpeq (t := 1500) (by decide))
theorem sL_law_1261 : lim cal sc 7 cL_law ret 1261 lv st M = lim cal sc 7 cL_law ret 1262 lv (.int 0 :: st) M := (lim_step dL_law_1261).trans (e_ic k_i_0)
theorem sL_law_1262 : lim cal sc 7 cL_law (some .boolean) 1262 lv [.int x] M = guK (narB .boolean x) (some (some (.int x), M)) := (lim_step dL_law_1262).trans (e_zret)
theorem sL_law_1263 : lim cal sc 7 cL_law ret 1263 (v0 :: some (.ref h) :: l) st M = lim cal sc 7 cL_law ret 1264 (v0 :: some (.ref h) :: l) (.ref h :: st) M := lim_step dL_law_1263
theorem sL_law_1264 : lim cal sc 7 cL_law ret 1264 (some (.ref h) :: l) st M = lim cal sc 7 cL_law ret 1265 (some (.ref h) :: l) (.ref h :: st) M := lim_step dL_law_1264
theorem sL_law_1265 : lim cal sc 7 cL_law ret 1265 (v0 :: v1 :: v2 :: some (.int x) :: l) st M = lim cal sc 7 cL_law ret 1266 (v0 :: v1 :: v2 :: some (.int x) :: l) (.int x :: st) M := lim_step dL_law_1265
theorem sL_law_1266 : lim cal sc 7 cL_law ret 1266 lv st M = lim cal sc 7 cL_law ret 1267 lv (.int 1 :: st) M := (lim_step dL_law_1266).trans (e_ic k_i_1)
theorem sL_law_1267 : lim cal sc 7 cL_law ret 1267 lv (.int y :: .int x :: st) M = lim cal sc 7 cL_law ret 1268 lv (.int (x + y) :: st) M := lim_step dL_law_1267
theorem sL_law_1268 : lim cal sc 7 cL_law ret 1268 lv (.int x :: .ref h :: st) M = opK (arrV9 sc h M) fun q => guK (inb x q.1) (lim cal sc 7 cL_law ret 1269 lv (.int (q.2 x.toNatClampNeg) :: st) M) := (lim_step dL_law_1268).trans (e_iald)
theorem sL_law_1269 : lim cal sc 7 cL_law ret 1269 (some (.ref h) :: l) st M = lim cal sc 7 cL_law ret 1270 (some (.ref h) :: l) (.ref h :: st) M := lim_step dL_law_1269
theorem sL_law_1270 : lim cal sc 7 cL_law ret 1270 (v0 :: v1 :: v2 :: some (.int x) :: l) st M = lim cal sc 7 cL_law ret 1271 (v0 :: v1 :: v2 :: some (.int x) :: l) (.int x :: st) M := lim_step dL_law_1270
theorem sL_law_1271 : lim cal sc 7 cL_law ret 1271 lv st M = lim cal sc 7 cL_law ret 1272 lv (.int 2 :: st) M := (lim_step dL_law_1271).trans (e_ic k_i_2)
theorem sL_law_1272 : lim cal sc 7 cL_law ret 1272 lv (.int y :: .int x :: st) M = lim cal sc 7 cL_law ret 1273 lv (.int (x + y) :: st) M := lim_step dL_law_1272
theorem sL_law_1273 : lim cal sc 7 cL_law ret 1273 lv (.int x :: .ref h :: st) M = opK (arrV9 sc h M) fun q => guK (inb x q.1) (lim cal sc 7 cL_law ret 1274 lv (.int (q.2 x.toNatClampNeg) :: st) M) := (lim_step dL_law_1273).trans (e_iald)
theorem sL_law_1274 : lim cal sc 7 cL_law ret 1274 (some (.ref h) :: l) st M = lim cal sc 7 cL_law ret 1275 (some (.ref h) :: l) (.ref h :: st) M := lim_step dL_law_1274
theorem sL_law_1275 : lim cal sc 7 cL_law ret 1275 (v0 :: v1 :: v2 :: some (.int x) :: l) st M = lim cal sc 7 cL_law ret 1276 (v0 :: v1 :: v2 :: some (.int x) :: l) (.int x :: st) M := lim_step dL_law_1275
theorem sL_law_1276 : lim cal sc 7 cL_law ret 1276 lv st M = lim cal sc 7 cL_law ret 1277 lv (.int 3 :: st) M := (lim_step dL_law_1276).trans (e_ic k_i_3)
theorem sL_law_1277 : lim cal sc 7 cL_law ret 1277 lv (.int y :: .int x :: st) M = lim cal sc 7 cL_law ret 1278 lv (.int (x + y) :: st) M := lim_step dL_law_1277
theorem sL_law_1278 : lim cal sc 7 cL_law ret 1278 lv (.int x :: .ref h :: st) M = opK (arrV9 sc h M) fun q => guK (inb x q.1) (lim cal sc 7 cL_law ret 1279 lv (.int (q.2 x.toNatClampNeg) :: st) M) := (lim_step dL_law_1278).trans (e_iald)
theorem sL_law_1279 : lim cal sc 7 cL_law ret 1279 lv (a3 :: a2 :: a1 :: .ref h :: st) M = guK (isCl 4 h) (guK (rk 8 st) (calK (cal 119 [.ref h, a1, a2, a3] M) fun q M' => lim cal sc 7 cL_law ret 1282 lv (q.toList ++ st) M')) := (lim_step dL_law_1279).trans (e_virt3 rm_7_165 mq_119)
theorem sL_law_1282 : lim cal sc 7 cL_law ret 1282 (v0 :: v1 :: some (.ref h) :: l) st M = lim cal sc 7 cL_law ret 1283 (v0 :: v1 :: some (.ref h) :: l) (.ref h :: st) M := lim_step dL_law_1282
theorem sL_law_1283 : lim cal sc 7 cL_law ret 1283 (some (.ref h) :: l) st M = lim cal sc 7 cL_law ret 1284 (some (.ref h) :: l) (.ref h :: st) M := lim_step dL_law_1283
theorem sL_law_1284 : lim cal sc 7 cL_law ret 1284 (v0 :: v1 :: v2 :: some (.int x) :: l) st M = lim cal sc 7 cL_law ret 1285 (v0 :: v1 :: v2 :: some (.int x) :: l) (.int x :: st) M := lim_step dL_law_1284
theorem sL_law_1285 : lim cal sc 7 cL_law ret 1285 lv st M = lim cal sc 7 cL_law ret 1286 lv (.int 1 :: st) M := (lim_step dL_law_1285).trans (e_ic k_i_1)
theorem sL_law_1286 : lim cal sc 7 cL_law ret 1286 lv (.int y :: .int x :: st) M = lim cal sc 7 cL_law ret 1287 lv (.int (x + y) :: st) M := lim_step dL_law_1286
theorem sL_law_1287 : lim cal sc 7 cL_law ret 1287 lv (.int x :: .ref h :: st) M = opK (arrV9 sc h M) fun q => guK (inb x q.1) (lim cal sc 7 cL_law ret 1288 lv (.int (q.2 x.toNatClampNeg) :: st) M) := (lim_step dL_law_1287).trans (e_iald)
theorem sL_law_1288 : lim cal sc 7 cL_law ret 1288 (some (.ref h) :: l) st M = lim cal sc 7 cL_law ret 1289 (some (.ref h) :: l) (.ref h :: st) M := lim_step dL_law_1288
theorem sL_law_1289 : lim cal sc 7 cL_law ret 1289 (v0 :: v1 :: v2 :: some (.int x) :: l) st M = lim cal sc 7 cL_law ret 1290 (v0 :: v1 :: v2 :: some (.int x) :: l) (.int x :: st) M := lim_step dL_law_1289
theorem sL_law_1290 : lim cal sc 7 cL_law ret 1290 lv st M = lim cal sc 7 cL_law ret 1291 lv (.int 2 :: st) M := (lim_step dL_law_1290).trans (e_ic k_i_2)
theorem sL_law_1291 : lim cal sc 7 cL_law ret 1291 lv (.int y :: .int x :: st) M = lim cal sc 7 cL_law ret 1292 lv (.int (x + y) :: st) M := lim_step dL_law_1291
theorem sL_law_1292 : lim cal sc 7 cL_law ret 1292 lv (.int x :: .ref h :: st) M = opK (arrV9 sc h M) fun q => guK (inb x q.1) (lim cal sc 7 cL_law ret 1293 lv (.int (q.2 x.toNatClampNeg) :: st) M) := (lim_step dL_law_1292).trans (e_iald)
theorem sL_law_1293 : lim cal sc 7 cL_law ret 1293 (some (.ref h) :: l) st M = lim cal sc 7 cL_law ret 1294 (some (.ref h) :: l) (.ref h :: st) M := lim_step dL_law_1293
theorem sL_law_1294 : lim cal sc 7 cL_law ret 1294 (v0 :: v1 :: v2 :: some (.int x) :: l) st M = lim cal sc 7 cL_law ret 1295 (v0 :: v1 :: v2 :: some (.int x) :: l) (.int x :: st) M := lim_step dL_law_1294
theorem sL_law_1295 : lim cal sc 7 cL_law ret 1295 lv st M = lim cal sc 7 cL_law ret 1296 lv (.int 3 :: st) M := (lim_step dL_law_1295).trans (e_ic k_i_3)
theorem sL_law_1296 : lim cal sc 7 cL_law ret 1296 lv (.int y :: .int x :: st) M = lim cal sc 7 cL_law ret 1297 lv (.int (x + y) :: st) M := lim_step dL_law_1296
theorem sL_law_1297 : lim cal sc 7 cL_law ret 1297 lv (.int x :: .ref h :: st) M = opK (arrV9 sc h M) fun q => guK (inb x q.1) (lim cal sc 7 cL_law ret 1298 lv (.int (q.2 x.toNatClampNeg) :: st) M) := (lim_step dL_law_1297).trans (e_iald)
theorem sL_law_1298 : lim cal sc 7 cL_law ret 1298 lv (a3 :: a2 :: a1 :: .ref h :: st) M = guK (isCl 5 h) (guK (rk 8 st) (calK (cal 236 [.ref h, a1, a2, a3] M) fun q M' => lim cal sc 7 cL_law ret 1301 lv (q.toList ++ st) M')) := (lim_step dL_law_1298).trans (e_virt3 rm_7_168 mq_236)
theorem sL_law_1301 : lim cal sc 7 cL_law ret 1301 lv (.int y :: .int x :: st) M = if x = y then lim cal sc 7 cL_law ret 1500 lv st M else lim cal sc 7 cL_law ret 1304 lv st M := (lim_step dL_law_1301).trans (e_cmpeq (t := 1500) (by decide))
theorem sL_law_1304 : lim cal sc 7 cL_law ret 1304 lv st M = lim cal sc 7 cL_law ret 1305 lv (.int 0 :: st) M := (lim_step dL_law_1304).trans (e_ic k_i_0)
theorem sL_law_1305 : lim cal sc 7 cL_law (some .boolean) 1305 lv [.int x] M = guK (narB .boolean x) (some (some (.int x), M)) := (lim_step dL_law_1305).trans (e_zret)
theorem sL_law_1306 : lim cal sc 7 cL_law ret 1306 (v0 :: some (.ref h) :: l) st M = lim cal sc 7 cL_law ret 1307 (v0 :: some (.ref h) :: l) (.ref h :: st) M := lim_step dL_law_1306
theorem sL_law_1307 : lim cal sc 7 cL_law ret 1307 (some (.ref h) :: l) st M = lim cal sc 7 cL_law ret 1308 (some (.ref h) :: l) (.ref h :: st) M := lim_step dL_law_1307
theorem sL_law_1308 : lim cal sc 7 cL_law ret 1308 (v0 :: v1 :: v2 :: some (.int x) :: l) st M = lim cal sc 7 cL_law ret 1309 (v0 :: v1 :: v2 :: some (.int x) :: l) (.int x :: st) M := lim_step dL_law_1308
theorem sL_law_1309 : lim cal sc 7 cL_law ret 1309 lv st M = lim cal sc 7 cL_law ret 1310 lv (.int 1 :: st) M := (lim_step dL_law_1309).trans (e_ic k_i_1)
theorem sL_law_1310 : lim cal sc 7 cL_law ret 1310 lv (.int y :: .int x :: st) M = lim cal sc 7 cL_law ret 1311 lv (.int (x + y) :: st) M := lim_step dL_law_1310
theorem sL_law_1311 : lim cal sc 7 cL_law ret 1311 lv (.int x :: .ref h :: st) M = opK (arrV9 sc h M) fun q => guK (inb x q.1) (lim cal sc 7 cL_law ret 1312 lv (.int (q.2 x.toNatClampNeg) :: st) M) := (lim_step dL_law_1311).trans (e_iald)
theorem sL_law_1312 : lim cal sc 7 cL_law ret 1312 (some (.ref h) :: l) st M = lim cal sc 7 cL_law ret 1313 (some (.ref h) :: l) (.ref h :: st) M := lim_step dL_law_1312
theorem sL_law_1313 : lim cal sc 7 cL_law ret 1313 (v0 :: v1 :: v2 :: some (.int x) :: l) st M = lim cal sc 7 cL_law ret 1314 (v0 :: v1 :: v2 :: some (.int x) :: l) (.int x :: st) M := lim_step dL_law_1313
theorem sL_law_1314 : lim cal sc 7 cL_law ret 1314 lv st M = lim cal sc 7 cL_law ret 1315 lv (.int 2 :: st) M := (lim_step dL_law_1314).trans (e_ic k_i_2)
theorem sL_law_1315 : lim cal sc 7 cL_law ret 1315 lv (.int y :: .int x :: st) M = lim cal sc 7 cL_law ret 1316 lv (.int (x + y) :: st) M := lim_step dL_law_1315
theorem sL_law_1316 : lim cal sc 7 cL_law ret 1316 lv (.int x :: .ref h :: st) M = opK (arrV9 sc h M) fun q => guK (inb x q.1) (lim cal sc 7 cL_law ret 1317 lv (.int (q.2 x.toNatClampNeg) :: st) M) := (lim_step dL_law_1316).trans (e_iald)
theorem sL_law_1317 : lim cal sc 7 cL_law ret 1317 (some (.ref h) :: l) st M = lim cal sc 7 cL_law ret 1318 (some (.ref h) :: l) (.ref h :: st) M := lim_step dL_law_1317
theorem sL_law_1318 : lim cal sc 7 cL_law ret 1318 (v0 :: v1 :: v2 :: some (.int x) :: l) st M = lim cal sc 7 cL_law ret 1319 (v0 :: v1 :: v2 :: some (.int x) :: l) (.int x :: st) M := lim_step dL_law_1318
theorem sL_law_1319 : lim cal sc 7 cL_law ret 1319 lv st M = lim cal sc 7 cL_law ret 1320 lv (.int 3 :: st) M := (lim_step dL_law_1319).trans (e_ic k_i_3)
theorem sL_law_1320 : lim cal sc 7 cL_law ret 1320 lv (.int y :: .int x :: st) M = lim cal sc 7 cL_law ret 1321 lv (.int (x + y) :: st) M := lim_step dL_law_1320
theorem sL_law_1321 : lim cal sc 7 cL_law ret 1321 lv (.int x :: .ref h :: st) M = opK (arrV9 sc h M) fun q => guK (inb x q.1) (lim cal sc 7 cL_law ret 1322 lv (.int (q.2 x.toNatClampNeg) :: st) M) := (lim_step dL_law_1321).trans (e_iald)
theorem sL_law_1322 : lim cal sc 7 cL_law ret 1322 (some (.ref h) :: l) st M = lim cal sc 7 cL_law ret 1323 (some (.ref h) :: l) (.ref h :: st) M := lim_step dL_law_1322
theorem sL_law_1323 : lim cal sc 7 cL_law ret 1323 (v0 :: v1 :: v2 :: some (.int x) :: l) st M = lim cal sc 7 cL_law ret 1324 (v0 :: v1 :: v2 :: some (.int x) :: l) (.int x :: st) M := lim_step dL_law_1323
theorem sL_law_1324 : lim cal sc 7 cL_law ret 1324 lv st M = lim cal sc 7 cL_law ret 1325 lv (.int 4 :: st) M := (lim_step dL_law_1324).trans (e_ic k_i_4)
theorem sL_law_1325 : lim cal sc 7 cL_law ret 1325 lv (.int y :: .int x :: st) M = lim cal sc 7 cL_law ret 1326 lv (.int (x + y) :: st) M := lim_step dL_law_1325
theorem sL_law_1326 : lim cal sc 7 cL_law ret 1326 lv (.int x :: .ref h :: st) M = opK (arrV9 sc h M) fun q => guK (inb x q.1) (lim cal sc 7 cL_law ret 1327 lv (.int (q.2 x.toNatClampNeg) :: st) M) := (lim_step dL_law_1326).trans (e_iald)
theorem sL_law_1327 : lim cal sc 7 cL_law ret 1327 (some (.ref h) :: l) st M = lim cal sc 7 cL_law ret 1328 (some (.ref h) :: l) (.ref h :: st) M := lim_step dL_law_1327
theorem sL_law_1328 : lim cal sc 7 cL_law ret 1328 (v0 :: v1 :: v2 :: some (.int x) :: l) st M = lim cal sc 7 cL_law ret 1329 (v0 :: v1 :: v2 :: some (.int x) :: l) (.int x :: st) M := lim_step dL_law_1328
theorem sL_law_1329 : lim cal sc 7 cL_law ret 1329 lv st M = lim cal sc 7 cL_law ret 1330 lv (.int 5 :: st) M := (lim_step dL_law_1329).trans (e_ic k_i_5)
theorem sL_law_1330 : lim cal sc 7 cL_law ret 1330 lv (.int y :: .int x :: st) M = lim cal sc 7 cL_law ret 1331 lv (.int (x + y) :: st) M := lim_step dL_law_1330
theorem sL_law_1331 : lim cal sc 7 cL_law ret 1331 lv (.int x :: .ref h :: st) M = opK (arrV9 sc h M) fun q => guK (inb x q.1) (lim cal sc 7 cL_law ret 1332 lv (.int (q.2 x.toNatClampNeg) :: st) M) := (lim_step dL_law_1331).trans (e_iald)
theorem sL_law_1332 : lim cal sc 7 cL_law ret 1332 lv (a5 :: a4 :: a3 :: a2 :: a1 :: .ref h :: st) M = guK (isCl 4 h) (guK (rk 8 st) (calK (cal 122 [.ref h, a1, a2, a3, a4, a5] M) fun q M' => lim cal sc 7 cL_law ret 1335 lv (q.toList ++ st) M')) := (lim_step dL_law_1332).trans (e_virt5 rm_7_169 mq_122)
theorem sL_law_1335 : lim cal sc 7 cL_law ret 1335 (v0 :: v1 :: some (.ref h) :: l) st M = lim cal sc 7 cL_law ret 1336 (v0 :: v1 :: some (.ref h) :: l) (.ref h :: st) M := lim_step dL_law_1335
theorem sL_law_1336 : lim cal sc 7 cL_law ret 1336 (some (.ref h) :: l) st M = lim cal sc 7 cL_law ret 1337 (some (.ref h) :: l) (.ref h :: st) M := lim_step dL_law_1336
theorem sL_law_1337 : lim cal sc 7 cL_law ret 1337 (v0 :: v1 :: v2 :: some (.int x) :: l) st M = lim cal sc 7 cL_law ret 1338 (v0 :: v1 :: v2 :: some (.int x) :: l) (.int x :: st) M := lim_step dL_law_1337
theorem sL_law_1338 : lim cal sc 7 cL_law ret 1338 lv st M = lim cal sc 7 cL_law ret 1339 lv (.int 1 :: st) M := (lim_step dL_law_1338).trans (e_ic k_i_1)
theorem sL_law_1339 : lim cal sc 7 cL_law ret 1339 lv (.int y :: .int x :: st) M = lim cal sc 7 cL_law ret 1340 lv (.int (x + y) :: st) M := lim_step dL_law_1339
theorem sL_law_1340 : lim cal sc 7 cL_law ret 1340 lv (.int x :: .ref h :: st) M = opK (arrV9 sc h M) fun q => guK (inb x q.1) (lim cal sc 7 cL_law ret 1341 lv (.int (q.2 x.toNatClampNeg) :: st) M) := (lim_step dL_law_1340).trans (e_iald)
theorem sL_law_1341 : lim cal sc 7 cL_law ret 1341 (some (.ref h) :: l) st M = lim cal sc 7 cL_law ret 1342 (some (.ref h) :: l) (.ref h :: st) M := lim_step dL_law_1341
theorem sL_law_1342 : lim cal sc 7 cL_law ret 1342 (v0 :: v1 :: v2 :: some (.int x) :: l) st M = lim cal sc 7 cL_law ret 1343 (v0 :: v1 :: v2 :: some (.int x) :: l) (.int x :: st) M := lim_step dL_law_1342
theorem sL_law_1343 : lim cal sc 7 cL_law ret 1343 lv st M = lim cal sc 7 cL_law ret 1344 lv (.int 2 :: st) M := (lim_step dL_law_1343).trans (e_ic k_i_2)
theorem sL_law_1344 : lim cal sc 7 cL_law ret 1344 lv (.int y :: .int x :: st) M = lim cal sc 7 cL_law ret 1345 lv (.int (x + y) :: st) M := lim_step dL_law_1344
theorem sL_law_1345 : lim cal sc 7 cL_law ret 1345 lv (.int x :: .ref h :: st) M = opK (arrV9 sc h M) fun q => guK (inb x q.1) (lim cal sc 7 cL_law ret 1346 lv (.int (q.2 x.toNatClampNeg) :: st) M) := (lim_step dL_law_1345).trans (e_iald)
theorem sL_law_1346 : lim cal sc 7 cL_law ret 1346 (some (.ref h) :: l) st M = lim cal sc 7 cL_law ret 1347 (some (.ref h) :: l) (.ref h :: st) M := lim_step dL_law_1346
theorem sL_law_1347 : lim cal sc 7 cL_law ret 1347 (v0 :: v1 :: v2 :: some (.int x) :: l) st M = lim cal sc 7 cL_law ret 1348 (v0 :: v1 :: v2 :: some (.int x) :: l) (.int x :: st) M := lim_step dL_law_1347
theorem sL_law_1348 : lim cal sc 7 cL_law ret 1348 lv st M = lim cal sc 7 cL_law ret 1349 lv (.int 3 :: st) M := (lim_step dL_law_1348).trans (e_ic k_i_3)
theorem sL_law_1349 : lim cal sc 7 cL_law ret 1349 lv (.int y :: .int x :: st) M = lim cal sc 7 cL_law ret 1350 lv (.int (x + y) :: st) M := lim_step dL_law_1349
theorem sL_law_1350 : lim cal sc 7 cL_law ret 1350 lv (.int x :: .ref h :: st) M = opK (arrV9 sc h M) fun q => guK (inb x q.1) (lim cal sc 7 cL_law ret 1351 lv (.int (q.2 x.toNatClampNeg) :: st) M) := (lim_step dL_law_1350).trans (e_iald)
theorem sL_law_1351 : lim cal sc 7 cL_law ret 1351 (some (.ref h) :: l) st M = lim cal sc 7 cL_law ret 1352 (some (.ref h) :: l) (.ref h :: st) M := lim_step dL_law_1351
theorem sL_law_1352 : lim cal sc 7 cL_law ret 1352 (v0 :: v1 :: v2 :: some (.int x) :: l) st M = lim cal sc 7 cL_law ret 1353 (v0 :: v1 :: v2 :: some (.int x) :: l) (.int x :: st) M := lim_step dL_law_1352
theorem sL_law_1353 : lim cal sc 7 cL_law ret 1353 lv st M = lim cal sc 7 cL_law ret 1354 lv (.int 4 :: st) M := (lim_step dL_law_1353).trans (e_ic k_i_4)
theorem sL_law_1354 : lim cal sc 7 cL_law ret 1354 lv (.int y :: .int x :: st) M = lim cal sc 7 cL_law ret 1355 lv (.int (x + y) :: st) M := lim_step dL_law_1354
theorem sL_law_1355 : lim cal sc 7 cL_law ret 1355 lv (.int x :: .ref h :: st) M = opK (arrV9 sc h M) fun q => guK (inb x q.1) (lim cal sc 7 cL_law ret 1356 lv (.int (q.2 x.toNatClampNeg) :: st) M) := (lim_step dL_law_1355).trans (e_iald)
theorem sL_law_1356 : lim cal sc 7 cL_law ret 1356 (some (.ref h) :: l) st M = lim cal sc 7 cL_law ret 1357 (some (.ref h) :: l) (.ref h :: st) M := lim_step dL_law_1356
theorem sL_law_1357 : lim cal sc 7 cL_law ret 1357 (v0 :: v1 :: v2 :: some (.int x) :: l) st M = lim cal sc 7 cL_law ret 1358 (v0 :: v1 :: v2 :: some (.int x) :: l) (.int x :: st) M := lim_step dL_law_1357
theorem sL_law_1358 : lim cal sc 7 cL_law ret 1358 lv st M = lim cal sc 7 cL_law ret 1359 lv (.int 5 :: st) M := (lim_step dL_law_1358).trans (e_ic k_i_5)
theorem sL_law_1359 : lim cal sc 7 cL_law ret 1359 lv (.int y :: .int x :: st) M = lim cal sc 7 cL_law ret 1360 lv (.int (x + y) :: st) M := lim_step dL_law_1359
theorem sL_law_1360 : lim cal sc 7 cL_law ret 1360 lv (.int x :: .ref h :: st) M = opK (arrV9 sc h M) fun q => guK (inb x q.1) (lim cal sc 7 cL_law ret 1361 lv (.int (q.2 x.toNatClampNeg) :: st) M) := (lim_step dL_law_1360).trans (e_iald)
theorem sL_law_1361 : lim cal sc 7 cL_law ret 1361 lv (a5 :: a4 :: a3 :: a2 :: a1 :: .ref h :: st) M = guK (isCl 5 h) (guK (rk 8 st) (calK (cal 238 [.ref h, a1, a2, a3, a4, a5] M) fun q M' => lim cal sc 7 cL_law ret 1364 lv (q.toList ++ st) M')) := (lim_step dL_law_1361).trans (e_virt5 rm_7_173 mq_238)
theorem sL_law_1364 : lim cal sc 7 cL_law ret 1364 lv (.int y :: .int x :: st) M = if x = y then lim cal sc 7 cL_law ret 1500 lv st M else lim cal sc 7 cL_law ret 1367 lv st M := (lim_step dL_law_1364).trans (e_cmpeq (t := 1500) (by decide))
theorem sL_law_1367 : lim cal sc 7 cL_law ret 1367 lv st M = lim cal sc 7 cL_law ret 1368 lv (.int 0 :: st) M := (lim_step dL_law_1367).trans (e_ic k_i_0)
theorem sL_law_1368 : lim cal sc 7 cL_law (some .boolean) 1368 lv [.int x] M = guK (narB .boolean x) (some (some (.int x), M)) := (lim_step dL_law_1368).trans (e_zret)
theorem sL_law_1369 : lim cal sc 7 cL_law ret 1369 (v0 :: some (.ref h) :: l) st M = lim cal sc 7 cL_law ret 1370 (v0 :: some (.ref h) :: l) (.ref h :: st) M := lim_step dL_law_1369
theorem sL_law_1370 : lim cal sc 7 cL_law ret 1370 (some (.ref h) :: l) st M = lim cal sc 7 cL_law ret 1371 (some (.ref h) :: l) (.ref h :: st) M := lim_step dL_law_1370
theorem sL_law_1371 : lim cal sc 7 cL_law ret 1371 (v0 :: v1 :: v2 :: some (.int x) :: l) st M = lim cal sc 7 cL_law ret 1372 (v0 :: v1 :: v2 :: some (.int x) :: l) (.int x :: st) M := lim_step dL_law_1371
theorem sL_law_1372 : lim cal sc 7 cL_law ret 1372 lv st M = lim cal sc 7 cL_law ret 1373 lv (.int 1 :: st) M := (lim_step dL_law_1372).trans (e_ic k_i_1)
theorem sL_law_1373 : lim cal sc 7 cL_law ret 1373 lv (.int y :: .int x :: st) M = lim cal sc 7 cL_law ret 1374 lv (.int (x + y) :: st) M := lim_step dL_law_1373
theorem sL_law_1374 : lim cal sc 7 cL_law ret 1374 lv (.int x :: .ref h :: st) M = opK (arrV9 sc h M) fun q => guK (inb x q.1) (lim cal sc 7 cL_law ret 1375 lv (.int (q.2 x.toNatClampNeg) :: st) M) := (lim_step dL_law_1374).trans (e_iald)
theorem sL_law_1375 : lim cal sc 7 cL_law ret 1375 lv (a1 :: .ref h :: st) M = guK (isCl 4 h) (guK (rk 8 st) (calK (cal 124 [.ref h, a1] M) fun q M' => lim cal sc 7 cL_law ret 1378 lv (q.toList ++ st) M')) := (lim_step dL_law_1375).trans (e_virt1 rm_7_174 mq_124)
theorem sL_law_1378 : lim cal sc 7 cL_law ret 1378 (v0 :: v1 :: some (.ref h) :: l) st M = lim cal sc 7 cL_law ret 1379 (v0 :: v1 :: some (.ref h) :: l) (.ref h :: st) M := lim_step dL_law_1378
theorem sL_law_1379 : lim cal sc 7 cL_law ret 1379 (some (.ref h) :: l) st M = lim cal sc 7 cL_law ret 1380 (some (.ref h) :: l) (.ref h :: st) M := lim_step dL_law_1379
theorem sL_law_1380 : lim cal sc 7 cL_law ret 1380 (v0 :: v1 :: v2 :: some (.int x) :: l) st M = lim cal sc 7 cL_law ret 1381 (v0 :: v1 :: v2 :: some (.int x) :: l) (.int x :: st) M := lim_step dL_law_1380
theorem sL_law_1381 : lim cal sc 7 cL_law ret 1381 lv st M = lim cal sc 7 cL_law ret 1382 lv (.int 1 :: st) M := (lim_step dL_law_1381).trans (e_ic k_i_1)
theorem sL_law_1382 : lim cal sc 7 cL_law ret 1382 lv (.int y :: .int x :: st) M = lim cal sc 7 cL_law ret 1383 lv (.int (x + y) :: st) M := lim_step dL_law_1382
theorem sL_law_1383 : lim cal sc 7 cL_law ret 1383 lv (.int x :: .ref h :: st) M = opK (arrV9 sc h M) fun q => guK (inb x q.1) (lim cal sc 7 cL_law ret 1384 lv (.int (q.2 x.toNatClampNeg) :: st) M) := (lim_step dL_law_1383).trans (e_iald)
theorem sL_law_1384 : lim cal sc 7 cL_law ret 1384 lv (a1 :: .ref h :: st) M = guK (isCl 5 h) (guK (rk 8 st) (calK (cal 239 [.ref h, a1] M) fun q M' => lim cal sc 7 cL_law ret 1387 lv (q.toList ++ st) M')) := (lim_step dL_law_1384).trans (e_virt1 rm_7_177 mq_239)
theorem sL_law_1387 : lim cal sc 7 cL_law ret 1387 lv (.int y :: .int x :: st) M = if x = y then lim cal sc 7 cL_law ret 1500 lv st M else lim cal sc 7 cL_law ret 1390 lv st M := (lim_step dL_law_1387).trans (e_cmpeq (t := 1500) (by decide))
theorem sL_law_1390 : lim cal sc 7 cL_law ret 1390 lv st M = lim cal sc 7 cL_law ret 1391 lv (.int 0 :: st) M := (lim_step dL_law_1390).trans (e_ic k_i_0)
theorem sL_law_1391 : lim cal sc 7 cL_law (some .boolean) 1391 lv [.int x] M = guK (narB .boolean x) (some (some (.int x), M)) := (lim_step dL_law_1391).trans (e_zret)
theorem sL_law_1392 : lim cal sc 7 cL_law ret 1392 (v0 :: some (.ref h) :: l) st M = lim cal sc 7 cL_law ret 1393 (v0 :: some (.ref h) :: l) (.ref h :: st) M := lim_step dL_law_1392
theorem sL_law_1393 : lim cal sc 7 cL_law ret 1393 (some (.ref h) :: l) st M = lim cal sc 7 cL_law ret 1394 (some (.ref h) :: l) (.ref h :: st) M := lim_step dL_law_1393
theorem sL_law_1394 : lim cal sc 7 cL_law ret 1394 (v0 :: v1 :: v2 :: some (.int x) :: l) st M = lim cal sc 7 cL_law ret 1395 (v0 :: v1 :: v2 :: some (.int x) :: l) (.int x :: st) M := lim_step dL_law_1394
theorem sL_law_1395 : lim cal sc 7 cL_law ret 1395 lv st M = lim cal sc 7 cL_law ret 1396 lv (.int 1 :: st) M := (lim_step dL_law_1395).trans (e_ic k_i_1)
theorem sL_law_1396 : lim cal sc 7 cL_law ret 1396 lv (.int y :: .int x :: st) M = lim cal sc 7 cL_law ret 1397 lv (.int (x + y) :: st) M := lim_step dL_law_1396
theorem sL_law_1397 : lim cal sc 7 cL_law ret 1397 lv (.int x :: .ref h :: st) M = opK (arrV9 sc h M) fun q => guK (inb x q.1) (lim cal sc 7 cL_law ret 1398 lv (.int (q.2 x.toNatClampNeg) :: st) M) := (lim_step dL_law_1397).trans (e_iald)
theorem sL_law_1398 : lim cal sc 7 cL_law ret 1398 lv (a1 :: .ref h :: st) M = guK (isCl 4 h) (guK (rk 8 st) (calK (cal 125 [.ref h, a1] M) fun q M' => lim cal sc 7 cL_law ret 1401 lv (q.toList ++ st) M')) := (lim_step dL_law_1398).trans (e_virt1 rm_7_178 mq_125)
theorem sL_law_1401 : lim cal sc 7 cL_law ret 1401 (v0 :: v1 :: some (.ref h) :: l) st M = lim cal sc 7 cL_law ret 1402 (v0 :: v1 :: some (.ref h) :: l) (.ref h :: st) M := lim_step dL_law_1401
theorem sL_law_1402 : lim cal sc 7 cL_law ret 1402 (some (.ref h) :: l) st M = lim cal sc 7 cL_law ret 1403 (some (.ref h) :: l) (.ref h :: st) M := lim_step dL_law_1402
theorem sL_law_1403 : lim cal sc 7 cL_law ret 1403 (v0 :: v1 :: v2 :: some (.int x) :: l) st M = lim cal sc 7 cL_law ret 1404 (v0 :: v1 :: v2 :: some (.int x) :: l) (.int x :: st) M := lim_step dL_law_1403
theorem sL_law_1404 : lim cal sc 7 cL_law ret 1404 lv st M = lim cal sc 7 cL_law ret 1405 lv (.int 1 :: st) M := (lim_step dL_law_1404).trans (e_ic k_i_1)
theorem sL_law_1405 : lim cal sc 7 cL_law ret 1405 lv (.int y :: .int x :: st) M = lim cal sc 7 cL_law ret 1406 lv (.int (x + y) :: st) M := lim_step dL_law_1405
theorem sL_law_1406 : lim cal sc 7 cL_law ret 1406 lv (.int x :: .ref h :: st) M = opK (arrV9 sc h M) fun q => guK (inb x q.1) (lim cal sc 7 cL_law ret 1407 lv (.int (q.2 x.toNatClampNeg) :: st) M) := (lim_step dL_law_1406).trans (e_iald)
theorem sL_law_1407 : lim cal sc 7 cL_law ret 1407 lv (a1 :: .ref h :: st) M = guK (isCl 5 h) (guK (rk 8 st) (calK (cal 240 [.ref h, a1] M) fun q M' => lim cal sc 7 cL_law ret 1410 lv (q.toList ++ st) M')) := (lim_step dL_law_1407).trans (e_virt1 rm_7_181 mq_240)
theorem sL_law_1410 : lim cal sc 7 cL_law ret 1410 lv (.int y :: .int x :: st) M = if x = y then lim cal sc 7 cL_law ret 1500 lv st M else lim cal sc 7 cL_law ret 1413 lv st M := (lim_step dL_law_1410).trans (e_cmpeq (t := 1500) (by decide))
theorem sL_law_1413 : lim cal sc 7 cL_law ret 1413 lv st M = lim cal sc 7 cL_law ret 1414 lv (.int 0 :: st) M := (lim_step dL_law_1413).trans (e_ic k_i_0)
theorem sL_law_1414 : lim cal sc 7 cL_law (some .boolean) 1414 lv [.int x] M = guK (narB .boolean x) (some (some (.int x), M)) := (lim_step dL_law_1414).trans (e_zret)
theorem sL_law_1415 : lim cal sc 7 cL_law ret 1415 (v0 :: some (.ref h) :: l) st M = lim cal sc 7 cL_law ret 1416 (v0 :: some (.ref h) :: l) (.ref h :: st) M := lim_step dL_law_1415
theorem sL_law_1416 : lim cal sc 7 cL_law ret 1416 lv (.ref h :: st) M = guK (isCl 4 h) (guK (rk 8 st) (calK (cal 126 [.ref h] M) fun q M' => lim cal sc 7 cL_law ret 1419 lv (q.toList ++ st) M')) := (lim_step dL_law_1416).trans (e_virt0 rm_7_182 mq_126)
theorem sL_law_1419 : lim cal sc 7 cL_law ret 1419 (v0 :: v1 :: some (.ref h) :: l) st M = lim cal sc 7 cL_law ret 1420 (v0 :: v1 :: some (.ref h) :: l) (.ref h :: st) M := lim_step dL_law_1419
theorem sL_law_1420 : lim cal sc 7 cL_law ret 1420 lv (.ref h :: st) M = guK (isCl 5 h) (guK (rk 8 st) (calK (cal 241 [.ref h] M) fun q M' => lim cal sc 7 cL_law ret 1423 lv (q.toList ++ st) M')) := (lim_step dL_law_1420).trans (e_virt0 rm_7_185 mq_241)
theorem sL_law_1423 : lim cal sc 7 cL_law ret 1423 lv (.int y :: .int x :: st) M = if x = y then lim cal sc 7 cL_law ret 1500 lv st M else lim cal sc 7 cL_law ret 1426 lv st M := (lim_step dL_law_1423).trans (e_cmpeq (t := 1500) (by decide))
theorem sL_law_1426 : lim cal sc 7 cL_law ret 1426 lv st M = lim cal sc 7 cL_law ret 1427 lv (.int 0 :: st) M := (lim_step dL_law_1426).trans (e_ic k_i_0)
theorem sL_law_1427 : lim cal sc 7 cL_law (some .boolean) 1427 lv [.int x] M = guK (narB .boolean x) (some (some (.int x), M)) := (lim_step dL_law_1427).trans (e_zret)
theorem sL_law_1428 : lim cal sc 7 cL_law ret 1428 (v0 :: some (.ref h) :: l) st M = lim cal sc 7 cL_law ret 1429 (v0 :: some (.ref h) :: l) (.ref h :: st) M := lim_step dL_law_1428
theorem sL_law_1429 : lim cal sc 7 cL_law ret 1429 lv (.ref h :: st) M = guK (isCl 4 h) (guK (rk 8 st) (calK (cal 128 [.ref h] M) fun q M' => lim cal sc 7 cL_law ret 1432 lv (q.toList ++ st) M')) := (lim_step dL_law_1429).trans (e_virt0 rm_7_186 mq_128)
theorem sL_law_1432 : lim cal sc 7 cL_law ret 1432 (v0 :: v1 :: some (.ref h) :: l) st M = lim cal sc 7 cL_law ret 1433 (v0 :: v1 :: some (.ref h) :: l) (.ref h :: st) M := lim_step dL_law_1432
theorem sL_law_1433 : lim cal sc 7 cL_law ret 1433 lv (.ref h :: st) M = guK (isCl 5 h) (guK (rk 8 st) (calK (cal 242 [.ref h] M) fun q M' => lim cal sc 7 cL_law ret 1436 lv (q.toList ++ st) M')) := (lim_step dL_law_1433).trans (e_virt0 rm_7_189 mq_242)
theorem sL_law_1436 : lim cal sc 7 cL_law ret 1436 lv (.int y :: .int x :: st) M = if x = y then lim cal sc 7 cL_law ret 1500 lv st M else lim cal sc 7 cL_law ret 1439 lv st M := (lim_step dL_law_1436).trans (e_cmpeq (t := 1500) (by decide))
theorem sL_law_1439 : lim cal sc 7 cL_law ret 1439 lv st M = lim cal sc 7 cL_law ret 1440 lv (.int 0 :: st) M := (lim_step dL_law_1439).trans (e_ic k_i_0)
theorem sL_law_1440 : lim cal sc 7 cL_law (some .boolean) 1440 lv [.int x] M = guK (narB .boolean x) (some (some (.int x), M)) := (lim_step dL_law_1440).trans (e_zret)
theorem sL_law_1441 : lim cal sc 7 cL_law ret 1441 (v0 :: some (.ref h) :: l) st M = lim cal sc 7 cL_law ret 1442 (v0 :: some (.ref h) :: l) (.ref h :: st) M := lim_step dL_law_1441
theorem sL_law_1442 : lim cal sc 7 cL_law ret 1442 lv (.ref h :: st) M = guK (isCl 4 h) (guK (rk 8 st) (calK (cal 129 [.ref h] M) fun q M' => lim cal sc 7 cL_law ret 1445 lv (q.toList ++ st) M')) := (lim_step dL_law_1442).trans (e_virt0 rm_7_190 mq_129)
theorem sL_law_1445 : lim cal sc 7 cL_law ret 1445 (v0 :: v1 :: some (.ref h) :: l) st M = lim cal sc 7 cL_law ret 1446 (v0 :: v1 :: some (.ref h) :: l) (.ref h :: st) M := lim_step dL_law_1445
theorem sL_law_1446 : lim cal sc 7 cL_law ret 1446 lv (.ref h :: st) M = guK (isCl 5 h) (guK (rk 8 st) (calK (cal 243 [.ref h] M) fun q M' => lim cal sc 7 cL_law ret 1449 lv (q.toList ++ st) M')) := (lim_step dL_law_1446).trans (e_virt0 rm_7_193 mq_243)
theorem sL_law_1449 : lim cal sc 7 cL_law ret 1449 lv (.int y :: .int x :: st) M = if x = y then lim cal sc 7 cL_law ret 1500 lv st M else lim cal sc 7 cL_law ret 1452 lv st M := (lim_step dL_law_1449).trans (e_cmpeq (t := 1500) (by decide))
theorem sL_law_1452 : lim cal sc 7 cL_law ret 1452 lv st M = lim cal sc 7 cL_law ret 1453 lv (.int 0 :: st) M := (lim_step dL_law_1452).trans (e_ic k_i_0)
theorem sL_law_1453 : lim cal sc 7 cL_law (some .boolean) 1453 lv [.int x] M = guK (narB .boolean x) (some (some (.int x), M)) := (lim_step dL_law_1453).trans (e_zret)
theorem sL_law_1454 : lim cal sc 7 cL_law ret 1454 (v0 :: some (.ref h) :: l) st M = lim cal sc 7 cL_law ret 1455 (v0 :: some (.ref h) :: l) (.ref h :: st) M := lim_step dL_law_1454
theorem sL_law_1455 : lim cal sc 7 cL_law ret 1455 (some (.ref h) :: l) st M = lim cal sc 7 cL_law ret 1456 (some (.ref h) :: l) (.ref h :: st) M := lim_step dL_law_1455
theorem sL_law_1456 : lim cal sc 7 cL_law ret 1456 (v0 :: v1 :: v2 :: some (.int x) :: l) st M = lim cal sc 7 cL_law ret 1457 (v0 :: v1 :: v2 :: some (.int x) :: l) (.int x :: st) M := lim_step dL_law_1456
theorem sL_law_1457 : lim cal sc 7 cL_law ret 1457 lv st M = lim cal sc 7 cL_law ret 1458 lv (.int 1 :: st) M := (lim_step dL_law_1457).trans (e_ic k_i_1)
theorem sL_law_1458 : lim cal sc 7 cL_law ret 1458 lv (.int y :: .int x :: st) M = lim cal sc 7 cL_law ret 1459 lv (.int (x + y) :: st) M := lim_step dL_law_1458
theorem sL_law_1459 : lim cal sc 7 cL_law ret 1459 lv (.int x :: .ref h :: st) M = opK (arrV9 sc h M) fun q => guK (inb x q.1) (lim cal sc 7 cL_law ret 1460 lv (.int (q.2 x.toNatClampNeg) :: st) M) := (lim_step dL_law_1459).trans (e_iald)
theorem sL_law_1460 : lim cal sc 7 cL_law ret 1460 lv (a1 :: .ref h :: st) M = guK (isCl 4 h) (guK (rk 8 st) (calK (cal 130 [.ref h, a1] M) fun q M' => lim cal sc 7 cL_law ret 1463 lv (q.toList ++ st) M')) := (lim_step dL_law_1460).trans (e_virt1 rm_7_194 mq_130)
theorem sL_law_1463 : lim cal sc 7 cL_law ret 1463 (v0 :: v1 :: some (.ref h) :: l) st M = lim cal sc 7 cL_law ret 1464 (v0 :: v1 :: some (.ref h) :: l) (.ref h :: st) M := lim_step dL_law_1463
theorem sL_law_1464 : lim cal sc 7 cL_law ret 1464 (some (.ref h) :: l) st M = lim cal sc 7 cL_law ret 1465 (some (.ref h) :: l) (.ref h :: st) M := lim_step dL_law_1464
theorem sL_law_1465 : lim cal sc 7 cL_law ret 1465 (v0 :: v1 :: v2 :: some (.int x) :: l) st M = lim cal sc 7 cL_law ret 1466 (v0 :: v1 :: v2 :: some (.int x) :: l) (.int x :: st) M := lim_step dL_law_1465
theorem sL_law_1466 : lim cal sc 7 cL_law ret 1466 lv st M = lim cal sc 7 cL_law ret 1467 lv (.int 1 :: st) M := (lim_step dL_law_1466).trans (e_ic k_i_1)
theorem sL_law_1467 : lim cal sc 7 cL_law ret 1467 lv (.int y :: .int x :: st) M = lim cal sc 7 cL_law ret 1468 lv (.int (x + y) :: st) M := lim_step dL_law_1467
theorem sL_law_1468 : lim cal sc 7 cL_law ret 1468 lv (.int x :: .ref h :: st) M = opK (arrV9 sc h M) fun q => guK (inb x q.1) (lim cal sc 7 cL_law ret 1469 lv (.int (q.2 x.toNatClampNeg) :: st) M) := (lim_step dL_law_1468).trans (e_iald)
theorem sL_law_1469 : lim cal sc 7 cL_law ret 1469 lv (a1 :: .ref h :: st) M = guK (isCl 5 h) (guK (rk 8 st) (calK (cal 244 [.ref h, a1] M) fun q M' => lim cal sc 7 cL_law ret 1472 lv (q.toList ++ st) M')) := (lim_step dL_law_1469).trans (e_virt1 rm_7_197 mq_244)
theorem sL_law_1472 : lim cal sc 7 cL_law ret 1472 lv (.int y :: .int x :: st) M = if x = y then lim cal sc 7 cL_law ret 1500 lv st M else lim cal sc 7 cL_law ret 1475 lv st M := (lim_step dL_law_1472).trans (e_cmpeq (t := 1500) (by decide))
theorem sL_law_1475 : lim cal sc 7 cL_law ret 1475 lv st M = lim cal sc 7 cL_law ret 1476 lv (.int 0 :: st) M := (lim_step dL_law_1475).trans (e_ic k_i_0)
theorem sL_law_1476 : lim cal sc 7 cL_law (some .boolean) 1476 lv [.int x] M = guK (narB .boolean x) (some (some (.int x), M)) := (lim_step dL_law_1476).trans (e_zret)
theorem sL_law_1477 : lim cal sc 7 cL_law ret 1477 (v0 :: some (.ref h) :: l) st M = lim cal sc 7 cL_law ret 1478 (v0 :: some (.ref h) :: l) (.ref h :: st) M := lim_step dL_law_1477
theorem sL_law_1478 : lim cal sc 7 cL_law ret 1478 (some (.ref h) :: l) st M = lim cal sc 7 cL_law ret 1479 (some (.ref h) :: l) (.ref h :: st) M := lim_step dL_law_1478
theorem sL_law_1479 : lim cal sc 7 cL_law ret 1479 (v0 :: v1 :: v2 :: some (.int x) :: l) st M = lim cal sc 7 cL_law ret 1480 (v0 :: v1 :: v2 :: some (.int x) :: l) (.int x :: st) M := lim_step dL_law_1479
theorem sL_law_1480 : lim cal sc 7 cL_law ret 1480 lv st M = lim cal sc 7 cL_law ret 1481 lv (.int 1 :: st) M := (lim_step dL_law_1480).trans (e_ic k_i_1)
theorem sL_law_1481 : lim cal sc 7 cL_law ret 1481 lv (.int y :: .int x :: st) M = lim cal sc 7 cL_law ret 1482 lv (.int (x + y) :: st) M := lim_step dL_law_1481
theorem sL_law_1482 : lim cal sc 7 cL_law ret 1482 lv (.int x :: .ref h :: st) M = opK (arrV9 sc h M) fun q => guK (inb x q.1) (lim cal sc 7 cL_law ret 1483 lv (.int (q.2 x.toNatClampNeg) :: st) M) := (lim_step dL_law_1482).trans (e_iald)
theorem sL_law_1483 : lim cal sc 7 cL_law ret 1483 lv (a1 :: .ref h :: st) M = guK (isCl 4 h) (guK (rk 8 st) (calK (cal 133 [.ref h, a1] M) fun q M' => lim cal sc 7 cL_law ret 1486 lv (q.toList ++ st) M')) := (lim_step dL_law_1483).trans (e_virt1 rm_7_198 mq_133)
theorem sL_law_1486 : lim cal sc 7 cL_law ret 1486 (v0 :: v1 :: some (.ref h) :: l) st M = lim cal sc 7 cL_law ret 1487 (v0 :: v1 :: some (.ref h) :: l) (.ref h :: st) M := lim_step dL_law_1486
theorem sL_law_1487 : lim cal sc 7 cL_law ret 1487 (some (.ref h) :: l) st M = lim cal sc 7 cL_law ret 1488 (some (.ref h) :: l) (.ref h :: st) M := lim_step dL_law_1487
theorem sL_law_1488 : lim cal sc 7 cL_law ret 1488 (v0 :: v1 :: v2 :: some (.int x) :: l) st M = lim cal sc 7 cL_law ret 1489 (v0 :: v1 :: v2 :: some (.int x) :: l) (.int x :: st) M := lim_step dL_law_1488
theorem sL_law_1489 : lim cal sc 7 cL_law ret 1489 lv st M = lim cal sc 7 cL_law ret 1490 lv (.int 1 :: st) M := (lim_step dL_law_1489).trans (e_ic k_i_1)
theorem sL_law_1490 : lim cal sc 7 cL_law ret 1490 lv (.int y :: .int x :: st) M = lim cal sc 7 cL_law ret 1491 lv (.int (x + y) :: st) M := lim_step dL_law_1490
theorem sL_law_1491 : lim cal sc 7 cL_law ret 1491 lv (.int x :: .ref h :: st) M = opK (arrV9 sc h M) fun q => guK (inb x q.1) (lim cal sc 7 cL_law ret 1492 lv (.int (q.2 x.toNatClampNeg) :: st) M) := (lim_step dL_law_1491).trans (e_iald)
theorem sL_law_1492 : lim cal sc 7 cL_law ret 1492 lv (a1 :: .ref h :: st) M = guK (isCl 5 h) (guK (rk 8 st) (calK (cal 245 [.ref h, a1] M) fun q M' => lim cal sc 7 cL_law ret 1495 lv (q.toList ++ st) M')) := (lim_step dL_law_1492).trans (e_virt1 rm_7_201 mq_245)
theorem sL_law_1495 : lim cal sc 7 cL_law ret 1495 lv (.int y :: .int x :: st) M = if x = y then lim cal sc 7 cL_law ret 1500 lv st M else lim cal sc 7 cL_law ret 1498 lv st M := (lim_step dL_law_1495).trans (e_cmpeq (t := 1500) (by decide))
theorem sL_law_1498 : lim cal sc 7 cL_law ret 1498 lv st M = lim cal sc 7 cL_law ret 1499 lv (.int 0 :: st) M := (lim_step dL_law_1498).trans (e_ic k_i_0)
theorem sL_law_1499 : lim cal sc 7 cL_law (some .boolean) 1499 lv [.int x] M = guK (narB .boolean x) (some (some (.int x), M)) := (lim_step dL_law_1499).trans (e_zret)
theorem sL_law_1500 : lim cal sc 7 cL_law ret 1500 (v0 :: v1 :: v2 :: some (.int x) :: l) st M = lim cal sc 7 cL_law ret 1503 (v0 :: v1 :: v2 :: some (.int (x + 6)) :: l) st M := (lim_step dL_law_1500).trans (e_inc3 k_i_6)
theorem sL_law_1503 : lim cal sc 7 cL_law ret 1503 lv st M = lim cal sc 7 cL_law ret 18 lv st M := (lim_step dL_law_1503).trans (e_goto (t := 18) (by decide))
theorem sL_law_1506 : lim cal sc 7 cL_law ret 1506 lv st M = lim cal sc 7 cL_law ret 1507 lv (.int 1 :: st) M := (lim_step dL_law_1506).trans (e_ic k_i_1)
theorem sL_law_1507 : lim cal sc 7 cL_law (some .boolean) 1507 lv [.int x] M = guK (narB .boolean x) (some (some (.int x), M)) := (lim_step dL_law_1507).trans (e_zret)
end SR
