theorem dX0_init_0 : decode cX0_init 0 = .ok (.aload_n 0, 1) := by decide +kernel
theorem dX0_init_1 : decode cX0_init 1 = .ok (.invokespecial 3, 3) := by decide +kernel
theorem dX0_init_4 : decode cX0_init 4 = .ok (.aload_n 0, 1) := by decide +kernel
theorem dX0_init_5 : decode cX0_init 5 = .ok (.new 9, 3) := by decide +kernel
theorem dX0_init_8 : decode cX0_init 8 = .ok (.dup, 1) := by decide +kernel
theorem dX0_init_9 : decode cX0_init 9 = .ok (.invokespecial 11, 3) := by decide +kernel
theorem dX0_init_12 : decode cX0_init 12 = .ok (.putfield 12, 3) := by decide +kernel
theorem dX0_init_15 : decode cX0_init 15 = .ok (.aload_n 0, 1) := by decide +kernel
theorem dX0_init_16 : decode cX0_init 16 = .ok (.iconst 0, 1) := by decide +kernel
theorem dX0_init_17 : decode cX0_init 17 = .ok (.putfield 18, 3) := by decide +kernel
theorem dX0_init_20 : decode cX0_init 20 = .ok (.aload_n 0, 1) := by decide +kernel
theorem dX0_init_21 : decode cX0_init 21 = .ok (.iconst 1, 1) := by decide +kernel
theorem dX0_init_22 : decode cX0_init 22 = .ok (.putfield 22, 3) := by decide +kernel
theorem dX0_init_25 : decode cX0_init 25 = .ok (.aload_n 0, 1) := by decide +kernel
theorem dX0_init_26 : decode cX0_init 26 = .ok (.iconst 0, 1) := by decide +kernel
theorem dX0_init_27 : decode cX0_init 27 = .ok (.putfield 25, 3) := by decide +kernel
theorem dX0_init_30 : decode cX0_init 30 = .ok (.aload_n 0, 1) := by decide +kernel
theorem dX0_init_31 : decode cX0_init 31 = .ok (.iconst 0, 1) := by decide +kernel
theorem dX0_init_32 : decode cX0_init 32 = .ok (.putfield 28, 3) := by decide +kernel
theorem dX0_init_35 : decode cX0_init 35 = .ok (.aload_n 0, 1) := by decide +kernel
theorem dX0_init_36 : decode cX0_init 36 = .ok (.bipush 12, 2) := by decide +kernel
theorem dX0_init_38 : decode cX0_init 38 = .ok (.newarray .int, 2) := by decide +kernel
theorem dX0_init_40 : decode cX0_init 40 = .ok (.putfield 31, 3) := by decide +kernel
theorem dX0_init_43 : decode cX0_init 43 = .ok (.aload_n 0, 1) := by decide +kernel
theorem dX0_init_44 : decode cX0_init 44 = .ok (.bipush 12, 2) := by decide +kernel
theorem dX0_init_46 : decode cX0_init 46 = .ok (.newarray .int, 2) := by decide +kernel
theorem dX0_init_48 : decode cX0_init 48 = .ok (.putfield 35, 3) := by decide +kernel
theorem dX0_init_51 : decode cX0_init 51 = .ok (.aload_n 0, 1) := by decide +kernel
theorem dX0_init_52 : decode cX0_init 52 = .ok (.bipush 12, 2) := by decide +kernel
theorem dX0_init_54 : decode cX0_init 54 = .ok (.newarray .int, 2) := by decide +kernel
theorem dX0_init_56 : decode cX0_init 56 = .ok (.putfield 38, 3) := by decide +kernel
theorem dX0_init_59 : decode cX0_init 59 = .ok (.aload_n 0, 1) := by decide +kernel
theorem dX0_init_60 : decode cX0_init 60 = .ok (.bipush 10, 2) := by decide +kernel
theorem dX0_init_62 : decode cX0_init 62 = .ok (.newarray .int, 2) := by decide +kernel
theorem dX0_init_64 : decode cX0_init 64 = .ok (.putfield 41, 3) := by decide +kernel
theorem dX0_init_67 : decode cX0_init 67 = .ok (.iconst 0, 1) := by decide +kernel
theorem dX0_init_68 : decode cX0_init 68 = .ok (.istore_n 1, 1) := by decide +kernel
theorem dX0_init_69 : decode cX0_init 69 = .ok (.iload_n 1, 1) := by decide +kernel
theorem dX0_init_70 : decode cX0_init 70 = .ok (.bipush 10, 2) := by decide +kernel
theorem dX0_init_72 : decode cX0_init 72 = .ok (.if_icmp .ge 16, 3) := by decide +kernel
theorem dX0_init_75 : decode cX0_init 75 = .ok (.aload_n 0, 1) := by decide +kernel
theorem dX0_init_76 : decode cX0_init 76 = .ok (.getfield 41, 3) := by decide +kernel
theorem dX0_init_79 : decode cX0_init 79 = .ok (.iload_n 1, 1) := by decide +kernel
theorem dX0_init_80 : decode cX0_init 80 = .ok (.iconst (-1), 1) := by decide +kernel
theorem dX0_init_81 : decode cX0_init 81 = .ok (.iastore, 1) := by decide +kernel
theorem dX0_init_82 : decode cX0_init 82 = .ok (.iinc 1 1, 3) := by decide +kernel
theorem dX0_init_85 : decode cX0_init 85 = .ok (.goto (-16), 3) := by decide +kernel
theorem dX0_init_88 : decode cX0_init 88 = .ok (.return_, 1) := by decide +kernel
theorem dX0_become_0 : decode cX0_become 0 = .ok (.aload_n 0, 1) := by decide +kernel
theorem dX0_become_1 : decode cX0_become 1 = .ok (.getfield 12, 3) := by decide +kernel
theorem dX0_become_4 : decode cX0_become 4 = .ok (.aload_n 1, 1) := by decide +kernel
theorem dX0_become_5 : decode cX0_become 5 = .ok (.getfield 12, 3) := by decide +kernel
theorem dX0_become_8 : decode cX0_become 8 = .ok (.invokevirtual 44, 3) := by decide +kernel
theorem dX0_become_11 : decode cX0_become 11 = .ok (.aload_n 0, 1) := by decide +kernel
theorem dX0_become_12 : decode cX0_become 12 = .ok (.aload_n 1, 1) := by decide +kernel
theorem dX0_become_13 : decode cX0_become 13 = .ok (.getfield 18, 3) := by decide +kernel
theorem dX0_become_16 : decode cX0_become 16 = .ok (.putfield 18, 3) := by decide +kernel
theorem dX0_become_19 : decode cX0_become 19 = .ok (.aload_n 0, 1) := by decide +kernel
theorem dX0_become_20 : decode cX0_become 20 = .ok (.aload_n 1, 1) := by decide +kernel
theorem dX0_become_21 : decode cX0_become 21 = .ok (.getfield 22, 3) := by decide +kernel
theorem dX0_become_24 : decode cX0_become 24 = .ok (.putfield 22, 3) := by decide +kernel
theorem dX0_become_27 : decode cX0_become 27 = .ok (.aload_n 0, 1) := by decide +kernel
theorem dX0_become_28 : decode cX0_become 28 = .ok (.aload_n 1, 1) := by decide +kernel
theorem dX0_become_29 : decode cX0_become 29 = .ok (.getfield 25, 3) := by decide +kernel
theorem dX0_become_32 : decode cX0_become 32 = .ok (.putfield 25, 3) := by decide +kernel
theorem dX0_become_35 : decode cX0_become 35 = .ok (.aload_n 0, 1) := by decide +kernel
theorem dX0_become_36 : decode cX0_become 36 = .ok (.aload_n 1, 1) := by decide +kernel
theorem dX0_become_37 : decode cX0_become 37 = .ok (.getfield 28, 3) := by decide +kernel
theorem dX0_become_40 : decode cX0_become 40 = .ok (.putfield 28, 3) := by decide +kernel
theorem dX0_become_43 : decode cX0_become 43 = .ok (.aload_n 1, 1) := by decide +kernel
theorem dX0_become_44 : decode cX0_become 44 = .ok (.getfield 31, 3) := by decide +kernel
theorem dX0_become_47 : decode cX0_become 47 = .ok (.iconst 0, 1) := by decide +kernel
theorem dX0_become_48 : decode cX0_become 48 = .ok (.aload_n 0, 1) := by decide +kernel
theorem dX0_become_49 : decode cX0_become 49 = .ok (.getfield 31, 3) := by decide +kernel
theorem dX0_become_52 : decode cX0_become 52 = .ok (.iconst 0, 1) := by decide +kernel
theorem dX0_become_53 : decode cX0_become 53 = .ok (.bipush 12, 2) := by decide +kernel
theorem dX0_become_55 : decode cX0_become 55 = .ok (.invokestatic 48, 3) := by decide +kernel
theorem dX0_become_58 : decode cX0_become 58 = .ok (.aload_n 1, 1) := by decide +kernel
theorem dX0_become_59 : decode cX0_become 59 = .ok (.getfield 35, 3) := by decide +kernel
theorem dX0_become_62 : decode cX0_become 62 = .ok (.iconst 0, 1) := by decide +kernel
theorem dX0_become_63 : decode cX0_become 63 = .ok (.aload_n 0, 1) := by decide +kernel
theorem dX0_become_64 : decode cX0_become 64 = .ok (.getfield 35, 3) := by decide +kernel
theorem dX0_become_67 : decode cX0_become 67 = .ok (.iconst 0, 1) := by decide +kernel
theorem dX0_become_68 : decode cX0_become 68 = .ok (.bipush 12, 2) := by decide +kernel
theorem dX0_become_70 : decode cX0_become 70 = .ok (.invokestatic 48, 3) := by decide +kernel
theorem dX0_become_73 : decode cX0_become 73 = .ok (.aload_n 1, 1) := by decide +kernel
theorem dX0_become_74 : decode cX0_become 74 = .ok (.getfield 38, 3) := by decide +kernel
theorem dX0_become_77 : decode cX0_become 77 = .ok (.iconst 0, 1) := by decide +kernel
theorem dX0_become_78 : decode cX0_become 78 = .ok (.aload_n 0, 1) := by decide +kernel
theorem dX0_become_79 : decode cX0_become 79 = .ok (.getfield 38, 3) := by decide +kernel
theorem dX0_become_82 : decode cX0_become 82 = .ok (.iconst 0, 1) := by decide +kernel
theorem dX0_become_83 : decode cX0_become 83 = .ok (.bipush 12, 2) := by decide +kernel
theorem dX0_become_85 : decode cX0_become 85 = .ok (.invokestatic 48, 3) := by decide +kernel
theorem dX0_become_88 : decode cX0_become 88 = .ok (.aload_n 1, 1) := by decide +kernel
theorem dX0_become_89 : decode cX0_become 89 = .ok (.getfield 41, 3) := by decide +kernel
theorem dX0_become_92 : decode cX0_become 92 = .ok (.iconst 0, 1) := by decide +kernel
theorem dX0_become_93 : decode cX0_become 93 = .ok (.aload_n 0, 1) := by decide +kernel
theorem dX0_become_94 : decode cX0_become 94 = .ok (.getfield 41, 3) := by decide +kernel
theorem dX0_become_97 : decode cX0_become 97 = .ok (.iconst 0, 1) := by decide +kernel
theorem dX0_become_98 : decode cX0_become 98 = .ok (.bipush 10, 2) := by decide +kernel
theorem dX0_become_100 : decode cX0_become 100 = .ok (.invokestatic 48, 3) := by decide +kernel
theorem dX0_become_103 : decode cX0_become 103 = .ok (.return_, 1) := by decide +kernel
theorem dX0_liveDay_0 : decode cX0_liveDay 0 = .ok (.aload_n 0, 1) := by decide +kernel
theorem dX0_liveDay_1 : decode cX0_liveDay 1 = .ok (.getfield 12, 3) := by decide +kernel
theorem dX0_liveDay_4 : decode cX0_liveDay 4 = .ok (.invokevirtual 54, 3) := by decide +kernel
theorem dX0_liveDay_7 : decode cX0_liveDay 7 = .ok (.istore_n 1, 1) := by decide +kernel
theorem dX0_liveDay_8 : decode cX0_liveDay 8 = .ok (.aload_n 0, 1) := by decide +kernel
theorem dX0_liveDay_9 : decode cX0_liveDay 9 = .ok (.getfield 12, 3) := by decide +kernel
theorem dX0_liveDay_12 : decode cX0_liveDay 12 = .ok (.getfield 58, 3) := by decide +kernel
theorem dX0_liveDay_15 : decode cX0_liveDay 15 = .ok (.ifCond .lt 7, 3) := by decide +kernel
theorem dX0_liveDay_18 : decode cX0_liveDay 18 = .ok (.aload_n 0, 1) := by decide +kernel
theorem dX0_liveDay_19 : decode cX0_liveDay 19 = .ok (.invokevirtual 61, 3) := by decide +kernel
theorem dX0_liveDay_22 : decode cX0_liveDay 22 = .ok (.aload_n 0, 1) := by decide +kernel
theorem dX0_liveDay_23 : decode cX0_liveDay 23 = .ok (.dup, 1) := by decide +kernel
theorem dX0_liveDay_24 : decode cX0_liveDay 24 = .ok (.getfield 18, 3) := by decide +kernel
theorem dX0_liveDay_27 : decode cX0_liveDay 27 = .ok (.iconst 1, 1) := by decide +kernel
theorem dX0_liveDay_28 : decode cX0_liveDay 28 = .ok (.iadd, 1) := by decide +kernel
theorem dX0_liveDay_29 : decode cX0_liveDay 29 = .ok (.putfield 18, 3) := by decide +kernel
theorem dX0_liveDay_32 : decode cX0_liveDay 32 = .ok (.iload_n 1, 1) := by decide +kernel
theorem dX0_liveDay_33 : decode cX0_liveDay 33 = .ok (.ireturn, 1) := by decide +kernel
theorem dX0_keepEgg_0 : decode cX0_keepEgg 0 = .ok (.aload_n 0, 1) := by decide +kernel
theorem dX0_keepEgg_1 : decode cX0_keepEgg 1 = .ok (.getfield 31, 3) := by decide +kernel
theorem dX0_keepEgg_4 : decode cX0_keepEgg 4 = .ok (.iconst 0, 1) := by decide +kernel
theorem dX0_keepEgg_5 : decode cX0_keepEgg 5 = .ok (.aload_n 0, 1) := by decide +kernel
theorem dX0_keepEgg_6 : decode cX0_keepEgg 6 = .ok (.getfield 31, 3) := by decide +kernel
theorem dX0_keepEgg_9 : decode cX0_keepEgg 9 = .ok (.iconst 1, 1) := by decide +kernel
theorem dX0_keepEgg_10 : decode cX0_keepEgg 10 = .ok (.bipush 11, 2) := by decide +kernel
theorem dX0_keepEgg_12 : decode cX0_keepEgg 12 = .ok (.invokestatic 48, 3) := by decide +kernel
theorem dX0_keepEgg_15 : decode cX0_keepEgg 15 = .ok (.aload_n 0, 1) := by decide +kernel
theorem dX0_keepEgg_16 : decode cX0_keepEgg 16 = .ok (.getfield 35, 3) := by decide +kernel
theorem dX0_keepEgg_19 : decode cX0_keepEgg 19 = .ok (.iconst 0, 1) := by decide +kernel
theorem dX0_keepEgg_20 : decode cX0_keepEgg 20 = .ok (.aload_n 0, 1) := by decide +kernel
theorem dX0_keepEgg_21 : decode cX0_keepEgg 21 = .ok (.getfield 35, 3) := by decide +kernel
theorem dX0_keepEgg_24 : decode cX0_keepEgg 24 = .ok (.iconst 1, 1) := by decide +kernel
theorem dX0_keepEgg_25 : decode cX0_keepEgg 25 = .ok (.bipush 11, 2) := by decide +kernel
theorem dX0_keepEgg_27 : decode cX0_keepEgg 27 = .ok (.invokestatic 48, 3) := by decide +kernel
theorem dX0_keepEgg_30 : decode cX0_keepEgg 30 = .ok (.aload_n 0, 1) := by decide +kernel
theorem dX0_keepEgg_31 : decode cX0_keepEgg 31 = .ok (.getfield 38, 3) := by decide +kernel
theorem dX0_keepEgg_34 : decode cX0_keepEgg 34 = .ok (.iconst 0, 1) := by decide +kernel
theorem dX0_keepEgg_35 : decode cX0_keepEgg 35 = .ok (.aload_n 0, 1) := by decide +kernel
theorem dX0_keepEgg_36 : decode cX0_keepEgg 36 = .ok (.getfield 38, 3) := by decide +kernel
theorem dX0_keepEgg_39 : decode cX0_keepEgg 39 = .ok (.iconst 1, 1) := by decide +kernel
theorem dX0_keepEgg_40 : decode cX0_keepEgg 40 = .ok (.bipush 11, 2) := by decide +kernel
theorem dX0_keepEgg_42 : decode cX0_keepEgg 42 = .ok (.invokestatic 48, 3) := by decide +kernel
theorem dX0_keepEgg_45 : decode cX0_keepEgg 45 = .ok (.aload_n 0, 1) := by decide +kernel
theorem dX0_keepEgg_46 : decode cX0_keepEgg 46 = .ok (.getfield 31, 3) := by decide +kernel
theorem dX0_keepEgg_49 : decode cX0_keepEgg 49 = .ok (.iconst 0, 1) := by decide +kernel
theorem dX0_keepEgg_50 : decode cX0_keepEgg 50 = .ok (.aload_n 0, 1) := by decide +kernel
theorem dX0_keepEgg_51 : decode cX0_keepEgg 51 = .ok (.getfield 12, 3) := by decide +kernel
theorem dX0_keepEgg_54 : decode cX0_keepEgg 54 = .ok (.getfield 58, 3) := by decide +kernel
theorem dX0_keepEgg_57 : decode cX0_keepEgg 57 = .ok (.iastore, 1) := by decide +kernel
theorem dX0_keepEgg_58 : decode cX0_keepEgg 58 = .ok (.aload_n 0, 1) := by decide +kernel
theorem dX0_keepEgg_59 : decode cX0_keepEgg 59 = .ok (.getfield 35, 3) := by decide +kernel
theorem dX0_keepEgg_62 : decode cX0_keepEgg 62 = .ok (.iconst 0, 1) := by decide +kernel
theorem dX0_keepEgg_63 : decode cX0_keepEgg 63 = .ok (.aload_n 0, 1) := by decide +kernel
theorem dX0_keepEgg_64 : decode cX0_keepEgg 64 = .ok (.getfield 12, 3) := by decide +kernel
theorem dX0_keepEgg_67 : decode cX0_keepEgg 67 = .ok (.getfield 64, 3) := by decide +kernel
theorem dX0_keepEgg_70 : decode cX0_keepEgg 70 = .ok (.iastore, 1) := by decide +kernel
theorem dX0_keepEgg_71 : decode cX0_keepEgg 71 = .ok (.aload_n 0, 1) := by decide +kernel
theorem dX0_keepEgg_72 : decode cX0_keepEgg 72 = .ok (.getfield 38, 3) := by decide +kernel
theorem dX0_keepEgg_75 : decode cX0_keepEgg 75 = .ok (.iconst 0, 1) := by decide +kernel
theorem dX0_keepEgg_76 : decode cX0_keepEgg 76 = .ok (.aload_n 0, 1) := by decide +kernel
theorem dX0_keepEgg_77 : decode cX0_keepEgg 77 = .ok (.getfield 18, 3) := by decide +kernel
theorem dX0_keepEgg_80 : decode cX0_keepEgg 80 = .ok (.iastore, 1) := by decide +kernel
theorem dX0_keepEgg_81 : decode cX0_keepEgg 81 = .ok (.aload_n 0, 1) := by decide +kernel
theorem dX0_keepEgg_82 : decode cX0_keepEgg 82 = .ok (.dup, 1) := by decide +kernel
theorem dX0_keepEgg_83 : decode cX0_keepEgg 83 = .ok (.getfield 25, 3) := by decide +kernel
theorem dX0_keepEgg_86 : decode cX0_keepEgg 86 = .ok (.iconst 1, 1) := by decide +kernel
theorem dX0_keepEgg_87 : decode cX0_keepEgg 87 = .ok (.iadd, 1) := by decide +kernel
theorem dX0_keepEgg_88 : decode cX0_keepEgg 88 = .ok (.putfield 25, 3) := by decide +kernel
theorem dX0_keepEgg_91 : decode cX0_keepEgg 91 = .ok (.aload_n 0, 1) := by decide +kernel
theorem dX0_keepEgg_92 : decode cX0_keepEgg 92 = .ok (.getfield 12, 3) := by decide +kernel
theorem dX0_keepEgg_95 : decode cX0_keepEgg 95 = .ok (.getfield 67, 3) := by decide +kernel
theorem dX0_keepEgg_98 : decode cX0_keepEgg 98 = .ok (.ifCond .eq 13, 3) := by decide +kernel
theorem dX0_keepEgg_101 : decode cX0_keepEgg 101 = .ok (.aload_n 0, 1) := by decide +kernel
theorem dX0_keepEgg_102 : decode cX0_keepEgg 102 = .ok (.dup, 1) := by decide +kernel
theorem dX0_keepEgg_103 : decode cX0_keepEgg 103 = .ok (.getfield 28, 3) := by decide +kernel
theorem dX0_keepEgg_106 : decode cX0_keepEgg 106 = .ok (.iconst 1, 1) := by decide +kernel
theorem dX0_keepEgg_107 : decode cX0_keepEgg 107 = .ok (.iadd, 1) := by decide +kernel
theorem dX0_keepEgg_108 : decode cX0_keepEgg 108 = .ok (.putfield 28, 3) := by decide +kernel
theorem dX0_keepEgg_111 : decode cX0_keepEgg 111 = .ok (.return_, 1) := by decide +kernel
theorem dX0_eggsKept_0 : decode cX0_eggsKept 0 = .ok (.aload_n 0, 1) := by decide +kernel
theorem dX0_eggsKept_1 : decode cX0_eggsKept 1 = .ok (.getfield 25, 3) := by decide +kernel
theorem dX0_eggsKept_4 : decode cX0_eggsKept 4 = .ok (.bipush 12, 2) := by decide +kernel
theorem dX0_eggsKept_6 : decode cX0_eggsKept 6 = .ok (.invokestatic 71, 3) := by decide +kernel
theorem dX0_eggsKept_9 : decode cX0_eggsKept 9 = .ok (.ireturn, 1) := by decide +kernel
theorem dX0_latestWorth_0 : decode cX0_latestWorth 0 = .ok (.iconst 0, 1) := by decide +kernel
theorem dX0_latestWorth_1 : decode cX0_latestWorth 1 = .ok (.istore_n 2, 1) := by decide +kernel
theorem dX0_latestWorth_2 : decode cX0_latestWorth 2 = .ok (.iload_n 2, 1) := by decide +kernel
theorem dX0_latestWorth_3 : decode cX0_latestWorth 3 = .ok (.aload_n 0, 1) := by decide +kernel
theorem dX0_latestWorth_4 : decode cX0_latestWorth 4 = .ok (.invokevirtual 77, 3) := by decide +kernel
theorem dX0_latestWorth_7 : decode cX0_latestWorth 7 = .ok (.if_icmp .ge 26, 3) := by decide +kernel
theorem dX0_latestWorth_10 : decode cX0_latestWorth 10 = .ok (.aload_n 0, 1) := by decide +kernel
theorem dX0_latestWorth_11 : decode cX0_latestWorth 11 = .ok (.getfield 31, 3) := by decide +kernel
theorem dX0_latestWorth_14 : decode cX0_latestWorth 14 = .ok (.iload_n 2, 1) := by decide +kernel
theorem dX0_latestWorth_15 : decode cX0_latestWorth 15 = .ok (.iaload, 1) := by decide +kernel
theorem dX0_latestWorth_16 : decode cX0_latestWorth 16 = .ok (.iload_n 1, 1) := by decide +kernel
theorem dX0_latestWorth_17 : decode cX0_latestWorth 17 = .ok (.if_icmp .ne 10, 3) := by decide +kernel
theorem dX0_latestWorth_20 : decode cX0_latestWorth 20 = .ok (.aload_n 0, 1) := by decide +kernel
theorem dX0_latestWorth_21 : decode cX0_latestWorth 21 = .ok (.getfield 35, 3) := by decide +kernel
theorem dX0_latestWorth_24 : decode cX0_latestWorth 24 = .ok (.iload_n 2, 1) := by decide +kernel
theorem dX0_latestWorth_25 : decode cX0_latestWorth 25 = .ok (.iaload, 1) := by decide +kernel
theorem dX0_latestWorth_26 : decode cX0_latestWorth 26 = .ok (.ireturn, 1) := by decide +kernel
theorem dX0_latestWorth_27 : decode cX0_latestWorth 27 = .ok (.iinc 2 1, 3) := by decide +kernel
theorem dX0_latestWorth_30 : decode cX0_latestWorth 30 = .ok (.goto (-28), 3) := by decide +kernel
theorem dX0_latestWorth_33 : decode cX0_latestWorth 33 = .ok (.iconst (-1), 1) := by decide +kernel
theorem dX0_latestWorth_34 : decode cX0_latestWorth 34 = .ok (.ireturn, 1) := by decide +kernel
theorem dX0_draw_0 : decode cX0_draw 0 = .ok (.aload_n 0, 1) := by decide +kernel
theorem dX0_draw_1 : decode cX0_draw 1 = .ok (.aload_n 0, 1) := by decide +kernel
theorem dX0_draw_2 : decode cX0_draw 2 = .ok (.getfield 22, 3) := by decide +kernel
theorem dX0_draw_5 : decode cX0_draw 5 = .ok (.ldc 80, 2) := by decide +kernel
theorem dX0_draw_7 : decode cX0_draw 7 = .ok (.imul, 1) := by decide +kernel
theorem dX0_draw_8 : decode cX0_draw 8 = .ok (.sipush 12345, 3) := by decide +kernel
theorem dX0_draw_11 : decode cX0_draw 11 = .ok (.iadd, 1) := by decide +kernel
theorem dX0_draw_12 : decode cX0_draw 12 = .ok (.putfield 22, 3) := by decide +kernel
theorem dX0_draw_15 : decode cX0_draw 15 = .ok (.aload_n 0, 1) := by decide +kernel
theorem dX0_draw_16 : decode cX0_draw 16 = .ok (.getfield 22, 3) := by decide +kernel
theorem dX0_draw_19 : decode cX0_draw 19 = .ok (.bipush 8, 2) := by decide +kernel
theorem dX0_draw_21 : decode cX0_draw 21 = .ok (.iushr, 1) := by decide +kernel
theorem dX0_draw_22 : decode cX0_draw 22 = .ok (.ireturn, 1) := by decide +kernel
theorem dX0_spotsHolding_0 : decode cX0_spotsHolding 0 = .ok (.iconst 0, 1) := by decide +kernel
theorem dX0_spotsHolding_1 : decode cX0_spotsHolding 1 = .ok (.istore_n 1, 1) := by decide +kernel
theorem dX0_spotsHolding_2 : decode cX0_spotsHolding 2 = .ok (.iconst 0, 1) := by decide +kernel
theorem dX0_spotsHolding_3 : decode cX0_spotsHolding 3 = .ok (.istore_n 2, 1) := by decide +kernel
theorem dX0_spotsHolding_4 : decode cX0_spotsHolding 4 = .ok (.iload_n 2, 1) := by decide +kernel
theorem dX0_spotsHolding_5 : decode cX0_spotsHolding 5 = .ok (.bipush 10, 2) := by decide +kernel
theorem dX0_spotsHolding_7 : decode cX0_spotsHolding 7 = .ok (.if_icmp .ge 21, 3) := by decide +kernel
theorem dX0_spotsHolding_10 : decode cX0_spotsHolding 10 = .ok (.aload_n 0, 1) := by decide +kernel
theorem dX0_spotsHolding_11 : decode cX0_spotsHolding 11 = .ok (.getfield 41, 3) := by decide +kernel
theorem dX0_spotsHolding_14 : decode cX0_spotsHolding 14 = .ok (.iload_n 2, 1) := by decide +kernel
theorem dX0_spotsHolding_15 : decode cX0_spotsHolding 15 = .ok (.iaload, 1) := by decide +kernel
theorem dX0_spotsHolding_16 : decode cX0_spotsHolding 16 = .ok (.ifCond .lt 6, 3) := by decide +kernel
theorem dX0_spotsHolding_19 : decode cX0_spotsHolding 19 = .ok (.iinc 1 1, 3) := by decide +kernel
theorem dX0_spotsHolding_22 : decode cX0_spotsHolding 22 = .ok (.iinc 2 1, 3) := by decide +kernel
theorem dX0_spotsHolding_25 : decode cX0_spotsHolding 25 = .ok (.goto (-21), 3) := by decide +kernel
theorem dX0_spotsHolding_28 : decode cX0_spotsHolding 28 = .ok (.iload_n 1, 1) := by decide +kernel
theorem dX0_spotsHolding_29 : decode cX0_spotsHolding 29 = .ok (.ireturn, 1) := by decide +kernel
theorem dX1_init_0 : decode cX1_init 0 = .ok (.aload_n 0, 1) := by decide +kernel
theorem dX1_init_1 : decode cX1_init 1 = .ok (.invokespecial 3, 3) := by decide +kernel
theorem dX1_init_4 : decode cX1_init 4 = .ok (.aload_n 0, 1) := by decide +kernel
theorem dX1_init_5 : decode cX1_init 5 = .ok (.iconst 0, 1) := by decide +kernel
theorem dX1_init_6 : decode cX1_init 6 = .ok (.putfield 9, 3) := by decide +kernel
theorem dX1_init_9 : decode cX1_init 9 = .ok (.aload_n 0, 1) := by decide +kernel
theorem dX1_init_10 : decode cX1_init 10 = .ok (.bipush 10, 2) := by decide +kernel
theorem dX1_init_12 : decode cX1_init 12 = .ok (.newarray .int, 2) := by decide +kernel
theorem dX1_init_14 : decode cX1_init 14 = .ok (.putfield 15, 3) := by decide +kernel
theorem dX1_init_17 : decode cX1_init 17 = .ok (.aload_n 0, 1) := by decide +kernel
theorem dX1_init_18 : decode cX1_init 18 = .ok (.bipush 10, 2) := by decide +kernel
theorem dX1_init_20 : decode cX1_init 20 = .ok (.newarray .int, 2) := by decide +kernel
theorem dX1_init_22 : decode cX1_init 22 = .ok (.putfield 19, 3) := by decide +kernel
theorem dX1_init_25 : decode cX1_init 25 = .ok (.aload_n 0, 1) := by decide +kernel
theorem dX1_init_26 : decode cX1_init 26 = .ok (.bipush 10, 2) := by decide +kernel
theorem dX1_init_28 : decode cX1_init 28 = .ok (.newarray .int, 2) := by decide +kernel
theorem dX1_init_30 : decode cX1_init 30 = .ok (.putfield 22, 3) := by decide +kernel
theorem dX1_init_33 : decode cX1_init 33 = .ok (.aload_n 0, 1) := by decide +kernel
theorem dX1_init_34 : decode cX1_init 34 = .ok (.bipush 10, 2) := by decide +kernel
theorem dX1_init_36 : decode cX1_init 36 = .ok (.newarray .int, 2) := by decide +kernel
theorem dX1_init_38 : decode cX1_init 38 = .ok (.putfield 25, 3) := by decide +kernel
theorem dX1_init_41 : decode cX1_init 41 = .ok (.aload_n 0, 1) := by decide +kernel
theorem dX1_init_42 : decode cX1_init 42 = .ok (.bipush 10, 2) := by decide +kernel
theorem dX1_init_44 : decode cX1_init 44 = .ok (.newarray .int, 2) := by decide +kernel
theorem dX1_init_46 : decode cX1_init 46 = .ok (.putfield 28, 3) := by decide +kernel
theorem dX1_init_49 : decode cX1_init 49 = .ok (.aload_n 0, 1) := by decide +kernel
theorem dX1_init_50 : decode cX1_init 50 = .ok (.bipush 10, 2) := by decide +kernel
theorem dX1_init_52 : decode cX1_init 52 = .ok (.newarray .int, 2) := by decide +kernel
theorem dX1_init_54 : decode cX1_init 54 = .ok (.putfield 31, 3) := by decide +kernel
theorem dX1_init_57 : decode cX1_init 57 = .ok (.aload_n 0, 1) := by decide +kernel
theorem dX1_init_58 : decode cX1_init 58 = .ok (.bipush 10, 2) := by decide +kernel
theorem dX1_init_60 : decode cX1_init 60 = .ok (.newarray .int, 2) := by decide +kernel
theorem dX1_init_62 : decode cX1_init 62 = .ok (.putfield 34, 3) := by decide +kernel
theorem dX1_init_65 : decode cX1_init 65 = .ok (.aload_n 0, 1) := by decide +kernel
theorem dX1_init_66 : decode cX1_init 66 = .ok (.bipush 8, 2) := by decide +kernel
theorem dX1_init_68 : decode cX1_init 68 = .ok (.newarray .int, 2) := by decide +kernel
theorem dX1_init_70 : decode cX1_init 70 = .ok (.putfield 37, 3) := by decide +kernel
theorem dX1_init_73 : decode cX1_init 73 = .ok (.aload_n 0, 1) := by decide +kernel
theorem dX1_init_74 : decode cX1_init 74 = .ok (.iconst 0, 1) := by decide +kernel
theorem dX1_init_75 : decode cX1_init 75 = .ok (.putfield 40, 3) := by decide +kernel
theorem dX1_init_78 : decode cX1_init 78 = .ok (.aload_n 0, 1) := by decide +kernel
theorem dX1_init_79 : decode cX1_init 79 = .ok (.bipush 12, 2) := by decide +kernel
theorem dX1_init_81 : decode cX1_init 81 = .ok (.putfield 43, 3) := by decide +kernel
theorem dX1_init_84 : decode cX1_init 84 = .ok (.aload_n 0, 1) := by decide +kernel
theorem dX1_init_85 : decode cX1_init 85 = .ok (.iconst 2, 1) := by decide +kernel
theorem dX1_init_86 : decode cX1_init 86 = .ok (.putfield 46, 3) := by decide +kernel
theorem dX1_init_89 : decode cX1_init 89 = .ok (.aload_n 0, 1) := by decide +kernel
theorem dX1_init_90 : decode cX1_init 90 = .ok (.iconst (-1), 1) := by decide +kernel
theorem dX1_init_91 : decode cX1_init 91 = .ok (.putfield 49, 3) := by decide +kernel
theorem dX1_init_94 : decode cX1_init 94 = .ok (.aload_n 0, 1) := by decide +kernel
theorem dX1_init_95 : decode cX1_init 95 = .ok (.iconst 0, 1) := by decide +kernel
theorem dX1_init_96 : decode cX1_init 96 = .ok (.putfield 52, 3) := by decide +kernel
theorem dX1_init_99 : decode cX1_init 99 = .ok (.aload_n 0, 1) := by decide +kernel
theorem dX1_init_100 : decode cX1_init 100 = .ok (.iconst 0, 1) := by decide +kernel
theorem dX1_init_101 : decode cX1_init 101 = .ok (.putfield 55, 3) := by decide +kernel
theorem dX1_init_104 : decode cX1_init 104 = .ok (.return_, 1) := by decide +kernel
theorem dX1_become_0 : decode cX1_become 0 = .ok (.aload_n 0, 1) := by decide +kernel
theorem dX1_become_1 : decode cX1_become 1 = .ok (.aload_n 1, 1) := by decide +kernel
theorem dX1_become_2 : decode cX1_become 2 = .ok (.getfield 9, 3) := by decide +kernel
theorem dX1_become_5 : decode cX1_become 5 = .ok (.putfield 9, 3) := by decide +kernel
theorem dX1_become_8 : decode cX1_become 8 = .ok (.aload_n 1, 1) := by decide +kernel
theorem dX1_become_9 : decode cX1_become 9 = .ok (.getfield 15, 3) := by decide +kernel
theorem dX1_become_12 : decode cX1_become 12 = .ok (.iconst 0, 1) := by decide +kernel
theorem dX1_become_13 : decode cX1_become 13 = .ok (.aload_n 0, 1) := by decide +kernel
theorem dX1_become_14 : decode cX1_become 14 = .ok (.getfield 15, 3) := by decide +kernel
theorem dX1_become_17 : decode cX1_become 17 = .ok (.iconst 0, 1) := by decide +kernel
theorem dX1_become_18 : decode cX1_become 18 = .ok (.bipush 10, 2) := by decide +kernel
theorem dX1_become_20 : decode cX1_become 20 = .ok (.invokestatic 59, 3) := by decide +kernel
theorem dX1_become_23 : decode cX1_become 23 = .ok (.aload_n 1, 1) := by decide +kernel
theorem dX1_become_24 : decode cX1_become 24 = .ok (.getfield 19, 3) := by decide +kernel
theorem dX1_become_27 : decode cX1_become 27 = .ok (.iconst 0, 1) := by decide +kernel
theorem dX1_become_28 : decode cX1_become 28 = .ok (.aload_n 0, 1) := by decide +kernel
theorem dX1_become_29 : decode cX1_become 29 = .ok (.getfield 19, 3) := by decide +kernel
theorem dX1_become_32 : decode cX1_become 32 = .ok (.iconst 0, 1) := by decide +kernel
theorem dX1_become_33 : decode cX1_become 33 = .ok (.bipush 10, 2) := by decide +kernel
theorem dX1_become_35 : decode cX1_become 35 = .ok (.invokestatic 59, 3) := by decide +kernel
theorem dX1_become_38 : decode cX1_become 38 = .ok (.aload_n 1, 1) := by decide +kernel
theorem dX1_become_39 : decode cX1_become 39 = .ok (.getfield 22, 3) := by decide +kernel
theorem dX1_become_42 : decode cX1_become 42 = .ok (.iconst 0, 1) := by decide +kernel
theorem dX1_become_43 : decode cX1_become 43 = .ok (.aload_n 0, 1) := by decide +kernel
theorem dX1_become_44 : decode cX1_become 44 = .ok (.getfield 22, 3) := by decide +kernel
theorem dX1_become_47 : decode cX1_become 47 = .ok (.iconst 0, 1) := by decide +kernel
theorem dX1_become_48 : decode cX1_become 48 = .ok (.bipush 10, 2) := by decide +kernel
theorem dX1_become_50 : decode cX1_become 50 = .ok (.invokestatic 59, 3) := by decide +kernel
theorem dX1_become_53 : decode cX1_become 53 = .ok (.aload_n 1, 1) := by decide +kernel
theorem dX1_become_54 : decode cX1_become 54 = .ok (.getfield 25, 3) := by decide +kernel
theorem dX1_become_57 : decode cX1_become 57 = .ok (.iconst 0, 1) := by decide +kernel
theorem dX1_become_58 : decode cX1_become 58 = .ok (.aload_n 0, 1) := by decide +kernel
theorem dX1_become_59 : decode cX1_become 59 = .ok (.getfield 25, 3) := by decide +kernel
theorem dX1_become_62 : decode cX1_become 62 = .ok (.iconst 0, 1) := by decide +kernel
theorem dX1_become_63 : decode cX1_become 63 = .ok (.bipush 10, 2) := by decide +kernel
theorem dX1_become_65 : decode cX1_become 65 = .ok (.invokestatic 59, 3) := by decide +kernel
theorem dX1_become_68 : decode cX1_become 68 = .ok (.aload_n 1, 1) := by decide +kernel
theorem dX1_become_69 : decode cX1_become 69 = .ok (.getfield 28, 3) := by decide +kernel
theorem dX1_become_72 : decode cX1_become 72 = .ok (.iconst 0, 1) := by decide +kernel
theorem dX1_become_73 : decode cX1_become 73 = .ok (.aload_n 0, 1) := by decide +kernel
theorem dX1_become_74 : decode cX1_become 74 = .ok (.getfield 28, 3) := by decide +kernel
theorem dX1_become_77 : decode cX1_become 77 = .ok (.iconst 0, 1) := by decide +kernel
theorem dX1_become_78 : decode cX1_become 78 = .ok (.bipush 10, 2) := by decide +kernel
theorem dX1_become_80 : decode cX1_become 80 = .ok (.invokestatic 59, 3) := by decide +kernel
theorem dX1_become_83 : decode cX1_become 83 = .ok (.aload_n 1, 1) := by decide +kernel
theorem dX1_become_84 : decode cX1_become 84 = .ok (.getfield 31, 3) := by decide +kernel
theorem dX1_become_87 : decode cX1_become 87 = .ok (.iconst 0, 1) := by decide +kernel
theorem dX1_become_88 : decode cX1_become 88 = .ok (.aload_n 0, 1) := by decide +kernel
theorem dX1_become_89 : decode cX1_become 89 = .ok (.getfield 31, 3) := by decide +kernel
theorem dX1_become_92 : decode cX1_become 92 = .ok (.iconst 0, 1) := by decide +kernel
theorem dX1_become_93 : decode cX1_become 93 = .ok (.bipush 10, 2) := by decide +kernel
theorem dX1_become_95 : decode cX1_become 95 = .ok (.invokestatic 59, 3) := by decide +kernel
theorem dX1_become_98 : decode cX1_become 98 = .ok (.aload_n 1, 1) := by decide +kernel
theorem dX1_become_99 : decode cX1_become 99 = .ok (.getfield 34, 3) := by decide +kernel
theorem dX1_become_102 : decode cX1_become 102 = .ok (.iconst 0, 1) := by decide +kernel
theorem dX1_become_103 : decode cX1_become 103 = .ok (.aload_n 0, 1) := by decide +kernel
theorem dX1_become_104 : decode cX1_become 104 = .ok (.getfield 34, 3) := by decide +kernel
theorem dX1_become_107 : decode cX1_become 107 = .ok (.iconst 0, 1) := by decide +kernel
theorem dX1_become_108 : decode cX1_become 108 = .ok (.bipush 10, 2) := by decide +kernel
theorem dX1_become_110 : decode cX1_become 110 = .ok (.invokestatic 59, 3) := by decide +kernel
theorem dX1_become_113 : decode cX1_become 113 = .ok (.aload_n 1, 1) := by decide +kernel
theorem dX1_become_114 : decode cX1_become 114 = .ok (.getfield 37, 3) := by decide +kernel
theorem dX1_become_117 : decode cX1_become 117 = .ok (.iconst 0, 1) := by decide +kernel
theorem dX1_become_118 : decode cX1_become 118 = .ok (.aload_n 0, 1) := by decide +kernel
theorem dX1_become_119 : decode cX1_become 119 = .ok (.getfield 37, 3) := by decide +kernel
theorem dX1_become_122 : decode cX1_become 122 = .ok (.iconst 0, 1) := by decide +kernel
theorem dX1_become_123 : decode cX1_become 123 = .ok (.bipush 8, 2) := by decide +kernel
theorem dX1_become_125 : decode cX1_become 125 = .ok (.invokestatic 59, 3) := by decide +kernel
theorem dX1_become_128 : decode cX1_become 128 = .ok (.aload_n 0, 1) := by decide +kernel
theorem dX1_become_129 : decode cX1_become 129 = .ok (.aload_n 1, 1) := by decide +kernel
theorem dX1_become_130 : decode cX1_become 130 = .ok (.getfield 40, 3) := by decide +kernel
theorem dX1_become_133 : decode cX1_become 133 = .ok (.putfield 40, 3) := by decide +kernel
theorem dX1_become_136 : decode cX1_become 136 = .ok (.aload_n 0, 1) := by decide +kernel
theorem dX1_become_137 : decode cX1_become 137 = .ok (.aload_n 1, 1) := by decide +kernel
theorem dX1_become_138 : decode cX1_become 138 = .ok (.getfield 43, 3) := by decide +kernel
theorem dX1_become_141 : decode cX1_become 141 = .ok (.putfield 43, 3) := by decide +kernel
theorem dX1_become_144 : decode cX1_become 144 = .ok (.aload_n 0, 1) := by decide +kernel
theorem dX1_become_145 : decode cX1_become 145 = .ok (.aload_n 1, 1) := by decide +kernel
theorem dX1_become_146 : decode cX1_become 146 = .ok (.getfield 46, 3) := by decide +kernel
theorem dX1_become_149 : decode cX1_become 149 = .ok (.putfield 46, 3) := by decide +kernel
theorem dX1_become_152 : decode cX1_become 152 = .ok (.return_, 1) := by decide +kernel
theorem dX1_addThing_0 : decode cX1_addThing 0 = .ok (.aload_n 0, 1) := by decide +kernel
theorem dX1_addThing_1 : decode cX1_addThing 1 = .ok (.getfield 9, 3) := by decide +kernel
theorem dX1_addThing_4 : decode cX1_addThing 4 = .ok (.bipush 10, 2) := by decide +kernel
theorem dX1_addThing_6 : decode cX1_addThing 6 = .ok (.if_icmp .lt 5, 3) := by decide +kernel
theorem dX1_addThing_9 : decode cX1_addThing 9 = .ok (.iconst (-1), 1) := by decide +kernel
theorem dX1_addThing_10 : decode cX1_addThing 10 = .ok (.ireturn, 1) := by decide +kernel
theorem dX1_addThing_11 : decode cX1_addThing 11 = .ok (.aload_n 0, 1) := by decide +kernel
theorem dX1_addThing_12 : decode cX1_addThing 12 = .ok (.getfield 9, 3) := by decide +kernel
theorem dX1_addThing_15 : decode cX1_addThing 15 = .ok (.istore_n 2, 1) := by decide +kernel
theorem dX1_addThing_16 : decode cX1_addThing 16 = .ok (.aload_n 0, 1) := by decide +kernel
theorem dX1_addThing_17 : decode cX1_addThing 17 = .ok (.getfield 15, 3) := by decide +kernel
theorem dX1_addThing_20 : decode cX1_addThing 20 = .ok (.iload_n 2, 1) := by decide +kernel
theorem dX1_addThing_21 : decode cX1_addThing 21 = .ok (.iload_n 1, 1) := by decide +kernel
theorem dX1_addThing_22 : decode cX1_addThing 22 = .ok (.iastore, 1) := by decide +kernel
theorem dX1_addThing_23 : decode cX1_addThing 23 = .ok (.aload_n 0, 1) := by decide +kernel
theorem dX1_addThing_24 : decode cX1_addThing 24 = .ok (.getfield 19, 3) := by decide +kernel
theorem dX1_addThing_27 : decode cX1_addThing 27 = .ok (.iload_n 2, 1) := by decide +kernel
theorem dX1_addThing_28 : decode cX1_addThing 28 = .ok (.iconst 2, 1) := by decide +kernel
theorem dX1_addThing_29 : decode cX1_addThing 29 = .ok (.iastore, 1) := by decide +kernel
theorem dX1_addThing_30 : decode cX1_addThing 30 = .ok (.aload_n 0, 1) := by decide +kernel
theorem dX1_addThing_31 : decode cX1_addThing 31 = .ok (.getfield 22, 3) := by decide +kernel
theorem dX1_addThing_34 : decode cX1_addThing 34 = .ok (.iload_n 2, 1) := by decide +kernel
theorem dX1_addThing_35 : decode cX1_addThing 35 = .ok (.bipush 10, 2) := by decide +kernel
theorem dX1_addThing_37 : decode cX1_addThing 37 = .ok (.iastore, 1) := by decide +kernel
theorem dX1_addThing_38 : decode cX1_addThing 38 = .ok (.aload_n 0, 1) := by decide +kernel
theorem dX1_addThing_39 : decode cX1_addThing 39 = .ok (.getfield 25, 3) := by decide +kernel
theorem dX1_addThing_42 : decode cX1_addThing 42 = .ok (.iload_n 2, 1) := by decide +kernel
theorem dX1_addThing_43 : decode cX1_addThing 43 = .ok (.iconst 0, 1) := by decide +kernel
theorem dX1_addThing_44 : decode cX1_addThing 44 = .ok (.iastore, 1) := by decide +kernel
theorem dX1_addThing_45 : decode cX1_addThing 45 = .ok (.aload_n 0, 1) := by decide +kernel
theorem dX1_addThing_46 : decode cX1_addThing 46 = .ok (.iload_n 2, 1) := by decide +kernel
theorem dX1_addThing_47 : decode cX1_addThing 47 = .ok (.iconst 0, 1) := by decide +kernel
theorem dX1_addThing_48 : decode cX1_addThing 48 = .ok (.invokevirtual 65, 3) := by decide +kernel
theorem dX1_addThing_51 : decode cX1_addThing 51 = .ok (.aload_n 0, 1) := by decide +kernel
theorem dX1_addThing_52 : decode cX1_addThing 52 = .ok (.dup, 1) := by decide +kernel
theorem dX1_addThing_53 : decode cX1_addThing 53 = .ok (.getfield 9, 3) := by decide +kernel
theorem dX1_addThing_56 : decode cX1_addThing 56 = .ok (.iconst 1, 1) := by decide +kernel
theorem dX1_addThing_57 : decode cX1_addThing 57 = .ok (.iadd, 1) := by decide +kernel
theorem dX1_addThing_58 : decode cX1_addThing 58 = .ok (.putfield 9, 3) := by decide +kernel
theorem dX1_addThing_61 : decode cX1_addThing 61 = .ok (.iload_n 2, 1) := by decide +kernel
theorem dX1_addThing_62 : decode cX1_addThing 62 = .ok (.ireturn, 1) := by decide +kernel
theorem dX1_putAside_0 : decode cX1_putAside 0 = .ok (.aload_n 0, 1) := by decide +kernel
theorem dX1_putAside_1 : decode cX1_putAside 1 = .ok (.getfield 28, 3) := by decide +kernel
theorem dX1_putAside_4 : decode cX1_putAside 4 = .ok (.iload_n 1, 1) := by decide +kernel
theorem dX1_putAside_5 : decode cX1_putAside 5 = .ok (.iload_n 2, 1) := by decide +kernel
theorem dX1_putAside_6 : decode cX1_putAside 6 = .ok (.iastore, 1) := by decide +kernel
theorem dX1_putAside_7 : decode cX1_putAside 7 = .ok (.aload_n 0, 1) := by decide +kernel
theorem dX1_putAside_8 : decode cX1_putAside 8 = .ok (.getfield 31, 3) := by decide +kernel
theorem dX1_putAside_11 : decode cX1_putAside 11 = .ok (.iload_n 1, 1) := by decide +kernel
theorem dX1_putAside_12 : decode cX1_putAside 12 = .ok (.iconst 0, 1) := by decide +kernel
theorem dX1_putAside_13 : decode cX1_putAside 13 = .ok (.iastore, 1) := by decide +kernel
theorem dX1_putAside_14 : decode cX1_putAside 14 = .ok (.aload_n 0, 1) := by decide +kernel
theorem dX1_putAside_15 : decode cX1_putAside 15 = .ok (.getfield 34, 3) := by decide +kernel
theorem dX1_putAside_18 : decode cX1_putAside 18 = .ok (.iload_n 1, 1) := by decide +kernel
theorem dX1_putAside_19 : decode cX1_putAside 19 = .ok (.iconst 0, 1) := by decide +kernel
theorem dX1_putAside_20 : decode cX1_putAside 20 = .ok (.iastore, 1) := by decide +kernel
theorem dX1_putAside_21 : decode cX1_putAside 21 = .ok (.return_, 1) := by decide +kernel
theorem dX1_told_0 : decode cX1_told 0 = .ok (.iload_n 2, 1) := by decide +kernel
theorem dX1_told_1 : decode cX1_told 1 = .ok (.tableswitch 122 0 8 #[51, 58, 65, 72, 79, 86, 93, 100, 111], 51) := by decide +kernel
theorem dX1_told_52 : decode cX1_told 52 = .ok (.aload_n 0, 1) := by decide +kernel
theorem dX1_told_53 : decode cX1_told 53 = .ok (.getfield 15, 3) := by decide +kernel
theorem dX1_told_56 : decode cX1_told 56 = .ok (.iload_n 1, 1) := by decide +kernel
theorem dX1_told_57 : decode cX1_told 57 = .ok (.iaload, 1) := by decide +kernel
theorem dX1_told_58 : decode cX1_told 58 = .ok (.ireturn, 1) := by decide +kernel
theorem dX1_told_59 : decode cX1_told 59 = .ok (.aload_n 0, 1) := by decide +kernel
theorem dX1_told_60 : decode cX1_told 60 = .ok (.getfield 19, 3) := by decide +kernel
theorem dX1_told_63 : decode cX1_told 63 = .ok (.iload_n 1, 1) := by decide +kernel
theorem dX1_told_64 : decode cX1_told 64 = .ok (.iaload, 1) := by decide +kernel
theorem dX1_told_65 : decode cX1_told 65 = .ok (.ireturn, 1) := by decide +kernel
theorem dX1_told_66 : decode cX1_told 66 = .ok (.aload_n 0, 1) := by decide +kernel
theorem dX1_told_67 : decode cX1_told 67 = .ok (.getfield 22, 3) := by decide +kernel
theorem dX1_told_70 : decode cX1_told 70 = .ok (.iload_n 1, 1) := by decide +kernel
theorem dX1_told_71 : decode cX1_told 71 = .ok (.iaload, 1) := by decide +kernel
theorem dX1_told_72 : decode cX1_told 72 = .ok (.ireturn, 1) := by decide +kernel
theorem dX1_told_73 : decode cX1_told 73 = .ok (.aload_n 0, 1) := by decide +kernel
theorem dX1_told_74 : decode cX1_told 74 = .ok (.getfield 25, 3) := by decide +kernel
theorem dX1_told_77 : decode cX1_told 77 = .ok (.iload_n 1, 1) := by decide +kernel
theorem dX1_told_78 : decode cX1_told 78 = .ok (.iaload, 1) := by decide +kernel
theorem dX1_told_79 : decode cX1_told 79 = .ok (.ireturn, 1) := by decide +kernel
theorem dX1_told_80 : decode cX1_told 80 = .ok (.aload_n 0, 1) := by decide +kernel
theorem dX1_told_81 : decode cX1_told 81 = .ok (.getfield 28, 3) := by decide +kernel
theorem dX1_told_84 : decode cX1_told 84 = .ok (.iload_n 1, 1) := by decide +kernel
theorem dX1_told_85 : decode cX1_told 85 = .ok (.iaload, 1) := by decide +kernel
theorem dX1_told_86 : decode cX1_told 86 = .ok (.ireturn, 1) := by decide +kernel
theorem dX1_told_87 : decode cX1_told 87 = .ok (.aload_n 0, 1) := by decide +kernel
theorem dX1_told_88 : decode cX1_told 88 = .ok (.getfield 31, 3) := by decide +kernel
theorem dX1_told_91 : decode cX1_told 91 = .ok (.iload_n 1, 1) := by decide +kernel
theorem dX1_told_92 : decode cX1_told 92 = .ok (.iaload, 1) := by decide +kernel
theorem dX1_told_93 : decode cX1_told 93 = .ok (.ireturn, 1) := by decide +kernel
theorem dX1_told_94 : decode cX1_told 94 = .ok (.aload_n 0, 1) := by decide +kernel
theorem dX1_told_95 : decode cX1_told 95 = .ok (.getfield 34, 3) := by decide +kernel
theorem dX1_told_98 : decode cX1_told 98 = .ok (.iload_n 1, 1) := by decide +kernel
theorem dX1_told_99 : decode cX1_told 99 = .ok (.iaload, 1) := by decide +kernel
theorem dX1_told_100 : decode cX1_told 100 = .ok (.ireturn, 1) := by decide +kernel
theorem dX1_told_101 : decode cX1_told 101 = .ok (.getstatic 69, 3) := by decide +kernel
theorem dX1_told_104 : decode cX1_told 104 = .ok (.aload_n 0, 1) := by decide +kernel
theorem dX1_told_105 : decode cX1_told 105 = .ok (.getfield 15, 3) := by decide +kernel
theorem dX1_told_108 : decode cX1_told 108 = .ok (.iload_n 1, 1) := by decide +kernel
theorem dX1_told_109 : decode cX1_told 109 = .ok (.iaload, 1) := by decide +kernel
theorem dX1_told_110 : decode cX1_told 110 = .ok (.iaload, 1) := by decide +kernel
theorem dX1_told_111 : decode cX1_told 111 = .ok (.ireturn, 1) := by decide +kernel
theorem dX1_told_112 : decode cX1_told 112 = .ok (.getstatic 74, 3) := by decide +kernel
theorem dX1_told_115 : decode cX1_told 115 = .ok (.aload_n 0, 1) := by decide +kernel
theorem dX1_told_116 : decode cX1_told 116 = .ok (.getfield 15, 3) := by decide +kernel
theorem dX1_told_119 : decode cX1_told 119 = .ok (.iload_n 1, 1) := by decide +kernel
theorem dX1_told_120 : decode cX1_told 120 = .ok (.iaload, 1) := by decide +kernel
theorem dX1_told_121 : decode cX1_told 121 = .ok (.iaload, 1) := by decide +kernel
theorem dX1_told_122 : decode cX1_told 122 = .ok (.ireturn, 1) := by decide +kernel
theorem dX1_told_123 : decode cX1_told 123 = .ok (.aload_n 0, 1) := by decide +kernel
theorem dX1_told_124 : decode cX1_told 124 = .ok (.getfield 15, 3) := by decide +kernel
theorem dX1_told_127 : decode cX1_told 127 = .ok (.iload_n 1, 1) := by decide +kernel
theorem dX1_told_128 : decode cX1_told 128 = .ok (.iaload, 1) := by decide +kernel
theorem dX1_told_129 : decode cX1_told 129 = .ok (.aload_n 0, 1) := by decide +kernel
theorem dX1_told_130 : decode cX1_told 130 = .ok (.getfield 22, 3) := by decide +kernel
theorem dX1_told_133 : decode cX1_told 133 = .ok (.iload_n 1, 1) := by decide +kernel
theorem dX1_told_134 : decode cX1_told 134 = .ok (.iaload, 1) := by decide +kernel
theorem dX1_told_135 : decode cX1_told 135 = .ok (.aload_n 0, 1) := by decide +kernel
theorem dX1_told_136 : decode cX1_told 136 = .ok (.getfield 34, 3) := by decide +kernel
theorem dX1_told_139 : decode cX1_told 139 = .ok (.iload_n 1, 1) := by decide +kernel
theorem dX1_told_140 : decode cX1_told 140 = .ok (.iaload, 1) := by decide +kernel
theorem dX1_told_141 : decode cX1_told 141 = .ok (.invokestatic 77, 3) := by decide +kernel
theorem dX1_told_144 : decode cX1_told 144 = .ok (.ireturn, 1) := by decide +kernel
theorem dX1_alter_0 : decode cX1_alter 0 = .ok (.iload_n 2, 1) := by decide +kernel
theorem dX1_alter_1 : decode cX1_alter 1 = .ok (.tableswitch 71 0 3 #[31, 41, 51, 61], 31) := by decide +kernel
theorem dX1_alter_32 : decode cX1_alter 32 = .ok (.aload_n 0, 1) := by decide +kernel
theorem dX1_alter_33 : decode cX1_alter 33 = .ok (.getfield 15, 3) := by decide +kernel
theorem dX1_alter_36 : decode cX1_alter 36 = .ok (.iload_n 1, 1) := by decide +kernel
theorem dX1_alter_37 : decode cX1_alter 37 = .ok (.iload_n 3, 1) := by decide +kernel
theorem dX1_alter_38 : decode cX1_alter 38 = .ok (.iastore, 1) := by decide +kernel
theorem dX1_alter_39 : decode cX1_alter 39 = .ok (.goto 33, 3) := by decide +kernel
theorem dX1_alter_42 : decode cX1_alter 42 = .ok (.aload_n 0, 1) := by decide +kernel
theorem dX1_alter_43 : decode cX1_alter 43 = .ok (.getfield 19, 3) := by decide +kernel
theorem dX1_alter_46 : decode cX1_alter 46 = .ok (.iload_n 1, 1) := by decide +kernel
theorem dX1_alter_47 : decode cX1_alter 47 = .ok (.iload_n 3, 1) := by decide +kernel
theorem dX1_alter_48 : decode cX1_alter 48 = .ok (.iastore, 1) := by decide +kernel
theorem dX1_alter_49 : decode cX1_alter 49 = .ok (.goto 23, 3) := by decide +kernel
theorem dX1_alter_52 : decode cX1_alter 52 = .ok (.aload_n 0, 1) := by decide +kernel
theorem dX1_alter_53 : decode cX1_alter 53 = .ok (.getfield 22, 3) := by decide +kernel
theorem dX1_alter_56 : decode cX1_alter 56 = .ok (.iload_n 1, 1) := by decide +kernel
theorem dX1_alter_57 : decode cX1_alter 57 = .ok (.iload_n 3, 1) := by decide +kernel
theorem dX1_alter_58 : decode cX1_alter 58 = .ok (.iastore, 1) := by decide +kernel
theorem dX1_alter_59 : decode cX1_alter 59 = .ok (.goto 13, 3) := by decide +kernel
theorem dX1_alter_62 : decode cX1_alter 62 = .ok (.aload_n 0, 1) := by decide +kernel
theorem dX1_alter_63 : decode cX1_alter 63 = .ok (.getfield 25, 3) := by decide +kernel
theorem dX1_alter_66 : decode cX1_alter 66 = .ok (.iload_n 1, 1) := by decide +kernel
theorem dX1_alter_67 : decode cX1_alter 67 = .ok (.iload_n 3, 1) := by decide +kernel
theorem dX1_alter_68 : decode cX1_alter 68 = .ok (.iastore, 1) := by decide +kernel
theorem dX1_alter_69 : decode cX1_alter 69 = .ok (.goto 3, 3) := by decide +kernel
theorem dX1_alter_72 : decode cX1_alter 72 = .ok (.return_, 1) := by decide +kernel
theorem dX1_isOut_0 : decode cX1_isOut 0 = .ok (.aload_n 0, 1) := by decide +kernel
theorem dX1_isOut_1 : decode cX1_isOut 1 = .ok (.getfield 28, 3) := by decide +kernel
theorem dX1_isOut_4 : decode cX1_isOut 4 = .ok (.iload_n 1, 1) := by decide +kernel
theorem dX1_isOut_5 : decode cX1_isOut 5 = .ok (.iaload, 1) := by decide +kernel
theorem dX1_isOut_6 : decode cX1_isOut 6 = .ok (.ifCond .ne 7, 3) := by decide +kernel
theorem dX1_isOut_9 : decode cX1_isOut 9 = .ok (.iconst 1, 1) := by decide +kernel
theorem dX1_isOut_10 : decode cX1_isOut 10 = .ok (.goto 4, 3) := by decide +kernel
theorem dX1_isOut_13 : decode cX1_isOut 13 = .ok (.iconst 0, 1) := by decide +kernel
theorem dX1_isOut_14 : decode cX1_isOut 14 = .ok (.ireturn, 1) := by decide +kernel
theorem dX1_hasRoom_0 : decode cX1_hasRoom 0 = .ok (.aload_n 0, 1) := by decide +kernel
theorem dX1_hasRoom_1 : decode cX1_hasRoom 1 = .ok (.getfield 40, 3) := by decide +kernel
theorem dX1_hasRoom_4 : decode cX1_hasRoom 4 = .ok (.bipush 8, 2) := by decide +kernel
theorem dX1_hasRoom_6 : decode cX1_hasRoom 6 = .ok (.if_icmp .ge 25, 3) := by decide +kernel
theorem dX1_hasRoom_9 : decode cX1_hasRoom 9 = .ok (.aload_n 0, 1) := by decide +kernel
theorem dX1_hasRoom_10 : decode cX1_hasRoom 10 = .ok (.invokevirtual 81, 3) := by decide +kernel
theorem dX1_hasRoom_13 : decode cX1_hasRoom 13 = .ok (.aload_n 0, 1) := by decide +kernel
theorem dX1_hasRoom_14 : decode cX1_hasRoom 14 = .ok (.getfield 19, 3) := by decide +kernel
theorem dX1_hasRoom_17 : decode cX1_hasRoom 17 = .ok (.iload_n 1, 1) := by decide +kernel
theorem dX1_hasRoom_18 : decode cX1_hasRoom 18 = .ok (.iaload, 1) := by decide +kernel
theorem dX1_hasRoom_19 : decode cX1_hasRoom 19 = .ok (.iadd, 1) := by decide +kernel
theorem dX1_hasRoom_20 : decode cX1_hasRoom 20 = .ok (.aload_n 0, 1) := by decide +kernel
theorem dX1_hasRoom_21 : decode cX1_hasRoom 21 = .ok (.getfield 43, 3) := by decide +kernel
theorem dX1_hasRoom_24 : decode cX1_hasRoom 24 = .ok (.if_icmp .gt 7, 3) := by decide +kernel
theorem dX1_hasRoom_27 : decode cX1_hasRoom 27 = .ok (.iconst 1, 1) := by decide +kernel
theorem dX1_hasRoom_28 : decode cX1_hasRoom 28 = .ok (.goto 4, 3) := by decide +kernel
theorem dX1_hasRoom_31 : decode cX1_hasRoom 31 = .ok (.iconst 0, 1) := by decide +kernel
theorem dX1_hasRoom_32 : decode cX1_hasRoom 32 = .ok (.ireturn, 1) := by decide +kernel
theorem dX1_swallow_0 : decode cX1_swallow 0 = .ok (.aload_n 0, 1) := by decide +kernel
theorem dX1_swallow_1 : decode cX1_swallow 1 = .ok (.getfield 40, 3) := by decide +kernel
theorem dX1_swallow_4 : decode cX1_swallow 4 = .ok (.bipush 8, 2) := by decide +kernel
theorem dX1_swallow_6 : decode cX1_swallow 6 = .ok (.if_icmp .lt 4, 3) := by decide +kernel
theorem dX1_swallow_9 : decode cX1_swallow 9 = .ok (.return_, 1) := by decide +kernel
theorem dX1_swallow_10 : decode cX1_swallow 10 = .ok (.aload_n 0, 1) := by decide +kernel
theorem dX1_swallow_11 : decode cX1_swallow 11 = .ok (.getfield 37, 3) := by decide +kernel
theorem dX1_swallow_14 : decode cX1_swallow 14 = .ok (.aload_n 0, 1) := by decide +kernel
theorem dX1_swallow_15 : decode cX1_swallow 15 = .ok (.getfield 40, 3) := by decide +kernel
theorem dX1_swallow_18 : decode cX1_swallow 18 = .ok (.iload_n 1, 1) := by decide +kernel
theorem dX1_swallow_19 : decode cX1_swallow 19 = .ok (.iastore, 1) := by decide +kernel
theorem dX1_swallow_20 : decode cX1_swallow 20 = .ok (.aload_n 0, 1) := by decide +kernel
theorem dX1_swallow_21 : decode cX1_swallow 21 = .ok (.dup, 1) := by decide +kernel
theorem dX1_swallow_22 : decode cX1_swallow 22 = .ok (.getfield 40, 3) := by decide +kernel
theorem dX1_swallow_25 : decode cX1_swallow 25 = .ok (.iconst 1, 1) := by decide +kernel
theorem dX1_swallow_26 : decode cX1_swallow 26 = .ok (.iadd, 1) := by decide +kernel
theorem dX1_swallow_27 : decode cX1_swallow 27 = .ok (.putfield 40, 3) := by decide +kernel
theorem dX1_swallow_30 : decode cX1_swallow 30 = .ok (.aload_n 0, 1) := by decide +kernel
theorem dX1_swallow_31 : decode cX1_swallow 31 = .ok (.iload_n 1, 1) := by decide +kernel
theorem dX1_swallow_32 : decode cX1_swallow 32 = .ok (.iconst 1, 1) := by decide +kernel
theorem dX1_swallow_33 : decode cX1_swallow 33 = .ok (.invokevirtual 65, 3) := by decide +kernel
theorem dX1_swallow_36 : decode cX1_swallow 36 = .ok (.return_, 1) := by decide +kernel
theorem dX1_takeOut_0 : decode cX1_takeOut 0 = .ok (.iconst 0, 1) := by decide +kernel
theorem dX1_takeOut_1 : decode cX1_takeOut 1 = .ok (.istore_n 2, 1) := by decide +kernel
theorem dX1_takeOut_2 : decode cX1_takeOut 2 = .ok (.iconst 0, 1) := by decide +kernel
theorem dX1_takeOut_3 : decode cX1_takeOut 3 = .ok (.istore_n 3, 1) := by decide +kernel
theorem dX1_takeOut_4 : decode cX1_takeOut 4 = .ok (.iload_n 3, 1) := by decide +kernel
theorem dX1_takeOut_5 : decode cX1_takeOut 5 = .ok (.aload_n 0, 1) := by decide +kernel
theorem dX1_takeOut_6 : decode cX1_takeOut 6 = .ok (.getfield 40, 3) := by decide +kernel
theorem dX1_takeOut_9 : decode cX1_takeOut 9 = .ok (.if_icmp .ge 47, 3) := by decide +kernel
theorem dX1_takeOut_12 : decode cX1_takeOut 12 = .ok (.aload_n 0, 1) := by decide +kernel
theorem dX1_takeOut_13 : decode cX1_takeOut 13 = .ok (.getfield 37, 3) := by decide +kernel
theorem dX1_takeOut_16 : decode cX1_takeOut 16 = .ok (.iload_n 3, 1) := by decide +kernel
theorem dX1_takeOut_17 : decode cX1_takeOut 17 = .ok (.iaload, 1) := by decide +kernel
theorem dX1_takeOut_18 : decode cX1_takeOut 18 = .ok (.istore 4, 2) := by decide +kernel
theorem dX1_takeOut_20 : decode cX1_takeOut 20 = .ok (.iload_n 1, 1) := by decide +kernel
theorem dX1_takeOut_21 : decode cX1_takeOut 21 = .ok (.iload 4, 2) := by decide +kernel
theorem dX1_takeOut_23 : decode cX1_takeOut 23 = .ok (.ishr, 1) := by decide +kernel
theorem dX1_takeOut_24 : decode cX1_takeOut 24 = .ok (.iconst 1, 1) := by decide +kernel
theorem dX1_takeOut_25 : decode cX1_takeOut 25 = .ok (.iand, 1) := by decide +kernel
theorem dX1_takeOut_26 : decode cX1_takeOut 26 = .ok (.ifCond .eq 13, 3) := by decide +kernel
theorem dX1_takeOut_29 : decode cX1_takeOut 29 = .ok (.aload_n 0, 1) := by decide +kernel
theorem dX1_takeOut_30 : decode cX1_takeOut 30 = .ok (.iload 4, 2) := by decide +kernel
theorem dX1_takeOut_32 : decode cX1_takeOut 32 = .ok (.iconst 0, 1) := by decide +kernel
theorem dX1_takeOut_33 : decode cX1_takeOut 33 = .ok (.invokevirtual 65, 3) := by decide +kernel
theorem dX1_takeOut_36 : decode cX1_takeOut 36 = .ok (.goto 14, 3) := by decide +kernel
theorem dX1_takeOut_39 : decode cX1_takeOut 39 = .ok (.aload_n 0, 1) := by decide +kernel
theorem dX1_takeOut_40 : decode cX1_takeOut 40 = .ok (.getfield 37, 3) := by decide +kernel
theorem dX1_takeOut_43 : decode cX1_takeOut 43 = .ok (.iload_n 2, 1) := by decide +kernel
theorem dX1_takeOut_44 : decode cX1_takeOut 44 = .ok (.iload 4, 2) := by decide +kernel
theorem dX1_takeOut_46 : decode cX1_takeOut 46 = .ok (.iastore, 1) := by decide +kernel
theorem dX1_takeOut_47 : decode cX1_takeOut 47 = .ok (.iinc 2 1, 3) := by decide +kernel
theorem dX1_takeOut_50 : decode cX1_takeOut 50 = .ok (.iinc 3 1, 3) := by decide +kernel
theorem dX1_takeOut_53 : decode cX1_takeOut 53 = .ok (.goto (-49), 3) := by decide +kernel
theorem dX1_takeOut_56 : decode cX1_takeOut 56 = .ok (.aload_n 0, 1) := by decide +kernel
theorem dX1_takeOut_57 : decode cX1_takeOut 57 = .ok (.iload_n 2, 1) := by decide +kernel
theorem dX1_takeOut_58 : decode cX1_takeOut 58 = .ok (.putfield 40, 3) := by decide +kernel
theorem dX1_takeOut_61 : decode cX1_takeOut 61 = .ok (.return_, 1) := by decide +kernel
theorem dX1_bulkIn_0 : decode cX1_bulkIn 0 = .ok (.iconst 0, 1) := by decide +kernel
theorem dX1_bulkIn_1 : decode cX1_bulkIn 1 = .ok (.istore_n 1, 1) := by decide +kernel
theorem dX1_bulkIn_2 : decode cX1_bulkIn 2 = .ok (.iconst 0, 1) := by decide +kernel
theorem dX1_bulkIn_3 : decode cX1_bulkIn 3 = .ok (.istore_n 2, 1) := by decide +kernel
theorem dX1_bulkIn_4 : decode cX1_bulkIn 4 = .ok (.iload_n 2, 1) := by decide +kernel
theorem dX1_bulkIn_5 : decode cX1_bulkIn 5 = .ok (.aload_n 0, 1) := by decide +kernel
theorem dX1_bulkIn_6 : decode cX1_bulkIn 6 = .ok (.getfield 40, 3) := by decide +kernel
theorem dX1_bulkIn_9 : decode cX1_bulkIn 9 = .ok (.if_icmp .ge 23, 3) := by decide +kernel
theorem dX1_bulkIn_12 : decode cX1_bulkIn 12 = .ok (.iload_n 1, 1) := by decide +kernel
theorem dX1_bulkIn_13 : decode cX1_bulkIn 13 = .ok (.aload_n 0, 1) := by decide +kernel
theorem dX1_bulkIn_14 : decode cX1_bulkIn 14 = .ok (.getfield 19, 3) := by decide +kernel
theorem dX1_bulkIn_17 : decode cX1_bulkIn 17 = .ok (.aload_n 0, 1) := by decide +kernel
theorem dX1_bulkIn_18 : decode cX1_bulkIn 18 = .ok (.getfield 37, 3) := by decide +kernel
theorem dX1_bulkIn_21 : decode cX1_bulkIn 21 = .ok (.iload_n 2, 1) := by decide +kernel
theorem dX1_bulkIn_22 : decode cX1_bulkIn 22 = .ok (.iaload, 1) := by decide +kernel
theorem dX1_bulkIn_23 : decode cX1_bulkIn 23 = .ok (.iaload, 1) := by decide +kernel
theorem dX1_bulkIn_24 : decode cX1_bulkIn 24 = .ok (.iadd, 1) := by decide +kernel
theorem dX1_bulkIn_25 : decode cX1_bulkIn 25 = .ok (.istore_n 1, 1) := by decide +kernel
theorem dX1_bulkIn_26 : decode cX1_bulkIn 26 = .ok (.iinc 2 1, 3) := by decide +kernel
theorem dX1_bulkIn_29 : decode cX1_bulkIn 29 = .ok (.goto (-25), 3) := by decide +kernel
theorem dX1_bulkIn_32 : decode cX1_bulkIn 32 = .ok (.iload_n 1, 1) := by decide +kernel
theorem dX1_bulkIn_33 : decode cX1_bulkIn 33 = .ok (.ireturn, 1) := by decide +kernel
theorem dX1_stainIn_0 : decode cX1_stainIn 0 = .ok (.iconst 0, 1) := by decide +kernel
theorem dX1_stainIn_1 : decode cX1_stainIn 1 = .ok (.istore_n 1, 1) := by decide +kernel
theorem dX1_stainIn_2 : decode cX1_stainIn 2 = .ok (.iconst 0, 1) := by decide +kernel
theorem dX1_stainIn_3 : decode cX1_stainIn 3 = .ok (.istore_n 2, 1) := by decide +kernel
theorem dX1_stainIn_4 : decode cX1_stainIn 4 = .ok (.iload_n 2, 1) := by decide +kernel
theorem dX1_stainIn_5 : decode cX1_stainIn 5 = .ok (.aload_n 0, 1) := by decide +kernel
theorem dX1_stainIn_6 : decode cX1_stainIn 6 = .ok (.getfield 40, 3) := by decide +kernel
theorem dX1_stainIn_9 : decode cX1_stainIn 9 = .ok (.if_icmp .ge 23, 3) := by decide +kernel
theorem dX1_stainIn_12 : decode cX1_stainIn 12 = .ok (.iload_n 1, 1) := by decide +kernel
theorem dX1_stainIn_13 : decode cX1_stainIn 13 = .ok (.aload_n 0, 1) := by decide +kernel
theorem dX1_stainIn_14 : decode cX1_stainIn 14 = .ok (.getfield 34, 3) := by decide +kernel
theorem dX1_stainIn_17 : decode cX1_stainIn 17 = .ok (.aload_n 0, 1) := by decide +kernel
theorem dX1_stainIn_18 : decode cX1_stainIn 18 = .ok (.getfield 37, 3) := by decide +kernel
theorem dX1_stainIn_21 : decode cX1_stainIn 21 = .ok (.iload_n 2, 1) := by decide +kernel
theorem dX1_stainIn_22 : decode cX1_stainIn 22 = .ok (.iaload, 1) := by decide +kernel
theorem dX1_stainIn_23 : decode cX1_stainIn 23 = .ok (.iaload, 1) := by decide +kernel
theorem dX1_stainIn_24 : decode cX1_stainIn 24 = .ok (.iadd, 1) := by decide +kernel
theorem dX1_stainIn_25 : decode cX1_stainIn 25 = .ok (.istore_n 1, 1) := by decide +kernel
theorem dX1_stainIn_26 : decode cX1_stainIn 26 = .ok (.iinc 2 1, 3) := by decide +kernel
theorem dX1_stainIn_29 : decode cX1_stainIn 29 = .ok (.goto (-25), 3) := by decide +kernel
theorem dX1_stainIn_32 : decode cX1_stainIn 32 = .ok (.iload_n 1, 1) := by decide +kernel
theorem dX1_stainIn_33 : decode cX1_stainIn 33 = .ok (.ireturn, 1) := by decide +kernel
theorem dX1_setInside_0 : decode cX1_setInside 0 = .ok (.iconst 0, 1) := by decide +kernel
theorem dX1_setInside_1 : decode cX1_setInside 1 = .ok (.istore_n 1, 1) := by decide +kernel
theorem dX1_setInside_2 : decode cX1_setInside 2 = .ok (.iconst 0, 1) := by decide +kernel
theorem dX1_setInside_3 : decode cX1_setInside 3 = .ok (.istore_n 2, 1) := by decide +kernel
theorem dX1_setInside_4 : decode cX1_setInside 4 = .ok (.iload_n 2, 1) := by decide +kernel
theorem dX1_setInside_5 : decode cX1_setInside 5 = .ok (.aload_n 0, 1) := by decide +kernel
theorem dX1_setInside_6 : decode cX1_setInside 6 = .ok (.getfield 40, 3) := by decide +kernel
theorem dX1_setInside_9 : decode cX1_setInside 9 = .ok (.if_icmp .ge 20, 3) := by decide +kernel
theorem dX1_setInside_12 : decode cX1_setInside 12 = .ok (.iload_n 1, 1) := by decide +kernel
theorem dX1_setInside_13 : decode cX1_setInside 13 = .ok (.iconst 1, 1) := by decide +kernel
theorem dX1_setInside_14 : decode cX1_setInside 14 = .ok (.aload_n 0, 1) := by decide +kernel
theorem dX1_setInside_15 : decode cX1_setInside 15 = .ok (.getfield 37, 3) := by decide +kernel
theorem dX1_setInside_18 : decode cX1_setInside 18 = .ok (.iload_n 2, 1) := by decide +kernel
theorem dX1_setInside_19 : decode cX1_setInside 19 = .ok (.iaload, 1) := by decide +kernel
theorem dX1_setInside_20 : decode cX1_setInside 20 = .ok (.ishl, 1) := by decide +kernel
theorem dX1_setInside_21 : decode cX1_setInside 21 = .ok (.ior, 1) := by decide +kernel
theorem dX1_setInside_22 : decode cX1_setInside 22 = .ok (.istore_n 1, 1) := by decide +kernel
theorem dX1_setInside_23 : decode cX1_setInside 23 = .ok (.iinc 2 1, 3) := by decide +kernel
theorem dX1_setInside_26 : decode cX1_setInside 26 = .ok (.goto (-22), 3) := by decide +kernel
theorem dX1_setInside_29 : decode cX1_setInside 29 = .ok (.iload_n 1, 1) := by decide +kernel
theorem dX1_setInside_30 : decode cX1_setInside 30 = .ok (.ireturn, 1) := by decide +kernel
theorem dX1_worthOfAll_0 : decode cX1_worthOfAll 0 = .ok (.iconst 0, 1) := by decide +kernel
theorem dX1_worthOfAll_1 : decode cX1_worthOfAll 1 = .ok (.istore_n 1, 1) := by decide +kernel
theorem dX1_worthOfAll_2 : decode cX1_worthOfAll 2 = .ok (.iconst 0, 1) := by decide +kernel
theorem dX1_worthOfAll_3 : decode cX1_worthOfAll 3 = .ok (.istore_n 2, 1) := by decide +kernel
theorem dX1_worthOfAll_4 : decode cX1_worthOfAll 4 = .ok (.iload_n 2, 1) := by decide +kernel
theorem dX1_worthOfAll_5 : decode cX1_worthOfAll 5 = .ok (.aload_n 0, 1) := by decide +kernel
theorem dX1_worthOfAll_6 : decode cX1_worthOfAll 6 = .ok (.getfield 9, 3) := by decide +kernel
theorem dX1_worthOfAll_9 : decode cX1_worthOfAll 9 = .ok (.if_icmp .ge 18, 3) := by decide +kernel
theorem dX1_worthOfAll_12 : decode cX1_worthOfAll 12 = .ok (.iload_n 1, 1) := by decide +kernel
theorem dX1_worthOfAll_13 : decode cX1_worthOfAll 13 = .ok (.aload_n 0, 1) := by decide +kernel
theorem dX1_worthOfAll_14 : decode cX1_worthOfAll 14 = .ok (.getfield 22, 3) := by decide +kernel
theorem dX1_worthOfAll_17 : decode cX1_worthOfAll 17 = .ok (.iload_n 2, 1) := by decide +kernel
theorem dX1_worthOfAll_18 : decode cX1_worthOfAll 18 = .ok (.iaload, 1) := by decide +kernel
theorem dX1_worthOfAll_19 : decode cX1_worthOfAll 19 = .ok (.iadd, 1) := by decide +kernel
theorem dX1_worthOfAll_20 : decode cX1_worthOfAll 20 = .ok (.istore_n 1, 1) := by decide +kernel
theorem dX1_worthOfAll_21 : decode cX1_worthOfAll 21 = .ok (.iinc 2 1, 3) := by decide +kernel
theorem dX1_worthOfAll_24 : decode cX1_worthOfAll 24 = .ok (.goto (-20), 3) := by decide +kernel
theorem dX1_worthOfAll_27 : decode cX1_worthOfAll 27 = .ok (.iload_n 1, 1) := by decide +kernel
theorem dX1_worthOfAll_28 : decode cX1_worthOfAll 28 = .ok (.ireturn, 1) := by decide +kernel
theorem dX1_passDay_0 : decode cX1_passDay 0 = .ok (.aload_n 0, 1) := by decide +kernel
theorem dX1_passDay_1 : decode cX1_passDay 1 = .ok (.invokevirtual 85, 3) := by decide +kernel
theorem dX1_passDay_4 : decode cX1_passDay 4 = .ok (.aload_n 0, 1) := by decide +kernel
theorem dX1_passDay_5 : decode cX1_passDay 5 = .ok (.invokevirtual 88, 3) := by decide +kernel
theorem dX1_passDay_8 : decode cX1_passDay 8 = .ok (.aload_n 0, 1) := by decide +kernel
theorem dX1_passDay_9 : decode cX1_passDay 9 = .ok (.getfield 52, 3) := by decide +kernel
theorem dX1_passDay_12 : decode cX1_passDay 12 = .ok (.ireturn, 1) := by decide +kernel
theorem dX1_pass_0 : decode cX1_pass 0 = .ok (.iconst 0, 1) := by decide +kernel
theorem dX1_pass_1 : decode cX1_pass 1 = .ok (.istore_n 2, 1) := by decide +kernel
theorem dX1_pass_2 : decode cX1_pass 2 = .ok (.iconst 0, 1) := by decide +kernel
theorem dX1_pass_3 : decode cX1_pass 3 = .ok (.istore_n 3, 1) := by decide +kernel
theorem dX1_pass_4 : decode cX1_pass 4 = .ok (.iload_n 3, 1) := by decide +kernel
theorem dX1_pass_5 : decode cX1_pass 5 = .ok (.iload_n 1, 1) := by decide +kernel
theorem dX1_pass_6 : decode cX1_pass 6 = .ok (.if_icmp .ge 23, 3) := by decide +kernel
theorem dX1_pass_9 : decode cX1_pass 9 = .ok (.aload_n 0, 1) := by decide +kernel
theorem dX1_pass_10 : decode cX1_pass 10 = .ok (.getfield 40, 3) := by decide +kernel
theorem dX1_pass_13 : decode cX1_pass 13 = .ok (.ifCond .le 16, 3) := by decide +kernel
theorem dX1_pass_16 : decode cX1_pass 16 = .ok (.iload_n 2, 1) := by decide +kernel
theorem dX1_pass_17 : decode cX1_pass 17 = .ok (.aload_n 0, 1) := by decide +kernel
theorem dX1_pass_18 : decode cX1_pass 18 = .ok (.invokevirtual 91, 3) := by decide +kernel
theorem dX1_pass_21 : decode cX1_pass 21 = .ok (.iadd, 1) := by decide +kernel
theorem dX1_pass_22 : decode cX1_pass 22 = .ok (.istore_n 2, 1) := by decide +kernel
theorem dX1_pass_23 : decode cX1_pass 23 = .ok (.iinc 3 1, 3) := by decide +kernel
theorem dX1_pass_26 : decode cX1_pass 26 = .ok (.goto (-22), 3) := by decide +kernel
theorem dX1_pass_29 : decode cX1_pass 29 = .ok (.iload_n 2, 1) := by decide +kernel
theorem dX1_pass_30 : decode cX1_pass 30 = .ok (.ireturn, 1) := by decide +kernel
theorem dX1_grow_0 : decode cX1_grow 0 = .ok (.iconst 0, 1) := by decide +kernel
theorem dX1_grow_1 : decode cX1_grow 1 = .ok (.istore_n 1, 1) := by decide +kernel
theorem dX1_grow_2 : decode cX1_grow 2 = .ok (.iload_n 1, 1) := by decide +kernel
theorem dX1_grow_3 : decode cX1_grow 3 = .ok (.aload_n 0, 1) := by decide +kernel
theorem dX1_grow_4 : decode cX1_grow 4 = .ok (.getfield 40, 3) := by decide +kernel
theorem dX1_grow_7 : decode cX1_grow 7 = .ok (.if_icmp .ge 59, 3) := by decide +kernel
theorem dX1_grow_10 : decode cX1_grow 10 = .ok (.aload_n 0, 1) := by decide +kernel
theorem dX1_grow_11 : decode cX1_grow 11 = .ok (.getfield 37, 3) := by decide +kernel
theorem dX1_grow_14 : decode cX1_grow 14 = .ok (.iload_n 1, 1) := by decide +kernel
theorem dX1_grow_15 : decode cX1_grow 15 = .ok (.iaload, 1) := by decide +kernel
theorem dX1_grow_16 : decode cX1_grow 16 = .ok (.istore_n 2, 1) := by decide +kernel
theorem dX1_grow_17 : decode cX1_grow 17 = .ok (.aload_n 0, 1) := by decide +kernel
theorem dX1_grow_18 : decode cX1_grow 18 = .ok (.getfield 31, 3) := by decide +kernel
theorem dX1_grow_21 : decode cX1_grow 21 = .ok (.iload_n 2, 1) := by decide +kernel
theorem dX1_grow_22 : decode cX1_grow 22 = .ok (.dup2, 1) := by decide +kernel
theorem dX1_grow_23 : decode cX1_grow 23 = .ok (.iaload, 1) := by decide +kernel
theorem dX1_grow_24 : decode cX1_grow 24 = .ok (.iconst 1, 1) := by decide +kernel
theorem dX1_grow_25 : decode cX1_grow 25 = .ok (.iadd, 1) := by decide +kernel
theorem dX1_grow_26 : decode cX1_grow 26 = .ok (.iastore, 1) := by decide +kernel
theorem dX1_grow_27 : decode cX1_grow 27 = .ok (.aload_n 0, 1) := by decide +kernel
theorem dX1_grow_28 : decode cX1_grow 28 = .ok (.getfield 34, 3) := by decide +kernel
theorem dX1_grow_31 : decode cX1_grow 31 = .ok (.iload_n 2, 1) := by decide +kernel
theorem dX1_grow_32 : decode cX1_grow 32 = .ok (.bipush 99, 2) := by decide +kernel
theorem dX1_grow_34 : decode cX1_grow 34 = .ok (.aload_n 0, 1) := by decide +kernel
theorem dX1_grow_35 : decode cX1_grow 35 = .ok (.getfield 34, 3) := by decide +kernel
theorem dX1_grow_38 : decode cX1_grow 38 = .ok (.iload_n 2, 1) := by decide +kernel
theorem dX1_grow_39 : decode cX1_grow 39 = .ok (.iaload, 1) := by decide +kernel
theorem dX1_grow_40 : decode cX1_grow 40 = .ok (.aload_n 0, 1) := by decide +kernel
theorem dX1_grow_41 : decode cX1_grow 41 = .ok (.iload_n 1, 1) := by decide +kernel
theorem dX1_grow_42 : decode cX1_grow 42 = .ok (.iconst 1, 1) := by decide +kernel
theorem dX1_grow_43 : decode cX1_grow 43 = .ok (.isub, 1) := by decide +kernel
theorem dX1_grow_44 : decode cX1_grow 44 = .ok (.invokevirtual 94, 3) := by decide +kernel
theorem dX1_grow_47 : decode cX1_grow 47 = .ok (.iadd, 1) := by decide +kernel
theorem dX1_grow_48 : decode cX1_grow 48 = .ok (.aload_n 0, 1) := by decide +kernel
theorem dX1_grow_49 : decode cX1_grow 49 = .ok (.iload_n 1, 1) := by decide +kernel
theorem dX1_grow_50 : decode cX1_grow 50 = .ok (.iconst 1, 1) := by decide +kernel
theorem dX1_grow_51 : decode cX1_grow 51 = .ok (.iadd, 1) := by decide +kernel
theorem dX1_grow_52 : decode cX1_grow 52 = .ok (.invokevirtual 94, 3) := by decide +kernel
theorem dX1_grow_55 : decode cX1_grow 55 = .ok (.iadd, 1) := by decide +kernel
theorem dX1_grow_56 : decode cX1_grow 56 = .ok (.invokestatic 98, 3) := by decide +kernel
theorem dX1_grow_59 : decode cX1_grow 59 = .ok (.iastore, 1) := by decide +kernel
theorem dX1_grow_60 : decode cX1_grow 60 = .ok (.iinc 1 1, 3) := by decide +kernel
theorem dX1_grow_63 : decode cX1_grow 63 = .ok (.goto (-61), 3) := by decide +kernel
theorem dX1_grow_66 : decode cX1_grow 66 = .ok (.return_, 1) := by decide +kernel
theorem dX1_stainsAt_0 : decode cX1_stainsAt 0 = .ok (.iload_n 1, 1) := by decide +kernel
theorem dX1_stainsAt_1 : decode cX1_stainsAt 1 = .ok (.ifCond .lt 29, 3) := by decide +kernel
theorem dX1_stainsAt_4 : decode cX1_stainsAt 4 = .ok (.iload_n 1, 1) := by decide +kernel
theorem dX1_stainsAt_5 : decode cX1_stainsAt 5 = .ok (.aload_n 0, 1) := by decide +kernel
theorem dX1_stainsAt_6 : decode cX1_stainsAt 6 = .ok (.getfield 40, 3) := by decide +kernel
theorem dX1_stainsAt_9 : decode cX1_stainsAt 9 = .ok (.if_icmp .ge 21, 3) := by decide +kernel
theorem dX1_stainsAt_12 : decode cX1_stainsAt 12 = .ok (.getstatic 74, 3) := by decide +kernel
theorem dX1_stainsAt_15 : decode cX1_stainsAt 15 = .ok (.aload_n 0, 1) := by decide +kernel
theorem dX1_stainsAt_16 : decode cX1_stainsAt 16 = .ok (.getfield 15, 3) := by decide +kernel
theorem dX1_stainsAt_19 : decode cX1_stainsAt 19 = .ok (.aload_n 0, 1) := by decide +kernel
theorem dX1_stainsAt_20 : decode cX1_stainsAt 20 = .ok (.getfield 37, 3) := by decide +kernel
theorem dX1_stainsAt_23 : decode cX1_stainsAt 23 = .ok (.iload_n 1, 1) := by decide +kernel
theorem dX1_stainsAt_24 : decode cX1_stainsAt 24 = .ok (.iaload, 1) := by decide +kernel
theorem dX1_stainsAt_25 : decode cX1_stainsAt 25 = .ok (.iaload, 1) := by decide +kernel
theorem dX1_stainsAt_26 : decode cX1_stainsAt 26 = .ok (.iaload, 1) := by decide +kernel
theorem dX1_stainsAt_27 : decode cX1_stainsAt 27 = .ok (.goto 4, 3) := by decide +kernel
theorem dX1_stainsAt_30 : decode cX1_stainsAt 30 = .ok (.iconst 0, 1) := by decide +kernel
theorem dX1_stainsAt_31 : decode cX1_stainsAt 31 = .ok (.ireturn, 1) := by decide +kernel
theorem dX1_layFront_0 : decode cX1_layFront 0 = .ok (.aload_n 0, 1) := by decide +kernel
theorem dX1_layFront_1 : decode cX1_layFront 1 = .ok (.iconst (-1), 1) := by decide +kernel
theorem dX1_layFront_2 : decode cX1_layFront 2 = .ok (.putfield 49, 3) := by decide +kernel
theorem dX1_layFront_5 : decode cX1_layFront 5 = .ok (.aload_n 0, 1) := by decide +kernel
theorem dX1_layFront_6 : decode cX1_layFront 6 = .ok (.iconst 0, 1) := by decide +kernel
theorem dX1_layFront_7 : decode cX1_layFront 7 = .ok (.putfield 52, 3) := by decide +kernel
theorem dX1_layFront_10 : decode cX1_layFront 10 = .ok (.aload_n 0, 1) := by decide +kernel
theorem dX1_layFront_11 : decode cX1_layFront 11 = .ok (.iconst 0, 1) := by decide +kernel
theorem dX1_layFront_12 : decode cX1_layFront 12 = .ok (.putfield 55, 3) := by decide +kernel
theorem dX1_layFront_15 : decode cX1_layFront 15 = .ok (.aload_n 0, 1) := by decide +kernel
theorem dX1_layFront_16 : decode cX1_layFront 16 = .ok (.getfield 37, 3) := by decide +kernel
theorem dX1_layFront_19 : decode cX1_layFront 19 = .ok (.iconst 0, 1) := by decide +kernel
theorem dX1_layFront_20 : decode cX1_layFront 20 = .ok (.iaload, 1) := by decide +kernel
theorem dX1_layFront_21 : decode cX1_layFront 21 = .ok (.istore_n 1, 1) := by decide +kernel
theorem dX1_layFront_22 : decode cX1_layFront 22 = .ok (.aload_n 0, 1) := by decide +kernel
theorem dX1_layFront_23 : decode cX1_layFront 23 = .ok (.getfield 40, 3) := by decide +kernel
theorem dX1_layFront_26 : decode cX1_layFront 26 = .ok (.ifCond .le 22, 3) := by decide +kernel
theorem dX1_layFront_29 : decode cX1_layFront 29 = .ok (.aload_n 0, 1) := by decide +kernel
theorem dX1_layFront_30 : decode cX1_layFront 30 = .ok (.getfield 31, 3) := by decide +kernel
theorem dX1_layFront_33 : decode cX1_layFront 33 = .ok (.iload_n 1, 1) := by decide +kernel
theorem dX1_layFront_34 : decode cX1_layFront 34 = .ok (.iaload, 1) := by decide +kernel
theorem dX1_layFront_35 : decode cX1_layFront 35 = .ok (.getstatic 69, 3) := by decide +kernel
theorem dX1_layFront_38 : decode cX1_layFront 38 = .ok (.aload_n 0, 1) := by decide +kernel
theorem dX1_layFront_39 : decode cX1_layFront 39 = .ok (.getfield 15, 3) := by decide +kernel
theorem dX1_layFront_42 : decode cX1_layFront 42 = .ok (.iload_n 1, 1) := by decide +kernel
theorem dX1_layFront_43 : decode cX1_layFront 43 = .ok (.iaload, 1) := by decide +kernel
theorem dX1_layFront_44 : decode cX1_layFront 44 = .ok (.iaload, 1) := by decide +kernel
theorem dX1_layFront_45 : decode cX1_layFront 45 = .ok (.if_icmp .ge 4, 3) := by decide +kernel
theorem dX1_layFront_48 : decode cX1_layFront 48 = .ok (.return_, 1) := by decide +kernel
theorem dX1_layFront_49 : decode cX1_layFront 49 = .ok (.aload_n 0, 1) := by decide +kernel
theorem dX1_layFront_50 : decode cX1_layFront 50 = .ok (.iload_n 1, 1) := by decide +kernel
theorem dX1_layFront_51 : decode cX1_layFront 51 = .ok (.putfield 49, 3) := by decide +kernel
theorem dX1_layFront_54 : decode cX1_layFront 54 = .ok (.aload_n 0, 1) := by decide +kernel
theorem dX1_layFront_55 : decode cX1_layFront 55 = .ok (.aload_n 0, 1) := by decide +kernel
theorem dX1_layFront_56 : decode cX1_layFront 56 = .ok (.invokevirtual 81, 3) := by decide +kernel
theorem dX1_layFront_59 : decode cX1_layFront 59 = .ok (.aload_n 0, 1) := by decide +kernel
theorem dX1_layFront_60 : decode cX1_layFront 60 = .ok (.getfield 46, 3) := by decide +kernel
theorem dX1_layFront_63 : decode cX1_layFront 63 = .ok (.if_icmp .ge 7, 3) := by decide +kernel
theorem dX1_layFront_66 : decode cX1_layFront 66 = .ok (.iconst 1, 1) := by decide +kernel
theorem dX1_layFront_67 : decode cX1_layFront 67 = .ok (.goto 4, 3) := by decide +kernel
theorem dX1_layFront_70 : decode cX1_layFront 70 = .ok (.iconst 0, 1) := by decide +kernel
theorem dX1_layFront_71 : decode cX1_layFront 71 = .ok (.putfield 55, 3) := by decide +kernel
theorem dX1_layFront_74 : decode cX1_layFront 74 = .ok (.aload_n 0, 1) := by decide +kernel
theorem dX1_layFront_75 : decode cX1_layFront 75 = .ok (.aload_n 0, 1) := by decide +kernel
theorem dX1_layFront_76 : decode cX1_layFront 76 = .ok (.getfield 55, 3) := by decide +kernel
theorem dX1_layFront_79 : decode cX1_layFront 79 = .ok (.ifCond .eq 7, 3) := by decide +kernel
theorem dX1_layFront_82 : decode cX1_layFront 82 = .ok (.iconst 0, 1) := by decide +kernel
theorem dX1_layFront_83 : decode cX1_layFront 83 = .ok (.goto 24, 3) := by decide +kernel
theorem dX1_layFront_86 : decode cX1_layFront 86 = .ok (.aload_n 0, 1) := by decide +kernel
theorem dX1_layFront_87 : decode cX1_layFront 87 = .ok (.getfield 15, 3) := by decide +kernel
theorem dX1_layFront_90 : decode cX1_layFront 90 = .ok (.iload_n 1, 1) := by decide +kernel
theorem dX1_layFront_91 : decode cX1_layFront 91 = .ok (.iaload, 1) := by decide +kernel
theorem dX1_layFront_92 : decode cX1_layFront 92 = .ok (.aload_n 0, 1) := by decide +kernel
theorem dX1_layFront_93 : decode cX1_layFront 93 = .ok (.getfield 22, 3) := by decide +kernel
theorem dX1_layFront_96 : decode cX1_layFront 96 = .ok (.iload_n 1, 1) := by decide +kernel
theorem dX1_layFront_97 : decode cX1_layFront 97 = .ok (.iaload, 1) := by decide +kernel
theorem dX1_layFront_98 : decode cX1_layFront 98 = .ok (.aload_n 0, 1) := by decide +kernel
theorem dX1_layFront_99 : decode cX1_layFront 99 = .ok (.getfield 34, 3) := by decide +kernel
theorem dX1_layFront_102 : decode cX1_layFront 102 = .ok (.iload_n 1, 1) := by decide +kernel
theorem dX1_layFront_103 : decode cX1_layFront 103 = .ok (.iaload, 1) := by decide +kernel
theorem dX1_layFront_104 : decode cX1_layFront 104 = .ok (.invokestatic 77, 3) := by decide +kernel
theorem dX1_layFront_107 : decode cX1_layFront 107 = .ok (.putfield 52, 3) := by decide +kernel
theorem dX1_layFront_110 : decode cX1_layFront 110 = .ok (.aload_n 0, 1) := by decide +kernel
theorem dX1_layFront_111 : decode cX1_layFront 111 = .ok (.dup, 1) := by decide +kernel
theorem dX1_layFront_112 : decode cX1_layFront 112 = .ok (.getfield 40, 3) := by decide +kernel
theorem dX1_layFront_115 : decode cX1_layFront 115 = .ok (.iconst 1, 1) := by decide +kernel
theorem dX1_layFront_116 : decode cX1_layFront 116 = .ok (.isub, 1) := by decide +kernel
theorem dX1_layFront_117 : decode cX1_layFront 117 = .ok (.putfield 40, 3) := by decide +kernel
theorem dX1_layFront_120 : decode cX1_layFront 120 = .ok (.aload_n 0, 1) := by decide +kernel
theorem dX1_layFront_121 : decode cX1_layFront 121 = .ok (.getfield 37, 3) := by decide +kernel
theorem dX1_layFront_124 : decode cX1_layFront 124 = .ok (.iconst 1, 1) := by decide +kernel
theorem dX1_layFront_125 : decode cX1_layFront 125 = .ok (.aload_n 0, 1) := by decide +kernel
theorem dX1_layFront_126 : decode cX1_layFront 126 = .ok (.getfield 37, 3) := by decide +kernel
theorem dX1_layFront_129 : decode cX1_layFront 129 = .ok (.iconst 0, 1) := by decide +kernel
theorem dX1_layFront_130 : decode cX1_layFront 130 = .ok (.aload_n 0, 1) := by decide +kernel
theorem dX1_layFront_131 : decode cX1_layFront 131 = .ok (.getfield 40, 3) := by decide +kernel
theorem dX1_layFront_134 : decode cX1_layFront 134 = .ok (.invokestatic 59, 3) := by decide +kernel
theorem dX1_layFront_137 : decode cX1_layFront 137 = .ok (.aload_n 0, 1) := by decide +kernel
theorem dX1_layFront_138 : decode cX1_layFront 138 = .ok (.iload_n 1, 1) := by decide +kernel
theorem dX1_layFront_139 : decode cX1_layFront 139 = .ok (.iconst 2, 1) := by decide +kernel
theorem dX1_layFront_140 : decode cX1_layFront 140 = .ok (.invokevirtual 65, 3) := by decide +kernel
theorem dX1_layFront_143 : decode cX1_layFront 143 = .ok (.return_, 1) := by decide +kernel
theorem dX1_isLaidOf_0 : decode cX1_isLaidOf 0 = .ok (.aload_n 0, 1) := by decide +kernel
theorem dX1_isLaidOf_1 : decode cX1_isLaidOf 1 = .ok (.getfield 49, 3) := by decide +kernel
theorem dX1_isLaidOf_4 : decode cX1_isLaidOf 4 = .ok (.ifCond .lt 20, 3) := by decide +kernel
theorem dX1_isLaidOf_7 : decode cX1_isLaidOf 7 = .ok (.aload_n 0, 1) := by decide +kernel
theorem dX1_isLaidOf_8 : decode cX1_isLaidOf 8 = .ok (.getfield 25, 3) := by decide +kernel
theorem dX1_isLaidOf_11 : decode cX1_isLaidOf 11 = .ok (.aload_n 0, 1) := by decide +kernel
theorem dX1_isLaidOf_12 : decode cX1_isLaidOf 12 = .ok (.getfield 49, 3) := by decide +kernel
theorem dX1_isLaidOf_15 : decode cX1_isLaidOf 15 = .ok (.iaload, 1) := by decide +kernel
theorem dX1_isLaidOf_16 : decode cX1_isLaidOf 16 = .ok (.iload_n 1, 1) := by decide +kernel
theorem dX1_isLaidOf_17 : decode cX1_isLaidOf 17 = .ok (.if_icmp .ne 7, 3) := by decide +kernel
theorem dX1_isLaidOf_20 : decode cX1_isLaidOf 20 = .ok (.iconst 1, 1) := by decide +kernel
theorem dX1_isLaidOf_21 : decode cX1_isLaidOf 21 = .ok (.goto 4, 3) := by decide +kernel
theorem dX1_isLaidOf_24 : decode cX1_isLaidOf 24 = .ok (.iconst 0, 1) := by decide +kernel
theorem dX1_isLaidOf_25 : decode cX1_isLaidOf 25 = .ok (.ireturn, 1) := by decide +kernel
theorem dX1_laidLead_0 : decode cX1_laidLead 0 = .ok (.aload_n 0, 1) := by decide +kernel
theorem dX1_laidLead_1 : decode cX1_laidLead 1 = .ok (.iconst 1, 1) := by decide +kernel
theorem dX1_laidLead_2 : decode cX1_laidLead 2 = .ok (.invokevirtual 104, 3) := by decide +kernel
theorem dX1_laidLead_5 : decode cX1_laidLead 5 = .ok (.ifCond .eq 11, 3) := by decide +kernel
theorem dX1_laidLead_8 : decode cX1_laidLead 8 = .ok (.aload_n 0, 1) := by decide +kernel
theorem dX1_laidLead_9 : decode cX1_laidLead 9 = .ok (.getfield 52, 3) := by decide +kernel
theorem dX1_laidLead_12 : decode cX1_laidLead 12 = .ok (.ineg, 1) := by decide +kernel
theorem dX1_laidLead_13 : decode cX1_laidLead 13 = .ok (.goto 7, 3) := by decide +kernel
theorem dX1_laidLead_16 : decode cX1_laidLead 16 = .ok (.aload_n 0, 1) := by decide +kernel
theorem dX1_laidLead_17 : decode cX1_laidLead 17 = .ok (.getfield 52, 3) := by decide +kernel
theorem dX1_laidLead_20 : decode cX1_laidLead 20 = .ok (.ireturn, 1) := by decide +kernel
theorem dX2_left_0 : decode cX2_left 0 = .ok (.iload_n 0, 1) := by decide +kernel
theorem dX2_left_1 : decode cX2_left 1 = .ok (.tableswitch 75 1 6 #[39, 75, 43, 53, 39, 65], 39) := by decide +kernel
theorem dX2_left_40 : decode cX2_left 40 = .ok (.iload_n 1, 1) := by decide +kernel
theorem dX2_left_41 : decode cX2_left 41 = .ok (.iconst 2, 1) := by decide +kernel
theorem dX2_left_42 : decode cX2_left 42 = .ok (.idiv, 1) := by decide +kernel
theorem dX2_left_43 : decode cX2_left 43 = .ok (.ireturn, 1) := by decide +kernel
theorem dX2_left_44 : decode cX2_left 44 = .ok (.iconst 0, 1) := by decide +kernel
theorem dX2_left_45 : decode cX2_left 45 = .ok (.iload_n 1, 1) := by decide +kernel
theorem dX2_left_46 : decode cX2_left 46 = .ok (.iload_n 2, 1) := by decide +kernel
theorem dX2_left_47 : decode cX2_left 47 = .ok (.iconst 2, 1) := by decide +kernel
theorem dX2_left_48 : decode cX2_left 48 = .ok (.idiv, 1) := by decide +kernel
theorem dX2_left_49 : decode cX2_left 49 = .ok (.isub, 1) := by decide +kernel
theorem dX2_left_50 : decode cX2_left 50 = .ok (.invokestatic 9, 3) := by decide +kernel
theorem dX2_left_53 : decode cX2_left 53 = .ok (.ireturn, 1) := by decide +kernel
theorem dX2_left_54 : decode cX2_left 54 = .ok (.iconst 0, 1) := by decide +kernel
theorem dX2_left_55 : decode cX2_left 55 = .ok (.iload_n 1, 1) := by decide +kernel
theorem dX2_left_56 : decode cX2_left 56 = .ok (.iload_n 2, 1) := by decide +kernel
theorem dX2_left_57 : decode cX2_left 57 = .ok (.iconst 2, 1) := by decide +kernel
theorem dX2_left_58 : decode cX2_left 58 = .ok (.idiv, 1) := by decide +kernel
theorem dX2_left_59 : decode cX2_left 59 = .ok (.isub, 1) := by decide +kernel
theorem dX2_left_60 : decode cX2_left 60 = .ok (.invokestatic 9, 3) := by decide +kernel
theorem dX2_left_63 : decode cX2_left 63 = .ok (.iconst 5, 1) := by decide +kernel
theorem dX2_left_64 : decode cX2_left 64 = .ok (.iadd, 1) := by decide +kernel
theorem dX2_left_65 : decode cX2_left 65 = .ok (.ireturn, 1) := by decide +kernel
theorem dX2_left_66 : decode cX2_left 66 = .ok (.iload_n 2, 1) := by decide +kernel
theorem dX2_left_67 : decode cX2_left 67 = .ok (.ifCond .ne 7, 3) := by decide +kernel
theorem dX2_left_70 : decode cX2_left 70 = .ok (.iload_n 1, 1) := by decide +kernel
theorem dX2_left_71 : decode cX2_left 71 = .ok (.goto 4, 3) := by decide +kernel
theorem dX2_left_74 : decode cX2_left 74 = .ok (.iconst 0, 1) := by decide +kernel
theorem dX2_left_75 : decode cX2_left 75 = .ok (.ireturn, 1) := by decide +kernel
theorem dX2_left_76 : decode cX2_left 76 = .ok (.iconst 0, 1) := by decide +kernel
theorem dX2_left_77 : decode cX2_left 77 = .ok (.iload_n 1, 1) := by decide +kernel
theorem dX2_left_78 : decode cX2_left 78 = .ok (.iload_n 2, 1) := by decide +kernel
theorem dX2_left_79 : decode cX2_left 79 = .ok (.isub, 1) := by decide +kernel
theorem dX2_left_80 : decode cX2_left 80 = .ok (.invokestatic 9, 3) := by decide +kernel
theorem dX2_left_83 : decode cX2_left 83 = .ok (.ireturn, 1) := by decide +kernel
theorem dX2_isUnder_0 : decode cX2_isUnder 0 = .ok (.iload_n 0, 1) := by decide +kernel
theorem dX2_isUnder_1 : decode cX2_isUnder 1 = .ok (.istore_n 2, 1) := by decide +kernel
theorem dX2_isUnder_2 : decode cX2_isUnder 2 = .ok (.iconst 0, 1) := by decide +kernel
theorem dX2_isUnder_3 : decode cX2_isUnder 3 = .ok (.istore_n 3, 1) := by decide +kernel
theorem dX2_isUnder_4 : decode cX2_isUnder 4 = .ok (.iload_n 3, 1) := by decide +kernel
theorem dX2_isUnder_5 : decode cX2_isUnder 5 = .ok (.bipush 6, 2) := by decide +kernel
theorem dX2_isUnder_7 : decode cX2_isUnder 7 = .ok (.if_icmp .gt 24, 3) := by decide +kernel
theorem dX2_isUnder_10 : decode cX2_isUnder 10 = .ok (.iload_n 2, 1) := by decide +kernel
theorem dX2_isUnder_11 : decode cX2_isUnder 11 = .ok (.ifCond .le 20, 3) := by decide +kernel
theorem dX2_isUnder_14 : decode cX2_isUnder 14 = .ok (.iload_n 2, 1) := by decide +kernel
theorem dX2_isUnder_15 : decode cX2_isUnder 15 = .ok (.iload_n 1, 1) := by decide +kernel
theorem dX2_isUnder_16 : decode cX2_isUnder 16 = .ok (.if_icmp .eq 15, 3) := by decide +kernel
theorem dX2_isUnder_19 : decode cX2_isUnder 19 = .ok (.getstatic 15, 3) := by decide +kernel
theorem dX2_isUnder_22 : decode cX2_isUnder 22 = .ok (.iload_n 2, 1) := by decide +kernel
theorem dX2_isUnder_23 : decode cX2_isUnder 23 = .ok (.iaload, 1) := by decide +kernel
theorem dX2_isUnder_24 : decode cX2_isUnder 24 = .ok (.istore_n 2, 1) := by decide +kernel
theorem dX2_isUnder_25 : decode cX2_isUnder 25 = .ok (.iinc 3 1, 3) := by decide +kernel
theorem dX2_isUnder_28 : decode cX2_isUnder 28 = .ok (.goto (-24), 3) := by decide +kernel
theorem dX2_isUnder_31 : decode cX2_isUnder 31 = .ok (.iload_n 2, 1) := by decide +kernel
theorem dX2_isUnder_32 : decode cX2_isUnder 32 = .ok (.iload_n 1, 1) := by decide +kernel
theorem dX2_isUnder_33 : decode cX2_isUnder 33 = .ok (.if_icmp .ne 7, 3) := by decide +kernel
theorem dX2_isUnder_36 : decode cX2_isUnder 36 = .ok (.iconst 1, 1) := by decide +kernel
theorem dX2_isUnder_37 : decode cX2_isUnder 37 = .ok (.goto 4, 3) := by decide +kernel
theorem dX2_isUnder_40 : decode cX2_isUnder 40 = .ok (.iconst 0, 1) := by decide +kernel
theorem dX2_isUnder_41 : decode cX2_isUnder 41 = .ok (.ireturn, 1) := by decide +kernel
theorem dX3_init_0 : decode cX3_init 0 = .ok (.aload_n 0, 1) := by decide +kernel
theorem dX3_init_1 : decode cX3_init 1 = .ok (.invokespecial 3, 3) := by decide +kernel
theorem dX3_init_4 : decode cX3_init 4 = .ok (.aload_n 0, 1) := by decide +kernel
theorem dX3_init_5 : decode cX3_init 5 = .ok (.iconst 0, 1) := by decide +kernel
theorem dX3_init_6 : decode cX3_init 6 = .ok (.putfield 9, 3) := by decide +kernel
theorem dX3_init_9 : decode cX3_init 9 = .ok (.aload_n 0, 1) := by decide +kernel
theorem dX3_init_10 : decode cX3_init 10 = .ok (.iconst 0, 1) := by decide +kernel
theorem dX3_init_11 : decode cX3_init 11 = .ok (.putfield 15, 3) := by decide +kernel
theorem dX3_init_14 : decode cX3_init 14 = .ok (.aload_n 0, 1) := by decide +kernel
theorem dX3_init_15 : decode cX3_init 15 = .ok (.bipush 40, 2) := by decide +kernel
theorem dX3_init_17 : decode cX3_init 17 = .ok (.newarray .int, 2) := by decide +kernel
theorem dX3_init_19 : decode cX3_init 19 = .ok (.putfield 18, 3) := by decide +kernel
theorem dX3_init_22 : decode cX3_init 22 = .ok (.return_, 1) := by decide +kernel
theorem dX3_isMissing_0 : decode cX3_isMissing 0 = .ok (.aload_n 0, 1) := by decide +kernel
theorem dX3_isMissing_1 : decode cX3_isMissing 1 = .ok (.getfield 9, 3) := by decide +kernel
theorem dX3_isMissing_4 : decode cX3_isMissing 4 = .ok (.ifCond .ne 7, 3) := by decide +kernel
theorem dX3_isMissing_7 : decode cX3_isMissing 7 = .ok (.iconst 1, 1) := by decide +kernel
theorem dX3_isMissing_8 : decode cX3_isMissing 8 = .ok (.goto 4, 3) := by decide +kernel
theorem dX3_isMissing_11 : decode cX3_isMissing 11 = .ok (.iconst 0, 1) := by decide +kernel
theorem dX3_isMissing_12 : decode cX3_isMissing 12 = .ok (.ireturn, 1) := by decide +kernel
theorem dX3_begin_0 : decode cX3_begin 0 = .ok (.aload_n 0, 1) := by decide +kernel
theorem dX3_begin_1 : decode cX3_begin 1 = .ok (.iload_n 1, 1) := by decide +kernel
theorem dX3_begin_2 : decode cX3_begin 2 = .ok (.putfield 9, 3) := by decide +kernel
theorem dX3_begin_5 : decode cX3_begin 5 = .ok (.aload_n 0, 1) := by decide +kernel
theorem dX3_begin_6 : decode cX3_begin 6 = .ok (.iload_n 1, 1) := by decide +kernel
theorem dX3_begin_7 : decode cX3_begin 7 = .ok (.ifCond .ne 7, 3) := by decide +kernel
theorem dX3_begin_10 : decode cX3_begin 10 = .ok (.iconst 0, 1) := by decide +kernel
theorem dX3_begin_11 : decode cX3_begin 11 = .ok (.goto 4, 3) := by decide +kernel
theorem dX3_begin_14 : decode cX3_begin 14 = .ok (.iload_n 2, 1) := by decide +kernel
theorem dX3_begin_15 : decode cX3_begin 15 = .ok (.putfield 15, 3) := by decide +kernel
theorem dX3_begin_18 : decode cX3_begin 18 = .ok (.iconst 0, 1) := by decide +kernel
theorem dX3_begin_19 : decode cX3_begin 19 = .ok (.istore_n 3, 1) := by decide +kernel
theorem dX3_begin_20 : decode cX3_begin 20 = .ok (.iload_n 3, 1) := by decide +kernel
theorem dX3_begin_21 : decode cX3_begin 21 = .ok (.bipush 40, 2) := by decide +kernel
theorem dX3_begin_23 : decode cX3_begin 23 = .ok (.if_icmp .ge 16, 3) := by decide +kernel
theorem dX3_begin_26 : decode cX3_begin 26 = .ok (.aload_n 0, 1) := by decide +kernel
theorem dX3_begin_27 : decode cX3_begin 27 = .ok (.getfield 18, 3) := by decide +kernel
theorem dX3_begin_30 : decode cX3_begin 30 = .ok (.iload_n 3, 1) := by decide +kernel
theorem dX3_begin_31 : decode cX3_begin 31 = .ok (.iconst 0, 1) := by decide +kernel
theorem dX3_begin_32 : decode cX3_begin 32 = .ok (.iastore, 1) := by decide +kernel
theorem dX3_begin_33 : decode cX3_begin 33 = .ok (.iinc 3 1, 3) := by decide +kernel
theorem dX3_begin_36 : decode cX3_begin 36 = .ok (.goto (-16), 3) := by decide +kernel
theorem dX3_begin_39 : decode cX3_begin 39 = .ok (.return_, 1) := by decide +kernel
theorem dX3_put_0 : decode cX3_put 0 = .ok (.aload_n 0, 1) := by decide +kernel
theorem dX3_put_1 : decode cX3_put 1 = .ok (.getfield 9, 3) := by decide +kernel
theorem dX3_put_4 : decode cX3_put 4 = .ok (.lookupswitch 50 #[(8, 28), (16, 39)], 28) := by decide +kernel
theorem dX3_put_32 : decode cX3_put 32 = .ok (.aload_n 0, 1) := by decide +kernel
theorem dX3_put_33 : decode cX3_put 33 = .ok (.getfield 18, 3) := by decide +kernel
theorem dX3_put_36 : decode cX3_put 36 = .ok (.iload_n 1, 1) := by decide +kernel
theorem dX3_put_37 : decode cX3_put 37 = .ok (.iload_n 2, 1) := by decide +kernel
theorem dX3_put_38 : decode cX3_put 38 = .ok (.i2b, 1) := by decide +kernel
theorem dX3_put_39 : decode cX3_put 39 = .ok (.iastore, 1) := by decide +kernel
theorem dX3_put_40 : decode cX3_put 40 = .ok (.goto 21, 3) := by decide +kernel
theorem dX3_put_43 : decode cX3_put 43 = .ok (.aload_n 0, 1) := by decide +kernel
theorem dX3_put_44 : decode cX3_put 44 = .ok (.getfield 18, 3) := by decide +kernel
theorem dX3_put_47 : decode cX3_put 47 = .ok (.iload_n 1, 1) := by decide +kernel
theorem dX3_put_48 : decode cX3_put 48 = .ok (.iload_n 2, 1) := by decide +kernel
theorem dX3_put_49 : decode cX3_put 49 = .ok (.i2s, 1) := by decide +kernel
theorem dX3_put_50 : decode cX3_put 50 = .ok (.iastore, 1) := by decide +kernel
theorem dX3_put_51 : decode cX3_put 51 = .ok (.goto 10, 3) := by decide +kernel
theorem dX3_put_54 : decode cX3_put 54 = .ok (.aload_n 0, 1) := by decide +kernel
theorem dX3_put_55 : decode cX3_put 55 = .ok (.getfield 18, 3) := by decide +kernel
theorem dX3_put_58 : decode cX3_put 58 = .ok (.iload_n 1, 1) := by decide +kernel
theorem dX3_put_59 : decode cX3_put 59 = .ok (.iload_n 2, 1) := by decide +kernel
theorem dX3_put_60 : decode cX3_put 60 = .ok (.iastore, 1) := by decide +kernel
theorem dX3_put_61 : decode cX3_put 61 = .ok (.return_, 1) := by decide +kernel
theorem dX3_hasPart_0 : decode cX3_hasPart 0 = .ok (.iload_n 1, 1) := by decide +kernel
theorem dX3_hasPart_1 : decode cX3_hasPart 1 = .ok (.ifCond .lt 29, 3) := by decide +kernel
theorem dX3_hasPart_4 : decode cX3_hasPart 4 = .ok (.iload_n 2, 1) := by decide +kernel
theorem dX3_hasPart_5 : decode cX3_hasPart 5 = .ok (.ifCond .lt 25, 3) := by decide +kernel
theorem dX3_hasPart_8 : decode cX3_hasPart 8 = .ok (.iload_n 2, 1) := by decide +kernel
theorem dX3_hasPart_9 : decode cX3_hasPart 9 = .ok (.aload_n 0, 1) := by decide +kernel
theorem dX3_hasPart_10 : decode cX3_hasPart 10 = .ok (.getfield 15, 3) := by decide +kernel
theorem dX3_hasPart_13 : decode cX3_hasPart 13 = .ok (.if_icmp .gt 17, 3) := by decide +kernel
theorem dX3_hasPart_16 : decode cX3_hasPart 16 = .ok (.iload_n 1, 1) := by decide +kernel
theorem dX3_hasPart_17 : decode cX3_hasPart 17 = .ok (.aload_n 0, 1) := by decide +kernel
theorem dX3_hasPart_18 : decode cX3_hasPart 18 = .ok (.getfield 15, 3) := by decide +kernel
theorem dX3_hasPart_21 : decode cX3_hasPart 21 = .ok (.iload_n 2, 1) := by decide +kernel
theorem dX3_hasPart_22 : decode cX3_hasPart 22 = .ok (.isub, 1) := by decide +kernel
theorem dX3_hasPart_23 : decode cX3_hasPart 23 = .ok (.if_icmp .gt 7, 3) := by decide +kernel
theorem dX3_hasPart_26 : decode cX3_hasPart 26 = .ok (.iconst 1, 1) := by decide +kernel
theorem dX3_hasPart_27 : decode cX3_hasPart 27 = .ok (.goto 4, 3) := by decide +kernel
theorem dX3_hasPart_30 : decode cX3_hasPart 30 = .ok (.iconst 0, 1) := by decide +kernel
theorem dX3_hasPart_31 : decode cX3_hasPart 31 = .ok (.ireturn, 1) := by decide +kernel
theorem dX4_init_0 : decode cX4_init 0 = .ok (.aload_n 0, 1) := by decide +kernel
theorem dX4_init_1 : decode cX4_init 1 = .ok (.invokespecial 3, 3) := by decide +kernel
theorem dX4_init_4 : decode cX4_init 4 = .ok (.aload_n 0, 1) := by decide +kernel
theorem dX4_init_5 : decode cX4_init 5 = .ok (.bipush 120, 2) := by decide +kernel
theorem dX4_init_7 : decode cX4_init 7 = .ok (.newarray .int, 2) := by decide +kernel
theorem dX4_init_9 : decode cX4_init 9 = .ok (.putfield 9, 3) := by decide +kernel
theorem dX4_init_12 : decode cX4_init 12 = .ok (.aload_n 0, 1) := by decide +kernel
theorem dX4_init_13 : decode cX4_init 13 = .ok (.iconst 0, 1) := by decide +kernel
theorem dX4_init_14 : decode cX4_init 14 = .ok (.putfield 15, 3) := by decide +kernel
theorem dX4_init_17 : decode cX4_init 17 = .ok (.aload_n 0, 1) := by decide +kernel
theorem dX4_init_18 : decode cX4_init 18 = .ok (.bipush 121, 2) := by decide +kernel
theorem dX4_init_20 : decode cX4_init 20 = .ok (.newarray .int, 2) := by decide +kernel
theorem dX4_init_22 : decode cX4_init 22 = .ok (.putfield 19, 3) := by decide +kernel
theorem dX4_init_25 : decode cX4_init 25 = .ok (.aload_n 0, 1) := by decide +kernel
theorem dX4_init_26 : decode cX4_init 26 = .ok (.bipush 121, 2) := by decide +kernel
theorem dX4_init_28 : decode cX4_init 28 = .ok (.newarray .int, 2) := by decide +kernel
theorem dX4_init_30 : decode cX4_init 30 = .ok (.putfield 22, 3) := by decide +kernel
theorem dX4_init_33 : decode cX4_init 33 = .ok (.aload_n 0, 1) := by decide +kernel
theorem dX4_init_34 : decode cX4_init 34 = .ok (.bipush 121, 2) := by decide +kernel
theorem dX4_init_36 : decode cX4_init 36 = .ok (.newarray .int, 2) := by decide +kernel
theorem dX4_init_38 : decode cX4_init 38 = .ok (.putfield 25, 3) := by decide +kernel
theorem dX4_init_41 : decode cX4_init 41 = .ok (.aload_n 0, 1) := by decide +kernel
theorem dX4_init_42 : decode cX4_init 42 = .ok (.iconst 0, 1) := by decide +kernel
theorem dX4_init_43 : decode cX4_init 43 = .ok (.putfield 28, 3) := by decide +kernel
theorem dX4_init_46 : decode cX4_init 46 = .ok (.aload_n 0, 1) := by decide +kernel
theorem dX4_init_47 : decode cX4_init 47 = .ok (.iconst 0, 1) := by decide +kernel
theorem dX4_init_48 : decode cX4_init 48 = .ok (.putfield 31, 3) := by decide +kernel
theorem dX4_init_51 : decode cX4_init 51 = .ok (.return_, 1) := by decide +kernel
theorem dX4_append_0 : decode cX4_append 0 = .ok (.aload_n 0, 1) := by decide +kernel
theorem dX4_append_1 : decode cX4_append 1 = .ok (.getfield 15, 3) := by decide +kernel
theorem dX4_append_4 : decode cX4_append 4 = .ok (.bipush 120, 2) := by decide +kernel
theorem dX4_append_6 : decode cX4_append 6 = .ok (.if_icmp .ge 23, 3) := by decide +kernel
theorem dX4_append_9 : decode cX4_append 9 = .ok (.aload_n 0, 1) := by decide +kernel
theorem dX4_append_10 : decode cX4_append 10 = .ok (.getfield 9, 3) := by decide +kernel
theorem dX4_append_13 : decode cX4_append 13 = .ok (.aload_n 0, 1) := by decide +kernel
theorem dX4_append_14 : decode cX4_append 14 = .ok (.getfield 15, 3) := by decide +kernel
theorem dX4_append_17 : decode cX4_append 17 = .ok (.iload_n 1, 1) := by decide +kernel
theorem dX4_append_18 : decode cX4_append 18 = .ok (.iastore, 1) := by decide +kernel
theorem dX4_append_19 : decode cX4_append 19 = .ok (.aload_n 0, 1) := by decide +kernel
theorem dX4_append_20 : decode cX4_append 20 = .ok (.dup, 1) := by decide +kernel
theorem dX4_append_21 : decode cX4_append 21 = .ok (.getfield 15, 3) := by decide +kernel
theorem dX4_append_24 : decode cX4_append 24 = .ok (.iconst 1, 1) := by decide +kernel
theorem dX4_append_25 : decode cX4_append 25 = .ok (.iadd, 1) := by decide +kernel
theorem dX4_append_26 : decode cX4_append 26 = .ok (.putfield 15, 3) := by decide +kernel
theorem dX4_append_29 : decode cX4_append 29 = .ok (.return_, 1) := by decide +kernel
theorem dX4_readTokens_0 : decode cX4_readTokens 0 = .ok (.aload_n 0, 1) := by decide +kernel
theorem dX4_readTokens_1 : decode cX4_readTokens 1 = .ok (.iconst 0, 1) := by decide +kernel
theorem dX4_readTokens_2 : decode cX4_readTokens 2 = .ok (.putfield 28, 3) := by decide +kernel
theorem dX4_readTokens_5 : decode cX4_readTokens 5 = .ok (.iconst 0, 1) := by decide +kernel
theorem dX4_readTokens_6 : decode cX4_readTokens 6 = .ok (.istore_n 1, 1) := by decide +kernel
theorem dX4_readTokens_7 : decode cX4_readTokens 7 = .ok (.iconst 0, 1) := by decide +kernel
theorem dX4_readTokens_8 : decode cX4_readTokens 8 = .ok (.istore_n 2, 1) := by decide +kernel
theorem dX4_readTokens_9 : decode cX4_readTokens 9 = .ok (.iload_n 2, 1) := by decide +kernel
theorem dX4_readTokens_10 : decode cX4_readTokens 10 = .ok (.bipush 120, 2) := by decide +kernel
theorem dX4_readTokens_12 : decode cX4_readTokens 12 = .ok (.if_icmp .ge 40, 3) := by decide +kernel
theorem dX4_readTokens_15 : decode cX4_readTokens 15 = .ok (.iload_n 1, 1) := by decide +kernel
theorem dX4_readTokens_16 : decode cX4_readTokens 16 = .ok (.aload_n 0, 1) := by decide +kernel
theorem dX4_readTokens_17 : decode cX4_readTokens 17 = .ok (.getfield 15, 3) := by decide +kernel
theorem dX4_readTokens_20 : decode cX4_readTokens 20 = .ok (.if_icmp .ge 32, 3) := by decide +kernel
theorem dX4_readTokens_23 : decode cX4_readTokens 23 = .ok (.aload_n 0, 1) := by decide +kernel
theorem dX4_readTokens_24 : decode cX4_readTokens 24 = .ok (.getfield 9, 3) := by decide +kernel
theorem dX4_readTokens_27 : decode cX4_readTokens 27 = .ok (.iload_n 1, 1) := by decide +kernel
theorem dX4_readTokens_28 : decode cX4_readTokens 28 = .ok (.iaload, 1) := by decide +kernel
theorem dX4_readTokens_29 : decode cX4_readTokens 29 = .ok (.bipush 32, 2) := by decide +kernel
theorem dX4_readTokens_31 : decode cX4_readTokens 31 = .ok (.if_icmp .ne 9, 3) := by decide +kernel
theorem dX4_readTokens_34 : decode cX4_readTokens 34 = .ok (.iload_n 1, 1) := by decide +kernel
theorem dX4_readTokens_35 : decode cX4_readTokens 35 = .ok (.iconst 1, 1) := by decide +kernel
theorem dX4_readTokens_36 : decode cX4_readTokens 36 = .ok (.iadd, 1) := by decide +kernel
theorem dX4_readTokens_37 : decode cX4_readTokens 37 = .ok (.goto 8, 3) := by decide +kernel
theorem dX4_readTokens_40 : decode cX4_readTokens 40 = .ok (.aload_n 0, 1) := by decide +kernel
theorem dX4_readTokens_41 : decode cX4_readTokens 41 = .ok (.iload_n 1, 1) := by decide +kernel
theorem dX4_readTokens_42 : decode cX4_readTokens 42 = .ok (.invokevirtual 34, 3) := by decide +kernel
theorem dX4_readTokens_45 : decode cX4_readTokens 45 = .ok (.istore_n 1, 1) := by decide +kernel
theorem dX4_readTokens_46 : decode cX4_readTokens 46 = .ok (.iinc 2 1, 3) := by decide +kernel
theorem dX4_readTokens_49 : decode cX4_readTokens 49 = .ok (.goto (-40), 3) := by decide +kernel
theorem dX4_readTokens_52 : decode cX4_readTokens 52 = .ok (.aload_n 0, 1) := by decide +kernel
theorem dX4_readTokens_53 : decode cX4_readTokens 53 = .ok (.iconst 0, 1) := by decide +kernel
theorem dX4_readTokens_54 : decode cX4_readTokens 54 = .ok (.aload_n 0, 1) := by decide +kernel
theorem dX4_readTokens_55 : decode cX4_readTokens 55 = .ok (.getfield 15, 3) := by decide +kernel
theorem dX4_readTokens_58 : decode cX4_readTokens 58 = .ok (.iconst 0, 1) := by decide +kernel
theorem dX4_readTokens_59 : decode cX4_readTokens 59 = .ok (.invokevirtual 38, 3) := by decide +kernel
theorem dX4_readTokens_62 : decode cX4_readTokens 62 = .ok (.return_, 1) := by decide +kernel
theorem dX4_addToken_0 : decode cX4_addToken 0 = .ok (.aload_n 0, 1) := by decide +kernel
theorem dX4_addToken_1 : decode cX4_addToken 1 = .ok (.getfield 28, 3) := by decide +kernel
theorem dX4_addToken_4 : decode cX4_addToken 4 = .ok (.aload_n 0, 1) := by decide +kernel
theorem dX4_addToken_5 : decode cX4_addToken 5 = .ok (.getfield 19, 3) := by decide +kernel
theorem dX4_addToken_8 : decode cX4_addToken 8 = .ok (.arraylength, 1) := by decide +kernel
theorem dX4_addToken_9 : decode cX4_addToken 9 = .ok (.if_icmp .ge 43, 3) := by decide +kernel
theorem dX4_addToken_12 : decode cX4_addToken 12 = .ok (.aload_n 0, 1) := by decide +kernel
theorem dX4_addToken_13 : decode cX4_addToken 13 = .ok (.getfield 19, 3) := by decide +kernel
theorem dX4_addToken_16 : decode cX4_addToken 16 = .ok (.aload_n 0, 1) := by decide +kernel
theorem dX4_addToken_17 : decode cX4_addToken 17 = .ok (.getfield 28, 3) := by decide +kernel
theorem dX4_addToken_20 : decode cX4_addToken 20 = .ok (.iload_n 1, 1) := by decide +kernel
theorem dX4_addToken_21 : decode cX4_addToken 21 = .ok (.iastore, 1) := by decide +kernel
theorem dX4_addToken_22 : decode cX4_addToken 22 = .ok (.aload_n 0, 1) := by decide +kernel
theorem dX4_addToken_23 : decode cX4_addToken 23 = .ok (.getfield 22, 3) := by decide +kernel
theorem dX4_addToken_26 : decode cX4_addToken 26 = .ok (.aload_n 0, 1) := by decide +kernel
theorem dX4_addToken_27 : decode cX4_addToken 27 = .ok (.getfield 28, 3) := by decide +kernel
theorem dX4_addToken_30 : decode cX4_addToken 30 = .ok (.iload_n 2, 1) := by decide +kernel
theorem dX4_addToken_31 : decode cX4_addToken 31 = .ok (.iastore, 1) := by decide +kernel
theorem dX4_addToken_32 : decode cX4_addToken 32 = .ok (.aload_n 0, 1) := by decide +kernel
theorem dX4_addToken_33 : decode cX4_addToken 33 = .ok (.getfield 25, 3) := by decide +kernel
theorem dX4_addToken_36 : decode cX4_addToken 36 = .ok (.aload_n 0, 1) := by decide +kernel
theorem dX4_addToken_37 : decode cX4_addToken 37 = .ok (.getfield 28, 3) := by decide +kernel
theorem dX4_addToken_40 : decode cX4_addToken 40 = .ok (.iload_n 3, 1) := by decide +kernel
theorem dX4_addToken_41 : decode cX4_addToken 41 = .ok (.iastore, 1) := by decide +kernel
theorem dX4_addToken_42 : decode cX4_addToken 42 = .ok (.aload_n 0, 1) := by decide +kernel
theorem dX4_addToken_43 : decode cX4_addToken 43 = .ok (.dup, 1) := by decide +kernel
theorem dX4_addToken_44 : decode cX4_addToken 44 = .ok (.getfield 28, 3) := by decide +kernel
theorem dX4_addToken_47 : decode cX4_addToken 47 = .ok (.iconst 1, 1) := by decide +kernel
theorem dX4_addToken_48 : decode cX4_addToken 48 = .ok (.iadd, 1) := by decide +kernel
theorem dX4_addToken_49 : decode cX4_addToken 49 = .ok (.putfield 28, 3) := by decide +kernel
theorem dX4_addToken_52 : decode cX4_addToken 52 = .ok (.return_, 1) := by decide +kernel
theorem dX4_readToken_0 : decode cX4_readToken 0 = .ok (.iload_n 1, 1) := by decide +kernel
theorem dX4_readToken_1 : decode cX4_readToken 1 = .ok (.iconst 1, 1) := by decide +kernel
theorem dX4_readToken_2 : decode cX4_readToken 2 = .ok (.iadd, 1) := by decide +kernel
theorem dX4_readToken_3 : decode cX4_readToken 3 = .ok (.istore_n 2, 1) := by decide +kernel
theorem dX4_readToken_4 : decode cX4_readToken 4 = .ok (.aload_n 0, 1) := by decide +kernel
theorem dX4_readToken_5 : decode cX4_readToken 5 = .ok (.getfield 9, 3) := by decide +kernel
theorem dX4_readToken_8 : decode cX4_readToken 8 = .ok (.iload_n 1, 1) := by decide +kernel
theorem dX4_readToken_9 : decode cX4_readToken 9 = .ok (.iaload, 1) := by decide +kernel
theorem dX4_readToken_10 : decode cX4_readToken 10 = .ok (.invokestatic 42, 3) := by decide +kernel
theorem dX4_readToken_13 : decode cX4_readToken 13 = .ok (.ifCond .eq 44, 3) := by decide +kernel
theorem dX4_readToken_16 : decode cX4_readToken 16 = .ok (.iload_n 2, 1) := by decide +kernel
theorem dX4_readToken_17 : decode cX4_readToken 17 = .ok (.aload_n 0, 1) := by decide +kernel
theorem dX4_readToken_18 : decode cX4_readToken 18 = .ok (.getfield 15, 3) := by decide +kernel
theorem dX4_readToken_21 : decode cX4_readToken 21 = .ok (.if_icmp .ge 21, 3) := by decide +kernel
theorem dX4_readToken_24 : decode cX4_readToken 24 = .ok (.aload_n 0, 1) := by decide +kernel
theorem dX4_readToken_25 : decode cX4_readToken 25 = .ok (.getfield 9, 3) := by decide +kernel
theorem dX4_readToken_28 : decode cX4_readToken 28 = .ok (.iload_n 2, 1) := by decide +kernel
theorem dX4_readToken_29 : decode cX4_readToken 29 = .ok (.iaload, 1) := by decide +kernel
theorem dX4_readToken_30 : decode cX4_readToken 30 = .ok (.invokestatic 42, 3) := by decide +kernel
theorem dX4_readToken_33 : decode cX4_readToken 33 = .ok (.ifCond .eq 9, 3) := by decide +kernel
theorem dX4_readToken_36 : decode cX4_readToken 36 = .ok (.iinc 2 1, 3) := by decide +kernel
theorem dX4_readToken_39 : decode cX4_readToken 39 = .ok (.goto (-23), 3) := by decide +kernel
theorem dX4_readToken_42 : decode cX4_readToken 42 = .ok (.aload_n 0, 1) := by decide +kernel
theorem dX4_readToken_43 : decode cX4_readToken 43 = .ok (.iconst 1, 1) := by decide +kernel
theorem dX4_readToken_44 : decode cX4_readToken 44 = .ok (.iload_n 1, 1) := by decide +kernel
theorem dX4_readToken_45 : decode cX4_readToken 45 = .ok (.aload_n 0, 1) := by decide +kernel
theorem dX4_readToken_46 : decode cX4_readToken 46 = .ok (.iload_n 1, 1) := by decide +kernel
theorem dX4_readToken_47 : decode cX4_readToken 47 = .ok (.iload_n 2, 1) := by decide +kernel
theorem dX4_readToken_48 : decode cX4_readToken 48 = .ok (.invokevirtual 46, 3) := by decide +kernel
theorem dX4_readToken_51 : decode cX4_readToken 51 = .ok (.invokevirtual 38, 3) := by decide +kernel
theorem dX4_readToken_54 : decode cX4_readToken 54 = .ok (.goto 78, 3) := by decide +kernel
theorem dX4_readToken_57 : decode cX4_readToken 57 = .ok (.aload_n 0, 1) := by decide +kernel
theorem dX4_readToken_58 : decode cX4_readToken 58 = .ok (.getfield 9, 3) := by decide +kernel
theorem dX4_readToken_61 : decode cX4_readToken 61 = .ok (.iload_n 1, 1) := by decide +kernel
theorem dX4_readToken_62 : decode cX4_readToken 62 = .ok (.iaload, 1) := by decide +kernel
theorem dX4_readToken_63 : decode cX4_readToken 63 = .ok (.invokestatic 50, 3) := by decide +kernel
theorem dX4_readToken_66 : decode cX4_readToken 66 = .ok (.ifCond .eq 44, 3) := by decide +kernel
theorem dX4_readToken_69 : decode cX4_readToken 69 = .ok (.iload_n 2, 1) := by decide +kernel
theorem dX4_readToken_70 : decode cX4_readToken 70 = .ok (.aload_n 0, 1) := by decide +kernel
theorem dX4_readToken_71 : decode cX4_readToken 71 = .ok (.getfield 15, 3) := by decide +kernel
theorem dX4_readToken_74 : decode cX4_readToken 74 = .ok (.if_icmp .ge 21, 3) := by decide +kernel
theorem dX4_readToken_77 : decode cX4_readToken 77 = .ok (.aload_n 0, 1) := by decide +kernel
theorem dX4_readToken_78 : decode cX4_readToken 78 = .ok (.getfield 9, 3) := by decide +kernel
theorem dX4_readToken_81 : decode cX4_readToken 81 = .ok (.iload_n 2, 1) := by decide +kernel
theorem dX4_readToken_82 : decode cX4_readToken 82 = .ok (.iaload, 1) := by decide +kernel
theorem dX4_readToken_83 : decode cX4_readToken 83 = .ok (.invokestatic 50, 3) := by decide +kernel
theorem dX4_readToken_86 : decode cX4_readToken 86 = .ok (.ifCond .eq 9, 3) := by decide +kernel
theorem dX4_readToken_89 : decode cX4_readToken 89 = .ok (.iinc 2 1, 3) := by decide +kernel
theorem dX4_readToken_92 : decode cX4_readToken 92 = .ok (.goto (-23), 3) := by decide +kernel
theorem dX4_readToken_95 : decode cX4_readToken 95 = .ok (.aload_n 0, 1) := by decide +kernel
theorem dX4_readToken_96 : decode cX4_readToken 96 = .ok (.iconst 2, 1) := by decide +kernel
theorem dX4_readToken_97 : decode cX4_readToken 97 = .ok (.iload_n 1, 1) := by decide +kernel
theorem dX4_readToken_98 : decode cX4_readToken 98 = .ok (.aload_n 0, 1) := by decide +kernel
theorem dX4_readToken_99 : decode cX4_readToken 99 = .ok (.iload_n 1, 1) := by decide +kernel
theorem dX4_readToken_100 : decode cX4_readToken 100 = .ok (.iload_n 2, 1) := by decide +kernel
theorem dX4_readToken_101 : decode cX4_readToken 101 = .ok (.invokevirtual 53, 3) := by decide +kernel
theorem dX4_readToken_104 : decode cX4_readToken 104 = .ok (.invokevirtual 38, 3) := by decide +kernel
theorem dX4_readToken_107 : decode cX4_readToken 107 = .ok (.goto 25, 3) := by decide +kernel
theorem dX4_readToken_110 : decode cX4_readToken 110 = .ok (.aload_n 0, 1) := by decide +kernel
theorem dX4_readToken_111 : decode cX4_readToken 111 = .ok (.aload_n 0, 1) := by decide +kernel
theorem dX4_readToken_112 : decode cX4_readToken 112 = .ok (.getfield 9, 3) := by decide +kernel
theorem dX4_readToken_115 : decode cX4_readToken 115 = .ok (.iload_n 1, 1) := by decide +kernel
theorem dX4_readToken_116 : decode cX4_readToken 116 = .ok (.iaload, 1) := by decide +kernel
theorem dX4_readToken_117 : decode cX4_readToken 117 = .ok (.bipush 59, 2) := by decide +kernel
theorem dX4_readToken_119 : decode cX4_readToken 119 = .ok (.if_icmp .ne 7, 3) := by decide +kernel
theorem dX4_readToken_122 : decode cX4_readToken 122 = .ok (.iconst 3, 1) := by decide +kernel
theorem dX4_readToken_123 : decode cX4_readToken 123 = .ok (.goto 4, 3) := by decide +kernel
theorem dX4_readToken_126 : decode cX4_readToken 126 = .ok (.iconst 4, 1) := by decide +kernel
theorem dX4_readToken_127 : decode cX4_readToken 127 = .ok (.iload_n 1, 1) := by decide +kernel
theorem dX4_readToken_128 : decode cX4_readToken 128 = .ok (.iconst 0, 1) := by decide +kernel
theorem dX4_readToken_129 : decode cX4_readToken 129 = .ok (.invokevirtual 38, 3) := by decide +kernel
theorem dX4_readToken_132 : decode cX4_readToken 132 = .ok (.iload_n 2, 1) := by decide +kernel
theorem dX4_readToken_133 : decode cX4_readToken 133 = .ok (.ireturn, 1) := by decide +kernel
theorem dX4_isLetter_0 : decode cX4_isLetter 0 = .ok (.iload_n 0, 1) := by decide +kernel
theorem dX4_isLetter_1 : decode cX4_isLetter 1 = .ok (.bipush 97, 2) := by decide +kernel
theorem dX4_isLetter_3 : decode cX4_isLetter 3 = .ok (.if_icmp .lt 13, 3) := by decide +kernel
theorem dX4_isLetter_6 : decode cX4_isLetter 6 = .ok (.iload_n 0, 1) := by decide +kernel
theorem dX4_isLetter_7 : decode cX4_isLetter 7 = .ok (.bipush 122, 2) := by decide +kernel
theorem dX4_isLetter_9 : decode cX4_isLetter 9 = .ok (.if_icmp .gt 7, 3) := by decide +kernel
theorem dX4_isLetter_12 : decode cX4_isLetter 12 = .ok (.iconst 1, 1) := by decide +kernel
theorem dX4_isLetter_13 : decode cX4_isLetter 13 = .ok (.goto 4, 3) := by decide +kernel
theorem dX4_isLetter_16 : decode cX4_isLetter 16 = .ok (.iconst 0, 1) := by decide +kernel
theorem dX4_isLetter_17 : decode cX4_isLetter 17 = .ok (.ireturn, 1) := by decide +kernel
theorem dX4_isDigit_0 : decode cX4_isDigit 0 = .ok (.iload_n 0, 1) := by decide +kernel
theorem dX4_isDigit_1 : decode cX4_isDigit 1 = .ok (.bipush 48, 2) := by decide +kernel
theorem dX4_isDigit_3 : decode cX4_isDigit 3 = .ok (.if_icmp .lt 13, 3) := by decide +kernel
theorem dX4_isDigit_6 : decode cX4_isDigit 6 = .ok (.iload_n 0, 1) := by decide +kernel
theorem dX4_isDigit_7 : decode cX4_isDigit 7 = .ok (.bipush 57, 2) := by decide +kernel
theorem dX4_isDigit_9 : decode cX4_isDigit 9 = .ok (.if_icmp .gt 7, 3) := by decide +kernel
theorem dX4_isDigit_12 : decode cX4_isDigit 12 = .ok (.iconst 1, 1) := by decide +kernel
theorem dX4_isDigit_13 : decode cX4_isDigit 13 = .ok (.goto 4, 3) := by decide +kernel
theorem dX4_isDigit_16 : decode cX4_isDigit 16 = .ok (.iconst 0, 1) := by decide +kernel
theorem dX4_isDigit_17 : decode cX4_isDigit 17 = .ok (.ireturn, 1) := by decide +kernel
theorem dX4_numberBetween_0 : decode cX4_numberBetween 0 = .ok (.iconst 0, 1) := by decide +kernel
theorem dX4_numberBetween_1 : decode cX4_numberBetween 1 = .ok (.istore_n 3, 1) := by decide +kernel
theorem dX4_numberBetween_2 : decode cX4_numberBetween 2 = .ok (.iload_n 1, 1) := by decide +kernel
theorem dX4_numberBetween_3 : decode cX4_numberBetween 3 = .ok (.istore 4, 2) := by decide +kernel
theorem dX4_numberBetween_5 : decode cX4_numberBetween 5 = .ok (.iload 4, 2) := by decide +kernel
theorem dX4_numberBetween_7 : decode cX4_numberBetween 7 = .ok (.iload_n 2, 1) := by decide +kernel
theorem dX4_numberBetween_8 : decode cX4_numberBetween 8 = .ok (.if_icmp .ge 31, 3) := by decide +kernel
theorem dX4_numberBetween_11 : decode cX4_numberBetween 11 = .ok (.sipush 1000, 3) := by decide +kernel
theorem dX4_numberBetween_14 : decode cX4_numberBetween 14 = .ok (.iload_n 3, 1) := by decide +kernel
theorem dX4_numberBetween_15 : decode cX4_numberBetween 15 = .ok (.bipush 10, 2) := by decide +kernel
theorem dX4_numberBetween_17 : decode cX4_numberBetween 17 = .ok (.imul, 1) := by decide +kernel
theorem dX4_numberBetween_18 : decode cX4_numberBetween 18 = .ok (.aload_n 0, 1) := by decide +kernel
theorem dX4_numberBetween_19 : decode cX4_numberBetween 19 = .ok (.getfield 9, 3) := by decide +kernel
theorem dX4_numberBetween_22 : decode cX4_numberBetween 22 = .ok (.iload 4, 2) := by decide +kernel
theorem dX4_numberBetween_24 : decode cX4_numberBetween 24 = .ok (.iaload, 1) := by decide +kernel
theorem dX4_numberBetween_25 : decode cX4_numberBetween 25 = .ok (.iadd, 1) := by decide +kernel
theorem dX4_numberBetween_26 : decode cX4_numberBetween 26 = .ok (.bipush 48, 2) := by decide +kernel
theorem dX4_numberBetween_28 : decode cX4_numberBetween 28 = .ok (.isub, 1) := by decide +kernel
theorem dX4_numberBetween_29 : decode cX4_numberBetween 29 = .ok (.invokestatic 56, 3) := by decide +kernel
theorem dX4_numberBetween_32 : decode cX4_numberBetween 32 = .ok (.istore_n 3, 1) := by decide +kernel
theorem dX4_numberBetween_33 : decode cX4_numberBetween 33 = .ok (.iinc 4 1, 3) := by decide +kernel
theorem dX4_numberBetween_36 : decode cX4_numberBetween 36 = .ok (.goto (-31), 3) := by decide +kernel
theorem dX4_numberBetween_39 : decode cX4_numberBetween 39 = .ok (.iload_n 3, 1) := by decide +kernel
theorem dX4_numberBetween_40 : decode cX4_numberBetween 40 = .ok (.ireturn, 1) := by decide +kernel
theorem dX4_wordBetween_0 : decode cX4_wordBetween 0 = .ok (.iconst 0, 1) := by decide +kernel
theorem dX4_wordBetween_1 : decode cX4_wordBetween 1 = .ok (.istore_n 3, 1) := by decide +kernel
theorem dX4_wordBetween_2 : decode cX4_wordBetween 2 = .ok (.iload_n 3, 1) := by decide +kernel
theorem dX4_wordBetween_3 : decode cX4_wordBetween 3 = .ok (.bipush 11, 2) := by decide +kernel
theorem dX4_wordBetween_5 : decode cX4_wordBetween 5 = .ok (.if_icmp .gt 24, 3) := by decide +kernel
theorem dX4_wordBetween_8 : decode cX4_wordBetween 8 = .ok (.aload_n 0, 1) := by decide +kernel
theorem dX4_wordBetween_9 : decode cX4_wordBetween 9 = .ok (.iload_n 3, 1) := by decide +kernel
theorem dX4_wordBetween_10 : decode cX4_wordBetween 10 = .ok (.invokestatic 61, 3) := by decide +kernel
theorem dX4_wordBetween_13 : decode cX4_wordBetween 13 = .ok (.iload_n 1, 1) := by decide +kernel
theorem dX4_wordBetween_14 : decode cX4_wordBetween 14 = .ok (.iload_n 2, 1) := by decide +kernel
theorem dX4_wordBetween_15 : decode cX4_wordBetween 15 = .ok (.invokevirtual 65, 3) := by decide +kernel
theorem dX4_wordBetween_18 : decode cX4_wordBetween 18 = .ok (.ifCond .eq 5, 3) := by decide +kernel
theorem dX4_wordBetween_21 : decode cX4_wordBetween 21 = .ok (.iload_n 3, 1) := by decide +kernel
theorem dX4_wordBetween_22 : decode cX4_wordBetween 22 = .ok (.ireturn, 1) := by decide +kernel
theorem dX4_wordBetween_23 : decode cX4_wordBetween 23 = .ok (.iinc 3 1, 3) := by decide +kernel
theorem dX4_wordBetween_26 : decode cX4_wordBetween 26 = .ok (.goto (-24), 3) := by decide +kernel
theorem dX4_wordBetween_29 : decode cX4_wordBetween 29 = .ok (.iconst (-1), 1) := by decide +kernel
theorem dX4_wordBetween_30 : decode cX4_wordBetween 30 = .ok (.ireturn, 1) := by decide +kernel
theorem dX4_isWord_0 : decode cX4_isWord 0 = .ok (.aload_n 1, 1) := by decide +kernel
theorem dX4_isWord_1 : decode cX4_isWord 1 = .ok (.invokevirtual 69, 3) := by decide +kernel
theorem dX4_isWord_4 : decode cX4_isWord 4 = .ok (.iload_n 3, 1) := by decide +kernel
theorem dX4_isWord_5 : decode cX4_isWord 5 = .ok (.iload_n 2, 1) := by decide +kernel
theorem dX4_isWord_6 : decode cX4_isWord 6 = .ok (.isub, 1) := by decide +kernel
theorem dX4_isWord_7 : decode cX4_isWord 7 = .ok (.if_icmp .eq 5, 3) := by decide +kernel
theorem dX4_isWord_10 : decode cX4_isWord 10 = .ok (.iconst 0, 1) := by decide +kernel
theorem dX4_isWord_11 : decode cX4_isWord 11 = .ok (.ireturn, 1) := by decide +kernel
theorem dX4_isWord_12 : decode cX4_isWord 12 = .ok (.iconst 0, 1) := by decide +kernel
theorem dX4_isWord_13 : decode cX4_isWord 13 = .ok (.istore 4, 2) := by decide +kernel
theorem dX4_isWord_15 : decode cX4_isWord 15 = .ok (.iload 4, 2) := by decide +kernel
theorem dX4_isWord_17 : decode cX4_isWord 17 = .ok (.aload_n 1, 1) := by decide +kernel
theorem dX4_isWord_18 : decode cX4_isWord 18 = .ok (.invokevirtual 69, 3) := by decide +kernel
theorem dX4_isWord_21 : decode cX4_isWord 21 = .ok (.if_icmp .ge 29, 3) := by decide +kernel
theorem dX4_isWord_24 : decode cX4_isWord 24 = .ok (.aload_n 1, 1) := by decide +kernel
theorem dX4_isWord_25 : decode cX4_isWord 25 = .ok (.iload 4, 2) := by decide +kernel
theorem dX4_isWord_27 : decode cX4_isWord 27 = .ok (.invokevirtual 75, 3) := by decide +kernel
theorem dX4_isWord_30 : decode cX4_isWord 30 = .ok (.aload_n 0, 1) := by decide +kernel
theorem dX4_isWord_31 : decode cX4_isWord 31 = .ok (.getfield 9, 3) := by decide +kernel
theorem dX4_isWord_34 : decode cX4_isWord 34 = .ok (.iload_n 2, 1) := by decide +kernel
theorem dX4_isWord_35 : decode cX4_isWord 35 = .ok (.iload 4, 2) := by decide +kernel
theorem dX4_isWord_37 : decode cX4_isWord 37 = .ok (.iadd, 1) := by decide +kernel
theorem dX4_isWord_38 : decode cX4_isWord 38 = .ok (.iaload, 1) := by decide +kernel
theorem dX4_isWord_39 : decode cX4_isWord 39 = .ok (.if_icmp .eq 5, 3) := by decide +kernel
theorem dX4_isWord_42 : decode cX4_isWord 42 = .ok (.iconst 0, 1) := by decide +kernel
theorem dX4_isWord_43 : decode cX4_isWord 43 = .ok (.ireturn, 1) := by decide +kernel
theorem dX4_isWord_44 : decode cX4_isWord 44 = .ok (.iinc 4 1, 3) := by decide +kernel
theorem dX4_isWord_47 : decode cX4_isWord 47 = .ok (.goto (-32), 3) := by decide +kernel
theorem dX4_isWord_50 : decode cX4_isWord 50 = .ok (.iconst 1, 1) := by decide +kernel
theorem dX4_isWord_51 : decode cX4_isWord 51 = .ok (.ireturn, 1) := by decide +kernel
theorem dX4_wordOf_0 : decode cX4_wordOf 0 = .ok (.iload_n 0, 1) := by decide +kernel
theorem dX4_wordOf_1 : decode cX4_wordOf 1 = .ok (.tableswitch 92 0 10 #[59, 62, 65, 68, 71, 74, 77, 80, 83, 86, 89], 59) := by decide +kernel
theorem dX4_wordOf_60 : decode cX4_wordOf 60 = .ok (.ldc 79, 2) := by decide +kernel
theorem dX4_wordOf_62 : decode cX4_wordOf 62 = .ok (.areturn, 1) := by decide +kernel
theorem dX4_wordOf_63 : decode cX4_wordOf 63 = .ok (.ldc 81, 2) := by decide +kernel
theorem dX4_wordOf_65 : decode cX4_wordOf 65 = .ok (.areturn, 1) := by decide +kernel
theorem dX4_wordOf_66 : decode cX4_wordOf 66 = .ok (.ldc 83, 2) := by decide +kernel
theorem dX4_wordOf_68 : decode cX4_wordOf 68 = .ok (.areturn, 1) := by decide +kernel
theorem dX4_wordOf_69 : decode cX4_wordOf 69 = .ok (.ldc 85, 2) := by decide +kernel
theorem dX4_wordOf_71 : decode cX4_wordOf 71 = .ok (.areturn, 1) := by decide +kernel
theorem dX4_wordOf_72 : decode cX4_wordOf 72 = .ok (.ldc 87, 2) := by decide +kernel
theorem dX4_wordOf_74 : decode cX4_wordOf 74 = .ok (.areturn, 1) := by decide +kernel
theorem dX4_wordOf_75 : decode cX4_wordOf 75 = .ok (.ldc 89, 2) := by decide +kernel
theorem dX4_wordOf_77 : decode cX4_wordOf 77 = .ok (.areturn, 1) := by decide +kernel
theorem dX4_wordOf_78 : decode cX4_wordOf 78 = .ok (.ldc 91, 2) := by decide +kernel
theorem dX4_wordOf_80 : decode cX4_wordOf 80 = .ok (.areturn, 1) := by decide +kernel
theorem dX4_wordOf_81 : decode cX4_wordOf 81 = .ok (.ldc 93, 2) := by decide +kernel
theorem dX4_wordOf_83 : decode cX4_wordOf 83 = .ok (.areturn, 1) := by decide +kernel
theorem dX4_wordOf_84 : decode cX4_wordOf 84 = .ok (.ldc 95, 2) := by decide +kernel
theorem dX4_wordOf_86 : decode cX4_wordOf 86 = .ok (.areturn, 1) := by decide +kernel
theorem dX4_wordOf_87 : decode cX4_wordOf 87 = .ok (.ldc 97, 2) := by decide +kernel
theorem dX4_wordOf_89 : decode cX4_wordOf 89 = .ok (.areturn, 1) := by decide +kernel
theorem dX4_wordOf_90 : decode cX4_wordOf 90 = .ok (.ldc 99, 2) := by decide +kernel
theorem dX4_wordOf_92 : decode cX4_wordOf 92 = .ok (.areturn, 1) := by decide +kernel
theorem dX4_wordOf_93 : decode cX4_wordOf 93 = .ok (.ldc 101, 2) := by decide +kernel
theorem dX4_wordOf_95 : decode cX4_wordOf 95 = .ok (.areturn, 1) := by decide +kernel
theorem dX4_tellTo_0 : decode cX4_tellTo 0 = .ok (.aload_n 0, 1) := by decide +kernel
theorem dX4_tellTo_1 : decode cX4_tellTo 1 = .ok (.invokevirtual 103, 3) := by decide +kernel
theorem dX4_tellTo_4 : decode cX4_tellTo 4 = .ok (.aload_n 0, 1) := by decide +kernel
theorem dX4_tellTo_5 : decode cX4_tellTo 5 = .ok (.iconst 0, 1) := by decide +kernel
theorem dX4_tellTo_6 : decode cX4_tellTo 6 = .ok (.putfield 31, 3) := by decide +kernel
theorem dX4_tellTo_9 : decode cX4_tellTo 9 = .ok (.iconst 1, 1) := by decide +kernel
theorem dX4_tellTo_10 : decode cX4_tellTo 10 = .ok (.istore_n 2, 1) := by decide +kernel
theorem dX4_tellTo_11 : decode cX4_tellTo 11 = .ok (.iload_n 2, 1) := by decide +kernel
theorem dX4_tellTo_12 : decode cX4_tellTo 12 = .ok (.bipush 120, 2) := by decide +kernel
theorem dX4_tellTo_14 : decode cX4_tellTo 14 = .ok (.if_icmp .gt 51, 3) := by decide +kernel
theorem dX4_tellTo_17 : decode cX4_tellTo 17 = .ok (.aload_n 0, 1) := by decide +kernel
theorem dX4_tellTo_18 : decode cX4_tellTo 18 = .ok (.aload_n 1, 1) := by decide +kernel
theorem dX4_tellTo_19 : decode cX4_tellTo 19 = .ok (.invokevirtual 106, 3) := by decide +kernel
theorem dX4_tellTo_22 : decode cX4_tellTo 22 = .ok (.ifCond .eq 43, 3) := by decide +kernel
theorem dX4_tellTo_25 : decode cX4_tellTo 25 = .ok (.aload_n 0, 1) := by decide +kernel
theorem dX4_tellTo_26 : decode cX4_tellTo 26 = .ok (.getfield 19, 3) := by decide +kernel
theorem dX4_tellTo_29 : decode cX4_tellTo 29 = .ok (.aload_n 0, 1) := by decide +kernel
theorem dX4_tellTo_30 : decode cX4_tellTo 30 = .ok (.getfield 31, 3) := by decide +kernel
theorem dX4_tellTo_33 : decode cX4_tellTo 33 = .ok (.iaload, 1) := by decide +kernel
theorem dX4_tellTo_34 : decode cX4_tellTo 34 = .ok (.ifCond .ne 5, 3) := by decide +kernel
theorem dX4_tellTo_37 : decode cX4_tellTo 37 = .ok (.iload_n 2, 1) := by decide +kernel
theorem dX4_tellTo_38 : decode cX4_tellTo 38 = .ok (.ireturn, 1) := by decide +kernel
theorem dX4_tellTo_39 : decode cX4_tellTo 39 = .ok (.aload_n 0, 1) := by decide +kernel
theorem dX4_tellTo_40 : decode cX4_tellTo 40 = .ok (.getfield 19, 3) := by decide +kernel
theorem dX4_tellTo_43 : decode cX4_tellTo 43 = .ok (.aload_n 0, 1) := by decide +kernel
theorem dX4_tellTo_44 : decode cX4_tellTo 44 = .ok (.getfield 31, 3) := by decide +kernel
theorem dX4_tellTo_47 : decode cX4_tellTo 47 = .ok (.iaload, 1) := by decide +kernel
theorem dX4_tellTo_48 : decode cX4_tellTo 48 = .ok (.iconst 3, 1) := by decide +kernel
theorem dX4_tellTo_49 : decode cX4_tellTo 49 = .ok (.if_icmp .eq 6, 3) := by decide +kernel
theorem dX4_tellTo_52 : decode cX4_tellTo 52 = .ok (.goto 13, 3) := by decide +kernel
theorem dX4_tellTo_55 : decode cX4_tellTo 55 = .ok (.aload_n 0, 1) := by decide +kernel
theorem dX4_tellTo_56 : decode cX4_tellTo 56 = .ok (.invokevirtual 110, 3) := by decide +kernel
theorem dX4_tellTo_59 : decode cX4_tellTo 59 = .ok (.iinc 2 1, 3) := by decide +kernel
theorem dX4_tellTo_62 : decode cX4_tellTo 62 = .ok (.goto (-51), 3) := by decide +kernel
theorem dX4_tellTo_65 : decode cX4_tellTo 65 = .ok (.iconst (-1), 1) := by decide +kernel
theorem dX4_tellTo_66 : decode cX4_tellTo 66 = .ok (.aload_n 0, 1) := by decide +kernel
theorem dX4_tellTo_67 : decode cX4_tellTo 67 = .ok (.getfield 22, 3) := by decide +kernel
theorem dX4_tellTo_70 : decode cX4_tellTo 70 = .ok (.aload_n 0, 1) := by decide +kernel
theorem dX4_tellTo_71 : decode cX4_tellTo 71 = .ok (.getfield 31, 3) := by decide +kernel
theorem dX4_tellTo_74 : decode cX4_tellTo 74 = .ok (.iaload, 1) := by decide +kernel
theorem dX4_tellTo_75 : decode cX4_tellTo 75 = .ok (.isub, 1) := by decide +kernel
theorem dX4_tellTo_76 : decode cX4_tellTo 76 = .ok (.ireturn, 1) := by decide +kernel
theorem dX4_step_0 : decode cX4_step 0 = .ok (.aload_n 0, 1) := by decide +kernel
theorem dX4_step_1 : decode cX4_step 1 = .ok (.getfield 31, 3) := by decide +kernel
theorem dX4_step_4 : decode cX4_step 4 = .ok (.aload_n 0, 1) := by decide +kernel
theorem dX4_step_5 : decode cX4_step 5 = .ok (.getfield 28, 3) := by decide +kernel
theorem dX4_step_8 : decode cX4_step 8 = .ok (.iconst 1, 1) := by decide +kernel
theorem dX4_step_9 : decode cX4_step 9 = .ok (.isub, 1) := by decide +kernel
theorem dX4_step_10 : decode cX4_step 10 = .ok (.if_icmp .ge 13, 3) := by decide +kernel
theorem dX4_step_13 : decode cX4_step 13 = .ok (.aload_n 0, 1) := by decide +kernel
theorem dX4_step_14 : decode cX4_step 14 = .ok (.dup, 1) := by decide +kernel
theorem dX4_step_15 : decode cX4_step 15 = .ok (.getfield 31, 3) := by decide +kernel
theorem dX4_step_18 : decode cX4_step 18 = .ok (.iconst 1, 1) := by decide +kernel
theorem dX4_step_19 : decode cX4_step 19 = .ok (.iadd, 1) := by decide +kernel
theorem dX4_step_20 : decode cX4_step 20 = .ok (.putfield 31, 3) := by decide +kernel
theorem dX4_step_23 : decode cX4_step 23 = .ok (.return_, 1) := by decide +kernel
theorem dX4_tellItem_0 : decode cX4_tellItem 0 = .ok (.aload_n 0, 1) := by decide +kernel
theorem dX4_tellItem_1 : decode cX4_tellItem 1 = .ok (.getfield 19, 3) := by decide +kernel
theorem dX4_tellItem_4 : decode cX4_tellItem 4 = .ok (.aload_n 0, 1) := by decide +kernel
theorem dX4_tellItem_5 : decode cX4_tellItem 5 = .ok (.getfield 31, 3) := by decide +kernel
theorem dX4_tellItem_8 : decode cX4_tellItem 8 = .ok (.iaload, 1) := by decide +kernel
theorem dX4_tellItem_9 : decode cX4_tellItem 9 = .ok (.iconst 1, 1) := by decide +kernel
theorem dX4_tellItem_10 : decode cX4_tellItem 10 = .ok (.if_icmp .ne 15, 3) := by decide +kernel
theorem dX4_tellItem_13 : decode cX4_tellItem 13 = .ok (.aload_n 0, 1) := by decide +kernel
theorem dX4_tellItem_14 : decode cX4_tellItem 14 = .ok (.getfield 25, 3) := by decide +kernel
theorem dX4_tellItem_17 : decode cX4_tellItem 17 = .ok (.aload_n 0, 1) := by decide +kernel
theorem dX4_tellItem_18 : decode cX4_tellItem 18 = .ok (.getfield 31, 3) := by decide +kernel
theorem dX4_tellItem_21 : decode cX4_tellItem 21 = .ok (.iaload, 1) := by decide +kernel
theorem dX4_tellItem_22 : decode cX4_tellItem 22 = .ok (.goto 4, 3) := by decide +kernel
theorem dX4_tellItem_25 : decode cX4_tellItem 25 = .ok (.iconst (-1), 1) := by decide +kernel
theorem dX4_tellItem_26 : decode cX4_tellItem 26 = .ok (.istore_n 2, 1) := by decide +kernel
theorem dX4_tellItem_27 : decode cX4_tellItem 27 = .ok (.iload_n 2, 1) := by decide +kernel
theorem dX4_tellItem_28 : decode cX4_tellItem 28 = .ok (.ifCond .ge 5, 3) := by decide +kernel
theorem dX4_tellItem_31 : decode cX4_tellItem 31 = .ok (.iconst 0, 1) := by decide +kernel
theorem dX4_tellItem_32 : decode cX4_tellItem 32 = .ok (.ireturn, 1) := by decide +kernel
theorem dX4_tellItem_33 : decode cX4_tellItem 33 = .ok (.iload_n 2, 1) := by decide +kernel
theorem dX4_tellItem_34 : decode cX4_tellItem 34 = .ok (.bipush 6, 2) := by decide +kernel
theorem dX4_tellItem_36 : decode cX4_tellItem 36 = .ok (.if_icmp .gt 14, 3) := by decide +kernel
theorem dX4_tellItem_39 : decode cX4_tellItem 39 = .ok (.aload_n 0, 1) := by decide +kernel
theorem dX4_tellItem_40 : decode cX4_tellItem 40 = .ok (.aload_n 1, 1) := by decide +kernel
theorem dX4_tellItem_41 : decode cX4_tellItem 41 = .ok (.aload_n 1, 1) := by decide +kernel
theorem dX4_tellItem_42 : decode cX4_tellItem 42 = .ok (.iload_n 2, 1) := by decide +kernel
theorem dX4_tellItem_43 : decode cX4_tellItem 43 = .ok (.invokevirtual 113, 3) := by decide +kernel
theorem dX4_tellItem_46 : decode cX4_tellItem 46 = .ok (.invokevirtual 118, 3) := by decide +kernel
theorem dX4_tellItem_49 : decode cX4_tellItem 49 = .ok (.ireturn, 1) := by decide +kernel
theorem dX4_tellItem_50 : decode cX4_tellItem 50 = .ok (.iload_n 2, 1) := by decide +kernel
theorem dX4_tellItem_51 : decode cX4_tellItem 51 = .ok (.bipush 10, 2) := by decide +kernel
theorem dX4_tellItem_53 : decode cX4_tellItem 53 = .ok (.if_icmp .eq 9, 3) := by decide +kernel
theorem dX4_tellItem_56 : decode cX4_tellItem 56 = .ok (.iload_n 2, 1) := by decide +kernel
theorem dX4_tellItem_57 : decode cX4_tellItem 57 = .ok (.bipush 11, 2) := by decide +kernel
theorem dX4_tellItem_59 : decode cX4_tellItem 59 = .ok (.if_icmp .ne 26, 3) := by decide +kernel
theorem dX4_tellItem_62 : decode cX4_tellItem 62 = .ok (.aload_n 0, 1) := by decide +kernel
theorem dX4_tellItem_63 : decode cX4_tellItem 63 = .ok (.aload_n 1, 1) := by decide +kernel
theorem dX4_tellItem_64 : decode cX4_tellItem 64 = .ok (.iload_n 2, 1) := by decide +kernel
theorem dX4_tellItem_65 : decode cX4_tellItem 65 = .ok (.bipush 10, 2) := by decide +kernel
theorem dX4_tellItem_67 : decode cX4_tellItem 67 = .ok (.if_icmp .ne 7, 3) := by decide +kernel
theorem dX4_tellItem_70 : decode cX4_tellItem 70 = .ok (.iconst 1, 1) := by decide +kernel
theorem dX4_tellItem_71 : decode cX4_tellItem 71 = .ok (.goto 4, 3) := by decide +kernel
theorem dX4_tellItem_74 : decode cX4_tellItem 74 = .ok (.iconst 0, 1) := by decide +kernel
theorem dX4_tellItem_75 : decode cX4_tellItem 75 = .ok (.invokevirtual 122, 3) := by decide +kernel
theorem dX4_tellItem_78 : decode cX4_tellItem 78 = .ok (.ifCond .eq 7, 3) := by decide +kernel
theorem dX4_tellItem_81 : decode cX4_tellItem 81 = .ok (.iconst 1, 1) := by decide +kernel
theorem dX4_tellItem_82 : decode cX4_tellItem 82 = .ok (.goto 4, 3) := by decide +kernel
theorem dX4_tellItem_85 : decode cX4_tellItem 85 = .ok (.iconst 0, 1) := by decide +kernel
theorem dX4_tellItem_86 : decode cX4_tellItem 86 = .ok (.ireturn, 1) := by decide +kernel
theorem dX4_tellRule_0 : decode cX4_tellRule 0 = .ok (.aload_n 0, 1) := by decide +kernel
theorem dX4_tellRule_1 : decode cX4_tellRule 1 = .ok (.invokevirtual 110, 3) := by decide +kernel
theorem dX4_tellRule_4 : decode cX4_tellRule 4 = .ok (.iload_n 2, 1) := by decide +kernel
theorem dX4_tellRule_5 : decode cX4_tellRule 5 = .ok (.ifCond .eq 16, 3) := by decide +kernel
theorem dX4_tellRule_8 : decode cX4_tellRule 8 = .ok (.aload_n 0, 1) := by decide +kernel
theorem dX4_tellRule_9 : decode cX4_tellRule 9 = .ok (.iconst 1, 1) := by decide +kernel
theorem dX4_tellRule_10 : decode cX4_tellRule 10 = .ok (.bipush 40, 2) := by decide +kernel
theorem dX4_tellRule_12 : decode cX4_tellRule 12 = .ok (.invokevirtual 126, 3) := by decide +kernel
theorem dX4_tellRule_15 : decode cX4_tellRule 15 = .ok (.ifCond .eq 16, 3) := by decide +kernel
theorem dX4_tellRule_18 : decode cX4_tellRule 18 = .ok (.goto 15, 3) := by decide +kernel
theorem dX4_tellRule_21 : decode cX4_tellRule 21 = .ok (.aload_n 0, 1) := by decide +kernel
theorem dX4_tellRule_22 : decode cX4_tellRule 22 = .ok (.iconst 0, 1) := by decide +kernel
theorem dX4_tellRule_23 : decode cX4_tellRule 23 = .ok (.bipush 9, 2) := by decide +kernel
theorem dX4_tellRule_25 : decode cX4_tellRule 25 = .ok (.invokevirtual 126, 3) := by decide +kernel
theorem dX4_tellRule_28 : decode cX4_tellRule 28 = .ok (.ifCond .ne 5, 3) := by decide +kernel
theorem dX4_tellRule_31 : decode cX4_tellRule 31 = .ok (.iconst 0, 1) := by decide +kernel
theorem dX4_tellRule_32 : decode cX4_tellRule 32 = .ok (.ireturn, 1) := by decide +kernel
theorem dX4_tellRule_33 : decode cX4_tellRule 33 = .ok (.iload_n 2, 1) := by decide +kernel
theorem dX4_tellRule_34 : decode cX4_tellRule 34 = .ok (.ifCond .eq 19, 3) := by decide +kernel
theorem dX4_tellRule_37 : decode cX4_tellRule 37 = .ok (.aload_n 1, 1) := by decide +kernel
theorem dX4_tellRule_38 : decode cX4_tellRule 38 = .ok (.aload_n 0, 1) := by decide +kernel
theorem dX4_tellRule_39 : decode cX4_tellRule 39 = .ok (.getfield 25, 3) := by decide +kernel
theorem dX4_tellRule_42 : decode cX4_tellRule 42 = .ok (.aload_n 0, 1) := by decide +kernel
theorem dX4_tellRule_43 : decode cX4_tellRule 43 = .ok (.getfield 31, 3) := by decide +kernel
theorem dX4_tellRule_46 : decode cX4_tellRule 46 = .ok (.iaload, 1) := by decide +kernel
theorem dX4_tellRule_47 : decode cX4_tellRule 47 = .ok (.putfield 130, 3) := by decide +kernel
theorem dX4_tellRule_50 : decode cX4_tellRule 50 = .ok (.goto 16, 3) := by decide +kernel
theorem dX4_tellRule_53 : decode cX4_tellRule 53 = .ok (.aload_n 1, 1) := by decide +kernel
theorem dX4_tellRule_54 : decode cX4_tellRule 54 = .ok (.aload_n 0, 1) := by decide +kernel
theorem dX4_tellRule_55 : decode cX4_tellRule 55 = .ok (.getfield 25, 3) := by decide +kernel
theorem dX4_tellRule_58 : decode cX4_tellRule 58 = .ok (.aload_n 0, 1) := by decide +kernel
theorem dX4_tellRule_59 : decode cX4_tellRule 59 = .ok (.getfield 31, 3) := by decide +kernel
theorem dX4_tellRule_62 : decode cX4_tellRule 62 = .ok (.iaload, 1) := by decide +kernel
theorem dX4_tellRule_63 : decode cX4_tellRule 63 = .ok (.putfield 132, 3) := by decide +kernel
theorem dX4_tellRule_66 : decode cX4_tellRule 66 = .ok (.aload_n 0, 1) := by decide +kernel
theorem dX4_tellRule_67 : decode cX4_tellRule 67 = .ok (.invokevirtual 110, 3) := by decide +kernel
theorem dX4_tellRule_70 : decode cX4_tellRule 70 = .ok (.iconst 1, 1) := by decide +kernel
theorem dX4_tellRule_71 : decode cX4_tellRule 71 = .ok (.ireturn, 1) := by decide +kernel
theorem dX4_tellThing_0 : decode cX4_tellThing 0 = .ok (.iload_n 2, 1) := by decide +kernel
theorem dX4_tellThing_1 : decode cX4_tellThing 1 = .ok (.ifCond .ge 5, 3) := by decide +kernel
theorem dX4_tellThing_4 : decode cX4_tellThing 4 = .ok (.iconst 0, 1) := by decide +kernel
theorem dX4_tellThing_5 : decode cX4_tellThing 5 = .ok (.ireturn, 1) := by decide +kernel
theorem dX4_tellThing_6 : decode cX4_tellThing 6 = .ok (.aload_n 0, 1) := by decide +kernel
theorem dX4_tellThing_7 : decode cX4_tellThing 7 = .ok (.invokevirtual 110, 3) := by decide +kernel
theorem dX4_tellThing_10 : decode cX4_tellThing 10 = .ok (.aload_n 0, 1) := by decide +kernel
theorem dX4_tellThing_11 : decode cX4_tellThing 11 = .ok (.aload_n 1, 1) := by decide +kernel
theorem dX4_tellThing_12 : decode cX4_tellThing 12 = .ok (.iload_n 2, 1) := by decide +kernel
theorem dX4_tellThing_13 : decode cX4_tellThing 13 = .ok (.bipush 7, 2) := by decide +kernel
theorem dX4_tellThing_15 : decode cX4_tellThing 15 = .ok (.iconst 1, 1) := by decide +kernel
theorem dX4_tellThing_16 : decode cX4_tellThing 16 = .ok (.bipush 9, 2) := by decide +kernel
theorem dX4_tellThing_18 : decode cX4_tellThing 18 = .ok (.invokevirtual 134, 3) := by decide +kernel
theorem dX4_tellThing_21 : decode cX4_tellThing 21 = .ok (.ifCond .eq 34, 3) := by decide +kernel
theorem dX4_tellThing_24 : decode cX4_tellThing 24 = .ok (.aload_n 0, 1) := by decide +kernel
theorem dX4_tellThing_25 : decode cX4_tellThing 25 = .ok (.aload_n 1, 1) := by decide +kernel
theorem dX4_tellThing_26 : decode cX4_tellThing 26 = .ok (.iload_n 2, 1) := by decide +kernel
theorem dX4_tellThing_27 : decode cX4_tellThing 27 = .ok (.bipush 8, 2) := by decide +kernel
theorem dX4_tellThing_29 : decode cX4_tellThing 29 = .ok (.iconst 0, 1) := by decide +kernel
theorem dX4_tellThing_30 : decode cX4_tellThing 30 = .ok (.bipush 99, 2) := by decide +kernel
theorem dX4_tellThing_32 : decode cX4_tellThing 32 = .ok (.invokevirtual 134, 3) := by decide +kernel
theorem dX4_tellThing_35 : decode cX4_tellThing 35 = .ok (.ifCond .eq 20, 3) := by decide +kernel
theorem dX4_tellThing_38 : decode cX4_tellThing 38 = .ok (.aload_n 0, 1) := by decide +kernel
theorem dX4_tellThing_39 : decode cX4_tellThing 39 = .ok (.aload_n 1, 1) := by decide +kernel
theorem dX4_tellThing_40 : decode cX4_tellThing 40 = .ok (.iload_n 2, 1) := by decide +kernel
theorem dX4_tellThing_41 : decode cX4_tellThing 41 = .ok (.bipush 9, 2) := by decide +kernel
theorem dX4_tellThing_43 : decode cX4_tellThing 43 = .ok (.iconst 0, 1) := by decide +kernel
theorem dX4_tellThing_44 : decode cX4_tellThing 44 = .ok (.iconst 1, 1) := by decide +kernel
theorem dX4_tellThing_45 : decode cX4_tellThing 45 = .ok (.invokevirtual 134, 3) := by decide +kernel
theorem dX4_tellThing_48 : decode cX4_tellThing 48 = .ok (.ifCond .eq 7, 3) := by decide +kernel
theorem dX4_tellThing_51 : decode cX4_tellThing 51 = .ok (.iconst 1, 1) := by decide +kernel
theorem dX4_tellThing_52 : decode cX4_tellThing 52 = .ok (.goto 4, 3) := by decide +kernel
theorem dX4_tellThing_55 : decode cX4_tellThing 55 = .ok (.iconst 0, 1) := by decide +kernel
theorem dX4_tellThing_56 : decode cX4_tellThing 56 = .ok (.ireturn, 1) := by decide +kernel
theorem dX4_tellPart_0 : decode cX4_tellPart 0 = .ok (.aload_n 0, 1) := by decide +kernel
theorem dX4_tellPart_1 : decode cX4_tellPart 1 = .ok (.getfield 19, 3) := by decide +kernel
theorem dX4_tellPart_4 : decode cX4_tellPart 4 = .ok (.aload_n 0, 1) := by decide +kernel
theorem dX4_tellPart_5 : decode cX4_tellPart 5 = .ok (.getfield 31, 3) := by decide +kernel
theorem dX4_tellPart_8 : decode cX4_tellPart 8 = .ok (.iaload, 1) := by decide +kernel
theorem dX4_tellPart_9 : decode cX4_tellPart 9 = .ok (.iconst 1, 1) := by decide +kernel
theorem dX4_tellPart_10 : decode cX4_tellPart 10 = .ok (.if_icmp .ne 16, 3) := by decide +kernel
theorem dX4_tellPart_13 : decode cX4_tellPart 13 = .ok (.aload_n 0, 1) := by decide +kernel
theorem dX4_tellPart_14 : decode cX4_tellPart 14 = .ok (.getfield 25, 3) := by decide +kernel
theorem dX4_tellPart_17 : decode cX4_tellPart 17 = .ok (.aload_n 0, 1) := by decide +kernel
theorem dX4_tellPart_18 : decode cX4_tellPart 18 = .ok (.getfield 31, 3) := by decide +kernel
theorem dX4_tellPart_21 : decode cX4_tellPart 21 = .ok (.iaload, 1) := by decide +kernel
theorem dX4_tellPart_22 : decode cX4_tellPart 22 = .ok (.iload_n 3, 1) := by decide +kernel
theorem dX4_tellPart_23 : decode cX4_tellPart 23 = .ok (.if_icmp .eq 5, 3) := by decide +kernel
theorem dX4_tellPart_26 : decode cX4_tellPart 26 = .ok (.iconst 1, 1) := by decide +kernel
theorem dX4_tellPart_27 : decode cX4_tellPart 27 = .ok (.ireturn, 1) := by decide +kernel
theorem dX4_tellPart_28 : decode cX4_tellPart 28 = .ok (.aload_n 0, 1) := by decide +kernel
theorem dX4_tellPart_29 : decode cX4_tellPart 29 = .ok (.invokevirtual 110, 3) := by decide +kernel
theorem dX4_tellPart_32 : decode cX4_tellPart 32 = .ok (.aload_n 0, 1) := by decide +kernel
theorem dX4_tellPart_33 : decode cX4_tellPart 33 = .ok (.iload 4, 2) := by decide +kernel
theorem dX4_tellPart_35 : decode cX4_tellPart 35 = .ok (.iload 5, 2) := by decide +kernel
theorem dX4_tellPart_37 : decode cX4_tellPart 37 = .ok (.invokevirtual 126, 3) := by decide +kernel
theorem dX4_tellPart_40 : decode cX4_tellPart 40 = .ok (.ifCond .ne 5, 3) := by decide +kernel
theorem dX4_tellPart_43 : decode cX4_tellPart 43 = .ok (.iconst 0, 1) := by decide +kernel
theorem dX4_tellPart_44 : decode cX4_tellPart 44 = .ok (.ireturn, 1) := by decide +kernel
theorem dX4_tellPart_45 : decode cX4_tellPart 45 = .ok (.aload_n 1, 1) := by decide +kernel
theorem dX4_tellPart_46 : decode cX4_tellPart 46 = .ok (.iload_n 2, 1) := by decide +kernel
theorem dX4_tellPart_47 : decode cX4_tellPart 47 = .ok (.iconst 1, 1) := by decide +kernel
theorem dX4_tellPart_48 : decode cX4_tellPart 48 = .ok (.iload_n 3, 1) := by decide +kernel
theorem dX4_tellPart_49 : decode cX4_tellPart 49 = .ok (.iadd, 1) := by decide +kernel
theorem dX4_tellPart_50 : decode cX4_tellPart 50 = .ok (.bipush 7, 2) := by decide +kernel
theorem dX4_tellPart_52 : decode cX4_tellPart 52 = .ok (.isub, 1) := by decide +kernel
theorem dX4_tellPart_53 : decode cX4_tellPart 53 = .ok (.aload_n 0, 1) := by decide +kernel
theorem dX4_tellPart_54 : decode cX4_tellPart 54 = .ok (.getfield 25, 3) := by decide +kernel
theorem dX4_tellPart_57 : decode cX4_tellPart 57 = .ok (.aload_n 0, 1) := by decide +kernel
theorem dX4_tellPart_58 : decode cX4_tellPart 58 = .ok (.getfield 31, 3) := by decide +kernel
theorem dX4_tellPart_61 : decode cX4_tellPart 61 = .ok (.iaload, 1) := by decide +kernel
theorem dX4_tellPart_62 : decode cX4_tellPart 62 = .ok (.invokevirtual 138, 3) := by decide +kernel
theorem dX4_tellPart_65 : decode cX4_tellPart 65 = .ok (.aload_n 0, 1) := by decide +kernel
theorem dX4_tellPart_66 : decode cX4_tellPart 66 = .ok (.invokevirtual 110, 3) := by decide +kernel
theorem dX4_tellPart_69 : decode cX4_tellPart 69 = .ok (.iconst 1, 1) := by decide +kernel
theorem dX4_tellPart_70 : decode cX4_tellPart 70 = .ok (.ireturn, 1) := by decide +kernel
theorem dX4_isNumber_0 : decode cX4_isNumber 0 = .ok (.aload_n 0, 1) := by decide +kernel
theorem dX4_isNumber_1 : decode cX4_isNumber 1 = .ok (.getfield 19, 3) := by decide +kernel
theorem dX4_isNumber_4 : decode cX4_isNumber 4 = .ok (.aload_n 0, 1) := by decide +kernel
theorem dX4_isNumber_5 : decode cX4_isNumber 5 = .ok (.getfield 31, 3) := by decide +kernel
theorem dX4_isNumber_8 : decode cX4_isNumber 8 = .ok (.iaload, 1) := by decide +kernel
theorem dX4_isNumber_9 : decode cX4_isNumber 9 = .ok (.iconst 2, 1) := by decide +kernel
theorem dX4_isNumber_10 : decode cX4_isNumber 10 = .ok (.if_icmp .ne 24, 3) := by decide +kernel
theorem dX4_isNumber_13 : decode cX4_isNumber 13 = .ok (.aload_n 0, 1) := by decide +kernel
theorem dX4_isNumber_14 : decode cX4_isNumber 14 = .ok (.getfield 25, 3) := by decide +kernel
theorem dX4_isNumber_17 : decode cX4_isNumber 17 = .ok (.aload_n 0, 1) := by decide +kernel
theorem dX4_isNumber_18 : decode cX4_isNumber 18 = .ok (.getfield 31, 3) := by decide +kernel
theorem dX4_isNumber_21 : decode cX4_isNumber 21 = .ok (.iaload, 1) := by decide +kernel
theorem dX4_isNumber_22 : decode cX4_isNumber 22 = .ok (.iload_n 1, 1) := by decide +kernel
theorem dX4_isNumber_23 : decode cX4_isNumber 23 = .ok (.iload_n 2, 1) := by decide +kernel
theorem dX4_isNumber_24 : decode cX4_isNumber 24 = .ok (.invokestatic 141, 3) := by decide +kernel
theorem dX4_isNumber_27 : decode cX4_isNumber 27 = .ok (.ifCond .eq 7, 3) := by decide +kernel
theorem dX4_isNumber_30 : decode cX4_isNumber 30 = .ok (.iconst 1, 1) := by decide +kernel
theorem dX4_isNumber_31 : decode cX4_isNumber 31 = .ok (.goto 4, 3) := by decide +kernel
theorem dX4_isNumber_34 : decode cX4_isNumber 34 = .ok (.iconst 0, 1) := by decide +kernel
theorem dX4_isNumber_35 : decode cX4_isNumber 35 = .ok (.ireturn, 1) := by decide +kernel
theorem dX5_init_0 : decode cX5_init 0 = .ok (.aload_n 0, 1) := by decide +kernel
theorem dX5_init_1 : decode cX5_init 1 = .ok (.invokespecial 1, 3) := by decide +kernel
theorem dX5_init_4 : decode cX5_init 4 = .ok (.aload_n 0, 1) := by decide +kernel
theorem dX5_init_5 : decode cX5_init 5 = .ok (.new 7, 3) := by decide +kernel
theorem dX5_init_8 : decode cX5_init 8 = .ok (.dup, 1) := by decide +kernel
theorem dX5_init_9 : decode cX5_init 9 = .ok (.invokespecial 9, 3) := by decide +kernel
theorem dX5_init_12 : decode cX5_init 12 = .ok (.putfield 10, 3) := by decide +kernel
theorem dX5_init_15 : decode cX5_init 15 = .ok (.aload_n 0, 1) := by decide +kernel
theorem dX5_init_16 : decode cX5_init 16 = .ok (.new 7, 3) := by decide +kernel
theorem dX5_init_19 : decode cX5_init 19 = .ok (.dup, 1) := by decide +kernel
theorem dX5_init_20 : decode cX5_init 20 = .ok (.invokespecial 9, 3) := by decide +kernel
theorem dX5_init_23 : decode cX5_init 23 = .ok (.putfield 16, 3) := by decide +kernel
theorem dX5_init_26 : decode cX5_init 26 = .ok (.aload_n 0, 1) := by decide +kernel
theorem dX5_init_27 : decode cX5_init 27 = .ok (.iconst 0, 1) := by decide +kernel
theorem dX5_init_28 : decode cX5_init 28 = .ok (.putfield 19, 3) := by decide +kernel
theorem dX5_init_31 : decode cX5_init 31 = .ok (.aload_n 0, 1) := by decide +kernel
theorem dX5_init_32 : decode cX5_init 32 = .ok (.new 23, 3) := by decide +kernel
theorem dX5_init_35 : decode cX5_init 35 = .ok (.dup, 1) := by decide +kernel
theorem dX5_init_36 : decode cX5_init 36 = .ok (.invokespecial 25, 3) := by decide +kernel
theorem dX5_init_39 : decode cX5_init 39 = .ok (.putfield 26, 3) := by decide +kernel
theorem dX5_init_42 : decode cX5_init 42 = .ok (.aload_n 0, 1) := by decide +kernel
theorem dX5_init_43 : decode cX5_init 43 = .ok (.iconst 4, 1) := by decide +kernel
theorem dX5_init_44 : decode cX5_init 44 = .ok (.anewarray 30, 3) := by decide +kernel
theorem dX5_init_47 : decode cX5_init 47 = .ok (.putfield 32, 3) := by decide +kernel
theorem dX5_init_50 : decode cX5_init 50 = .ok (.aload_n 0, 1) := by decide +kernel
theorem dX5_init_51 : decode cX5_init 51 = .ok (.bipush 7, 2) := by decide +kernel
theorem dX5_init_53 : decode cX5_init 53 = .ok (.newarray .int, 2) := by decide +kernel
theorem dX5_init_55 : decode cX5_init 55 = .ok (.putfield 36, 3) := by decide +kernel
theorem dX5_init_58 : decode cX5_init 58 = .ok (.aload_n 0, 1) := by decide +kernel
theorem dX5_init_59 : decode cX5_init 59 = .ok (.new 40, 3) := by decide +kernel
theorem dX5_init_62 : decode cX5_init 62 = .ok (.dup, 1) := by decide +kernel
theorem dX5_init_63 : decode cX5_init 63 = .ok (.invokespecial 42, 3) := by decide +kernel
theorem dX5_init_66 : decode cX5_init 66 = .ok (.putfield 43, 3) := by decide +kernel
theorem dX5_init_69 : decode cX5_init 69 = .ok (.aload_n 0, 1) := by decide +kernel
theorem dX5_init_70 : decode cX5_init 70 = .ok (.iconst 5, 1) := by decide +kernel
theorem dX5_init_71 : decode cX5_init 71 = .ok (.anewarray 40, 3) := by decide +kernel
theorem dX5_init_74 : decode cX5_init 74 = .ok (.putfield 47, 3) := by decide +kernel
theorem dX5_init_77 : decode cX5_init 77 = .ok (.aload_n 0, 1) := by decide +kernel
theorem dX5_init_78 : decode cX5_init 78 = .ok (.bipush 10, 2) := by decide +kernel
theorem dX5_init_80 : decode cX5_init 80 = .ok (.newarray .int, 2) := by decide +kernel
theorem dX5_init_82 : decode cX5_init 82 = .ok (.putfield 51, 3) := by decide +kernel
theorem dX5_init_85 : decode cX5_init 85 = .ok (.aload_n 0, 1) := by decide +kernel
theorem dX5_init_86 : decode cX5_init 86 = .ok (.iconst 5, 1) := by decide +kernel
theorem dX5_init_87 : decode cX5_init 87 = .ok (.newarray .int, 2) := by decide +kernel
theorem dX5_init_89 : decode cX5_init 89 = .ok (.putfield 54, 3) := by decide +kernel
theorem dX5_init_92 : decode cX5_init 92 = .ok (.aload_n 0, 1) := by decide +kernel
theorem dX5_init_93 : decode cX5_init 93 = .ok (.bipush 10, 2) := by decide +kernel
theorem dX5_init_95 : decode cX5_init 95 = .ok (.newarray .int, 2) := by decide +kernel
theorem dX5_init_97 : decode cX5_init 97 = .ok (.putfield 57, 3) := by decide +kernel
theorem dX5_init_100 : decode cX5_init 100 = .ok (.aload_n 0, 1) := by decide +kernel
theorem dX5_init_101 : decode cX5_init 101 = .ok (.iconst (-1), 1) := by decide +kernel
theorem dX5_init_102 : decode cX5_init 102 = .ok (.putfield 60, 3) := by decide +kernel
theorem dX5_init_105 : decode cX5_init 105 = .ok (.iconst 0, 1) := by decide +kernel
theorem dX5_init_106 : decode cX5_init 106 = .ok (.istore_n 1, 1) := by decide +kernel
theorem dX5_init_107 : decode cX5_init 107 = .ok (.iload_n 1, 1) := by decide +kernel
theorem dX5_init_108 : decode cX5_init 108 = .ok (.iconst 4, 1) := by decide +kernel
theorem dX5_init_109 : decode cX5_init 109 = .ok (.if_icmp .ge 22, 3) := by decide +kernel
theorem dX5_init_112 : decode cX5_init 112 = .ok (.aload_n 0, 1) := by decide +kernel
theorem dX5_init_113 : decode cX5_init 113 = .ok (.getfield 32, 3) := by decide +kernel
theorem dX5_init_116 : decode cX5_init 116 = .ok (.iload_n 1, 1) := by decide +kernel
theorem dX5_init_117 : decode cX5_init 117 = .ok (.new 30, 3) := by decide +kernel
theorem dX5_init_120 : decode cX5_init 120 = .ok (.dup, 1) := by decide +kernel
theorem dX5_init_121 : decode cX5_init 121 = .ok (.invokespecial 64, 3) := by decide +kernel
theorem dX5_init_124 : decode cX5_init 124 = .ok (.aastore, 1) := by decide +kernel
theorem dX5_init_125 : decode cX5_init 125 = .ok (.iinc 1 1, 3) := by decide +kernel
theorem dX5_init_128 : decode cX5_init 128 = .ok (.goto (-21), 3) := by decide +kernel
theorem dX5_init_131 : decode cX5_init 131 = .ok (.iconst 0, 1) := by decide +kernel
theorem dX5_init_132 : decode cX5_init 132 = .ok (.istore_n 1, 1) := by decide +kernel
theorem dX5_init_133 : decode cX5_init 133 = .ok (.iload_n 1, 1) := by decide +kernel
theorem dX5_init_134 : decode cX5_init 134 = .ok (.iconst 4, 1) := by decide +kernel
theorem dX5_init_135 : decode cX5_init 135 = .ok (.if_icmp .gt 22, 3) := by decide +kernel
theorem dX5_init_138 : decode cX5_init 138 = .ok (.aload_n 0, 1) := by decide +kernel
theorem dX5_init_139 : decode cX5_init 139 = .ok (.getfield 47, 3) := by decide +kernel
theorem dX5_init_142 : decode cX5_init 142 = .ok (.iload_n 1, 1) := by decide +kernel
theorem dX5_init_143 : decode cX5_init 143 = .ok (.new 40, 3) := by decide +kernel
theorem dX5_init_146 : decode cX5_init 146 = .ok (.dup, 1) := by decide +kernel
theorem dX5_init_147 : decode cX5_init 147 = .ok (.invokespecial 42, 3) := by decide +kernel
theorem dX5_init_150 : decode cX5_init 150 = .ok (.aastore, 1) := by decide +kernel
theorem dX5_init_151 : decode cX5_init 151 = .ok (.iinc 1 1, 3) := by decide +kernel
theorem dX5_init_154 : decode cX5_init 154 = .ok (.goto (-21), 3) := by decide +kernel
theorem dX5_init_157 : decode cX5_init 157 = .ok (.return_, 1) := by decide +kernel
theorem dX5_thing_0 : decode cX5_thing 0 = .ok (.iload_n 1, 1) := by decide +kernel
theorem dX5_thing_1 : decode cX5_thing 1 = .ok (.iconst 0, 1) := by decide +kernel
theorem dX5_thing_2 : decode cX5_thing 2 = .ok (.bipush 6, 2) := by decide +kernel
theorem dX5_thing_4 : decode cX5_thing 4 = .ok (.invokestatic 65, 3) := by decide +kernel
theorem dX5_thing_7 : decode cX5_thing 7 = .ok (.ifCond .ne 9, 3) := by decide +kernel
theorem dX5_thing_10 : decode cX5_thing 10 = .ok (.aload_n 0, 1) := by decide +kernel
theorem dX5_thing_11 : decode cX5_thing 11 = .ok (.iconst 0, 1) := by decide +kernel
theorem dX5_thing_12 : decode cX5_thing 12 = .ok (.invokevirtual 69, 3) := by decide +kernel
theorem dX5_thing_15 : decode cX5_thing 15 = .ok (.ireturn, 1) := by decide +kernel
theorem dX5_thing_16 : decode cX5_thing 16 = .ok (.aload_n 0, 1) := by decide +kernel
theorem dX5_thing_17 : decode cX5_thing 17 = .ok (.getfield 10, 3) := by decide +kernel
theorem dX5_thing_20 : decode cX5_thing 20 = .ok (.getfield 73, 3) := by decide +kernel
theorem dX5_thing_23 : decode cX5_thing 23 = .ok (.getfield 76, 3) := by decide +kernel
theorem dX5_thing_26 : decode cX5_thing 26 = .ok (.bipush 10, 2) := by decide +kernel
theorem dX5_thing_28 : decode cX5_thing 28 = .ok (.if_icmp .lt 9, 3) := by decide +kernel
theorem dX5_thing_31 : decode cX5_thing 31 = .ok (.aload_n 0, 1) := by decide +kernel
theorem dX5_thing_32 : decode cX5_thing 32 = .ok (.iconst 1, 1) := by decide +kernel
theorem dX5_thing_33 : decode cX5_thing 33 = .ok (.invokevirtual 69, 3) := by decide +kernel
theorem dX5_thing_36 : decode cX5_thing 36 = .ok (.ireturn, 1) := by decide +kernel
theorem dX5_thing_37 : decode cX5_thing 37 = .ok (.aload_n 0, 1) := by decide +kernel
theorem dX5_thing_38 : decode cX5_thing 38 = .ok (.getfield 10, 3) := by decide +kernel
theorem dX5_thing_41 : decode cX5_thing 41 = .ok (.getfield 73, 3) := by decide +kernel
theorem dX5_thing_44 : decode cX5_thing 44 = .ok (.iload_n 1, 1) := by decide +kernel
theorem dX5_thing_45 : decode cX5_thing 45 = .ok (.invokevirtual 79, 3) := by decide +kernel
theorem dX5_thing_48 : decode cX5_thing 48 = .ok (.ireturn, 1) := by decide +kernel
theorem dX5_of_0 : decode cX5_of 0 = .ok (.aload_n 0, 1) := by decide +kernel
theorem dX5_of_1 : decode cX5_of 1 = .ok (.iload_n 1, 1) := by decide +kernel
theorem dX5_of_2 : decode cX5_of 2 = .ok (.invokevirtual 82, 3) := by decide +kernel
theorem dX5_of_5 : decode cX5_of 5 = .ok (.ifCond .eq 13, 3) := by decide +kernel
theorem dX5_of_8 : decode cX5_of 8 = .ok (.iload_n 2, 1) := by decide +kernel
theorem dX5_of_9 : decode cX5_of 9 = .ok (.iconst 0, 1) := by decide +kernel
theorem dX5_of_10 : decode cX5_of 10 = .ok (.bipush 9, 2) := by decide +kernel
theorem dX5_of_12 : decode cX5_of 12 = .ok (.invokestatic 65, 3) := by decide +kernel
theorem dX5_of_15 : decode cX5_of 15 = .ok (.ifCond .ne 9, 3) := by decide +kernel
theorem dX5_of_18 : decode cX5_of 18 = .ok (.aload_n 0, 1) := by decide +kernel
theorem dX5_of_19 : decode cX5_of 19 = .ok (.iconst 0, 1) := by decide +kernel
theorem dX5_of_20 : decode cX5_of 20 = .ok (.invokevirtual 69, 3) := by decide +kernel
theorem dX5_of_23 : decode cX5_of 23 = .ok (.ireturn, 1) := by decide +kernel
theorem dX5_of_24 : decode cX5_of 24 = .ok (.aload_n 0, 1) := by decide +kernel
theorem dX5_of_25 : decode cX5_of 25 = .ok (.getfield 10, 3) := by decide +kernel
theorem dX5_of_28 : decode cX5_of 28 = .ok (.getfield 73, 3) := by decide +kernel
theorem dX5_of_31 : decode cX5_of 31 = .ok (.iload_n 1, 1) := by decide +kernel
theorem dX5_of_32 : decode cX5_of 32 = .ok (.iload_n 2, 1) := by decide +kernel
theorem dX5_of_33 : decode cX5_of 33 = .ok (.invokevirtual 86, 3) := by decide +kernel
theorem dX5_of_36 : decode cX5_of 36 = .ok (.ireturn, 1) := by decide +kernel
theorem dX5_change_0 : decode cX5_change 0 = .ok (.aload_n 0, 1) := by decide +kernel
theorem dX5_change_1 : decode cX5_change 1 = .ok (.iload_n 1, 1) := by decide +kernel
theorem dX5_change_2 : decode cX5_change 2 = .ok (.invokevirtual 82, 3) := by decide +kernel
theorem dX5_change_5 : decode cX5_change 5 = .ok (.ifCond .eq 11, 3) := by decide +kernel
theorem dX5_change_8 : decode cX5_change 8 = .ok (.iload_n 2, 1) := by decide +kernel
theorem dX5_change_9 : decode cX5_change 9 = .ok (.iload_n 3, 1) := by decide +kernel
theorem dX5_change_10 : decode cX5_change 10 = .ok (.invokestatic 90, 3) := by decide +kernel
theorem dX5_change_13 : decode cX5_change 13 = .ok (.ifCond .ne 9, 3) := by decide +kernel
theorem dX5_change_16 : decode cX5_change 16 = .ok (.aload_n 0, 1) := by decide +kernel
theorem dX5_change_17 : decode cX5_change 17 = .ok (.iconst 0, 1) := by decide +kernel
theorem dX5_change_18 : decode cX5_change 18 = .ok (.invokevirtual 69, 3) := by decide +kernel
theorem dX5_change_21 : decode cX5_change 21 = .ok (.ireturn, 1) := by decide +kernel
theorem dX5_change_22 : decode cX5_change 22 = .ok (.aload_n 0, 1) := by decide +kernel
theorem dX5_change_23 : decode cX5_change 23 = .ok (.getfield 10, 3) := by decide +kernel
theorem dX5_change_26 : decode cX5_change 26 = .ok (.getfield 73, 3) := by decide +kernel
theorem dX5_change_29 : decode cX5_change 29 = .ok (.iload_n 1, 1) := by decide +kernel
theorem dX5_change_30 : decode cX5_change 30 = .ok (.iload_n 2, 1) := by decide +kernel
theorem dX5_change_31 : decode cX5_change 31 = .ok (.invokevirtual 86, 3) := by decide +kernel
theorem dX5_change_34 : decode cX5_change 34 = .ok (.istore 4, 2) := by decide +kernel
theorem dX5_change_36 : decode cX5_change 36 = .ok (.aload_n 0, 1) := by decide +kernel
theorem dX5_change_37 : decode cX5_change 37 = .ok (.getfield 10, 3) := by decide +kernel
theorem dX5_change_40 : decode cX5_change 40 = .ok (.getfield 73, 3) := by decide +kernel
theorem dX5_change_43 : decode cX5_change 43 = .ok (.iload_n 1, 1) := by decide +kernel
theorem dX5_change_44 : decode cX5_change 44 = .ok (.iload_n 2, 1) := by decide +kernel
theorem dX5_change_45 : decode cX5_change 45 = .ok (.iload_n 3, 1) := by decide +kernel
theorem dX5_change_46 : decode cX5_change 46 = .ok (.invokevirtual 94, 3) := by decide +kernel
theorem dX5_change_49 : decode cX5_change 49 = .ok (.iload 4, 2) := by decide +kernel
theorem dX5_change_51 : decode cX5_change 51 = .ok (.ireturn, 1) := by decide +kernel
theorem dX5_rule_0 : decode cX5_rule 0 = .ok (.aload_n 0, 1) := by decide +kernel
theorem dX5_rule_1 : decode cX5_rule 1 = .ok (.getfield 10, 3) := by decide +kernel
theorem dX5_rule_4 : decode cX5_rule 4 = .ok (.getfield 73, 3) := by decide +kernel
theorem dX5_rule_7 : decode cX5_rule 7 = .ok (.astore_n 3, 1) := by decide +kernel
theorem dX5_rule_8 : decode cX5_rule 8 = .ok (.iload_n 1, 1) := by decide +kernel
theorem dX5_rule_9 : decode cX5_rule 9 = .ok (.ifCond .ne 27, 3) := by decide +kernel
theorem dX5_rule_12 : decode cX5_rule 12 = .ok (.iload_n 2, 1) := by decide +kernel
theorem dX5_rule_13 : decode cX5_rule 13 = .ok (.iconst 1, 1) := by decide +kernel
theorem dX5_rule_14 : decode cX5_rule 14 = .ok (.bipush 40, 2) := by decide +kernel
theorem dX5_rule_16 : decode cX5_rule 16 = .ok (.invokestatic 65, 3) := by decide +kernel
theorem dX5_rule_19 : decode cX5_rule 19 = .ok (.ifCond .eq 17, 3) := by decide +kernel
theorem dX5_rule_22 : decode cX5_rule 22 = .ok (.aload_n 3, 1) := by decide +kernel
theorem dX5_rule_23 : decode cX5_rule 23 = .ok (.getfield 98, 3) := by decide +kernel
theorem dX5_rule_26 : decode cX5_rule 26 = .ok (.istore 4, 2) := by decide +kernel
theorem dX5_rule_28 : decode cX5_rule 28 = .ok (.aload_n 3, 1) := by decide +kernel
theorem dX5_rule_29 : decode cX5_rule 29 = .ok (.iload_n 2, 1) := by decide +kernel
theorem dX5_rule_30 : decode cX5_rule 30 = .ok (.putfield 98, 3) := by decide +kernel
theorem dX5_rule_33 : decode cX5_rule 33 = .ok (.iload 4, 2) := by decide +kernel
theorem dX5_rule_35 : decode cX5_rule 35 = .ok (.ireturn, 1) := by decide +kernel
theorem dX5_rule_36 : decode cX5_rule 36 = .ok (.iload_n 1, 1) := by decide +kernel
theorem dX5_rule_37 : decode cX5_rule 37 = .ok (.iconst 1, 1) := by decide +kernel
theorem dX5_rule_38 : decode cX5_rule 38 = .ok (.if_icmp .ne 27, 3) := by decide +kernel
theorem dX5_rule_41 : decode cX5_rule 41 = .ok (.iload_n 2, 1) := by decide +kernel
theorem dX5_rule_42 : decode cX5_rule 42 = .ok (.iconst 0, 1) := by decide +kernel
theorem dX5_rule_43 : decode cX5_rule 43 = .ok (.bipush 9, 2) := by decide +kernel
theorem dX5_rule_45 : decode cX5_rule 45 = .ok (.invokestatic 65, 3) := by decide +kernel
theorem dX5_rule_48 : decode cX5_rule 48 = .ok (.ifCond .eq 17, 3) := by decide +kernel
theorem dX5_rule_51 : decode cX5_rule 51 = .ok (.aload_n 3, 1) := by decide +kernel
theorem dX5_rule_52 : decode cX5_rule 52 = .ok (.getfield 101, 3) := by decide +kernel
theorem dX5_rule_55 : decode cX5_rule 55 = .ok (.istore 4, 2) := by decide +kernel
theorem dX5_rule_57 : decode cX5_rule 57 = .ok (.aload_n 3, 1) := by decide +kernel
theorem dX5_rule_58 : decode cX5_rule 58 = .ok (.iload_n 2, 1) := by decide +kernel
theorem dX5_rule_59 : decode cX5_rule 59 = .ok (.putfield 101, 3) := by decide +kernel
theorem dX5_rule_62 : decode cX5_rule 62 = .ok (.iload 4, 2) := by decide +kernel
theorem dX5_rule_64 : decode cX5_rule 64 = .ok (.ireturn, 1) := by decide +kernel
theorem dX5_rule_65 : decode cX5_rule 65 = .ok (.aload_n 0, 1) := by decide +kernel
theorem dX5_rule_66 : decode cX5_rule 66 = .ok (.iconst 0, 1) := by decide +kernel
theorem dX5_rule_67 : decode cX5_rule 67 = .ok (.invokevirtual 69, 3) := by decide +kernel
theorem dX5_rule_70 : decode cX5_rule 70 = .ok (.ireturn, 1) := by decide +kernel
theorem dX5_fed_0 : decode cX5_fed 0 = .ok (.aload_n 0, 1) := by decide +kernel
theorem dX5_fed_1 : decode cX5_fed 1 = .ok (.iload_n 1, 1) := by decide +kernel
theorem dX5_fed_2 : decode cX5_fed 2 = .ok (.invokevirtual 82, 3) := by decide +kernel
theorem dX5_fed_5 : decode cX5_fed 5 = .ok (.ifCond .ne 9, 3) := by decide +kernel
theorem dX5_fed_8 : decode cX5_fed 8 = .ok (.aload_n 0, 1) := by decide +kernel
theorem dX5_fed_9 : decode cX5_fed 9 = .ok (.iconst 0, 1) := by decide +kernel
theorem dX5_fed_10 : decode cX5_fed 10 = .ok (.invokevirtual 69, 3) := by decide +kernel
theorem dX5_fed_13 : decode cX5_fed 13 = .ok (.ireturn, 1) := by decide +kernel
theorem dX5_fed_14 : decode cX5_fed 14 = .ok (.aload_n 0, 1) := by decide +kernel
theorem dX5_fed_15 : decode cX5_fed 15 = .ok (.getfield 10, 3) := by decide +kernel
theorem dX5_fed_18 : decode cX5_fed 18 = .ok (.getfield 73, 3) := by decide +kernel
theorem dX5_fed_21 : decode cX5_fed 21 = .ok (.iload_n 1, 1) := by decide +kernel
theorem dX5_fed_22 : decode cX5_fed 22 = .ok (.invokevirtual 104, 3) := by decide +kernel
theorem dX5_fed_25 : decode cX5_fed 25 = .ok (.ifCond .ne 9, 3) := by decide +kernel
theorem dX5_fed_28 : decode cX5_fed 28 = .ok (.aload_n 0, 1) := by decide +kernel
theorem dX5_fed_29 : decode cX5_fed 29 = .ok (.iconst 4, 1) := by decide +kernel
theorem dX5_fed_30 : decode cX5_fed 30 = .ok (.invokevirtual 69, 3) := by decide +kernel
theorem dX5_fed_33 : decode cX5_fed 33 = .ok (.ireturn, 1) := by decide +kernel
theorem dX5_fed_34 : decode cX5_fed 34 = .ok (.aload_n 0, 1) := by decide +kernel
theorem dX5_fed_35 : decode cX5_fed 35 = .ok (.getfield 10, 3) := by decide +kernel
theorem dX5_fed_38 : decode cX5_fed 38 = .ok (.getfield 73, 3) := by decide +kernel
theorem dX5_fed_41 : decode cX5_fed 41 = .ok (.iload_n 1, 1) := by decide +kernel
theorem dX5_fed_42 : decode cX5_fed 42 = .ok (.invokevirtual 107, 3) := by decide +kernel
theorem dX5_fed_45 : decode cX5_fed 45 = .ok (.ifCond .ne 9, 3) := by decide +kernel
theorem dX5_fed_48 : decode cX5_fed 48 = .ok (.aload_n 0, 1) := by decide +kernel
theorem dX5_fed_49 : decode cX5_fed 49 = .ok (.iconst 1, 1) := by decide +kernel
theorem dX5_fed_50 : decode cX5_fed 50 = .ok (.invokevirtual 69, 3) := by decide +kernel
theorem dX5_fed_53 : decode cX5_fed 53 = .ok (.ireturn, 1) := by decide +kernel
theorem dX5_fed_54 : decode cX5_fed 54 = .ok (.aload_n 0, 1) := by decide +kernel
theorem dX5_fed_55 : decode cX5_fed 55 = .ok (.getfield 10, 3) := by decide +kernel
theorem dX5_fed_58 : decode cX5_fed 58 = .ok (.getfield 73, 3) := by decide +kernel
theorem dX5_fed_61 : decode cX5_fed 61 = .ok (.iload_n 1, 1) := by decide +kernel
theorem dX5_fed_62 : decode cX5_fed 62 = .ok (.invokevirtual 110, 3) := by decide +kernel
theorem dX5_fed_65 : decode cX5_fed 65 = .ok (.aload_n 0, 1) := by decide +kernel
theorem dX5_fed_66 : decode cX5_fed 66 = .ok (.getfield 10, 3) := by decide +kernel
theorem dX5_fed_69 : decode cX5_fed 69 = .ok (.getfield 73, 3) := by decide +kernel
theorem dX5_fed_72 : decode cX5_fed 72 = .ok (.getfield 114, 3) := by decide +kernel
theorem dX5_fed_75 : decode cX5_fed 75 = .ok (.ireturn, 1) := by decide +kernel
theorem dX5_home_0 : decode cX5_home 0 = .ok (.aload_n 0, 1) := by decide +kernel
theorem dX5_home_1 : decode cX5_home 1 = .ok (.iload_n 1, 1) := by decide +kernel
theorem dX5_home_2 : decode cX5_home 2 = .ok (.invokevirtual 82, 3) := by decide +kernel
theorem dX5_home_5 : decode cX5_home 5 = .ok (.ifCond .ne 9, 3) := by decide +kernel
theorem dX5_home_8 : decode cX5_home 8 = .ok (.aload_n 0, 1) := by decide +kernel
theorem dX5_home_9 : decode cX5_home 9 = .ok (.iconst 0, 1) := by decide +kernel
theorem dX5_home_10 : decode cX5_home 10 = .ok (.invokevirtual 69, 3) := by decide +kernel
theorem dX5_home_13 : decode cX5_home 13 = .ok (.ireturn, 1) := by decide +kernel
theorem dX5_home_14 : decode cX5_home 14 = .ok (.aload_n 0, 1) := by decide +kernel
theorem dX5_home_15 : decode cX5_home 15 = .ok (.getfield 10, 3) := by decide +kernel
theorem dX5_home_18 : decode cX5_home 18 = .ok (.getfield 73, 3) := by decide +kernel
theorem dX5_home_21 : decode cX5_home 21 = .ok (.getfield 117, 3) := by decide +kernel
theorem dX5_home_24 : decode cX5_home 24 = .ok (.iload_n 1, 1) := by decide +kernel
theorem dX5_home_25 : decode cX5_home 25 = .ok (.iaload, 1) := by decide +kernel
theorem dX5_home_26 : decode cX5_home 26 = .ok (.iconst 2, 1) := by decide +kernel
theorem dX5_home_27 : decode cX5_home 27 = .ok (.if_icmp .eq 9, 3) := by decide +kernel
theorem dX5_home_30 : decode cX5_home 30 = .ok (.aload_n 0, 1) := by decide +kernel
theorem dX5_home_31 : decode cX5_home 31 = .ok (.iconst 4, 1) := by decide +kernel
theorem dX5_home_32 : decode cX5_home 32 = .ok (.invokevirtual 69, 3) := by decide +kernel
theorem dX5_home_35 : decode cX5_home 35 = .ok (.ireturn, 1) := by decide +kernel
theorem dX5_home_36 : decode cX5_home 36 = .ok (.aload_n 0, 1) := by decide +kernel
theorem dX5_home_37 : decode cX5_home 37 = .ok (.getfield 10, 3) := by decide +kernel
theorem dX5_home_40 : decode cX5_home 40 = .ok (.getfield 73, 3) := by decide +kernel
theorem dX5_home_43 : decode cX5_home 43 = .ok (.getfield 117, 3) := by decide +kernel
theorem dX5_home_46 : decode cX5_home 46 = .ok (.iload_n 1, 1) := by decide +kernel
theorem dX5_home_47 : decode cX5_home 47 = .ok (.iconst 0, 1) := by decide +kernel
theorem dX5_home_48 : decode cX5_home 48 = .ok (.iastore, 1) := by decide +kernel
theorem dX5_home_49 : decode cX5_home 49 = .ok (.aload_n 0, 1) := by decide +kernel
theorem dX5_home_50 : decode cX5_home 50 = .ok (.getfield 10, 3) := by decide +kernel
theorem dX5_home_53 : decode cX5_home 53 = .ok (.iload_n 1, 1) := by decide +kernel
theorem dX5_home_54 : decode cX5_home 54 = .ok (.invokevirtual 120, 3) := by decide +kernel
theorem dX5_home_57 : decode cX5_home 57 = .ok (.ireturn, 1) := by decide +kernel
theorem dX5_crop_0 : decode cX5_crop 0 = .ok (.iload_n 1, 1) := by decide +kernel
theorem dX5_crop_1 : decode cX5_crop 1 = .ok (.iconst 0, 1) := by decide +kernel
theorem dX5_crop_2 : decode cX5_crop 2 = .ok (.bipush 7, 2) := by decide +kernel
theorem dX5_crop_4 : decode cX5_crop 4 = .ok (.invokestatic 65, 3) := by decide +kernel
theorem dX5_crop_7 : decode cX5_crop 7 = .ok (.ifCond .ne 9, 3) := by decide +kernel
theorem dX5_crop_10 : decode cX5_crop 10 = .ok (.aload_n 0, 1) := by decide +kernel
theorem dX5_crop_11 : decode cX5_crop 11 = .ok (.iconst 0, 1) := by decide +kernel
theorem dX5_crop_12 : decode cX5_crop 12 = .ok (.invokevirtual 69, 3) := by decide +kernel
theorem dX5_crop_15 : decode cX5_crop 15 = .ok (.ireturn, 1) := by decide +kernel
theorem dX5_crop_16 : decode cX5_crop 16 = .ok (.iload_n 1, 1) := by decide +kernel
theorem dX5_crop_17 : decode cX5_crop 17 = .ok (.aload_n 0, 1) := by decide +kernel
theorem dX5_crop_18 : decode cX5_crop 18 = .ok (.getfield 10, 3) := by decide +kernel
theorem dX5_crop_21 : decode cX5_crop 21 = .ok (.getfield 73, 3) := by decide +kernel
theorem dX5_crop_24 : decode cX5_crop 24 = .ok (.getfield 114, 3) := by decide +kernel
theorem dX5_crop_27 : decode cX5_crop 27 = .ok (.if_icmp .ge 18, 3) := by decide +kernel
theorem dX5_crop_30 : decode cX5_crop 30 = .ok (.aload_n 0, 1) := by decide +kernel
theorem dX5_crop_31 : decode cX5_crop 31 = .ok (.getfield 10, 3) := by decide +kernel
theorem dX5_crop_34 : decode cX5_crop 34 = .ok (.getfield 73, 3) := by decide +kernel
theorem dX5_crop_37 : decode cX5_crop 37 = .ok (.getfield 123, 3) := by decide +kernel
theorem dX5_crop_40 : decode cX5_crop 40 = .ok (.iload_n 1, 1) := by decide +kernel
theorem dX5_crop_41 : decode cX5_crop 41 = .ok (.iaload, 1) := by decide +kernel
theorem dX5_crop_42 : decode cX5_crop 42 = .ok (.goto 8, 3) := by decide +kernel
theorem dX5_crop_45 : decode cX5_crop 45 = .ok (.aload_n 0, 1) := by decide +kernel
theorem dX5_crop_46 : decode cX5_crop 46 = .ok (.iconst 3, 1) := by decide +kernel
theorem dX5_crop_47 : decode cX5_crop 47 = .ok (.invokevirtual 69, 3) := by decide +kernel
theorem dX5_crop_50 : decode cX5_crop 50 = .ok (.ireturn, 1) := by decide +kernel
theorem dX5_egg_0 : decode cX5_egg 0 = .ok (.iload_n 1, 1) := by decide +kernel
theorem dX5_egg_1 : decode cX5_egg 1 = .ok (.ifCond .lt 12, 3) := by decide +kernel
theorem dX5_egg_4 : decode cX5_egg 4 = .ok (.iload_n 2, 1) := by decide +kernel
theorem dX5_egg_5 : decode cX5_egg 5 = .ok (.iconst 0, 1) := by decide +kernel
theorem dX5_egg_6 : decode cX5_egg 6 = .ok (.iconst 2, 1) := by decide +kernel
theorem dX5_egg_7 : decode cX5_egg 7 = .ok (.invokestatic 65, 3) := by decide +kernel
theorem dX5_egg_10 : decode cX5_egg 10 = .ok (.ifCond .ne 9, 3) := by decide +kernel
theorem dX5_egg_13 : decode cX5_egg 13 = .ok (.aload_n 0, 1) := by decide +kernel
theorem dX5_egg_14 : decode cX5_egg 14 = .ok (.iconst 0, 1) := by decide +kernel
theorem dX5_egg_15 : decode cX5_egg 15 = .ok (.invokevirtual 69, 3) := by decide +kernel
theorem dX5_egg_18 : decode cX5_egg 18 = .ok (.ireturn, 1) := by decide +kernel
theorem dX5_egg_19 : decode cX5_egg 19 = .ok (.iload_n 1, 1) := by decide +kernel
theorem dX5_egg_20 : decode cX5_egg 20 = .ok (.aload_n 0, 1) := by decide +kernel
theorem dX5_egg_21 : decode cX5_egg 21 = .ok (.getfield 10, 3) := by decide +kernel
theorem dX5_egg_24 : decode cX5_egg 24 = .ok (.invokevirtual 126, 3) := by decide +kernel
theorem dX5_egg_27 : decode cX5_egg 27 = .ok (.if_icmp .lt 9, 3) := by decide +kernel
theorem dX5_egg_30 : decode cX5_egg 30 = .ok (.aload_n 0, 1) := by decide +kernel
theorem dX5_egg_31 : decode cX5_egg 31 = .ok (.iconst 3, 1) := by decide +kernel
theorem dX5_egg_32 : decode cX5_egg 32 = .ok (.invokevirtual 69, 3) := by decide +kernel
theorem dX5_egg_35 : decode cX5_egg 35 = .ok (.ireturn, 1) := by decide +kernel
theorem dX5_egg_36 : decode cX5_egg 36 = .ok (.iload_n 2, 1) := by decide +kernel
theorem dX5_egg_37 : decode cX5_egg 37 = .ok (.lookupswitch 47 #[(0, 27), (1, 37)], 27) := by decide +kernel
theorem dX5_egg_64 : decode cX5_egg 64 = .ok (.aload_n 0, 1) := by decide +kernel
theorem dX5_egg_65 : decode cX5_egg 65 = .ok (.getfield 10, 3) := by decide +kernel
theorem dX5_egg_68 : decode cX5_egg 68 = .ok (.getfield 130, 3) := by decide +kernel
theorem dX5_egg_71 : decode cX5_egg 71 = .ok (.iload_n 1, 1) := by decide +kernel
theorem dX5_egg_72 : decode cX5_egg 72 = .ok (.iaload, 1) := by decide +kernel
theorem dX5_egg_73 : decode cX5_egg 73 = .ok (.ireturn, 1) := by decide +kernel
theorem dX5_egg_74 : decode cX5_egg 74 = .ok (.aload_n 0, 1) := by decide +kernel
theorem dX5_egg_75 : decode cX5_egg 75 = .ok (.getfield 10, 3) := by decide +kernel
theorem dX5_egg_78 : decode cX5_egg 78 = .ok (.getfield 133, 3) := by decide +kernel
theorem dX5_egg_81 : decode cX5_egg 81 = .ok (.iload_n 1, 1) := by decide +kernel
theorem dX5_egg_82 : decode cX5_egg 82 = .ok (.iaload, 1) := by decide +kernel
theorem dX5_egg_83 : decode cX5_egg 83 = .ok (.ireturn, 1) := by decide +kernel
theorem dX5_egg_84 : decode cX5_egg 84 = .ok (.aload_n 0, 1) := by decide +kernel
theorem dX5_egg_85 : decode cX5_egg 85 = .ok (.getfield 10, 3) := by decide +kernel
theorem dX5_egg_88 : decode cX5_egg 88 = .ok (.getfield 136, 3) := by decide +kernel
theorem dX5_egg_91 : decode cX5_egg 91 = .ok (.iload_n 1, 1) := by decide +kernel
theorem dX5_egg_92 : decode cX5_egg 92 = .ok (.iaload, 1) := by decide +kernel
theorem dX5_egg_93 : decode cX5_egg 93 = .ok (.ireturn, 1) := by decide +kernel
theorem dX5_days_0 : decode cX5_days 0 = .ok (.iload_n 1, 1) := by decide +kernel
theorem dX5_days_1 : decode cX5_days 1 = .ok (.invokestatic 139, 3) := by decide +kernel
theorem dX5_days_4 : decode cX5_days 4 = .ok (.ifCond .ne 9, 3) := by decide +kernel
theorem dX5_days_7 : decode cX5_days 7 = .ok (.aload_n 0, 1) := by decide +kernel
theorem dX5_days_8 : decode cX5_days 8 = .ok (.iconst 0, 1) := by decide +kernel
theorem dX5_days_9 : decode cX5_days 9 = .ok (.invokevirtual 69, 3) := by decide +kernel
theorem dX5_days_12 : decode cX5_days 12 = .ok (.ireturn, 1) := by decide +kernel
theorem dX5_days_13 : decode cX5_days 13 = .ok (.aload_n 0, 1) := by decide +kernel
theorem dX5_days_14 : decode cX5_days 14 = .ok (.iload_n 1, 1) := by decide +kernel
theorem dX5_days_15 : decode cX5_days 15 = .ok (.invokevirtual 142, 3) := by decide +kernel
theorem dX5_days_18 : decode cX5_days 18 = .ok (.ifCond .eq 9, 3) := by decide +kernel
theorem dX5_days_21 : decode cX5_days 21 = .ok (.aload_n 0, 1) := by decide +kernel
theorem dX5_days_22 : decode cX5_days 22 = .ok (.iconst 4, 1) := by decide +kernel
theorem dX5_days_23 : decode cX5_days 23 = .ok (.invokevirtual 69, 3) := by decide +kernel
theorem dX5_days_26 : decode cX5_days 26 = .ok (.ireturn, 1) := by decide +kernel
theorem dX5_days_27 : decode cX5_days 27 = .ok (.iconst 0, 1) := by decide +kernel
theorem dX5_days_28 : decode cX5_days 28 = .ok (.istore_n 2, 1) := by decide +kernel
theorem dX5_days_29 : decode cX5_days 29 = .ok (.iconst 0, 1) := by decide +kernel
theorem dX5_days_30 : decode cX5_days 30 = .ok (.istore_n 3, 1) := by decide +kernel
theorem dX5_days_31 : decode cX5_days 31 = .ok (.iload_n 3, 1) := by decide +kernel
theorem dX5_days_32 : decode cX5_days 32 = .ok (.iload_n 1, 1) := by decide +kernel
theorem dX5_days_33 : decode cX5_days 33 = .ok (.if_icmp .ge 19, 3) := by decide +kernel
theorem dX5_days_36 : decode cX5_days 36 = .ok (.iload_n 2, 1) := by decide +kernel
theorem dX5_days_37 : decode cX5_days 37 = .ok (.aload_n 0, 1) := by decide +kernel
theorem dX5_days_38 : decode cX5_days 38 = .ok (.getfield 10, 3) := by decide +kernel
theorem dX5_days_41 : decode cX5_days 41 = .ok (.invokevirtual 145, 3) := by decide +kernel
theorem dX5_days_44 : decode cX5_days 44 = .ok (.iadd, 1) := by decide +kernel
theorem dX5_days_45 : decode cX5_days 45 = .ok (.istore_n 2, 1) := by decide +kernel
theorem dX5_days_46 : decode cX5_days 46 = .ok (.iinc 3 1, 3) := by decide +kernel
theorem dX5_days_49 : decode cX5_days 49 = .ok (.goto (-18), 3) := by decide +kernel
theorem dX5_days_52 : decode cX5_days 52 = .ok (.iload_n 2, 1) := by decide +kernel
theorem dX5_days_53 : decode cX5_days 53 = .ok (.ireturn, 1) := by decide +kernel
theorem dX5_now_0 : decode cX5_now 0 = .ok (.aload_n 0, 1) := by decide +kernel
theorem dX5_now_1 : decode cX5_now 1 = .ok (.getfield 10, 3) := by decide +kernel
theorem dX5_now_4 : decode cX5_now 4 = .ok (.getfield 73, 3) := by decide +kernel
theorem dX5_now_7 : decode cX5_now 7 = .ok (.astore_n 2, 1) := by decide +kernel
theorem dX5_now_8 : decode cX5_now 8 = .ok (.iload_n 1, 1) := by decide +kernel
theorem dX5_now_9 : decode cX5_now 9 = .ok (.tableswitch 87 0 6 #[43, 51, 56, 61, 69, 77, 82], 43) := by decide +kernel
theorem dX5_now_52 : decode cX5_now 52 = .ok (.aload_n 0, 1) := by decide +kernel
theorem dX5_now_53 : decode cX5_now 53 = .ok (.getfield 10, 3) := by decide +kernel
theorem dX5_now_56 : decode cX5_now 56 = .ok (.getfield 148, 3) := by decide +kernel
theorem dX5_now_59 : decode cX5_now 59 = .ok (.ireturn, 1) := by decide +kernel
theorem dX5_now_60 : decode cX5_now 60 = .ok (.aload_n 2, 1) := by decide +kernel
theorem dX5_now_61 : decode cX5_now 61 = .ok (.getfield 114, 3) := by decide +kernel
theorem dX5_now_64 : decode cX5_now 64 = .ok (.ireturn, 1) := by decide +kernel
theorem dX5_now_65 : decode cX5_now 65 = .ok (.aload_n 2, 1) := by decide +kernel
theorem dX5_now_66 : decode cX5_now 66 = .ok (.invokevirtual 151, 3) := by decide +kernel
theorem dX5_now_69 : decode cX5_now 69 = .ok (.ireturn, 1) := by decide +kernel
theorem dX5_now_70 : decode cX5_now 70 = .ok (.aload_n 0, 1) := by decide +kernel
theorem dX5_now_71 : decode cX5_now 71 = .ok (.getfield 10, 3) := by decide +kernel
theorem dX5_now_74 : decode cX5_now 74 = .ok (.getfield 154, 3) := by decide +kernel
theorem dX5_now_77 : decode cX5_now 77 = .ok (.ireturn, 1) := by decide +kernel
theorem dX5_now_78 : decode cX5_now 78 = .ok (.aload_n 0, 1) := by decide +kernel
theorem dX5_now_79 : decode cX5_now 79 = .ok (.getfield 10, 3) := by decide +kernel
theorem dX5_now_82 : decode cX5_now 82 = .ok (.getfield 157, 3) := by decide +kernel
theorem dX5_now_85 : decode cX5_now 85 = .ok (.ireturn, 1) := by decide +kernel
theorem dX5_now_86 : decode cX5_now 86 = .ok (.aload_n 2, 1) := by decide +kernel
theorem dX5_now_87 : decode cX5_now 87 = .ok (.getfield 98, 3) := by decide +kernel
theorem dX5_now_90 : decode cX5_now 90 = .ok (.ireturn, 1) := by decide +kernel
theorem dX5_now_91 : decode cX5_now 91 = .ok (.aload_n 2, 1) := by decide +kernel
theorem dX5_now_92 : decode cX5_now 92 = .ok (.getfield 101, 3) := by decide +kernel
theorem dX5_now_95 : decode cX5_now 95 = .ok (.ireturn, 1) := by decide +kernel
theorem dX5_now_96 : decode cX5_now 96 = .ok (.aload_n 0, 1) := by decide +kernel
theorem dX5_now_97 : decode cX5_now 97 = .ok (.iconst 0, 1) := by decide +kernel
theorem dX5_now_98 : decode cX5_now 98 = .ok (.invokevirtual 69, 3) := by decide +kernel
theorem dX5_now_101 : decode cX5_now 101 = .ok (.ireturn, 1) := by decide +kernel
theorem dX5_ahead_0 : decode cX5_ahead 0 = .ok (.iload_n 1, 1) := by decide +kernel
theorem dX5_ahead_1 : decode cX5_ahead 1 = .ok (.iconst 0, 1) := by decide +kernel
theorem dX5_ahead_2 : decode cX5_ahead 2 = .ok (.bipush 60, 2) := by decide +kernel
theorem dX5_ahead_4 : decode cX5_ahead 4 = .ok (.invokestatic 65, 3) := by decide +kernel
theorem dX5_ahead_7 : decode cX5_ahead 7 = .ok (.ifCond .eq 12, 3) := by decide +kernel
theorem dX5_ahead_10 : decode cX5_ahead 10 = .ok (.iload_n 2, 1) := by decide +kernel
theorem dX5_ahead_11 : decode cX5_ahead 11 = .ok (.iconst 0, 1) := by decide +kernel
theorem dX5_ahead_12 : decode cX5_ahead 12 = .ok (.iconst 4, 1) := by decide +kernel
theorem dX5_ahead_13 : decode cX5_ahead 13 = .ok (.invokestatic 65, 3) := by decide +kernel
theorem dX5_ahead_16 : decode cX5_ahead 16 = .ok (.ifCond .ne 9, 3) := by decide +kernel
theorem dX5_ahead_19 : decode cX5_ahead 19 = .ok (.aload_n 0, 1) := by decide +kernel
theorem dX5_ahead_20 : decode cX5_ahead 20 = .ok (.iconst 0, 1) := by decide +kernel
theorem dX5_ahead_21 : decode cX5_ahead 21 = .ok (.invokevirtual 69, 3) := by decide +kernel
theorem dX5_ahead_24 : decode cX5_ahead 24 = .ok (.ireturn, 1) := by decide +kernel
theorem dX5_ahead_25 : decode cX5_ahead 25 = .ok (.aload_n 0, 1) := by decide +kernel
theorem dX5_ahead_26 : decode cX5_ahead 26 = .ok (.iload_n 1, 1) := by decide +kernel
theorem dX5_ahead_27 : decode cX5_ahead 27 = .ok (.invokevirtual 142, 3) := by decide +kernel
theorem dX5_ahead_30 : decode cX5_ahead 30 = .ok (.ifCond .eq 9, 3) := by decide +kernel
theorem dX5_ahead_33 : decode cX5_ahead 33 = .ok (.aload_n 0, 1) := by decide +kernel
theorem dX5_ahead_34 : decode cX5_ahead 34 = .ok (.iconst 4, 1) := by decide +kernel
theorem dX5_ahead_35 : decode cX5_ahead 35 = .ok (.invokevirtual 69, 3) := by decide +kernel
theorem dX5_ahead_38 : decode cX5_ahead 38 = .ok (.ireturn, 1) := by decide +kernel
theorem dX5_ahead_39 : decode cX5_ahead 39 = .ok (.aload_n 0, 1) := by decide +kernel
theorem dX5_ahead_40 : decode cX5_ahead 40 = .ok (.getfield 43, 3) := by decide +kernel
theorem dX5_ahead_43 : decode cX5_ahead 43 = .ok (.aload_n 0, 1) := by decide +kernel
theorem dX5_ahead_44 : decode cX5_ahead 44 = .ok (.getfield 10, 3) := by decide +kernel
theorem dX5_ahead_47 : decode cX5_ahead 47 = .ok (.getfield 73, 3) := by decide +kernel
theorem dX5_ahead_50 : decode cX5_ahead 50 = .ok (.invokevirtual 160, 3) := by decide +kernel
theorem dX5_ahead_53 : decode cX5_ahead 53 = .ok (.aload_n 0, 1) := by decide +kernel
theorem dX5_ahead_54 : decode cX5_ahead 54 = .ok (.getfield 43, 3) := by decide +kernel
theorem dX5_ahead_57 : decode cX5_ahead 57 = .ok (.iload_n 1, 1) := by decide +kernel
theorem dX5_ahead_58 : decode cX5_ahead 58 = .ok (.invokevirtual 164, 3) := by decide +kernel
theorem dX5_ahead_61 : decode cX5_ahead 61 = .ok (.istore_n 3, 1) := by decide +kernel
theorem dX5_ahead_62 : decode cX5_ahead 62 = .ok (.iload_n 2, 1) := by decide +kernel
theorem dX5_ahead_63 : decode cX5_ahead 63 = .ok (.tableswitch 66 0 3 #[29, 48, 50, 58], 29) := by decide +kernel
theorem dX5_ahead_92 : decode cX5_ahead 92 = .ok (.aload_n 0, 1) := by decide +kernel
theorem dX5_ahead_93 : decode cX5_ahead 93 = .ok (.getfield 10, 3) := by decide +kernel
theorem dX5_ahead_96 : decode cX5_ahead 96 = .ok (.getfield 73, 3) := by decide +kernel
theorem dX5_ahead_99 : decode cX5_ahead 99 = .ok (.getfield 114, 3) := by decide +kernel
theorem dX5_ahead_102 : decode cX5_ahead 102 = .ok (.aload_n 0, 1) := by decide +kernel
theorem dX5_ahead_103 : decode cX5_ahead 103 = .ok (.getfield 43, 3) := by decide +kernel
theorem dX5_ahead_106 : decode cX5_ahead 106 = .ok (.getfield 114, 3) := by decide +kernel
theorem dX5_ahead_109 : decode cX5_ahead 109 = .ok (.isub, 1) := by decide +kernel
theorem dX5_ahead_110 : decode cX5_ahead 110 = .ok (.ireturn, 1) := by decide +kernel
theorem dX5_ahead_111 : decode cX5_ahead 111 = .ok (.iload_n 3, 1) := by decide +kernel
theorem dX5_ahead_112 : decode cX5_ahead 112 = .ok (.ireturn, 1) := by decide +kernel
theorem dX5_ahead_113 : decode cX5_ahead 113 = .ok (.aload_n 0, 1) := by decide +kernel
theorem dX5_ahead_114 : decode cX5_ahead 114 = .ok (.getfield 43, 3) := by decide +kernel
theorem dX5_ahead_117 : decode cX5_ahead 117 = .ok (.getfield 114, 3) := by decide +kernel
theorem dX5_ahead_120 : decode cX5_ahead 120 = .ok (.ireturn, 1) := by decide +kernel
theorem dX5_ahead_121 : decode cX5_ahead 121 = .ok (.aload_n 0, 1) := by decide +kernel
theorem dX5_ahead_122 : decode cX5_ahead 122 = .ok (.getfield 43, 3) := by decide +kernel
theorem dX5_ahead_125 : decode cX5_ahead 125 = .ok (.invokevirtual 167, 3) := by decide +kernel
theorem dX5_ahead_128 : decode cX5_ahead 128 = .ok (.ireturn, 1) := by decide +kernel
theorem dX5_ahead_129 : decode cX5_ahead 129 = .ok (.aload_n 0, 1) := by decide +kernel
theorem dX5_ahead_130 : decode cX5_ahead 130 = .ok (.getfield 43, 3) := by decide +kernel
theorem dX5_ahead_133 : decode cX5_ahead 133 = .ok (.getfield 114, 3) := by decide +kernel
theorem dX5_ahead_136 : decode cX5_ahead 136 = .ok (.ifCond .le 15, 3) := by decide +kernel
theorem dX5_ahead_139 : decode cX5_ahead 139 = .ok (.aload_n 0, 1) := by decide +kernel
theorem dX5_ahead_140 : decode cX5_ahead 140 = .ok (.getfield 43, 3) := by decide +kernel
theorem dX5_ahead_143 : decode cX5_ahead 143 = .ok (.getfield 123, 3) := by decide +kernel
theorem dX5_ahead_146 : decode cX5_ahead 146 = .ok (.iconst 0, 1) := by decide +kernel
theorem dX5_ahead_147 : decode cX5_ahead 147 = .ok (.iaload, 1) := by decide +kernel
theorem dX5_ahead_148 : decode cX5_ahead 148 = .ok (.goto 4, 3) := by decide +kernel
theorem dX5_ahead_151 : decode cX5_ahead 151 = .ok (.iconst (-1), 1) := by decide +kernel
theorem dX5_ahead_152 : decode cX5_ahead 152 = .ok (.ireturn, 1) := by decide +kernel
theorem dX5_when_0 : decode cX5_when 0 = .ok (.aload_n 0, 1) := by decide +kernel
theorem dX5_when_1 : decode cX5_when 1 = .ok (.iload_n 1, 1) := by decide +kernel
theorem dX5_when_2 : decode cX5_when 2 = .ok (.invokevirtual 170, 3) := by decide +kernel
theorem dX5_when_5 : decode cX5_when 5 = .ok (.istore_n 2, 1) := by decide +kernel
theorem dX5_when_6 : decode cX5_when 6 = .ok (.iload_n 2, 1) := by decide +kernel
theorem dX5_when_7 : decode cX5_when 7 = .ok (.ifCond .lt 9, 3) := by decide +kernel
theorem dX5_when_10 : decode cX5_when 10 = .ok (.aload_n 0, 1) := by decide +kernel
theorem dX5_when_11 : decode cX5_when 11 = .ok (.iload_n 2, 1) := by decide +kernel
theorem dX5_when_12 : decode cX5_when 12 = .ok (.invokevirtual 69, 3) := by decide +kernel
theorem dX5_when_15 : decode cX5_when 15 = .ok (.ireturn, 1) := by decide +kernel
theorem dX5_when_16 : decode cX5_when 16 = .ok (.aload_n 0, 1) := by decide +kernel
theorem dX5_when_17 : decode cX5_when 17 = .ok (.iload_n 1, 1) := by decide +kernel
theorem dX5_when_18 : decode cX5_when 18 = .ok (.invokevirtual 173, 3) := by decide +kernel
theorem dX5_when_21 : decode cX5_when 21 = .ok (.istore_n 3, 1) := by decide +kernel
theorem dX5_when_22 : decode cX5_when 22 = .ok (.iload_n 3, 1) := by decide +kernel
theorem dX5_when_23 : decode cX5_when 23 = .ok (.ifCond .le 7, 3) := by decide +kernel
theorem dX5_when_26 : decode cX5_when 26 = .ok (.iload_n 3, 1) := by decide +kernel
theorem dX5_when_27 : decode cX5_when 27 = .ok (.goto 8, 3) := by decide +kernel
theorem dX5_when_30 : decode cX5_when 30 = .ok (.aload_n 0, 1) := by decide +kernel
theorem dX5_when_31 : decode cX5_when 31 = .ok (.iconst 3, 1) := by decide +kernel
theorem dX5_when_32 : decode cX5_when 32 = .ok (.invokevirtual 69, 3) := by decide +kernel
theorem dX5_when_35 : decode cX5_when 35 = .ok (.ireturn, 1) := by decide +kernel
theorem dX5_worth_0 : decode cX5_worth 0 = .ok (.aload_n 0, 1) := by decide +kernel
theorem dX5_worth_1 : decode cX5_worth 1 = .ok (.iload_n 1, 1) := by decide +kernel
theorem dX5_worth_2 : decode cX5_worth 2 = .ok (.invokevirtual 170, 3) := by decide +kernel
theorem dX5_worth_5 : decode cX5_worth 5 = .ok (.istore_n 2, 1) := by decide +kernel
theorem dX5_worth_6 : decode cX5_worth 6 = .ok (.iload_n 2, 1) := by decide +kernel
theorem dX5_worth_7 : decode cX5_worth 7 = .ok (.ifCond .lt 9, 3) := by decide +kernel
theorem dX5_worth_10 : decode cX5_worth 10 = .ok (.aload_n 0, 1) := by decide +kernel
theorem dX5_worth_11 : decode cX5_worth 11 = .ok (.iload_n 2, 1) := by decide +kernel
theorem dX5_worth_12 : decode cX5_worth 12 = .ok (.invokevirtual 69, 3) := by decide +kernel
theorem dX5_worth_15 : decode cX5_worth 15 = .ok (.ireturn, 1) := by decide +kernel
theorem dX5_worth_16 : decode cX5_worth 16 = .ok (.aload_n 0, 1) := by decide +kernel
theorem dX5_worth_17 : decode cX5_worth 17 = .ok (.iload_n 1, 1) := by decide +kernel
theorem dX5_worth_18 : decode cX5_worth 18 = .ok (.invokevirtual 173, 3) := by decide +kernel
theorem dX5_worth_21 : decode cX5_worth 21 = .ok (.ifCond .le 13, 3) := by decide +kernel
theorem dX5_worth_24 : decode cX5_worth 24 = .ok (.aload_n 0, 1) := by decide +kernel
theorem dX5_worth_25 : decode cX5_worth 25 = .ok (.getfield 43, 3) := by decide +kernel
theorem dX5_worth_28 : decode cX5_worth 28 = .ok (.getfield 176, 3) := by decide +kernel
theorem dX5_worth_31 : decode cX5_worth 31 = .ok (.goto 8, 3) := by decide +kernel
theorem dX5_worth_34 : decode cX5_worth 34 = .ok (.aload_n 0, 1) := by decide +kernel
theorem dX5_worth_35 : decode cX5_worth 35 = .ok (.iconst 3, 1) := by decide +kernel
theorem dX5_worth_36 : decode cX5_worth 36 = .ok (.invokevirtual 69, 3) := by decide +kernel
theorem dX5_worth_39 : decode cX5_worth 39 = .ok (.ireturn, 1) := by decide +kernel
theorem dX5_spoils_0 : decode cX5_spoils 0 = .ok (.aload_n 0, 1) := by decide +kernel
theorem dX5_spoils_1 : decode cX5_spoils 1 = .ok (.bipush 60, 2) := by decide +kernel
theorem dX5_spoils_3 : decode cX5_spoils 3 = .ok (.invokevirtual 142, 3) := by decide +kernel
theorem dX5_spoils_6 : decode cX5_spoils 6 = .ok (.ifCond .eq 9, 3) := by decide +kernel
theorem dX5_spoils_9 : decode cX5_spoils 9 = .ok (.aload_n 0, 1) := by decide +kernel
theorem dX5_spoils_10 : decode cX5_spoils 10 = .ok (.iconst 4, 1) := by decide +kernel
theorem dX5_spoils_11 : decode cX5_spoils 11 = .ok (.invokevirtual 69, 3) := by decide +kernel
theorem dX5_spoils_14 : decode cX5_spoils 14 = .ok (.ireturn, 1) := by decide +kernel
theorem dX5_spoils_15 : decode cX5_spoils 15 = .ok (.aload_n 0, 1) := by decide +kernel
theorem dX5_spoils_16 : decode cX5_spoils 16 = .ok (.getfield 43, 3) := by decide +kernel
theorem dX5_spoils_19 : decode cX5_spoils 19 = .ok (.aload_n 0, 1) := by decide +kernel
theorem dX5_spoils_20 : decode cX5_spoils 20 = .ok (.getfield 10, 3) := by decide +kernel
theorem dX5_spoils_23 : decode cX5_spoils 23 = .ok (.getfield 73, 3) := by decide +kernel
theorem dX5_spoils_26 : decode cX5_spoils 26 = .ok (.invokevirtual 160, 3) := by decide +kernel
theorem dX5_spoils_29 : decode cX5_spoils 29 = .ok (.iconst 1, 1) := by decide +kernel
theorem dX5_spoils_30 : decode cX5_spoils 30 = .ok (.istore_n 1, 1) := by decide +kernel
theorem dX5_spoils_31 : decode cX5_spoils 31 = .ok (.iload_n 1, 1) := by decide +kernel
theorem dX5_spoils_32 : decode cX5_spoils 32 = .ok (.bipush 60, 2) := by decide +kernel
theorem dX5_spoils_34 : decode cX5_spoils 34 = .ok (.if_icmp .gt 54, 3) := by decide +kernel
theorem dX5_spoils_37 : decode cX5_spoils 37 = .ok (.aload_n 0, 1) := by decide +kernel
theorem dX5_spoils_38 : decode cX5_spoils 38 = .ok (.getfield 43, 3) := by decide +kernel
theorem dX5_spoils_41 : decode cX5_spoils 41 = .ok (.invokevirtual 179, 3) := by decide +kernel
theorem dX5_spoils_44 : decode cX5_spoils 44 = .ok (.pop, 1) := by decide +kernel
theorem dX5_spoils_45 : decode cX5_spoils 45 = .ok (.aload_n 0, 1) := by decide +kernel
theorem dX5_spoils_46 : decode cX5_spoils 46 = .ok (.getfield 43, 3) := by decide +kernel
theorem dX5_spoils_49 : decode cX5_spoils 49 = .ok (.getfield 182, 3) := by decide +kernel
theorem dX5_spoils_52 : decode cX5_spoils 52 = .ok (.ifCond .lt 30, 3) := by decide +kernel
theorem dX5_spoils_55 : decode cX5_spoils 55 = .ok (.aload_n 0, 1) := by decide +kernel
theorem dX5_spoils_56 : decode cX5_spoils 56 = .ok (.getfield 43, 3) := by decide +kernel
theorem dX5_spoils_59 : decode cX5_spoils 59 = .ok (.getfield 176, 3) := by decide +kernel
theorem dX5_spoils_62 : decode cX5_spoils 62 = .ok (.aload_n 0, 1) := by decide +kernel
theorem dX5_spoils_63 : decode cX5_spoils 63 = .ok (.getfield 43, 3) := by decide +kernel
theorem dX5_spoils_66 : decode cX5_spoils 66 = .ok (.getfield 185, 3) := by decide +kernel
theorem dX5_spoils_69 : decode cX5_spoils 69 = .ok (.aload_n 0, 1) := by decide +kernel
theorem dX5_spoils_70 : decode cX5_spoils 70 = .ok (.getfield 43, 3) := by decide +kernel
theorem dX5_spoils_73 : decode cX5_spoils 73 = .ok (.getfield 182, 3) := by decide +kernel
theorem dX5_spoils_76 : decode cX5_spoils 76 = .ok (.iaload, 1) := by decide +kernel
theorem dX5_spoils_77 : decode cX5_spoils 77 = .ok (.if_icmp .ge 5, 3) := by decide +kernel
theorem dX5_spoils_80 : decode cX5_spoils 80 = .ok (.iload_n 1, 1) := by decide +kernel
theorem dX5_spoils_81 : decode cX5_spoils 81 = .ok (.ireturn, 1) := by decide +kernel
theorem dX5_spoils_82 : decode cX5_spoils 82 = .ok (.iinc 1 1, 3) := by decide +kernel
theorem dX5_spoils_85 : decode cX5_spoils 85 = .ok (.goto (-54), 3) := by decide +kernel
theorem dX5_spoils_88 : decode cX5_spoils 88 = .ok (.aload_n 0, 1) := by decide +kernel
theorem dX5_spoils_89 : decode cX5_spoils 89 = .ok (.iconst 3, 1) := by decide +kernel
theorem dX5_spoils_90 : decode cX5_spoils 90 = .ok (.invokevirtual 69, 3) := by decide +kernel
theorem dX5_spoils_93 : decode cX5_spoils 93 = .ok (.ireturn, 1) := by decide +kernel
theorem dX5_plan_0 : decode cX5_plan 0 = .ok (.iload_n 2, 1) := by decide +kernel
theorem dX5_plan_1 : decode cX5_plan 1 = .ok (.invokestatic 139, 3) := by decide +kernel
theorem dX5_plan_4 : decode cX5_plan 4 = .ok (.ifCond .eq 11, 3) := by decide +kernel
theorem dX5_plan_7 : decode cX5_plan 7 = .ok (.aload_n 0, 1) := by decide +kernel
theorem dX5_plan_8 : decode cX5_plan 8 = .ok (.iload_n 1, 1) := by decide +kernel
theorem dX5_plan_9 : decode cX5_plan 9 = .ok (.invokevirtual 188, 3) := by decide +kernel
theorem dX5_plan_12 : decode cX5_plan 12 = .ok (.ifCond .ne 9, 3) := by decide +kernel
theorem dX5_plan_15 : decode cX5_plan 15 = .ok (.aload_n 0, 1) := by decide +kernel
theorem dX5_plan_16 : decode cX5_plan 16 = .ok (.iconst 0, 1) := by decide +kernel
theorem dX5_plan_17 : decode cX5_plan 17 = .ok (.invokevirtual 69, 3) := by decide +kernel
theorem dX5_plan_20 : decode cX5_plan 20 = .ok (.ireturn, 1) := by decide +kernel
theorem dX5_plan_21 : decode cX5_plan 21 = .ok (.aload_n 0, 1) := by decide +kernel
theorem dX5_plan_22 : decode cX5_plan 22 = .ok (.iload_n 1, 1) := by decide +kernel
theorem dX5_plan_23 : decode cX5_plan 23 = .ok (.invokevirtual 191, 3) := by decide +kernel
theorem dX5_plan_26 : decode cX5_plan 26 = .ok (.ifCond .eq 11, 3) := by decide +kernel
theorem dX5_plan_29 : decode cX5_plan 29 = .ok (.aload_n 0, 1) := by decide +kernel
theorem dX5_plan_30 : decode cX5_plan 30 = .ok (.iload_n 2, 1) := by decide +kernel
theorem dX5_plan_31 : decode cX5_plan 31 = .ok (.invokevirtual 142, 3) := by decide +kernel
theorem dX5_plan_34 : decode cX5_plan 34 = .ok (.ifCond .eq 9, 3) := by decide +kernel
theorem dX5_plan_37 : decode cX5_plan 37 = .ok (.aload_n 0, 1) := by decide +kernel
theorem dX5_plan_38 : decode cX5_plan 38 = .ok (.iconst 4, 1) := by decide +kernel
theorem dX5_plan_39 : decode cX5_plan 39 = .ok (.invokevirtual 69, 3) := by decide +kernel
theorem dX5_plan_42 : decode cX5_plan 42 = .ok (.ireturn, 1) := by decide +kernel
theorem dX5_plan_43 : decode cX5_plan 43 = .ok (.aload_n 0, 1) := by decide +kernel
theorem dX5_plan_44 : decode cX5_plan 44 = .ok (.aload_n 0, 1) := by decide +kernel
theorem dX5_plan_45 : decode cX5_plan 45 = .ok (.iload_n 1, 1) := by decide +kernel
theorem dX5_plan_46 : decode cX5_plan 46 = .ok (.invokevirtual 194, 3) := by decide +kernel
theorem dX5_plan_49 : decode cX5_plan 49 = .ok (.iload_n 2, 1) := by decide +kernel
theorem dX5_plan_50 : decode cX5_plan 50 = .ok (.invokevirtual 197, 3) := by decide +kernel
theorem dX5_plan_53 : decode cX5_plan 53 = .ok (.ireturn, 1) := by decide +kernel
theorem dX5_best_0 : decode cX5_best 0 = .ok (.aload_n 0, 1) := by decide +kernel
theorem dX5_best_1 : decode cX5_best 1 = .ok (.iload_n 1, 1) := by decide +kernel
theorem dX5_best_2 : decode cX5_best 2 = .ok (.iload_n 2, 1) := by decide +kernel
theorem dX5_best_3 : decode cX5_best 3 = .ok (.invokevirtual 200, 3) := by decide +kernel
theorem dX5_best_6 : decode cX5_best 6 = .ok (.istore_n 3, 1) := by decide +kernel
theorem dX5_best_7 : decode cX5_best 7 = .ok (.iload_n 3, 1) := by decide +kernel
theorem dX5_best_8 : decode cX5_best 8 = .ok (.ifCond .lt 11, 3) := by decide +kernel
theorem dX5_best_11 : decode cX5_best 11 = .ok (.aload_n 0, 1) := by decide +kernel
theorem dX5_best_12 : decode cX5_best 12 = .ok (.iload_n 3, 1) := by decide +kernel
theorem dX5_best_13 : decode cX5_best 13 = .ok (.invokevirtual 69, 3) := by decide +kernel
theorem dX5_best_16 : decode cX5_best 16 = .ok (.goto 9, 3) := by decide +kernel
theorem dX5_best_19 : decode cX5_best 19 = .ok (.aload_n 0, 1) := by decide +kernel
theorem dX5_best_20 : decode cX5_best 20 = .ok (.iload_n 1, 1) := by decide +kernel
theorem dX5_best_21 : decode cX5_best 21 = .ok (.iload_n 2, 1) := by decide +kernel
theorem dX5_best_22 : decode cX5_best 22 = .ok (.invokevirtual 203, 3) := by decide +kernel
theorem dX5_best_25 : decode cX5_best 25 = .ok (.ireturn, 1) := by decide +kernel
theorem dX5_ith_0 : decode cX5_ith 0 = .ok (.iload_n 3, 1) := by decide +kernel
theorem dX5_ith_1 : decode cX5_ith 1 = .ok (.iconst 0, 1) := by decide +kernel
theorem dX5_ith_2 : decode cX5_ith 2 = .ok (.iconst 4, 1) := by decide +kernel
theorem dX5_ith_3 : decode cX5_ith 3 = .ok (.invokestatic 65, 3) := by decide +kernel
theorem dX5_ith_6 : decode cX5_ith 6 = .ok (.ifCond .eq 11, 3) := by decide +kernel
theorem dX5_ith_9 : decode cX5_ith 9 = .ok (.iload_n 3, 1) := by decide +kernel
theorem dX5_ith_10 : decode cX5_ith 10 = .ok (.iload_n 1, 1) := by decide +kernel
theorem dX5_ith_11 : decode cX5_ith 11 = .ok (.invokestatic 206, 3) := by decide +kernel
theorem dX5_ith_14 : decode cX5_ith 14 = .ok (.if_icmp .lt 9, 3) := by decide +kernel
theorem dX5_ith_17 : decode cX5_ith 17 = .ok (.aload_n 0, 1) := by decide +kernel
theorem dX5_ith_18 : decode cX5_ith 18 = .ok (.iconst 0, 1) := by decide +kernel
theorem dX5_ith_19 : decode cX5_ith 19 = .ok (.invokevirtual 69, 3) := by decide +kernel
theorem dX5_ith_22 : decode cX5_ith 22 = .ok (.ireturn, 1) := by decide +kernel
theorem dX5_ith_23 : decode cX5_ith 23 = .ok (.aload_n 0, 1) := by decide +kernel
theorem dX5_ith_24 : decode cX5_ith 24 = .ok (.iload_n 1, 1) := by decide +kernel
theorem dX5_ith_25 : decode cX5_ith 25 = .ok (.iload_n 2, 1) := by decide +kernel
theorem dX5_ith_26 : decode cX5_ith 26 = .ok (.invokevirtual 200, 3) := by decide +kernel
theorem dX5_ith_29 : decode cX5_ith 29 = .ok (.istore 4, 2) := by decide +kernel
theorem dX5_ith_31 : decode cX5_ith 31 = .ok (.iload 4, 2) := by decide +kernel
theorem dX5_ith_33 : decode cX5_ith 33 = .ok (.ifCond .lt 10, 3) := by decide +kernel
theorem dX5_ith_36 : decode cX5_ith 36 = .ok (.aload_n 0, 1) := by decide +kernel
theorem dX5_ith_37 : decode cX5_ith 37 = .ok (.iload 4, 2) := by decide +kernel
theorem dX5_ith_39 : decode cX5_ith 39 = .ok (.invokevirtual 69, 3) := by decide +kernel
theorem dX5_ith_42 : decode cX5_ith 42 = .ok (.ireturn, 1) := by decide +kernel
theorem dX5_ith_43 : decode cX5_ith 43 = .ok (.aload_n 0, 1) := by decide +kernel
theorem dX5_ith_44 : decode cX5_ith 44 = .ok (.iload_n 1, 1) := by decide +kernel
theorem dX5_ith_45 : decode cX5_ith 45 = .ok (.iload_n 2, 1) := by decide +kernel
theorem dX5_ith_46 : decode cX5_ith 46 = .ok (.invokevirtual 203, 3) := by decide +kernel
theorem dX5_ith_49 : decode cX5_ith 49 = .ok (.pop, 1) := by decide +kernel
theorem dX5_ith_50 : decode cX5_ith 50 = .ok (.aload_n 0, 1) := by decide +kernel
theorem dX5_ith_51 : decode cX5_ith 51 = .ok (.getfield 54, 3) := by decide +kernel
theorem dX5_ith_54 : decode cX5_ith 54 = .ok (.iload_n 3, 1) := by decide +kernel
theorem dX5_ith_55 : decode cX5_ith 55 = .ok (.iaload, 1) := by decide +kernel
theorem dX5_ith_56 : decode cX5_ith 56 = .ok (.ireturn, 1) := by decide +kernel
theorem dX5_next_0 : decode cX5_next 0 = .ok (.iload_n 1, 1) := by decide +kernel
theorem dX5_next_1 : decode cX5_next 1 = .ok (.invokestatic 139, 3) := by decide +kernel
theorem dX5_next_4 : decode cX5_next 4 = .ok (.ifCond .ne 9, 3) := by decide +kernel
theorem dX5_next_7 : decode cX5_next 7 = .ok (.aload_n 0, 1) := by decide +kernel
theorem dX5_next_8 : decode cX5_next 8 = .ok (.iconst 0, 1) := by decide +kernel
theorem dX5_next_9 : decode cX5_next 9 = .ok (.invokevirtual 69, 3) := by decide +kernel
theorem dX5_next_12 : decode cX5_next 12 = .ok (.ireturn, 1) := by decide +kernel
theorem dX5_next_13 : decode cX5_next 13 = .ok (.aload_n 0, 1) := by decide +kernel
theorem dX5_next_14 : decode cX5_next 14 = .ok (.iload_n 1, 1) := by decide +kernel
theorem dX5_next_15 : decode cX5_next 15 = .ok (.invokevirtual 142, 3) := by decide +kernel
theorem dX5_next_18 : decode cX5_next 18 = .ok (.ifCond .eq 9, 3) := by decide +kernel
theorem dX5_next_21 : decode cX5_next 21 = .ok (.aload_n 0, 1) := by decide +kernel
theorem dX5_next_22 : decode cX5_next 22 = .ok (.iconst 4, 1) := by decide +kernel
theorem dX5_next_23 : decode cX5_next 23 = .ok (.invokevirtual 69, 3) := by decide +kernel
theorem dX5_next_26 : decode cX5_next 26 = .ok (.ireturn, 1) := by decide +kernel
theorem dX5_next_27 : decode cX5_next 27 = .ok (.aload_n 0, 1) := by decide +kernel
theorem dX5_next_28 : decode cX5_next 28 = .ok (.iconst 0, 1) := by decide +kernel
theorem dX5_next_29 : decode cX5_next 29 = .ok (.iload_n 1, 1) := by decide +kernel
theorem dX5_next_30 : decode cX5_next 30 = .ok (.invokevirtual 197, 3) := by decide +kernel
theorem dX5_next_33 : decode cX5_next 33 = .ok (.istore_n 2, 1) := by decide +kernel
theorem dX5_next_34 : decode cX5_next 34 = .ok (.iconst (-1), 1) := by decide +kernel
theorem dX5_next_35 : decode cX5_next 35 = .ok (.istore_n 3, 1) := by decide +kernel
theorem dX5_next_36 : decode cX5_next 36 = .ok (.iconst 0, 1) := by decide +kernel
theorem dX5_next_37 : decode cX5_next 37 = .ok (.istore 4, 2) := by decide +kernel
theorem dX5_next_39 : decode cX5_next 39 = .ok (.iload 4, 2) := by decide +kernel
theorem dX5_next_41 : decode cX5_next 41 = .ok (.aload_n 0, 1) := by decide +kernel
theorem dX5_next_42 : decode cX5_next 42 = .ok (.getfield 10, 3) := by decide +kernel
theorem dX5_next_45 : decode cX5_next 45 = .ok (.getfield 73, 3) := by decide +kernel
theorem dX5_next_48 : decode cX5_next 48 = .ok (.getfield 76, 3) := by decide +kernel
theorem dX5_next_51 : decode cX5_next 51 = .ok (.if_icmp .ge 52, 3) := by decide +kernel
theorem dX5_next_54 : decode cX5_next 54 = .ok (.aload_n 0, 1) := by decide +kernel
theorem dX5_next_55 : decode cX5_next 55 = .ok (.getfield 10, 3) := by decide +kernel
theorem dX5_next_58 : decode cX5_next 58 = .ok (.getfield 73, 3) := by decide +kernel
theorem dX5_next_61 : decode cX5_next 61 = .ok (.iload 4, 2) := by decide +kernel
theorem dX5_next_63 : decode cX5_next 63 = .ok (.invokevirtual 104, 3) := by decide +kernel
theorem dX5_next_66 : decode cX5_next 66 = .ok (.ifCond .eq 31, 3) := by decide +kernel
theorem dX5_next_69 : decode cX5_next 69 = .ok (.aload_n 0, 1) := by decide +kernel
theorem dX5_next_70 : decode cX5_next 70 = .ok (.getfield 51, 3) := by decide +kernel
theorem dX5_next_73 : decode cX5_next 73 = .ok (.iconst 0, 1) := by decide +kernel
theorem dX5_next_74 : decode cX5_next 74 = .ok (.iload 4, 2) := by decide +kernel
theorem dX5_next_76 : decode cX5_next 76 = .ok (.iastore, 1) := by decide +kernel
theorem dX5_next_77 : decode cX5_next 77 = .ok (.aload_n 0, 1) := by decide +kernel
theorem dX5_next_78 : decode cX5_next 78 = .ok (.iconst 1, 1) := by decide +kernel
theorem dX5_next_79 : decode cX5_next 79 = .ok (.iload_n 1, 1) := by decide +kernel
theorem dX5_next_80 : decode cX5_next 80 = .ok (.invokevirtual 197, 3) := by decide +kernel
theorem dX5_next_83 : decode cX5_next 83 = .ok (.istore 5, 2) := by decide +kernel
theorem dX5_next_85 : decode cX5_next 85 = .ok (.iload 5, 2) := by decide +kernel
theorem dX5_next_87 : decode cX5_next 87 = .ok (.iload_n 2, 1) := by decide +kernel
theorem dX5_next_88 : decode cX5_next 88 = .ok (.if_icmp .le 9, 3) := by decide +kernel
theorem dX5_next_91 : decode cX5_next 91 = .ok (.iload 5, 2) := by decide +kernel
theorem dX5_next_93 : decode cX5_next 93 = .ok (.istore_n 2, 1) := by decide +kernel
theorem dX5_next_94 : decode cX5_next 94 = .ok (.iload 4, 2) := by decide +kernel
theorem dX5_next_96 : decode cX5_next 96 = .ok (.istore_n 3, 1) := by decide +kernel
theorem dX5_next_97 : decode cX5_next 97 = .ok (.iinc 4 1, 3) := by decide +kernel
theorem dX5_next_100 : decode cX5_next 100 = .ok (.goto (-61), 3) := by decide +kernel
theorem dX5_next_103 : decode cX5_next 103 = .ok (.iload_n 3, 1) := by decide +kernel
theorem dX5_next_104 : decode cX5_next 104 = .ok (.ireturn, 1) := by decide +kernel
theorem dX5_foes_0 : decode cX5_foes 0 = .ok (.iload_n 1, 1) := by decide +kernel
theorem dX5_foes_1 : decode cX5_foes 1 = .ok (.invokestatic 139, 3) := by decide +kernel
theorem dX5_foes_4 : decode cX5_foes 4 = .ok (.ifCond .ne 9, 3) := by decide +kernel
theorem dX5_foes_7 : decode cX5_foes 7 = .ok (.aload_n 0, 1) := by decide +kernel
theorem dX5_foes_8 : decode cX5_foes 8 = .ok (.iconst 0, 1) := by decide +kernel
theorem dX5_foes_9 : decode cX5_foes 9 = .ok (.invokevirtual 69, 3) := by decide +kernel
theorem dX5_foes_12 : decode cX5_foes 12 = .ok (.ireturn, 1) := by decide +kernel
theorem dX5_foes_13 : decode cX5_foes 13 = .ok (.aload_n 0, 1) := by decide +kernel
theorem dX5_foes_14 : decode cX5_foes 14 = .ok (.iload_n 1, 1) := by decide +kernel
theorem dX5_foes_15 : decode cX5_foes 15 = .ok (.invokevirtual 142, 3) := by decide +kernel
theorem dX5_foes_18 : decode cX5_foes 18 = .ok (.ifCond .eq 9, 3) := by decide +kernel
theorem dX5_foes_21 : decode cX5_foes 21 = .ok (.aload_n 0, 1) := by decide +kernel
theorem dX5_foes_22 : decode cX5_foes 22 = .ok (.iconst 4, 1) := by decide +kernel
theorem dX5_foes_23 : decode cX5_foes 23 = .ok (.invokevirtual 69, 3) := by decide +kernel
theorem dX5_foes_26 : decode cX5_foes 26 = .ok (.ireturn, 1) := by decide +kernel
theorem dX5_foes_27 : decode cX5_foes 27 = .ok (.aload_n 0, 1) := by decide +kernel
theorem dX5_foes_28 : decode cX5_foes 28 = .ok (.iload_n 1, 1) := by decide +kernel
theorem dX5_foes_29 : decode cX5_foes 29 = .ok (.invokevirtual 211, 3) := by decide +kernel
theorem dX5_foes_32 : decode cX5_foes 32 = .ok (.istore_n 2, 1) := by decide +kernel
theorem dX5_foes_33 : decode cX5_foes 33 = .ok (.iload_n 2, 1) := by decide +kernel
theorem dX5_foes_34 : decode cX5_foes 34 = .ok (.ifCond .lt 7, 3) := by decide +kernel
theorem dX5_foes_37 : decode cX5_foes 37 = .ok (.iload_n 2, 1) := by decide +kernel
theorem dX5_foes_38 : decode cX5_foes 38 = .ok (.goto 8, 3) := by decide +kernel
theorem dX5_foes_41 : decode cX5_foes 41 = .ok (.aload_n 0, 1) := by decide +kernel
theorem dX5_foes_42 : decode cX5_foes 42 = .ok (.iconst 3, 1) := by decide +kernel
theorem dX5_foes_43 : decode cX5_foes 43 = .ok (.invokevirtual 69, 3) := by decide +kernel
theorem dX5_foes_46 : decode cX5_foes 46 = .ok (.ireturn, 1) := by decide +kernel
theorem dX5_kindFor_0 : decode cX5_kindFor 0 = .ok (.aload_n 0, 1) := by decide +kernel
theorem dX5_kindFor_1 : decode cX5_kindFor 1 = .ok (.iload_n 1, 1) := by decide +kernel
theorem dX5_kindFor_2 : decode cX5_kindFor 2 = .ok (.invokevirtual 82, 3) := by decide +kernel
theorem dX5_kindFor_5 : decode cX5_kindFor 5 = .ok (.ifCond .eq 10, 3) := by decide +kernel
theorem dX5_kindFor_8 : decode cX5_kindFor 8 = .ok (.iload_n 2, 1) := by decide +kernel
theorem dX5_kindFor_9 : decode cX5_kindFor 9 = .ok (.invokestatic 139, 3) := by decide +kernel
theorem dX5_kindFor_12 : decode cX5_kindFor 12 = .ok (.ifCond .ne 9, 3) := by decide +kernel
theorem dX5_kindFor_15 : decode cX5_kindFor 15 = .ok (.aload_n 0, 1) := by decide +kernel
theorem dX5_kindFor_16 : decode cX5_kindFor 16 = .ok (.iconst 0, 1) := by decide +kernel
theorem dX5_kindFor_17 : decode cX5_kindFor 17 = .ok (.invokevirtual 69, 3) := by decide +kernel
theorem dX5_kindFor_20 : decode cX5_kindFor 20 = .ok (.ireturn, 1) := by decide +kernel
theorem dX5_kindFor_21 : decode cX5_kindFor 21 = .ok (.aload_n 0, 1) := by decide +kernel
theorem dX5_kindFor_22 : decode cX5_kindFor 22 = .ok (.getfield 10, 3) := by decide +kernel
theorem dX5_kindFor_25 : decode cX5_kindFor 25 = .ok (.getfield 73, 3) := by decide +kernel
theorem dX5_kindFor_28 : decode cX5_kindFor 28 = .ok (.iload_n 1, 1) := by decide +kernel
theorem dX5_kindFor_29 : decode cX5_kindFor 29 = .ok (.invokevirtual 104, 3) := by decide +kernel
theorem dX5_kindFor_32 : decode cX5_kindFor 32 = .ok (.ifCond .eq 11, 3) := by decide +kernel
theorem dX5_kindFor_35 : decode cX5_kindFor 35 = .ok (.aload_n 0, 1) := by decide +kernel
theorem dX5_kindFor_36 : decode cX5_kindFor 36 = .ok (.iload_n 2, 1) := by decide +kernel
theorem dX5_kindFor_37 : decode cX5_kindFor 37 = .ok (.invokevirtual 142, 3) := by decide +kernel
theorem dX5_kindFor_40 : decode cX5_kindFor 40 = .ok (.ifCond .eq 9, 3) := by decide +kernel
theorem dX5_kindFor_43 : decode cX5_kindFor 43 = .ok (.aload_n 0, 1) := by decide +kernel
theorem dX5_kindFor_44 : decode cX5_kindFor 44 = .ok (.iconst 4, 1) := by decide +kernel
theorem dX5_kindFor_45 : decode cX5_kindFor 45 = .ok (.invokevirtual 69, 3) := by decide +kernel
theorem dX5_kindFor_48 : decode cX5_kindFor 48 = .ok (.ireturn, 1) := by decide +kernel
theorem dX5_kindFor_49 : decode cX5_kindFor 49 = .ok (.aload_n 0, 1) := by decide +kernel
theorem dX5_kindFor_50 : decode cX5_kindFor 50 = .ok (.getfield 10, 3) := by decide +kernel
theorem dX5_kindFor_53 : decode cX5_kindFor 53 = .ok (.getfield 73, 3) := by decide +kernel
theorem dX5_kindFor_56 : decode cX5_kindFor 56 = .ok (.iload_n 1, 1) := by decide +kernel
theorem dX5_kindFor_57 : decode cX5_kindFor 57 = .ok (.invokevirtual 107, 3) := by decide +kernel
theorem dX5_kindFor_60 : decode cX5_kindFor 60 = .ok (.ifCond .ne 9, 3) := by decide +kernel
theorem dX5_kindFor_63 : decode cX5_kindFor 63 = .ok (.aload_n 0, 1) := by decide +kernel
theorem dX5_kindFor_64 : decode cX5_kindFor 64 = .ok (.iconst 1, 1) := by decide +kernel
theorem dX5_kindFor_65 : decode cX5_kindFor 65 = .ok (.invokevirtual 69, 3) := by decide +kernel
theorem dX5_kindFor_68 : decode cX5_kindFor 68 = .ok (.ireturn, 1) := by decide +kernel
theorem dX5_kindFor_69 : decode cX5_kindFor 69 = .ok (.iconst 0, 1) := by decide +kernel
theorem dX5_kindFor_70 : decode cX5_kindFor 70 = .ok (.istore_n 3, 1) := by decide +kernel
theorem dX5_kindFor_71 : decode cX5_kindFor 71 = .ok (.iconst (-1), 1) := by decide +kernel
theorem dX5_kindFor_72 : decode cX5_kindFor 72 = .ok (.istore 4, 2) := by decide +kernel
theorem dX5_kindFor_74 : decode cX5_kindFor 74 = .ok (.iconst 0, 1) := by decide +kernel
theorem dX5_kindFor_75 : decode cX5_kindFor 75 = .ok (.istore 5, 2) := by decide +kernel
theorem dX5_kindFor_77 : decode cX5_kindFor 77 = .ok (.iload 5, 2) := by decide +kernel
theorem dX5_kindFor_79 : decode cX5_kindFor 79 = .ok (.bipush 6, 2) := by decide +kernel
theorem dX5_kindFor_81 : decode cX5_kindFor 81 = .ok (.if_icmp .gt 33, 3) := by decide +kernel
theorem dX5_kindFor_84 : decode cX5_kindFor 84 = .ok (.aload_n 0, 1) := by decide +kernel
theorem dX5_kindFor_85 : decode cX5_kindFor 85 = .ok (.iload_n 1, 1) := by decide +kernel
theorem dX5_kindFor_86 : decode cX5_kindFor 86 = .ok (.iload 5, 2) := by decide +kernel
theorem dX5_kindFor_88 : decode cX5_kindFor 88 = .ok (.iload_n 2, 1) := by decide +kernel
theorem dX5_kindFor_89 : decode cX5_kindFor 89 = .ok (.invokevirtual 214, 3) := by decide +kernel
theorem dX5_kindFor_92 : decode cX5_kindFor 92 = .ok (.istore 6, 2) := by decide +kernel
theorem dX5_kindFor_94 : decode cX5_kindFor 94 = .ok (.iload 6, 2) := by decide +kernel
theorem dX5_kindFor_96 : decode cX5_kindFor 96 = .ok (.iload 4, 2) := by decide +kernel
theorem dX5_kindFor_98 : decode cX5_kindFor 98 = .ok (.if_icmp .le 10, 3) := by decide +kernel
theorem dX5_kindFor_101 : decode cX5_kindFor 101 = .ok (.iload 6, 2) := by decide +kernel
theorem dX5_kindFor_103 : decode cX5_kindFor 103 = .ok (.istore 4, 2) := by decide +kernel
theorem dX5_kindFor_105 : decode cX5_kindFor 105 = .ok (.iload 5, 2) := by decide +kernel
theorem dX5_kindFor_107 : decode cX5_kindFor 107 = .ok (.istore_n 3, 1) := by decide +kernel
theorem dX5_kindFor_108 : decode cX5_kindFor 108 = .ok (.iinc 5 1, 3) := by decide +kernel
theorem dX5_kindFor_111 : decode cX5_kindFor 111 = .ok (.goto (-34), 3) := by decide +kernel
theorem dX5_kindFor_114 : decode cX5_kindFor 114 = .ok (.iload_n 3, 1) := by decide +kernel
theorem dX5_kindFor_115 : decode cX5_kindFor 115 = .ok (.ireturn, 1) := by decide +kernel
theorem dX5_rid_0 : decode cX5_rid 0 = .ok (.iload_n 1, 1) := by decide +kernel
theorem dX5_rid_1 : decode cX5_rid 1 = .ok (.invokestatic 139, 3) := by decide +kernel
theorem dX5_rid_4 : decode cX5_rid 4 = .ok (.ifCond .ne 9, 3) := by decide +kernel
theorem dX5_rid_7 : decode cX5_rid 7 = .ok (.aload_n 0, 1) := by decide +kernel
theorem dX5_rid_8 : decode cX5_rid 8 = .ok (.iconst 0, 1) := by decide +kernel
theorem dX5_rid_9 : decode cX5_rid 9 = .ok (.invokevirtual 69, 3) := by decide +kernel
theorem dX5_rid_12 : decode cX5_rid 12 = .ok (.ireturn, 1) := by decide +kernel
theorem dX5_rid_13 : decode cX5_rid 13 = .ok (.aload_n 0, 1) := by decide +kernel
theorem dX5_rid_14 : decode cX5_rid 14 = .ok (.iload_n 1, 1) := by decide +kernel
theorem dX5_rid_15 : decode cX5_rid 15 = .ok (.invokevirtual 142, 3) := by decide +kernel
theorem dX5_rid_18 : decode cX5_rid 18 = .ok (.ifCond .eq 9, 3) := by decide +kernel
theorem dX5_rid_21 : decode cX5_rid 21 = .ok (.aload_n 0, 1) := by decide +kernel
theorem dX5_rid_22 : decode cX5_rid 22 = .ok (.iconst 4, 1) := by decide +kernel
theorem dX5_rid_23 : decode cX5_rid 23 = .ok (.invokevirtual 69, 3) := by decide +kernel
theorem dX5_rid_26 : decode cX5_rid 26 = .ok (.ireturn, 1) := by decide +kernel
theorem dX5_rid_27 : decode cX5_rid 27 = .ok (.aload_n 0, 1) := by decide +kernel
theorem dX5_rid_28 : decode cX5_rid 28 = .ok (.getfield 10, 3) := by decide +kernel
theorem dX5_rid_31 : decode cX5_rid 31 = .ok (.getfield 73, 3) := by decide +kernel
theorem dX5_rid_34 : decode cX5_rid 34 = .ok (.invokevirtual 218, 3) := by decide +kernel
theorem dX5_rid_37 : decode cX5_rid 37 = .ok (.istore_n 2, 1) := by decide +kernel
theorem dX5_rid_38 : decode cX5_rid 38 = .ok (.iconst 0, 1) := by decide +kernel
theorem dX5_rid_39 : decode cX5_rid 39 = .ok (.istore_n 3, 1) := by decide +kernel
theorem dX5_rid_40 : decode cX5_rid 40 = .ok (.iconst (-1), 1) := by decide +kernel
theorem dX5_rid_41 : decode cX5_rid 41 = .ok (.istore 4, 2) := by decide +kernel
theorem dX5_rid_43 : decode cX5_rid 43 = .ok (.iconst 0, 1) := by decide +kernel
theorem dX5_rid_44 : decode cX5_rid 44 = .ok (.istore 5, 2) := by decide +kernel
theorem dX5_rid_46 : decode cX5_rid 46 = .ok (.iload 5, 2) := by decide +kernel
theorem dX5_rid_48 : decode cX5_rid 48 = .ok (.iload_n 2, 1) := by decide +kernel
theorem dX5_rid_49 : decode cX5_rid 49 = .ok (.if_icmp .gt 41, 3) := by decide +kernel
theorem dX5_rid_52 : decode cX5_rid 52 = .ok (.iload 5, 2) := by decide +kernel
theorem dX5_rid_54 : decode cX5_rid 54 = .ok (.iload_n 2, 1) := by decide +kernel
theorem dX5_rid_55 : decode cX5_rid 55 = .ok (.iconst (-1), 1) := by decide +kernel
theorem dX5_rid_56 : decode cX5_rid 56 = .ok (.ixor, 1) := by decide +kernel
theorem dX5_rid_57 : decode cX5_rid 57 = .ok (.iand, 1) := by decide +kernel
theorem dX5_rid_58 : decode cX5_rid 58 = .ok (.ifCond .ne 26, 3) := by decide +kernel
theorem dX5_rid_61 : decode cX5_rid 61 = .ok (.aload_n 0, 1) := by decide +kernel
theorem dX5_rid_62 : decode cX5_rid 62 = .ok (.iload 5, 2) := by decide +kernel
theorem dX5_rid_64 : decode cX5_rid 64 = .ok (.iload_n 1, 1) := by decide +kernel
theorem dX5_rid_65 : decode cX5_rid 65 = .ok (.invokevirtual 221, 3) := by decide +kernel
theorem dX5_rid_68 : decode cX5_rid 68 = .ok (.istore 6, 2) := by decide +kernel
theorem dX5_rid_70 : decode cX5_rid 70 = .ok (.iload 6, 2) := by decide +kernel
theorem dX5_rid_72 : decode cX5_rid 72 = .ok (.iload 4, 2) := by decide +kernel
theorem dX5_rid_74 : decode cX5_rid 74 = .ok (.if_icmp .le 10, 3) := by decide +kernel
theorem dX5_rid_77 : decode cX5_rid 77 = .ok (.iload 6, 2) := by decide +kernel
theorem dX5_rid_79 : decode cX5_rid 79 = .ok (.istore 4, 2) := by decide +kernel
theorem dX5_rid_81 : decode cX5_rid 81 = .ok (.iload 5, 2) := by decide +kernel
theorem dX5_rid_83 : decode cX5_rid 83 = .ok (.istore_n 3, 1) := by decide +kernel
theorem dX5_rid_84 : decode cX5_rid 84 = .ok (.iinc 5 1, 3) := by decide +kernel
theorem dX5_rid_87 : decode cX5_rid 87 = .ok (.goto (-41), 3) := by decide +kernel
theorem dX5_rid_90 : decode cX5_rid 90 = .ok (.iload_n 3, 1) := by decide +kernel
theorem dX5_rid_91 : decode cX5_rid 91 = .ok (.ireturn, 1) := by decide +kernel
theorem dX5_turns_0 : decode cX5_turns 0 = .ok (.aload_n 0, 1) := by decide +kernel
theorem dX5_turns_1 : decode cX5_turns 1 = .ok (.iload_n 1, 1) := by decide +kernel
theorem dX5_turns_2 : decode cX5_turns 2 = .ok (.iload_n 2, 1) := by decide +kernel
theorem dX5_turns_3 : decode cX5_turns 3 = .ok (.invokevirtual 224, 3) := by decide +kernel
theorem dX5_turns_6 : decode cX5_turns 6 = .ok (.istore_n 3, 1) := by decide +kernel
theorem dX5_turns_7 : decode cX5_turns 7 = .ok (.iload_n 3, 1) := by decide +kernel
theorem dX5_turns_8 : decode cX5_turns 8 = .ok (.ifCond .lt 11, 3) := by decide +kernel
theorem dX5_turns_11 : decode cX5_turns 11 = .ok (.aload_n 0, 1) := by decide +kernel
theorem dX5_turns_12 : decode cX5_turns 12 = .ok (.iload_n 3, 1) := by decide +kernel
theorem dX5_turns_13 : decode cX5_turns 13 = .ok (.invokevirtual 69, 3) := by decide +kernel
theorem dX5_turns_16 : decode cX5_turns 16 = .ok (.goto 9, 3) := by decide +kernel
theorem dX5_turns_19 : decode cX5_turns 19 = .ok (.aload_n 0, 1) := by decide +kernel
theorem dX5_turns_20 : decode cX5_turns 20 = .ok (.iload_n 1, 1) := by decide +kernel
theorem dX5_turns_21 : decode cX5_turns 21 = .ok (.iload_n 2, 1) := by decide +kernel
theorem dX5_turns_22 : decode cX5_turns 22 = .ok (.invokevirtual 227, 3) := by decide +kernel
theorem dX5_turns_25 : decode cX5_turns 25 = .ok (.ireturn, 1) := by decide +kernel
theorem dX5_first_0 : decode cX5_first 0 = .ok (.aload_n 0, 1) := by decide +kernel
theorem dX5_first_1 : decode cX5_first 1 = .ok (.iload_n 1, 1) := by decide +kernel
theorem dX5_first_2 : decode cX5_first 2 = .ok (.iload_n 2, 1) := by decide +kernel
theorem dX5_first_3 : decode cX5_first 3 = .ok (.invokevirtual 224, 3) := by decide +kernel
theorem dX5_first_6 : decode cX5_first 6 = .ok (.istore_n 3, 1) := by decide +kernel
theorem dX5_first_7 : decode cX5_first 7 = .ok (.iload_n 3, 1) := by decide +kernel
theorem dX5_first_8 : decode cX5_first 8 = .ok (.ifCond .lt 9, 3) := by decide +kernel
theorem dX5_first_11 : decode cX5_first 11 = .ok (.aload_n 0, 1) := by decide +kernel
theorem dX5_first_12 : decode cX5_first 12 = .ok (.iload_n 3, 1) := by decide +kernel
theorem dX5_first_13 : decode cX5_first 13 = .ok (.invokevirtual 69, 3) := by decide +kernel
theorem dX5_first_16 : decode cX5_first 16 = .ok (.ireturn, 1) := by decide +kernel
theorem dX5_first_17 : decode cX5_first 17 = .ok (.aload_n 0, 1) := by decide +kernel
theorem dX5_first_18 : decode cX5_first 18 = .ok (.iload_n 1, 1) := by decide +kernel
theorem dX5_first_19 : decode cX5_first 19 = .ok (.iload_n 2, 1) := by decide +kernel
theorem dX5_first_20 : decode cX5_first 20 = .ok (.invokevirtual 227, 3) := by decide +kernel
theorem dX5_first_23 : decode cX5_first 23 = .ok (.pop, 1) := by decide +kernel
theorem dX5_first_24 : decode cX5_first 24 = .ok (.aload_n 0, 1) := by decide +kernel
theorem dX5_first_25 : decode cX5_first 25 = .ok (.getfield 60, 3) := by decide +kernel
theorem dX5_first_28 : decode cX5_first 28 = .ok (.ireturn, 1) := by decide +kernel
theorem dX5_share_0 : decode cX5_share 0 = .ok (.iload_n 1, 1) := by decide +kernel
theorem dX5_share_1 : decode cX5_share 1 = .ok (.iconst 0, 1) := by decide +kernel
theorem dX5_share_2 : decode cX5_share 2 = .ok (.iconst 1, 1) := by decide +kernel
theorem dX5_share_3 : decode cX5_share 3 = .ok (.invokestatic 65, 3) := by decide +kernel
theorem dX5_share_6 : decode cX5_share 6 = .ok (.ifCond .eq 13, 3) := by decide +kernel
theorem dX5_share_9 : decode cX5_share 9 = .ok (.iload_n 2, 1) := by decide +kernel
theorem dX5_share_10 : decode cX5_share 10 = .ok (.iconst 0, 1) := by decide +kernel
theorem dX5_share_11 : decode cX5_share 11 = .ok (.bipush 60, 2) := by decide +kernel
theorem dX5_share_13 : decode cX5_share 13 = .ok (.invokestatic 65, 3) := by decide +kernel
theorem dX5_share_16 : decode cX5_share 16 = .ok (.ifCond .ne 9, 3) := by decide +kernel
theorem dX5_share_19 : decode cX5_share 19 = .ok (.aload_n 0, 1) := by decide +kernel
theorem dX5_share_20 : decode cX5_share 20 = .ok (.iconst 0, 1) := by decide +kernel
theorem dX5_share_21 : decode cX5_share 21 = .ok (.invokevirtual 69, 3) := by decide +kernel
theorem dX5_share_24 : decode cX5_share 24 = .ok (.ireturn, 1) := by decide +kernel
theorem dX5_share_25 : decode cX5_share 25 = .ok (.aload_n 0, 1) := by decide +kernel
theorem dX5_share_26 : decode cX5_share 26 = .ok (.iload_n 2, 1) := by decide +kernel
theorem dX5_share_27 : decode cX5_share 27 = .ok (.invokevirtual 142, 3) := by decide +kernel
theorem dX5_share_30 : decode cX5_share 30 = .ok (.ifCond .eq 9, 3) := by decide +kernel
theorem dX5_share_33 : decode cX5_share 33 = .ok (.aload_n 0, 1) := by decide +kernel
theorem dX5_share_34 : decode cX5_share 34 = .ok (.iconst 4, 1) := by decide +kernel
theorem dX5_share_35 : decode cX5_share 35 = .ok (.invokevirtual 69, 3) := by decide +kernel
theorem dX5_share_38 : decode cX5_share 38 = .ok (.ireturn, 1) := by decide +kernel
theorem dX5_share_39 : decode cX5_share 39 = .ok (.aload_n 0, 1) := by decide +kernel
theorem dX5_share_40 : decode cX5_share 40 = .ok (.getfield 43, 3) := by decide +kernel
theorem dX5_share_43 : decode cX5_share 43 = .ok (.aload_n 0, 1) := by decide +kernel
theorem dX5_share_44 : decode cX5_share 44 = .ok (.getfield 10, 3) := by decide +kernel
theorem dX5_share_47 : decode cX5_share 47 = .ok (.getfield 73, 3) := by decide +kernel
theorem dX5_share_50 : decode cX5_share 50 = .ok (.invokevirtual 160, 3) := by decide +kernel
theorem dX5_share_53 : decode cX5_share 53 = .ok (.iconst 0, 1) := by decide +kernel
theorem dX5_share_54 : decode cX5_share 54 = .ok (.istore_n 3, 1) := by decide +kernel
theorem dX5_share_55 : decode cX5_share 55 = .ok (.iconst 0, 1) := by decide +kernel
theorem dX5_share_56 : decode cX5_share 56 = .ok (.istore 4, 2) := by decide +kernel
theorem dX5_share_58 : decode cX5_share 58 = .ok (.iload 4, 2) := by decide +kernel
theorem dX5_share_60 : decode cX5_share 60 = .ok (.iload_n 2, 1) := by decide +kernel
theorem dX5_share_61 : decode cX5_share 61 = .ok (.if_icmp .ge 44, 3) := by decide +kernel
theorem dX5_share_64 : decode cX5_share 64 = .ok (.aload_n 0, 1) := by decide +kernel
theorem dX5_share_65 : decode cX5_share 65 = .ok (.getfield 43, 3) := by decide +kernel
theorem dX5_share_68 : decode cX5_share 68 = .ok (.getfield 114, 3) := by decide +kernel
theorem dX5_share_71 : decode cX5_share 71 = .ok (.ifCond .le 34, 3) := by decide +kernel
theorem dX5_share_74 : decode cX5_share 74 = .ok (.aload_n 0, 1) := by decide +kernel
theorem dX5_share_75 : decode cX5_share 75 = .ok (.getfield 43, 3) := by decide +kernel
theorem dX5_share_78 : decode cX5_share 78 = .ok (.invokevirtual 179, 3) := by decide +kernel
theorem dX5_share_81 : decode cX5_share 81 = .ok (.istore 5, 2) := by decide +kernel
theorem dX5_share_83 : decode cX5_share 83 = .ok (.aload_n 0, 1) := by decide +kernel
theorem dX5_share_84 : decode cX5_share 84 = .ok (.getfield 43, 3) := by decide +kernel
theorem dX5_share_87 : decode cX5_share 87 = .ok (.iload_n 1, 1) := by decide +kernel
theorem dX5_share_88 : decode cX5_share 88 = .ok (.invokevirtual 230, 3) := by decide +kernel
theorem dX5_share_91 : decode cX5_share 91 = .ok (.ifCond .eq 8, 3) := by decide +kernel
theorem dX5_share_94 : decode cX5_share 94 = .ok (.iload_n 3, 1) := by decide +kernel
theorem dX5_share_95 : decode cX5_share 95 = .ok (.iload 5, 2) := by decide +kernel
theorem dX5_share_97 : decode cX5_share 97 = .ok (.iadd, 1) := by decide +kernel
theorem dX5_share_98 : decode cX5_share 98 = .ok (.istore_n 3, 1) := by decide +kernel
theorem dX5_share_99 : decode cX5_share 99 = .ok (.iinc 4 1, 3) := by decide +kernel
theorem dX5_share_102 : decode cX5_share 102 = .ok (.goto (-44), 3) := by decide +kernel
theorem dX5_share_105 : decode cX5_share 105 = .ok (.iload_n 3, 1) := by decide +kernel
theorem dX5_share_106 : decode cX5_share 106 = .ok (.ireturn, 1) := by decide +kernel
theorem dX5_fits_0 : decode cX5_fits 0 = .ok (.aload_n 0, 1) := by decide +kernel
theorem dX5_fits_1 : decode cX5_fits 1 = .ok (.iload_n 1, 1) := by decide +kernel
theorem dX5_fits_2 : decode cX5_fits 2 = .ok (.iload_n 2, 1) := by decide +kernel
theorem dX5_fits_3 : decode cX5_fits 3 = .ok (.invokevirtual 233, 3) := by decide +kernel
theorem dX5_fits_6 : decode cX5_fits 6 = .ok (.istore_n 3, 1) := by decide +kernel
theorem dX5_fits_7 : decode cX5_fits 7 = .ok (.iload_n 3, 1) := by decide +kernel
theorem dX5_fits_8 : decode cX5_fits 8 = .ok (.ifCond .lt 9, 3) := by decide +kernel
theorem dX5_fits_11 : decode cX5_fits 11 = .ok (.aload_n 0, 1) := by decide +kernel
theorem dX5_fits_12 : decode cX5_fits 12 = .ok (.iload_n 3, 1) := by decide +kernel
theorem dX5_fits_13 : decode cX5_fits 13 = .ok (.invokevirtual 69, 3) := by decide +kernel
theorem dX5_fits_16 : decode cX5_fits 16 = .ok (.ireturn, 1) := by decide +kernel
theorem dX5_fits_17 : decode cX5_fits 17 = .ok (.iconst 0, 1) := by decide +kernel
theorem dX5_fits_18 : decode cX5_fits 18 = .ok (.istore 4, 2) := by decide +kernel
theorem dX5_fits_20 : decode cX5_fits 20 = .ok (.iconst 0, 1) := by decide +kernel
theorem dX5_fits_21 : decode cX5_fits 21 = .ok (.istore 5, 2) := by decide +kernel
theorem dX5_fits_23 : decode cX5_fits 23 = .ok (.iload 5, 2) := by decide +kernel
theorem dX5_fits_25 : decode cX5_fits 25 = .ok (.aload_n 0, 1) := by decide +kernel
theorem dX5_fits_26 : decode cX5_fits 26 = .ok (.getfield 10, 3) := by decide +kernel
theorem dX5_fits_29 : decode cX5_fits 29 = .ok (.getfield 73, 3) := by decide +kernel
theorem dX5_fits_32 : decode cX5_fits 32 = .ok (.getfield 76, 3) := by decide +kernel
theorem dX5_fits_35 : decode cX5_fits 35 = .ok (.if_icmp .ge 22, 3) := by decide +kernel
theorem dX5_fits_38 : decode cX5_fits 38 = .ok (.iload 4, 2) := by decide +kernel
theorem dX5_fits_40 : decode cX5_fits 40 = .ok (.aload_n 0, 1) := by decide +kernel
theorem dX5_fits_41 : decode cX5_fits 41 = .ok (.iload 5, 2) := by decide +kernel
theorem dX5_fits_43 : decode cX5_fits 43 = .ok (.iload_n 1, 1) := by decide +kernel
theorem dX5_fits_44 : decode cX5_fits 44 = .ok (.iload_n 2, 1) := by decide +kernel
theorem dX5_fits_45 : decode cX5_fits 45 = .ok (.invokevirtual 236, 3) := by decide +kernel
theorem dX5_fits_48 : decode cX5_fits 48 = .ok (.iadd, 1) := by decide +kernel
theorem dX5_fits_49 : decode cX5_fits 49 = .ok (.istore 4, 2) := by decide +kernel
theorem dX5_fits_51 : decode cX5_fits 51 = .ok (.iinc 5 1, 3) := by decide +kernel
theorem dX5_fits_54 : decode cX5_fits 54 = .ok (.goto (-31), 3) := by decide +kernel
theorem dX5_fits_57 : decode cX5_fits 57 = .ok (.iload 4, 2) := by decide +kernel
theorem dX5_fits_59 : decode cX5_fits 59 = .ok (.ireturn, 1) := by decide +kernel
theorem dX5_may_0 : decode cX5_may 0 = .ok (.aload_n 0, 1) := by decide +kernel
theorem dX5_may_1 : decode cX5_may 1 = .ok (.iload_n 1, 1) := by decide +kernel
theorem dX5_may_2 : decode cX5_may 2 = .ok (.iload_n 2, 1) := by decide +kernel
theorem dX5_may_3 : decode cX5_may 3 = .ok (.invokevirtual 233, 3) := by decide +kernel
theorem dX5_may_6 : decode cX5_may 6 = .ok (.istore_n 3, 1) := by decide +kernel
theorem dX5_may_7 : decode cX5_may 7 = .ok (.iload_n 3, 1) := by decide +kernel
theorem dX5_may_8 : decode cX5_may 8 = .ok (.ifCond .lt 9, 3) := by decide +kernel
theorem dX5_may_11 : decode cX5_may 11 = .ok (.aload_n 0, 1) := by decide +kernel
theorem dX5_may_12 : decode cX5_may 12 = .ok (.iload_n 3, 1) := by decide +kernel
theorem dX5_may_13 : decode cX5_may 13 = .ok (.invokevirtual 69, 3) := by decide +kernel
theorem dX5_may_16 : decode cX5_may 16 = .ok (.ireturn, 1) := by decide +kernel
theorem dX5_may_17 : decode cX5_may 17 = .ok (.iconst 0, 1) := by decide +kernel
theorem dX5_may_18 : decode cX5_may 18 = .ok (.istore 4, 2) := by decide +kernel
theorem dX5_may_20 : decode cX5_may 20 = .ok (.iconst 0, 1) := by decide +kernel
theorem dX5_may_21 : decode cX5_may 21 = .ok (.istore 5, 2) := by decide +kernel
theorem dX5_may_23 : decode cX5_may 23 = .ok (.iload 5, 2) := by decide +kernel
theorem dX5_may_25 : decode cX5_may 25 = .ok (.aload_n 0, 1) := by decide +kernel
theorem dX5_may_26 : decode cX5_may 26 = .ok (.getfield 10, 3) := by decide +kernel
theorem dX5_may_29 : decode cX5_may 29 = .ok (.getfield 73, 3) := by decide +kernel
theorem dX5_may_32 : decode cX5_may 32 = .ok (.getfield 76, 3) := by decide +kernel
theorem dX5_may_35 : decode cX5_may 35 = .ok (.if_icmp .ge 29, 3) := by decide +kernel
theorem dX5_may_38 : decode cX5_may 38 = .ok (.aload_n 0, 1) := by decide +kernel
theorem dX5_may_39 : decode cX5_may 39 = .ok (.iload 5, 2) := by decide +kernel
theorem dX5_may_41 : decode cX5_may 41 = .ok (.iload_n 1, 1) := by decide +kernel
theorem dX5_may_42 : decode cX5_may 42 = .ok (.iload_n 2, 1) := by decide +kernel
theorem dX5_may_43 : decode cX5_may 43 = .ok (.invokevirtual 236, 3) := by decide +kernel
theorem dX5_may_46 : decode cX5_may 46 = .ok (.ifCond .le 12, 3) := by decide +kernel
theorem dX5_may_49 : decode cX5_may 49 = .ok (.iload 4, 2) := by decide +kernel
theorem dX5_may_51 : decode cX5_may 51 = .ok (.iconst 1, 1) := by decide +kernel
theorem dX5_may_52 : decode cX5_may 52 = .ok (.iload 5, 2) := by decide +kernel
theorem dX5_may_54 : decode cX5_may 54 = .ok (.ishl, 1) := by decide +kernel
theorem dX5_may_55 : decode cX5_may 55 = .ok (.ior, 1) := by decide +kernel
theorem dX5_may_56 : decode cX5_may 56 = .ok (.istore 4, 2) := by decide +kernel
theorem dX5_may_58 : decode cX5_may 58 = .ok (.iinc 5 1, 3) := by decide +kernel
theorem dX5_may_61 : decode cX5_may 61 = .ok (.goto (-38), 3) := by decide +kernel
theorem dX5_may_64 : decode cX5_may 64 = .ok (.iload 4, 2) := by decide +kernel
theorem dX5_may_66 : decode cX5_may 66 = .ok (.ireturn, 1) := by decide +kernel
theorem dX5_laid_0 : decode cX5_laid 0 = .ok (.iload_n 1, 1) := by decide +kernel
theorem dX5_laid_1 : decode cX5_laid 1 = .ok (.iconst 0, 1) := by decide +kernel
theorem dX5_laid_2 : decode cX5_laid 2 = .ok (.iconst 1, 1) := by decide +kernel
theorem dX5_laid_3 : decode cX5_laid 3 = .ok (.invokestatic 65, 3) := by decide +kernel
theorem dX5_laid_6 : decode cX5_laid 6 = .ok (.ifCond .ne 9, 3) := by decide +kernel
theorem dX5_laid_9 : decode cX5_laid 9 = .ok (.aload_n 0, 1) := by decide +kernel
theorem dX5_laid_10 : decode cX5_laid 10 = .ok (.iconst 0, 1) := by decide +kernel
theorem dX5_laid_11 : decode cX5_laid 11 = .ok (.invokevirtual 69, 3) := by decide +kernel
theorem dX5_laid_14 : decode cX5_laid 14 = .ok (.ireturn, 1) := by decide +kernel
theorem dX5_laid_15 : decode cX5_laid 15 = .ok (.iconst 0, 1) := by decide +kernel
theorem dX5_laid_16 : decode cX5_laid 16 = .ok (.istore_n 2, 1) := by decide +kernel
theorem dX5_laid_17 : decode cX5_laid 17 = .ok (.iconst 0, 1) := by decide +kernel
theorem dX5_laid_18 : decode cX5_laid 18 = .ok (.istore_n 3, 1) := by decide +kernel
theorem dX5_laid_19 : decode cX5_laid 19 = .ok (.iload_n 3, 1) := by decide +kernel
theorem dX5_laid_20 : decode cX5_laid 20 = .ok (.aload_n 0, 1) := by decide +kernel
theorem dX5_laid_21 : decode cX5_laid 21 = .ok (.getfield 10, 3) := by decide +kernel
theorem dX5_laid_24 : decode cX5_laid 24 = .ok (.getfield 73, 3) := by decide +kernel
theorem dX5_laid_27 : decode cX5_laid 27 = .ok (.getfield 76, 3) := by decide +kernel
theorem dX5_laid_30 : decode cX5_laid 30 = .ok (.if_icmp .ge 47, 3) := by decide +kernel
theorem dX5_laid_33 : decode cX5_laid 33 = .ok (.aload_n 0, 1) := by decide +kernel
theorem dX5_laid_34 : decode cX5_laid 34 = .ok (.getfield 10, 3) := by decide +kernel
theorem dX5_laid_37 : decode cX5_laid 37 = .ok (.getfield 73, 3) := by decide +kernel
theorem dX5_laid_40 : decode cX5_laid 40 = .ok (.getfield 117, 3) := by decide +kernel
theorem dX5_laid_43 : decode cX5_laid 43 = .ok (.iload_n 3, 1) := by decide +kernel
theorem dX5_laid_44 : decode cX5_laid 44 = .ok (.iaload, 1) := by decide +kernel
theorem dX5_laid_45 : decode cX5_laid 45 = .ok (.iconst 2, 1) := by decide +kernel
theorem dX5_laid_46 : decode cX5_laid 46 = .ok (.if_icmp .ne 25, 3) := by decide +kernel
theorem dX5_laid_49 : decode cX5_laid 49 = .ok (.aload_n 0, 1) := by decide +kernel
theorem dX5_laid_50 : decode cX5_laid 50 = .ok (.getfield 10, 3) := by decide +kernel
theorem dX5_laid_53 : decode cX5_laid 53 = .ok (.getfield 73, 3) := by decide +kernel
theorem dX5_laid_56 : decode cX5_laid 56 = .ok (.getfield 239, 3) := by decide +kernel
theorem dX5_laid_59 : decode cX5_laid 59 = .ok (.iload_n 3, 1) := by decide +kernel
theorem dX5_laid_60 : decode cX5_laid 60 = .ok (.iaload, 1) := by decide +kernel
theorem dX5_laid_61 : decode cX5_laid 61 = .ok (.iload_n 1, 1) := by decide +kernel
theorem dX5_laid_62 : decode cX5_laid 62 = .ok (.if_icmp .ne 9, 3) := by decide +kernel
theorem dX5_laid_65 : decode cX5_laid 65 = .ok (.iload_n 2, 1) := by decide +kernel
theorem dX5_laid_66 : decode cX5_laid 66 = .ok (.iconst 1, 1) := by decide +kernel
theorem dX5_laid_67 : decode cX5_laid 67 = .ok (.iload_n 3, 1) := by decide +kernel
theorem dX5_laid_68 : decode cX5_laid 68 = .ok (.ishl, 1) := by decide +kernel
theorem dX5_laid_69 : decode cX5_laid 69 = .ok (.ior, 1) := by decide +kernel
theorem dX5_laid_70 : decode cX5_laid 70 = .ok (.istore_n 2, 1) := by decide +kernel
theorem dX5_laid_71 : decode cX5_laid 71 = .ok (.iinc 3 1, 3) := by decide +kernel
theorem dX5_laid_74 : decode cX5_laid 74 = .ok (.goto (-55), 3) := by decide +kernel
theorem dX5_laid_77 : decode cX5_laid 77 = .ok (.iload_n 2, 1) := by decide +kernel
theorem dX5_laid_78 : decode cX5_laid 78 = .ok (.ireturn, 1) := by decide +kernel
theorem dX5_room_0 : decode cX5_room 0 = .ok (.aload_n 0, 1) := by decide +kernel
theorem dX5_room_1 : decode cX5_room 1 = .ok (.iload_n 1, 1) := by decide +kernel
theorem dX5_room_2 : decode cX5_room 2 = .ok (.invokevirtual 188, 3) := by decide +kernel
theorem dX5_room_5 : decode cX5_room 5 = .ok (.ifCond .ne 9, 3) := by decide +kernel
theorem dX5_room_8 : decode cX5_room 8 = .ok (.aload_n 0, 1) := by decide +kernel
theorem dX5_room_9 : decode cX5_room 9 = .ok (.iconst 0, 1) := by decide +kernel
theorem dX5_room_10 : decode cX5_room 10 = .ok (.invokevirtual 69, 3) := by decide +kernel
theorem dX5_room_13 : decode cX5_room 13 = .ok (.ireturn, 1) := by decide +kernel
theorem dX5_room_14 : decode cX5_room 14 = .ok (.aload_n 0, 1) := by decide +kernel
theorem dX5_room_15 : decode cX5_room 15 = .ok (.iload_n 1, 1) := by decide +kernel
theorem dX5_room_16 : decode cX5_room 16 = .ok (.invokevirtual 191, 3) := by decide +kernel
theorem dX5_room_19 : decode cX5_room 19 = .ok (.ifCond .eq 12, 3) := by decide +kernel
theorem dX5_room_22 : decode cX5_room 22 = .ok (.aload_n 0, 1) := by decide +kernel
theorem dX5_room_23 : decode cX5_room 23 = .ok (.bipush 10, 2) := by decide +kernel
theorem dX5_room_25 : decode cX5_room 25 = .ok (.invokevirtual 142, 3) := by decide +kernel
theorem dX5_room_28 : decode cX5_room 28 = .ok (.ifCond .eq 9, 3) := by decide +kernel
theorem dX5_room_31 : decode cX5_room 31 = .ok (.aload_n 0, 1) := by decide +kernel
theorem dX5_room_32 : decode cX5_room 32 = .ok (.iconst 4, 1) := by decide +kernel
theorem dX5_room_33 : decode cX5_room 33 = .ok (.invokevirtual 69, 3) := by decide +kernel
theorem dX5_room_36 : decode cX5_room 36 = .ok (.ireturn, 1) := by decide +kernel
theorem dX5_room_37 : decode cX5_room 37 = .ok (.aload_n 0, 1) := by decide +kernel
theorem dX5_room_38 : decode cX5_room 38 = .ok (.iload_n 1, 1) := by decide +kernel
theorem dX5_room_39 : decode cX5_room 39 = .ok (.invokevirtual 194, 3) := by decide +kernel
theorem dX5_room_42 : decode cX5_room 42 = .ok (.istore_n 2, 1) := by decide +kernel
theorem dX5_room_43 : decode cX5_room 43 = .ok (.iconst 1, 1) := by decide +kernel
theorem dX5_room_44 : decode cX5_room 44 = .ok (.istore_n 3, 1) := by decide +kernel
theorem dX5_room_45 : decode cX5_room 45 = .ok (.iload_n 3, 1) := by decide +kernel
theorem dX5_room_46 : decode cX5_room 46 = .ok (.bipush 40, 2) := by decide +kernel
theorem dX5_room_48 : decode cX5_room 48 = .ok (.if_icmp .gt 20, 3) := by decide +kernel
theorem dX5_room_51 : decode cX5_room 51 = .ok (.aload_n 0, 1) := by decide +kernel
theorem dX5_room_52 : decode cX5_room 52 = .ok (.iload_n 2, 1) := by decide +kernel
theorem dX5_room_53 : decode cX5_room 53 = .ok (.iload_n 3, 1) := by decide +kernel
theorem dX5_room_54 : decode cX5_room 54 = .ok (.invokevirtual 242, 3) := by decide +kernel
theorem dX5_room_57 : decode cX5_room 57 = .ok (.ifCond .eq 5, 3) := by decide +kernel
theorem dX5_room_60 : decode cX5_room 60 = .ok (.iload_n 3, 1) := by decide +kernel
theorem dX5_room_61 : decode cX5_room 61 = .ok (.ireturn, 1) := by decide +kernel
theorem dX5_room_62 : decode cX5_room 62 = .ok (.iinc 3 1, 3) := by decide +kernel
theorem dX5_room_65 : decode cX5_room 65 = .ok (.goto (-20), 3) := by decide +kernel
theorem dX5_room_68 : decode cX5_room 68 = .ok (.aload_n 0, 1) := by decide +kernel
theorem dX5_room_69 : decode cX5_room 69 = .ok (.iconst 3, 1) := by decide +kernel
theorem dX5_room_70 : decode cX5_room 70 = .ok (.invokevirtual 69, 3) := by decide +kernel
theorem dX5_room_73 : decode cX5_room 73 = .ok (.ireturn, 1) := by decide +kernel
theorem dX5_starves_0 : decode cX5_starves 0 = .ok (.iload_n 1, 1) := by decide +kernel
theorem dX5_starves_1 : decode cX5_starves 1 = .ok (.invokestatic 139, 3) := by decide +kernel
theorem dX5_starves_4 : decode cX5_starves 4 = .ok (.ifCond .ne 9, 3) := by decide +kernel
theorem dX5_starves_7 : decode cX5_starves 7 = .ok (.aload_n 0, 1) := by decide +kernel
theorem dX5_starves_8 : decode cX5_starves 8 = .ok (.iconst 0, 1) := by decide +kernel
theorem dX5_starves_9 : decode cX5_starves 9 = .ok (.invokevirtual 69, 3) := by decide +kernel
theorem dX5_starves_12 : decode cX5_starves 12 = .ok (.ireturn, 1) := by decide +kernel
theorem dX5_starves_13 : decode cX5_starves 13 = .ok (.aload_n 0, 1) := by decide +kernel
theorem dX5_starves_14 : decode cX5_starves 14 = .ok (.iload_n 1, 1) := by decide +kernel
theorem dX5_starves_15 : decode cX5_starves 15 = .ok (.invokevirtual 142, 3) := by decide +kernel
theorem dX5_starves_18 : decode cX5_starves 18 = .ok (.ifCond .eq 9, 3) := by decide +kernel
theorem dX5_starves_21 : decode cX5_starves 21 = .ok (.aload_n 0, 1) := by decide +kernel
theorem dX5_starves_22 : decode cX5_starves 22 = .ok (.iconst 4, 1) := by decide +kernel
theorem dX5_starves_23 : decode cX5_starves 23 = .ok (.invokevirtual 69, 3) := by decide +kernel
theorem dX5_starves_26 : decode cX5_starves 26 = .ok (.ireturn, 1) := by decide +kernel
theorem dX5_starves_27 : decode cX5_starves 27 = .ok (.aload_n 0, 1) := by decide +kernel
theorem dX5_starves_28 : decode cX5_starves 28 = .ok (.getfield 43, 3) := by decide +kernel
theorem dX5_starves_31 : decode cX5_starves 31 = .ok (.aload_n 0, 1) := by decide +kernel
theorem dX5_starves_32 : decode cX5_starves 32 = .ok (.getfield 10, 3) := by decide +kernel
theorem dX5_starves_35 : decode cX5_starves 35 = .ok (.getfield 73, 3) := by decide +kernel
theorem dX5_starves_38 : decode cX5_starves 38 = .ok (.invokevirtual 160, 3) := by decide +kernel
theorem dX5_starves_41 : decode cX5_starves 41 = .ok (.bipush 9, 2) := by decide +kernel
theorem dX5_starves_43 : decode cX5_starves 43 = .ok (.istore_n 2, 1) := by decide +kernel
theorem dX5_starves_44 : decode cX5_starves 44 = .ok (.iconst 0, 1) := by decide +kernel
theorem dX5_starves_45 : decode cX5_starves 45 = .ok (.istore_n 3, 1) := by decide +kernel
theorem dX5_starves_46 : decode cX5_starves 46 = .ok (.iload_n 3, 1) := by decide +kernel
theorem dX5_starves_47 : decode cX5_starves 47 = .ok (.iload_n 1, 1) := by decide +kernel
theorem dX5_starves_48 : decode cX5_starves 48 = .ok (.if_icmp .ge 53, 3) := by decide +kernel
theorem dX5_starves_51 : decode cX5_starves 51 = .ok (.aload_n 0, 1) := by decide +kernel
theorem dX5_starves_52 : decode cX5_starves 52 = .ok (.getfield 43, 3) := by decide +kernel
theorem dX5_starves_55 : decode cX5_starves 55 = .ok (.getfield 114, 3) := by decide +kernel
theorem dX5_starves_58 : decode cX5_starves 58 = .ok (.ifCond .le 43, 3) := by decide +kernel
theorem dX5_starves_61 : decode cX5_starves 61 = .ok (.aload_n 0, 1) := by decide +kernel
theorem dX5_starves_62 : decode cX5_starves 62 = .ok (.getfield 43, 3) := by decide +kernel
theorem dX5_starves_65 : decode cX5_starves 65 = .ok (.invokevirtual 151, 3) := by decide +kernel
theorem dX5_starves_68 : decode cX5_starves 68 = .ok (.istore 4, 2) := by decide +kernel
theorem dX5_starves_70 : decode cX5_starves 70 = .ok (.aload_n 0, 1) := by decide +kernel
theorem dX5_starves_71 : decode cX5_starves 71 = .ok (.getfield 43, 3) := by decide +kernel
theorem dX5_starves_74 : decode cX5_starves 74 = .ok (.invokevirtual 179, 3) := by decide +kernel
theorem dX5_starves_77 : decode cX5_starves 77 = .ok (.pop, 1) := by decide +kernel
theorem dX5_starves_78 : decode cX5_starves 78 = .ok (.aload_n 0, 1) := by decide +kernel
theorem dX5_starves_79 : decode cX5_starves 79 = .ok (.getfield 43, 3) := by decide +kernel
theorem dX5_starves_82 : decode cX5_starves 82 = .ok (.getfield 182, 3) := by decide +kernel
theorem dX5_starves_85 : decode cX5_starves 85 = .ok (.ifCond .lt 10, 3) := by decide +kernel
theorem dX5_starves_88 : decode cX5_starves 88 = .ok (.iload_n 2, 1) := by decide +kernel
theorem dX5_starves_89 : decode cX5_starves 89 = .ok (.iload 4, 2) := by decide +kernel
theorem dX5_starves_91 : decode cX5_starves 91 = .ok (.invokestatic 245, 3) := by decide +kernel
theorem dX5_starves_94 : decode cX5_starves 94 = .ok (.istore_n 2, 1) := by decide +kernel
theorem dX5_starves_95 : decode cX5_starves 95 = .ok (.iinc 3 1, 3) := by decide +kernel
theorem dX5_starves_98 : decode cX5_starves 98 = .ok (.goto (-52), 3) := by decide +kernel
theorem dX5_starves_101 : decode cX5_starves 101 = .ok (.iload_n 2, 1) := by decide +kernel
theorem dX5_starves_102 : decode cX5_starves 102 = .ok (.ireturn, 1) := by decide +kernel
theorem dX5_lent_0 : decode cX5_lent 0 = .ok (.iload_n 1, 1) := by decide +kernel
theorem dX5_lent_1 : decode cX5_lent 1 = .ok (.iconst 1, 1) := by decide +kernel
theorem dX5_lent_2 : decode cX5_lent 2 = .ok (.bipush 12, 2) := by decide +kernel
theorem dX5_lent_4 : decode cX5_lent 4 = .ok (.invokestatic 65, 3) := by decide +kernel
theorem dX5_lent_7 : decode cX5_lent 7 = .ok (.ifCond .ne 9, 3) := by decide +kernel
theorem dX5_lent_10 : decode cX5_lent 10 = .ok (.aload_n 0, 1) := by decide +kernel
theorem dX5_lent_11 : decode cX5_lent 11 = .ok (.iconst 0, 1) := by decide +kernel
theorem dX5_lent_12 : decode cX5_lent 12 = .ok (.invokevirtual 69, 3) := by decide +kernel
theorem dX5_lent_15 : decode cX5_lent 15 = .ok (.ireturn, 1) := by decide +kernel
theorem dX5_lent_16 : decode cX5_lent 16 = .ok (.aload_n 0, 1) := by decide +kernel
theorem dX5_lent_17 : decode cX5_lent 17 = .ok (.getfield 10, 3) := by decide +kernel
theorem dX5_lent_20 : decode cX5_lent 20 = .ok (.getfield 73, 3) := by decide +kernel
theorem dX5_lent_23 : decode cX5_lent 23 = .ok (.getfield 76, 3) := by decide +kernel
theorem dX5_lent_26 : decode cX5_lent 26 = .ok (.istore_n 2, 1) := by decide +kernel
theorem dX5_lent_27 : decode cX5_lent 27 = .ok (.aload_n 0, 1) := by decide +kernel
theorem dX5_lent_28 : decode cX5_lent 28 = .ok (.iload_n 1, 1) := by decide +kernel
theorem dX5_lent_29 : decode cX5_lent 29 = .ok (.invokevirtual 142, 3) := by decide +kernel
theorem dX5_lent_32 : decode cX5_lent 32 = .ok (.ifCond .ne 7, 3) := by decide +kernel
theorem dX5_lent_35 : decode cX5_lent 35 = .ok (.iload_n 2, 1) := by decide +kernel
theorem dX5_lent_36 : decode cX5_lent 36 = .ok (.ifCond .gt 9, 3) := by decide +kernel
theorem dX5_lent_39 : decode cX5_lent 39 = .ok (.aload_n 0, 1) := by decide +kernel
theorem dX5_lent_40 : decode cX5_lent 40 = .ok (.iconst 4, 1) := by decide +kernel
theorem dX5_lent_41 : decode cX5_lent 41 = .ok (.invokevirtual 69, 3) := by decide +kernel
theorem dX5_lent_44 : decode cX5_lent 44 = .ok (.ireturn, 1) := by decide +kernel
theorem dX5_lent_45 : decode cX5_lent 45 = .ok (.iconst 0, 1) := by decide +kernel
theorem dX5_lent_46 : decode cX5_lent 46 = .ok (.istore_n 3, 1) := by decide +kernel
theorem dX5_lent_47 : decode cX5_lent 47 = .ok (.iconst 0, 1) := by decide +kernel
theorem dX5_lent_48 : decode cX5_lent 48 = .ok (.istore 4, 2) := by decide +kernel
theorem dX5_lent_50 : decode cX5_lent 50 = .ok (.iload 4, 2) := by decide +kernel
theorem dX5_lent_52 : decode cX5_lent 52 = .ok (.iload_n 1, 1) := by decide +kernel
theorem dX5_lent_53 : decode cX5_lent 53 = .ok (.if_icmp .ge 72, 3) := by decide +kernel
theorem dX5_lent_56 : decode cX5_lent 56 = .ok (.aload_n 0, 1) := by decide +kernel
theorem dX5_lent_57 : decode cX5_lent 57 = .ok (.getfield 10, 3) := by decide +kernel
theorem dX5_lent_60 : decode cX5_lent 60 = .ok (.invokevirtual 250, 3) := by decide +kernel
theorem dX5_lent_63 : decode cX5_lent 63 = .ok (.iload_n 2, 1) := by decide +kernel
theorem dX5_lent_64 : decode cX5_lent 64 = .ok (.irem, 1) := by decide +kernel
theorem dX5_lent_65 : decode cX5_lent 65 = .ok (.istore 5, 2) := by decide +kernel
theorem dX5_lent_67 : decode cX5_lent 67 = .ok (.aload_n 0, 1) := by decide +kernel
theorem dX5_lent_68 : decode cX5_lent 68 = .ok (.getfield 10, 3) := by decide +kernel
theorem dX5_lent_71 : decode cX5_lent 71 = .ok (.getfield 73, 3) := by decide +kernel
theorem dX5_lent_74 : decode cX5_lent 74 = .ok (.iload 5, 2) := by decide +kernel
theorem dX5_lent_76 : decode cX5_lent 76 = .ok (.invokevirtual 104, 3) := by decide +kernel
theorem dX5_lent_79 : decode cX5_lent 79 = .ok (.ifCond .eq 30, 3) := by decide +kernel
theorem dX5_lent_82 : decode cX5_lent 82 = .ok (.aload_n 0, 1) := by decide +kernel
theorem dX5_lent_83 : decode cX5_lent 83 = .ok (.getfield 10, 3) := by decide +kernel
theorem dX5_lent_86 : decode cX5_lent 86 = .ok (.getfield 73, 3) := by decide +kernel
theorem dX5_lent_89 : decode cX5_lent 89 = .ok (.iload 5, 2) := by decide +kernel
theorem dX5_lent_91 : decode cX5_lent 91 = .ok (.invokevirtual 107, 3) := by decide +kernel
theorem dX5_lent_94 : decode cX5_lent 94 = .ok (.ifCond .eq 15, 3) := by decide +kernel
theorem dX5_lent_97 : decode cX5_lent 97 = .ok (.aload_n 0, 1) := by decide +kernel
theorem dX5_lent_98 : decode cX5_lent 98 = .ok (.getfield 10, 3) := by decide +kernel
theorem dX5_lent_101 : decode cX5_lent 101 = .ok (.getfield 73, 3) := by decide +kernel
theorem dX5_lent_104 : decode cX5_lent 104 = .ok (.iload 5, 2) := by decide +kernel
theorem dX5_lent_106 : decode cX5_lent 106 = .ok (.invokevirtual 110, 3) := by decide +kernel
theorem dX5_lent_109 : decode cX5_lent 109 = .ok (.iload_n 3, 1) := by decide +kernel
theorem dX5_lent_110 : decode cX5_lent 110 = .ok (.aload_n 0, 1) := by decide +kernel
theorem dX5_lent_111 : decode cX5_lent 111 = .ok (.getfield 10, 3) := by decide +kernel
theorem dX5_lent_114 : decode cX5_lent 114 = .ok (.invokevirtual 145, 3) := by decide +kernel
theorem dX5_lent_117 : decode cX5_lent 117 = .ok (.iadd, 1) := by decide +kernel
theorem dX5_lent_118 : decode cX5_lent 118 = .ok (.istore_n 3, 1) := by decide +kernel
theorem dX5_lent_119 : decode cX5_lent 119 = .ok (.iinc 4 1, 3) := by decide +kernel
theorem dX5_lent_122 : decode cX5_lent 122 = .ok (.goto (-72), 3) := by decide +kernel
theorem dX5_lent_125 : decode cX5_lent 125 = .ok (.iload_n 3, 1) := by decide +kernel
theorem dX5_lent_126 : decode cX5_lent 126 = .ok (.ireturn, 1) := by decide +kernel
theorem dX5_seed_0 : decode cX5_seed 0 = .ok (.aload_n 0, 1) := by decide +kernel
theorem dX5_seed_1 : decode cX5_seed 1 = .ok (.getfield 10, 3) := by decide +kernel
theorem dX5_seed_4 : decode cX5_seed 4 = .ok (.getfield 253, 3) := by decide +kernel
theorem dX5_seed_7 : decode cX5_seed 7 = .ok (.istore_n 2, 1) := by decide +kernel
theorem dX5_seed_8 : decode cX5_seed 8 = .ok (.aload_n 0, 1) := by decide +kernel
theorem dX5_seed_9 : decode cX5_seed 9 = .ok (.getfield 10, 3) := by decide +kernel
theorem dX5_seed_12 : decode cX5_seed 12 = .ok (.iload_n 1, 1) := by decide +kernel
theorem dX5_seed_13 : decode cX5_seed 13 = .ok (.putfield 253, 3) := by decide +kernel
theorem dX5_seed_16 : decode cX5_seed 16 = .ok (.iload_n 2, 1) := by decide +kernel
theorem dX5_seed_17 : decode cX5_seed 17 = .ok (.ireturn, 1) := by decide +kernel
theorem dX5_feed_0 : decode cX5_feed 0 = .ok (.iload_n 2, 1) := by decide +kernel
theorem dX5_feed_1 : decode cX5_feed 1 = .ok (.iconst 1, 1) := by decide +kernel
theorem dX5_feed_2 : decode cX5_feed 2 = .ok (.iconst 4, 1) := by decide +kernel
theorem dX5_feed_3 : decode cX5_feed 3 = .ok (.invokestatic 65, 3) := by decide +kernel
theorem dX5_feed_6 : decode cX5_feed 6 = .ok (.ifCond .ne 9, 3) := by decide +kernel
theorem dX5_feed_9 : decode cX5_feed 9 = .ok (.aload_n 0, 1) := by decide +kernel
theorem dX5_feed_10 : decode cX5_feed 10 = .ok (.iconst 0, 1) := by decide +kernel
theorem dX5_feed_11 : decode cX5_feed 11 = .ok (.invokevirtual 69, 3) := by decide +kernel
theorem dX5_feed_14 : decode cX5_feed 14 = .ok (.ireturn, 1) := by decide +kernel
theorem dX5_feed_15 : decode cX5_feed 15 = .ok (.aload_n 0, 1) := by decide +kernel
theorem dX5_feed_16 : decode cX5_feed 16 = .ok (.getfield 26, 3) := by decide +kernel
theorem dX5_feed_19 : decode cX5_feed 19 = .ok (.getfield 256, 3) := by decide +kernel
theorem dX5_feed_22 : decode cX5_feed 22 = .ok (.iload_n 2, 1) := by decide +kernel
theorem dX5_feed_23 : decode cX5_feed 23 = .ok (.iadd, 1) := by decide +kernel
theorem dX5_feed_24 : decode cX5_feed 24 = .ok (.bipush 120, 2) := by decide +kernel
theorem dX5_feed_26 : decode cX5_feed 26 = .ok (.if_icmp .le 9, 3) := by decide +kernel
theorem dX5_feed_29 : decode cX5_feed 29 = .ok (.aload_n 0, 1) := by decide +kernel
theorem dX5_feed_30 : decode cX5_feed 30 = .ok (.iconst 1, 1) := by decide +kernel
theorem dX5_feed_31 : decode cX5_feed 31 = .ok (.invokevirtual 69, 3) := by decide +kernel
theorem dX5_feed_34 : decode cX5_feed 34 = .ok (.ireturn, 1) := by decide +kernel
theorem dX5_feed_35 : decode cX5_feed 35 = .ok (.iload_n 2, 1) := by decide +kernel
theorem dX5_feed_36 : decode cX5_feed 36 = .ok (.iconst 1, 1) := by decide +kernel
theorem dX5_feed_37 : decode cX5_feed 37 = .ok (.isub, 1) := by decide +kernel
theorem dX5_feed_38 : decode cX5_feed 38 = .ok (.istore_n 3, 1) := by decide +kernel
theorem dX5_feed_39 : decode cX5_feed 39 = .ok (.iload_n 3, 1) := by decide +kernel
theorem dX5_feed_40 : decode cX5_feed 40 = .ok (.ifCond .lt 26, 3) := by decide +kernel
theorem dX5_feed_43 : decode cX5_feed 43 = .ok (.aload_n 0, 1) := by decide +kernel
theorem dX5_feed_44 : decode cX5_feed 44 = .ok (.getfield 26, 3) := by decide +kernel
theorem dX5_feed_47 : decode cX5_feed 47 = .ok (.iload_n 1, 1) := by decide +kernel
theorem dX5_feed_48 : decode cX5_feed 48 = .ok (.bipush 8, 2) := by decide +kernel
theorem dX5_feed_50 : decode cX5_feed 50 = .ok (.iload_n 3, 1) := by decide +kernel
theorem dX5_feed_51 : decode cX5_feed 51 = .ok (.imul, 1) := by decide +kernel
theorem dX5_feed_52 : decode cX5_feed 52 = .ok (.iushr, 1) := by decide +kernel
theorem dX5_feed_53 : decode cX5_feed 53 = .ok (.sipush 255, 3) := by decide +kernel
theorem dX5_feed_56 : decode cX5_feed 56 = .ok (.iand, 1) := by decide +kernel
theorem dX5_feed_57 : decode cX5_feed 57 = .ok (.invokevirtual 259, 3) := by decide +kernel
theorem dX5_feed_60 : decode cX5_feed 60 = .ok (.iinc 3 (-1), 3) := by decide +kernel
theorem dX5_feed_63 : decode cX5_feed 63 = .ok (.goto (-24), 3) := by decide +kernel
theorem dX5_feed_66 : decode cX5_feed 66 = .ok (.aload_n 0, 1) := by decide +kernel
theorem dX5_feed_67 : decode cX5_feed 67 = .ok (.getfield 26, 3) := by decide +kernel
theorem dX5_feed_70 : decode cX5_feed 70 = .ok (.getfield 256, 3) := by decide +kernel
theorem dX5_feed_73 : decode cX5_feed 73 = .ok (.ireturn, 1) := by decide +kernel
theorem dX5_wipe_0 : decode cX5_wipe 0 = .ok (.aload_n 0, 1) := by decide +kernel
theorem dX5_wipe_1 : decode cX5_wipe 1 = .ok (.getfield 26, 3) := by decide +kernel
theorem dX5_wipe_4 : decode cX5_wipe 4 = .ok (.getfield 256, 3) := by decide +kernel
theorem dX5_wipe_7 : decode cX5_wipe 7 = .ok (.istore_n 1, 1) := by decide +kernel
theorem dX5_wipe_8 : decode cX5_wipe 8 = .ok (.aload_n 0, 1) := by decide +kernel
theorem dX5_wipe_9 : decode cX5_wipe 9 = .ok (.getfield 26, 3) := by decide +kernel
theorem dX5_wipe_12 : decode cX5_wipe 12 = .ok (.iconst 0, 1) := by decide +kernel
theorem dX5_wipe_13 : decode cX5_wipe 13 = .ok (.putfield 256, 3) := by decide +kernel
theorem dX5_wipe_16 : decode cX5_wipe 16 = .ok (.iload_n 1, 1) := by decide +kernel
theorem dX5_wipe_17 : decode cX5_wipe 17 = .ok (.ireturn, 1) := by decide +kernel
theorem dX5_text_0 : decode cX5_text 0 = .ok (.aload_n 0, 1) := by decide +kernel
theorem dX5_text_1 : decode cX5_text 1 = .ok (.getfield 43, 3) := by decide +kernel
theorem dX5_text_4 : decode cX5_text 4 = .ok (.aload_n 0, 1) := by decide +kernel
theorem dX5_text_5 : decode cX5_text 5 = .ok (.getfield 10, 3) := by decide +kernel
theorem dX5_text_8 : decode cX5_text 8 = .ok (.getfield 73, 3) := by decide +kernel
theorem dX5_text_11 : decode cX5_text 11 = .ok (.invokevirtual 160, 3) := by decide +kernel
theorem dX5_text_14 : decode cX5_text 14 = .ok (.aload_n 0, 1) := by decide +kernel
theorem dX5_text_15 : decode cX5_text 15 = .ok (.getfield 26, 3) := by decide +kernel
theorem dX5_text_18 : decode cX5_text 18 = .ok (.aload_n 0, 1) := by decide +kernel
theorem dX5_text_19 : decode cX5_text 19 = .ok (.getfield 43, 3) := by decide +kernel
theorem dX5_text_22 : decode cX5_text 22 = .ok (.invokevirtual 262, 3) := by decide +kernel
theorem dX5_text_25 : decode cX5_text 25 = .ok (.istore_n 1, 1) := by decide +kernel
theorem dX5_text_26 : decode cX5_text 26 = .ok (.iload_n 1, 1) := by decide +kernel
theorem dX5_text_27 : decode cX5_text 27 = .ok (.ifCond .lt 17, 3) := by decide +kernel
theorem dX5_text_30 : decode cX5_text 30 = .ok (.aload_n 0, 1) := by decide +kernel
theorem dX5_text_31 : decode cX5_text 31 = .ok (.getfield 10, 3) := by decide +kernel
theorem dX5_text_34 : decode cX5_text 34 = .ok (.getfield 73, 3) := by decide +kernel
theorem dX5_text_37 : decode cX5_text 37 = .ok (.aload_n 0, 1) := by decide +kernel
theorem dX5_text_38 : decode cX5_text 38 = .ok (.getfield 43, 3) := by decide +kernel
theorem dX5_text_41 : decode cX5_text 41 = .ok (.invokevirtual 160, 3) := by decide +kernel
theorem dX5_text_44 : decode cX5_text 44 = .ok (.aload_n 0, 1) := by decide +kernel
theorem dX5_text_45 : decode cX5_text 45 = .ok (.getfield 26, 3) := by decide +kernel
theorem dX5_text_48 : decode cX5_text 48 = .ok (.iconst 0, 1) := by decide +kernel
theorem dX5_text_49 : decode cX5_text 49 = .ok (.putfield 256, 3) := by decide +kernel
theorem dX5_text_52 : decode cX5_text 52 = .ok (.iload_n 1, 1) := by decide +kernel
theorem dX5_text_53 : decode cX5_text 53 = .ok (.ireturn, 1) := by decide +kernel
theorem dX5_hold_0 : decode cX5_hold 0 = .ok (.iload_n 1, 1) := by decide +kernel
theorem dX5_hold_1 : decode cX5_hold 1 = .ok (.iconst 0, 1) := by decide +kernel
theorem dX5_hold_2 : decode cX5_hold 2 = .ok (.bipush 9, 2) := by decide +kernel
theorem dX5_hold_4 : decode cX5_hold 4 = .ok (.invokestatic 65, 3) := by decide +kernel
theorem dX5_hold_7 : decode cX5_hold 7 = .ok (.ifCond .eq 16, 3) := by decide +kernel
theorem dX5_hold_10 : decode cX5_hold 10 = .ok (.iload_n 2, 1) := by decide +kernel
theorem dX5_hold_11 : decode cX5_hold 11 = .ok (.iconst (-1), 1) := by decide +kernel
theorem dX5_hold_12 : decode cX5_hold 12 = .ok (.if_icmp .eq 17, 3) := by decide +kernel
theorem dX5_hold_15 : decode cX5_hold 15 = .ok (.aload_n 0, 1) := by decide +kernel
theorem dX5_hold_16 : decode cX5_hold 16 = .ok (.iload_n 2, 1) := by decide +kernel
theorem dX5_hold_17 : decode cX5_hold 17 = .ok (.invokevirtual 82, 3) := by decide +kernel
theorem dX5_hold_20 : decode cX5_hold 20 = .ok (.ifCond .ne 9, 3) := by decide +kernel
theorem dX5_hold_23 : decode cX5_hold 23 = .ok (.aload_n 0, 1) := by decide +kernel
theorem dX5_hold_24 : decode cX5_hold 24 = .ok (.iconst 0, 1) := by decide +kernel
theorem dX5_hold_25 : decode cX5_hold 25 = .ok (.invokevirtual 69, 3) := by decide +kernel
theorem dX5_hold_28 : decode cX5_hold 28 = .ok (.ireturn, 1) := by decide +kernel
theorem dX5_hold_29 : decode cX5_hold 29 = .ok (.aload_n 0, 1) := by decide +kernel
theorem dX5_hold_30 : decode cX5_hold 30 = .ok (.getfield 10, 3) := by decide +kernel
theorem dX5_hold_33 : decode cX5_hold 33 = .ok (.getfield 266, 3) := by decide +kernel
theorem dX5_hold_36 : decode cX5_hold 36 = .ok (.iload_n 1, 1) := by decide +kernel
theorem dX5_hold_37 : decode cX5_hold 37 = .ok (.iload_n 2, 1) := by decide +kernel
theorem dX5_hold_38 : decode cX5_hold 38 = .ok (.iastore, 1) := by decide +kernel
theorem dX5_hold_39 : decode cX5_hold 39 = .ok (.iconst 1, 1) := by decide +kernel
theorem dX5_hold_40 : decode cX5_hold 40 = .ok (.ireturn, 1) := by decide +kernel
theorem dX5_as_0 : decode cX5_as 0 = .ok (.iload_n 1, 1) := by decide +kernel
theorem dX5_as_1 : decode cX5_as 1 = .ok (.iconst 0, 1) := by decide +kernel
theorem dX5_as_2 : decode cX5_as 2 = .ok (.bipush 9, 2) := by decide +kernel
theorem dX5_as_4 : decode cX5_as 4 = .ok (.invokestatic 65, 3) := by decide +kernel
theorem dX5_as_7 : decode cX5_as 7 = .ok (.ifCond .eq 13, 3) := by decide +kernel
theorem dX5_as_10 : decode cX5_as 10 = .ok (.iload_n 2, 1) := by decide +kernel
theorem dX5_as_11 : decode cX5_as 11 = .ok (.iconst 0, 1) := by decide +kernel
theorem dX5_as_12 : decode cX5_as 12 = .ok (.bipush 6, 2) := by decide +kernel
theorem dX5_as_14 : decode cX5_as 14 = .ok (.invokestatic 65, 3) := by decide +kernel
theorem dX5_as_17 : decode cX5_as 17 = .ok (.ifCond .ne 9, 3) := by decide +kernel
theorem dX5_as_20 : decode cX5_as 20 = .ok (.aload_n 0, 1) := by decide +kernel
theorem dX5_as_21 : decode cX5_as 21 = .ok (.iconst 0, 1) := by decide +kernel
theorem dX5_as_22 : decode cX5_as 22 = .ok (.invokevirtual 69, 3) := by decide +kernel
theorem dX5_as_25 : decode cX5_as 25 = .ok (.ireturn, 1) := by decide +kernel
theorem dX5_as_26 : decode cX5_as 26 = .ok (.aload_n 0, 1) := by decide +kernel
theorem dX5_as_27 : decode cX5_as 27 = .ok (.getfield 10, 3) := by decide +kernel
theorem dX5_as_30 : decode cX5_as 30 = .ok (.getfield 266, 3) := by decide +kernel
theorem dX5_as_33 : decode cX5_as 33 = .ok (.iload_n 1, 1) := by decide +kernel
theorem dX5_as_34 : decode cX5_as 34 = .ok (.iaload, 1) := by decide +kernel
theorem dX5_as_35 : decode cX5_as 35 = .ok (.istore_n 3, 1) := by decide +kernel
theorem dX5_as_36 : decode cX5_as 36 = .ok (.aload_n 0, 1) := by decide +kernel
theorem dX5_as_37 : decode cX5_as 37 = .ok (.iload_n 3, 1) := by decide +kernel
theorem dX5_as_38 : decode cX5_as 38 = .ok (.invokevirtual 82, 3) := by decide +kernel
theorem dX5_as_41 : decode cX5_as 41 = .ok (.ifCond .ne 9, 3) := by decide +kernel
theorem dX5_as_44 : decode cX5_as 44 = .ok (.aload_n 0, 1) := by decide +kernel
theorem dX5_as_45 : decode cX5_as 45 = .ok (.iconst 5, 1) := by decide +kernel
theorem dX5_as_46 : decode cX5_as 46 = .ok (.invokevirtual 69, 3) := by decide +kernel
theorem dX5_as_49 : decode cX5_as 49 = .ok (.ireturn, 1) := by decide +kernel
theorem dX5_as_50 : decode cX5_as 50 = .ok (.aload_n 0, 1) := by decide +kernel
theorem dX5_as_51 : decode cX5_as 51 = .ok (.getfield 10, 3) := by decide +kernel
theorem dX5_as_54 : decode cX5_as 54 = .ok (.getfield 73, 3) := by decide +kernel
theorem dX5_as_57 : decode cX5_as 57 = .ok (.getfield 269, 3) := by decide +kernel
theorem dX5_as_60 : decode cX5_as 60 = .ok (.iload_n 3, 1) := by decide +kernel
theorem dX5_as_61 : decode cX5_as 61 = .ok (.iaload, 1) := by decide +kernel
theorem dX5_as_62 : decode cX5_as 62 = .ok (.iload_n 2, 1) := by decide +kernel
theorem dX5_as_63 : decode cX5_as 63 = .ok (.invokestatic 272, 3) := by decide +kernel
theorem dX5_as_66 : decode cX5_as 66 = .ok (.ifCond .eq 7, 3) := by decide +kernel
theorem dX5_as_69 : decode cX5_as 69 = .ok (.iload_n 3, 1) := by decide +kernel
theorem dX5_as_70 : decode cX5_as 70 = .ok (.goto 8, 3) := by decide +kernel
theorem dX5_as_73 : decode cX5_as 73 = .ok (.aload_n 0, 1) := by decide +kernel
theorem dX5_as_74 : decode cX5_as 74 = .ok (.iconst 2, 1) := by decide +kernel
theorem dX5_as_75 : decode cX5_as 75 = .ok (.invokevirtual 69, 3) := by decide +kernel
theorem dX5_as_78 : decode cX5_as 78 = .ok (.ireturn, 1) := by decide +kernel
theorem dX5_sheet_0 : decode cX5_sheet 0 = .ok (.iload_n 1, 1) := by decide +kernel
theorem dX5_sheet_1 : decode cX5_sheet 1 = .ok (.invokestatic 277, 3) := by decide +kernel
theorem dX5_sheet_4 : decode cX5_sheet 4 = .ok (.ifCond .eq 25, 3) := by decide +kernel
theorem dX5_sheet_7 : decode cX5_sheet 7 = .ok (.iload_n 2, 1) := by decide +kernel
theorem dX5_sheet_8 : decode cX5_sheet 8 = .ok (.ifCond .eq 27, 3) := by decide +kernel
theorem dX5_sheet_11 : decode cX5_sheet 11 = .ok (.iload_n 2, 1) := by decide +kernel
theorem dX5_sheet_12 : decode cX5_sheet 12 = .ok (.bipush 8, 2) := by decide +kernel
theorem dX5_sheet_14 : decode cX5_sheet 14 = .ok (.if_icmp .eq 21, 3) := by decide +kernel
theorem dX5_sheet_17 : decode cX5_sheet 17 = .ok (.iload_n 2, 1) := by decide +kernel
theorem dX5_sheet_18 : decode cX5_sheet 18 = .ok (.bipush 16, 2) := by decide +kernel
theorem dX5_sheet_20 : decode cX5_sheet 20 = .ok (.if_icmp .eq 15, 3) := by decide +kernel
theorem dX5_sheet_23 : decode cX5_sheet 23 = .ok (.iload_n 2, 1) := by decide +kernel
theorem dX5_sheet_24 : decode cX5_sheet 24 = .ok (.bipush 32, 2) := by decide +kernel
theorem dX5_sheet_26 : decode cX5_sheet 26 = .ok (.if_icmp .eq 9, 3) := by decide +kernel
theorem dX5_sheet_29 : decode cX5_sheet 29 = .ok (.aload_n 0, 1) := by decide +kernel
theorem dX5_sheet_30 : decode cX5_sheet 30 = .ok (.iconst 0, 1) := by decide +kernel
theorem dX5_sheet_31 : decode cX5_sheet 31 = .ok (.invokevirtual 69, 3) := by decide +kernel
theorem dX5_sheet_34 : decode cX5_sheet 34 = .ok (.ireturn, 1) := by decide +kernel
theorem dX5_sheet_35 : decode cX5_sheet 35 = .ok (.iload_n 3, 1) := by decide +kernel
theorem dX5_sheet_36 : decode cX5_sheet 36 = .ok (.ifCond .ge 10, 3) := by decide +kernel
theorem dX5_sheet_39 : decode cX5_sheet 39 = .ok (.aload_n 0, 1) := by decide +kernel
theorem dX5_sheet_40 : decode cX5_sheet 40 = .ok (.bipush 6, 2) := by decide +kernel
theorem dX5_sheet_42 : decode cX5_sheet 42 = .ok (.invokevirtual 69, 3) := by decide +kernel
theorem dX5_sheet_45 : decode cX5_sheet 45 = .ok (.ireturn, 1) := by decide +kernel
theorem dX5_sheet_46 : decode cX5_sheet 46 = .ok (.iload_n 3, 1) := by decide +kernel
theorem dX5_sheet_47 : decode cX5_sheet 47 = .ok (.bipush 40, 2) := by decide +kernel
theorem dX5_sheet_49 : decode cX5_sheet 49 = .ok (.if_icmp .le 9, 3) := by decide +kernel
theorem dX5_sheet_52 : decode cX5_sheet 52 = .ok (.aload_n 0, 1) := by decide +kernel
theorem dX5_sheet_53 : decode cX5_sheet 53 = .ok (.iconst 0, 1) := by decide +kernel
theorem dX5_sheet_54 : decode cX5_sheet 54 = .ok (.invokevirtual 69, 3) := by decide +kernel
theorem dX5_sheet_57 : decode cX5_sheet 57 = .ok (.ireturn, 1) := by decide +kernel
theorem dX5_sheet_58 : decode cX5_sheet 58 = .ok (.aload_n 0, 1) := by decide +kernel
theorem dX5_sheet_59 : decode cX5_sheet 59 = .ok (.getfield 32, 3) := by decide +kernel
theorem dX5_sheet_62 : decode cX5_sheet 62 = .ok (.iload_n 1, 1) := by decide +kernel
theorem dX5_sheet_63 : decode cX5_sheet 63 = .ok (.aaload, 1) := by decide +kernel
theorem dX5_sheet_64 : decode cX5_sheet 64 = .ok (.iload_n 2, 1) := by decide +kernel
theorem dX5_sheet_65 : decode cX5_sheet 65 = .ok (.iload_n 3, 1) := by decide +kernel
theorem dX5_sheet_66 : decode cX5_sheet 66 = .ok (.invokevirtual 280, 3) := by decide +kernel
theorem dX5_sheet_69 : decode cX5_sheet 69 = .ok (.aload_n 0, 1) := by decide +kernel
theorem dX5_sheet_70 : decode cX5_sheet 70 = .ok (.getfield 32, 3) := by decide +kernel
theorem dX5_sheet_73 : decode cX5_sheet 73 = .ok (.iload_n 1, 1) := by decide +kernel
theorem dX5_sheet_74 : decode cX5_sheet 74 = .ok (.aaload, 1) := by decide +kernel
theorem dX5_sheet_75 : decode cX5_sheet 75 = .ok (.getfield 284, 3) := by decide +kernel
theorem dX5_sheet_78 : decode cX5_sheet 78 = .ok (.ireturn, 1) := by decide +kernel
theorem dX5_write_0 : decode cX5_write 0 = .ok (.iload_n 1, 1) := by decide +kernel
theorem dX5_write_1 : decode cX5_write 1 = .ok (.invokestatic 277, 3) := by decide +kernel
theorem dX5_write_4 : decode cX5_write 4 = .ok (.ifCond .ne 9, 3) := by decide +kernel
theorem dX5_write_7 : decode cX5_write 7 = .ok (.aload_n 0, 1) := by decide +kernel
theorem dX5_write_8 : decode cX5_write 8 = .ok (.iconst 0, 1) := by decide +kernel
theorem dX5_write_9 : decode cX5_write 9 = .ok (.invokevirtual 69, 3) := by decide +kernel
theorem dX5_write_12 : decode cX5_write 12 = .ok (.ireturn, 1) := by decide +kernel
theorem dX5_write_13 : decode cX5_write 13 = .ok (.aload_n 0, 1) := by decide +kernel
theorem dX5_write_14 : decode cX5_write 14 = .ok (.getfield 32, 3) := by decide +kernel
theorem dX5_write_17 : decode cX5_write 17 = .ok (.iload_n 1, 1) := by decide +kernel
theorem dX5_write_18 : decode cX5_write 18 = .ok (.aaload, 1) := by decide +kernel
theorem dX5_write_19 : decode cX5_write 19 = .ok (.invokevirtual 285, 3) := by decide +kernel
theorem dX5_write_22 : decode cX5_write 22 = .ok (.ifCond .eq 9, 3) := by decide +kernel
theorem dX5_write_25 : decode cX5_write 25 = .ok (.aload_n 0, 1) := by decide +kernel
theorem dX5_write_26 : decode cX5_write 26 = .ok (.iconst 5, 1) := by decide +kernel
theorem dX5_write_27 : decode cX5_write 27 = .ok (.invokevirtual 69, 3) := by decide +kernel
theorem dX5_write_30 : decode cX5_write 30 = .ok (.ireturn, 1) := by decide +kernel
theorem dX5_write_31 : decode cX5_write 31 = .ok (.iload_n 2, 1) := by decide +kernel
theorem dX5_write_32 : decode cX5_write 32 = .ok (.iconst 0, 1) := by decide +kernel
theorem dX5_write_33 : decode cX5_write 33 = .ok (.aload_n 0, 1) := by decide +kernel
theorem dX5_write_34 : decode cX5_write 34 = .ok (.getfield 32, 3) := by decide +kernel
theorem dX5_write_37 : decode cX5_write 37 = .ok (.iload_n 1, 1) := by decide +kernel
theorem dX5_write_38 : decode cX5_write 38 = .ok (.aaload, 1) := by decide +kernel
theorem dX5_write_39 : decode cX5_write 39 = .ok (.getfield 284, 3) := by decide +kernel
theorem dX5_write_42 : decode cX5_write 42 = .ok (.iconst 1, 1) := by decide +kernel
theorem dX5_write_43 : decode cX5_write 43 = .ok (.isub, 1) := by decide +kernel
theorem dX5_write_44 : decode cX5_write 44 = .ok (.invokestatic 65, 3) := by decide +kernel
theorem dX5_write_47 : decode cX5_write 47 = .ok (.ifCond .ne 9, 3) := by decide +kernel
theorem dX5_write_50 : decode cX5_write 50 = .ok (.aload_n 0, 1) := by decide +kernel
theorem dX5_write_51 : decode cX5_write 51 = .ok (.iconst 0, 1) := by decide +kernel
theorem dX5_write_52 : decode cX5_write 52 = .ok (.invokevirtual 69, 3) := by decide +kernel
theorem dX5_write_55 : decode cX5_write 55 = .ok (.ireturn, 1) := by decide +kernel
theorem dX5_write_56 : decode cX5_write 56 = .ok (.aload_n 0, 1) := by decide +kernel
theorem dX5_write_57 : decode cX5_write 57 = .ok (.getfield 32, 3) := by decide +kernel
theorem dX5_write_60 : decode cX5_write 60 = .ok (.iload_n 1, 1) := by decide +kernel
theorem dX5_write_61 : decode cX5_write 61 = .ok (.aaload, 1) := by decide +kernel
theorem dX5_write_62 : decode cX5_write 62 = .ok (.iload_n 2, 1) := by decide +kernel
theorem dX5_write_63 : decode cX5_write 63 = .ok (.iload_n 3, 1) := by decide +kernel
theorem dX5_write_64 : decode cX5_write 64 = .ok (.invokevirtual 289, 3) := by decide +kernel
theorem dX5_write_67 : decode cX5_write 67 = .ok (.iconst 1, 1) := by decide +kernel
theorem dX5_write_68 : decode cX5_write 68 = .ok (.ireturn, 1) := by decide +kernel
theorem dX5_copy_0 : decode cX5_copy 0 = .ok (.iload_n 1, 1) := by decide +kernel
theorem dX5_copy_1 : decode cX5_copy 1 = .ok (.invokestatic 277, 3) := by decide +kernel
theorem dX5_copy_4 : decode cX5_copy 4 = .ok (.ifCond .eq 10, 3) := by decide +kernel
theorem dX5_copy_7 : decode cX5_copy 7 = .ok (.iload_n 3, 1) := by decide +kernel
theorem dX5_copy_8 : decode cX5_copy 8 = .ok (.invokestatic 277, 3) := by decide +kernel
theorem dX5_copy_11 : decode cX5_copy 11 = .ok (.ifCond .ne 9, 3) := by decide +kernel
theorem dX5_copy_14 : decode cX5_copy 14 = .ok (.aload_n 0, 1) := by decide +kernel
theorem dX5_copy_15 : decode cX5_copy 15 = .ok (.iconst 0, 1) := by decide +kernel
theorem dX5_copy_16 : decode cX5_copy 16 = .ok (.invokevirtual 69, 3) := by decide +kernel
theorem dX5_copy_19 : decode cX5_copy 19 = .ok (.ireturn, 1) := by decide +kernel
theorem dX5_copy_20 : decode cX5_copy 20 = .ok (.aload_n 0, 1) := by decide +kernel
theorem dX5_copy_21 : decode cX5_copy 21 = .ok (.getfield 32, 3) := by decide +kernel
theorem dX5_copy_24 : decode cX5_copy 24 = .ok (.iload_n 1, 1) := by decide +kernel
theorem dX5_copy_25 : decode cX5_copy 25 = .ok (.aaload, 1) := by decide +kernel
theorem dX5_copy_26 : decode cX5_copy 26 = .ok (.astore 6, 2) := by decide +kernel
theorem dX5_copy_28 : decode cX5_copy 28 = .ok (.aload_n 0, 1) := by decide +kernel
theorem dX5_copy_29 : decode cX5_copy 29 = .ok (.getfield 32, 3) := by decide +kernel
theorem dX5_copy_32 : decode cX5_copy 32 = .ok (.iload_n 3, 1) := by decide +kernel
theorem dX5_copy_33 : decode cX5_copy 33 = .ok (.aaload, 1) := by decide +kernel
theorem dX5_copy_34 : decode cX5_copy 34 = .ok (.astore 7, 2) := by decide +kernel
theorem dX5_copy_36 : decode cX5_copy 36 = .ok (.aload 6, 2) := by decide +kernel
theorem dX5_copy_38 : decode cX5_copy 38 = .ok (.invokevirtual 285, 3) := by decide +kernel
theorem dX5_copy_41 : decode cX5_copy 41 = .ok (.ifCond .ne 11, 3) := by decide +kernel
theorem dX5_copy_44 : decode cX5_copy 44 = .ok (.aload 7, 2) := by decide +kernel
theorem dX5_copy_46 : decode cX5_copy 46 = .ok (.invokevirtual 285, 3) := by decide +kernel
theorem dX5_copy_49 : decode cX5_copy 49 = .ok (.ifCond .eq 9, 3) := by decide +kernel
theorem dX5_copy_52 : decode cX5_copy 52 = .ok (.aload_n 0, 1) := by decide +kernel
theorem dX5_copy_53 : decode cX5_copy 53 = .ok (.iconst 5, 1) := by decide +kernel
theorem dX5_copy_54 : decode cX5_copy 54 = .ok (.invokevirtual 69, 3) := by decide +kernel
theorem dX5_copy_57 : decode cX5_copy 57 = .ok (.ireturn, 1) := by decide +kernel
theorem dX5_copy_58 : decode cX5_copy 58 = .ok (.aload 6, 2) := by decide +kernel
theorem dX5_copy_60 : decode cX5_copy 60 = .ok (.getfield 292, 3) := by decide +kernel
theorem dX5_copy_63 : decode cX5_copy 63 = .ok (.aload 7, 2) := by decide +kernel
theorem dX5_copy_65 : decode cX5_copy 65 = .ok (.getfield 292, 3) := by decide +kernel
theorem dX5_copy_68 : decode cX5_copy 68 = .ok (.if_icmp .eq 9, 3) := by decide +kernel
theorem dX5_copy_71 : decode cX5_copy 71 = .ok (.aload_n 0, 1) := by decide +kernel
theorem dX5_copy_72 : decode cX5_copy 72 = .ok (.iconst 2, 1) := by decide +kernel
theorem dX5_copy_73 : decode cX5_copy 73 = .ok (.invokevirtual 69, 3) := by decide +kernel
theorem dX5_copy_76 : decode cX5_copy 76 = .ok (.ireturn, 1) := by decide +kernel
theorem dX5_copy_77 : decode cX5_copy 77 = .ok (.aload 6, 2) := by decide +kernel
theorem dX5_copy_79 : decode cX5_copy 79 = .ok (.iload_n 2, 1) := by decide +kernel
theorem dX5_copy_80 : decode cX5_copy 80 = .ok (.iload 5, 2) := by decide +kernel
theorem dX5_copy_82 : decode cX5_copy 82 = .ok (.invokevirtual 295, 3) := by decide +kernel
theorem dX5_copy_85 : decode cX5_copy 85 = .ok (.ifCond .eq 15, 3) := by decide +kernel
theorem dX5_copy_88 : decode cX5_copy 88 = .ok (.aload 7, 2) := by decide +kernel
theorem dX5_copy_90 : decode cX5_copy 90 = .ok (.iload 4, 2) := by decide +kernel
theorem dX5_copy_92 : decode cX5_copy 92 = .ok (.iload 5, 2) := by decide +kernel
theorem dX5_copy_94 : decode cX5_copy 94 = .ok (.invokevirtual 295, 3) := by decide +kernel
theorem dX5_copy_97 : decode cX5_copy 97 = .ok (.ifCond .ne 9, 3) := by decide +kernel
theorem dX5_copy_100 : decode cX5_copy 100 = .ok (.aload_n 0, 1) := by decide +kernel
theorem dX5_copy_101 : decode cX5_copy 101 = .ok (.iconst 0, 1) := by decide +kernel
theorem dX5_copy_102 : decode cX5_copy 102 = .ok (.invokevirtual 69, 3) := by decide +kernel
theorem dX5_copy_105 : decode cX5_copy 105 = .ok (.ireturn, 1) := by decide +kernel
theorem dX5_copy_106 : decode cX5_copy 106 = .ok (.aload 6, 2) := by decide +kernel
theorem dX5_copy_108 : decode cX5_copy 108 = .ok (.getfield 298, 3) := by decide +kernel
theorem dX5_copy_111 : decode cX5_copy 111 = .ok (.iload_n 2, 1) := by decide +kernel
theorem dX5_copy_112 : decode cX5_copy 112 = .ok (.aload 7, 2) := by decide +kernel
theorem dX5_copy_114 : decode cX5_copy 114 = .ok (.getfield 298, 3) := by decide +kernel
theorem dX5_copy_117 : decode cX5_copy 117 = .ok (.iload 4, 2) := by decide +kernel
theorem dX5_copy_119 : decode cX5_copy 119 = .ok (.iload 5, 2) := by decide +kernel
theorem dX5_copy_121 : decode cX5_copy 121 = .ok (.invokestatic 301, 3) := by decide +kernel
theorem dX5_copy_124 : decode cX5_copy 124 = .ok (.iload 5, 2) := by decide +kernel
theorem dX5_copy_126 : decode cX5_copy 126 = .ok (.ireturn, 1) := by decide +kernel
theorem dX5_load_0 : decode cX5_load 0 = .ok (.iload_n 1, 1) := by decide +kernel
theorem dX5_load_1 : decode cX5_load 1 = .ok (.invokestatic 277, 3) := by decide +kernel
theorem dX5_load_4 : decode cX5_load 4 = .ok (.ifCond .ne 9, 3) := by decide +kernel
theorem dX5_load_7 : decode cX5_load 7 = .ok (.aload_n 0, 1) := by decide +kernel
theorem dX5_load_8 : decode cX5_load 8 = .ok (.iconst 0, 1) := by decide +kernel
theorem dX5_load_9 : decode cX5_load 9 = .ok (.invokevirtual 69, 3) := by decide +kernel
theorem dX5_load_12 : decode cX5_load 12 = .ok (.ireturn, 1) := by decide +kernel
theorem dX5_load_13 : decode cX5_load 13 = .ok (.aload_n 0, 1) := by decide +kernel
theorem dX5_load_14 : decode cX5_load 14 = .ok (.getfield 32, 3) := by decide +kernel
theorem dX5_load_17 : decode cX5_load 17 = .ok (.iload_n 1, 1) := by decide +kernel
theorem dX5_load_18 : decode cX5_load 18 = .ok (.aaload, 1) := by decide +kernel
theorem dX5_load_19 : decode cX5_load 19 = .ok (.invokevirtual 285, 3) := by decide +kernel
theorem dX5_load_22 : decode cX5_load 22 = .ok (.ifCond .eq 9, 3) := by decide +kernel
theorem dX5_load_25 : decode cX5_load 25 = .ok (.aload_n 0, 1) := by decide +kernel
theorem dX5_load_26 : decode cX5_load 26 = .ok (.iconst 5, 1) := by decide +kernel
theorem dX5_load_27 : decode cX5_load 27 = .ok (.invokevirtual 69, 3) := by decide +kernel
theorem dX5_load_30 : decode cX5_load 30 = .ok (.ireturn, 1) := by decide +kernel
theorem dX5_load_31 : decode cX5_load 31 = .ok (.aload_n 0, 1) := by decide +kernel
theorem dX5_load_32 : decode cX5_load 32 = .ok (.getfield 32, 3) := by decide +kernel
theorem dX5_load_35 : decode cX5_load 35 = .ok (.iload_n 1, 1) := by decide +kernel
theorem dX5_load_36 : decode cX5_load 36 = .ok (.aaload, 1) := by decide +kernel
theorem dX5_load_37 : decode cX5_load 37 = .ok (.getfield 284, 3) := by decide +kernel
theorem dX5_load_40 : decode cX5_load 40 = .ok (.aload_n 0, 1) := by decide +kernel
theorem dX5_load_41 : decode cX5_load 41 = .ok (.getfield 10, 3) := by decide +kernel
theorem dX5_load_44 : decode cX5_load 44 = .ok (.getfield 73, 3) := by decide +kernel
theorem dX5_load_47 : decode cX5_load 47 = .ok (.getfield 76, 3) := by decide +kernel
theorem dX5_load_50 : decode cX5_load 50 = .ok (.invokestatic 245, 3) := by decide +kernel
theorem dX5_load_53 : decode cX5_load 53 = .ok (.istore_n 2, 1) := by decide +kernel
theorem dX5_load_54 : decode cX5_load 54 = .ok (.iconst 0, 1) := by decide +kernel
theorem dX5_load_55 : decode cX5_load 55 = .ok (.istore_n 3, 1) := by decide +kernel
theorem dX5_load_56 : decode cX5_load 56 = .ok (.iload_n 3, 1) := by decide +kernel
theorem dX5_load_57 : decode cX5_load 57 = .ok (.iload_n 2, 1) := by decide +kernel
theorem dX5_load_58 : decode cX5_load 58 = .ok (.if_icmp .ge 52, 3) := by decide +kernel
theorem dX5_load_61 : decode cX5_load 61 = .ok (.aload_n 0, 1) := by decide +kernel
theorem dX5_load_62 : decode cX5_load 62 = .ok (.getfield 32, 3) := by decide +kernel
theorem dX5_load_65 : decode cX5_load 65 = .ok (.iload_n 1, 1) := by decide +kernel
theorem dX5_load_66 : decode cX5_load 66 = .ok (.aaload, 1) := by decide +kernel
theorem dX5_load_67 : decode cX5_load 67 = .ok (.getfield 298, 3) := by decide +kernel
theorem dX5_load_70 : decode cX5_load 70 = .ok (.iload_n 3, 1) := by decide +kernel
theorem dX5_load_71 : decode cX5_load 71 = .ok (.iaload, 1) := by decide +kernel
theorem dX5_load_72 : decode cX5_load 72 = .ok (.iconst 0, 1) := by decide +kernel
theorem dX5_load_73 : decode cX5_load 73 = .ok (.bipush 99, 2) := by decide +kernel
theorem dX5_load_75 : decode cX5_load 75 = .ok (.invokestatic 65, 3) := by decide +kernel
theorem dX5_load_78 : decode cX5_load 78 = .ok (.ifCond .eq 32, 3) := by decide +kernel
theorem dX5_load_81 : decode cX5_load 81 = .ok (.aload_n 0, 1) := by decide +kernel
theorem dX5_load_82 : decode cX5_load 82 = .ok (.getfield 10, 3) := by decide +kernel
theorem dX5_load_85 : decode cX5_load 85 = .ok (.getfield 73, 3) := by decide +kernel
theorem dX5_load_88 : decode cX5_load 88 = .ok (.getfield 185, 3) := by decide +kernel
theorem dX5_load_91 : decode cX5_load 91 = .ok (.iload_n 3, 1) := by decide +kernel
theorem dX5_load_92 : decode cX5_load 92 = .ok (.aload_n 0, 1) := by decide +kernel
theorem dX5_load_93 : decode cX5_load 93 = .ok (.getfield 32, 3) := by decide +kernel
theorem dX5_load_96 : decode cX5_load 96 = .ok (.iload_n 1, 1) := by decide +kernel
theorem dX5_load_97 : decode cX5_load 97 = .ok (.aaload, 1) := by decide +kernel
theorem dX5_load_98 : decode cX5_load 98 = .ok (.getfield 298, 3) := by decide +kernel
theorem dX5_load_101 : decode cX5_load 101 = .ok (.iload_n 3, 1) := by decide +kernel
theorem dX5_load_102 : decode cX5_load 102 = .ok (.iaload, 1) := by decide +kernel
theorem dX5_load_103 : decode cX5_load 103 = .ok (.iastore, 1) := by decide +kernel
theorem dX5_load_104 : decode cX5_load 104 = .ok (.iinc 3 1, 3) := by decide +kernel
theorem dX5_load_107 : decode cX5_load 107 = .ok (.goto (-51), 3) := by decide +kernel
theorem dX5_load_110 : decode cX5_load 110 = .ok (.iload_n 3, 1) := by decide +kernel
theorem dX5_load_111 : decode cX5_load 111 = .ok (.ireturn, 1) := by decide +kernel
theorem dX5_judge_0 : decode cX5_judge 0 = .ok (.iload_n 1, 1) := by decide +kernel
theorem dX5_judge_1 : decode cX5_judge 1 = .ok (.invokestatic 277, 3) := by decide +kernel
theorem dX5_judge_4 : decode cX5_judge 4 = .ok (.ifCond .ne 9, 3) := by decide +kernel
theorem dX5_judge_7 : decode cX5_judge 7 = .ok (.aload_n 0, 1) := by decide +kernel
theorem dX5_judge_8 : decode cX5_judge 8 = .ok (.iconst 0, 1) := by decide +kernel
theorem dX5_judge_9 : decode cX5_judge 9 = .ok (.invokevirtual 69, 3) := by decide +kernel
theorem dX5_judge_12 : decode cX5_judge 12 = .ok (.ireturn, 1) := by decide +kernel
theorem dX5_judge_13 : decode cX5_judge 13 = .ok (.aload_n 0, 1) := by decide +kernel
theorem dX5_judge_14 : decode cX5_judge 14 = .ok (.getfield 32, 3) := by decide +kernel
theorem dX5_judge_17 : decode cX5_judge 17 = .ok (.iload_n 1, 1) := by decide +kernel
theorem dX5_judge_18 : decode cX5_judge 18 = .ok (.aaload, 1) := by decide +kernel
theorem dX5_judge_19 : decode cX5_judge 19 = .ok (.astore_n 2, 1) := by decide +kernel
theorem dX5_judge_20 : decode cX5_judge 20 = .ok (.aload_n 2, 1) := by decide +kernel
theorem dX5_judge_21 : decode cX5_judge 21 = .ok (.invokevirtual 285, 3) := by decide +kernel
theorem dX5_judge_24 : decode cX5_judge 24 = .ok (.ifCond .eq 9, 3) := by decide +kernel
theorem dX5_judge_27 : decode cX5_judge 27 = .ok (.aload_n 0, 1) := by decide +kernel
theorem dX5_judge_28 : decode cX5_judge 28 = .ok (.iconst 5, 1) := by decide +kernel
theorem dX5_judge_29 : decode cX5_judge 29 = .ok (.invokevirtual 69, 3) := by decide +kernel
theorem dX5_judge_32 : decode cX5_judge 32 = .ok (.ireturn, 1) := by decide +kernel
theorem dX5_judge_33 : decode cX5_judge 33 = .ok (.aload_n 0, 1) := by decide +kernel
theorem dX5_judge_34 : decode cX5_judge 34 = .ok (.aload_n 2, 1) := by decide +kernel
theorem dX5_judge_35 : decode cX5_judge 35 = .ok (.getfield 284, 3) := by decide +kernel
theorem dX5_judge_38 : decode cX5_judge 38 = .ok (.invokevirtual 142, 3) := by decide +kernel
theorem dX5_judge_41 : decode cX5_judge 41 = .ok (.ifCond .eq 9, 3) := by decide +kernel
theorem dX5_judge_44 : decode cX5_judge 44 = .ok (.aload_n 0, 1) := by decide +kernel
theorem dX5_judge_45 : decode cX5_judge 45 = .ok (.iconst 4, 1) := by decide +kernel
theorem dX5_judge_46 : decode cX5_judge 46 = .ok (.invokevirtual 69, 3) := by decide +kernel
theorem dX5_judge_49 : decode cX5_judge 49 = .ok (.ireturn, 1) := by decide +kernel
theorem dX5_judge_50 : decode cX5_judge 50 = .ok (.aload_n 0, 1) := by decide +kernel
theorem dX5_judge_51 : decode cX5_judge 51 = .ok (.getfield 43, 3) := by decide +kernel
theorem dX5_judge_54 : decode cX5_judge 54 = .ok (.aload_n 0, 1) := by decide +kernel
theorem dX5_judge_55 : decode cX5_judge 55 = .ok (.getfield 10, 3) := by decide +kernel
theorem dX5_judge_58 : decode cX5_judge 58 = .ok (.getfield 73, 3) := by decide +kernel
theorem dX5_judge_61 : decode cX5_judge 61 = .ok (.invokevirtual 160, 3) := by decide +kernel
theorem dX5_judge_64 : decode cX5_judge 64 = .ok (.iconst 0, 1) := by decide +kernel
theorem dX5_judge_65 : decode cX5_judge 65 = .ok (.istore_n 3, 1) := by decide +kernel
theorem dX5_judge_66 : decode cX5_judge 66 = .ok (.iload_n 3, 1) := by decide +kernel
theorem dX5_judge_67 : decode cX5_judge 67 = .ok (.aload_n 2, 1) := by decide +kernel
theorem dX5_judge_68 : decode cX5_judge 68 = .ok (.getfield 284, 3) := by decide +kernel
theorem dX5_judge_71 : decode cX5_judge 71 = .ok (.if_icmp .ge 47, 3) := by decide +kernel
theorem dX5_judge_74 : decode cX5_judge 74 = .ok (.aload_n 0, 1) := by decide +kernel
theorem dX5_judge_75 : decode cX5_judge 75 = .ok (.getfield 43, 3) := by decide +kernel
theorem dX5_judge_78 : decode cX5_judge 78 = .ok (.invokevirtual 179, 3) := by decide +kernel
theorem dX5_judge_81 : decode cX5_judge 81 = .ok (.istore 4, 2) := by decide +kernel
theorem dX5_judge_83 : decode cX5_judge 83 = .ok (.aload_n 2, 1) := by decide +kernel
theorem dX5_judge_84 : decode cX5_judge 84 = .ok (.getfield 298, 3) := by decide +kernel
theorem dX5_judge_87 : decode cX5_judge 87 = .ok (.iload_n 3, 1) := by decide +kernel
theorem dX5_judge_88 : decode cX5_judge 88 = .ok (.iaload, 1) := by decide +kernel
theorem dX5_judge_89 : decode cX5_judge 89 = .ok (.aload_n 0, 1) := by decide +kernel
theorem dX5_judge_90 : decode cX5_judge 90 = .ok (.getfield 43, 3) := by decide +kernel
theorem dX5_judge_93 : decode cX5_judge 93 = .ok (.getfield 182, 3) := by decide +kernel
theorem dX5_judge_96 : decode cX5_judge 96 = .ok (.ifCond .lt 8, 3) := by decide +kernel
theorem dX5_judge_99 : decode cX5_judge 99 = .ok (.iload 4, 2) := by decide +kernel
theorem dX5_judge_101 : decode cX5_judge 101 = .ok (.goto 4, 3) := by decide +kernel
theorem dX5_judge_104 : decode cX5_judge 104 = .ok (.iconst (-1), 1) := by decide +kernel
theorem dX5_judge_105 : decode cX5_judge 105 = .ok (.if_icmp .eq 7, 3) := by decide +kernel
theorem dX5_judge_108 : decode cX5_judge 108 = .ok (.iconst 1, 1) := by decide +kernel
theorem dX5_judge_109 : decode cX5_judge 109 = .ok (.iload_n 3, 1) := by decide +kernel
theorem dX5_judge_110 : decode cX5_judge 110 = .ok (.iadd, 1) := by decide +kernel
theorem dX5_judge_111 : decode cX5_judge 111 = .ok (.ireturn, 1) := by decide +kernel
theorem dX5_judge_112 : decode cX5_judge 112 = .ok (.iinc 3 1, 3) := by decide +kernel
theorem dX5_judge_115 : decode cX5_judge 115 = .ok (.goto (-49), 3) := by decide +kernel
theorem dX5_judge_118 : decode cX5_judge 118 = .ok (.iconst 0, 1) := by decide +kernel
theorem dX5_judge_119 : decode cX5_judge 119 = .ok (.ireturn, 1) := by decide +kernel
theorem dX5_image_0 : decode cX5_image 0 = .ok (.aload_n 0, 1) := by decide +kernel
theorem dX5_image_1 : decode cX5_image 1 = .ok (.getfield 16, 3) := by decide +kernel
theorem dX5_image_4 : decode cX5_image 4 = .ok (.aload_n 0, 1) := by decide +kernel
theorem dX5_image_5 : decode cX5_image 5 = .ok (.getfield 10, 3) := by decide +kernel
theorem dX5_image_8 : decode cX5_image 8 = .ok (.invokevirtual 307, 3) := by decide +kernel
theorem dX5_image_11 : decode cX5_image 11 = .ok (.aload_n 0, 1) := by decide +kernel
theorem dX5_image_12 : decode cX5_image 12 = .ok (.iconst 1, 1) := by decide +kernel
theorem dX5_image_13 : decode cX5_image 13 = .ok (.putfield 19, 3) := by decide +kernel
theorem dX5_image_16 : decode cX5_image 16 = .ok (.iconst 1, 1) := by decide +kernel
theorem dX5_image_17 : decode cX5_image 17 = .ok (.ireturn, 1) := by decide +kernel
theorem dX5_undo_0 : decode cX5_undo 0 = .ok (.aload_n 0, 1) := by decide +kernel
theorem dX5_undo_1 : decode cX5_undo 1 = .ok (.getfield 19, 3) := by decide +kernel
theorem dX5_undo_4 : decode cX5_undo 4 = .ok (.ifCond .ne 9, 3) := by decide +kernel
theorem dX5_undo_7 : decode cX5_undo 7 = .ok (.aload_n 0, 1) := by decide +kernel
theorem dX5_undo_8 : decode cX5_undo 8 = .ok (.iconst 3, 1) := by decide +kernel
theorem dX5_undo_9 : decode cX5_undo 9 = .ok (.invokevirtual 69, 3) := by decide +kernel
theorem dX5_undo_12 : decode cX5_undo 12 = .ok (.ireturn, 1) := by decide +kernel
theorem dX5_undo_13 : decode cX5_undo 13 = .ok (.aload_n 0, 1) := by decide +kernel
theorem dX5_undo_14 : decode cX5_undo 14 = .ok (.getfield 10, 3) := by decide +kernel
theorem dX5_undo_17 : decode cX5_undo 17 = .ok (.aload_n 0, 1) := by decide +kernel
theorem dX5_undo_18 : decode cX5_undo 18 = .ok (.getfield 16, 3) := by decide +kernel
theorem dX5_undo_21 : decode cX5_undo 21 = .ok (.invokevirtual 307, 3) := by decide +kernel
theorem dX5_undo_24 : decode cX5_undo 24 = .ok (.aload_n 0, 1) := by decide +kernel
theorem dX5_undo_25 : decode cX5_undo 25 = .ok (.getfield 10, 3) := by decide +kernel
theorem dX5_undo_28 : decode cX5_undo 28 = .ok (.getfield 148, 3) := by decide +kernel
theorem dX5_undo_31 : decode cX5_undo 31 = .ok (.ireturn, 1) := by decide +kernel
theorem dX5_tear_0 : decode cX5_tear 0 = .ok (.aload_n 0, 1) := by decide +kernel
theorem dX5_tear_1 : decode cX5_tear 1 = .ok (.getfield 19, 3) := by decide +kernel
theorem dX5_tear_4 : decode cX5_tear 4 = .ok (.ifCond .eq 7, 3) := by decide +kernel
theorem dX5_tear_7 : decode cX5_tear 7 = .ok (.iconst 1, 1) := by decide +kernel
theorem dX5_tear_8 : decode cX5_tear 8 = .ok (.goto 4, 3) := by decide +kernel
theorem dX5_tear_11 : decode cX5_tear 11 = .ok (.iconst 0, 1) := by decide +kernel
theorem dX5_tear_12 : decode cX5_tear 12 = .ok (.istore_n 1, 1) := by decide +kernel
theorem dX5_tear_13 : decode cX5_tear 13 = .ok (.aload_n 0, 1) := by decide +kernel
theorem dX5_tear_14 : decode cX5_tear 14 = .ok (.iconst 0, 1) := by decide +kernel
theorem dX5_tear_15 : decode cX5_tear 15 = .ok (.putfield 19, 3) := by decide +kernel
theorem dX5_tear_18 : decode cX5_tear 18 = .ok (.iload_n 1, 1) := by decide +kernel
theorem dX5_tear_19 : decode cX5_tear 19 = .ok (.ireturn, 1) := by decide +kernel
theorem dX5_count_0 : decode cX5_count 0 = .ok (.iload_n 1, 1) := by decide +kernel
theorem dX5_count_1 : decode cX5_count 1 = .ok (.tableswitch 120 0 7 #[47, 55, 66, 77, 85, 96, 104, 112], 47) := by decide +kernel
theorem dX5_count_48 : decode cX5_count 48 = .ok (.aload_n 0, 1) := by decide +kernel
theorem dX5_count_49 : decode cX5_count 49 = .ok (.getfield 10, 3) := by decide +kernel
theorem dX5_count_52 : decode cX5_count 52 = .ok (.getfield 148, 3) := by decide +kernel
theorem dX5_count_55 : decode cX5_count 55 = .ok (.ireturn, 1) := by decide +kernel
theorem dX5_count_56 : decode cX5_count 56 = .ok (.aload_n 0, 1) := by decide +kernel
theorem dX5_count_57 : decode cX5_count 57 = .ok (.getfield 10, 3) := by decide +kernel
theorem dX5_count_60 : decode cX5_count 60 = .ok (.getfield 73, 3) := by decide +kernel
theorem dX5_count_63 : decode cX5_count 63 = .ok (.getfield 76, 3) := by decide +kernel
theorem dX5_count_66 : decode cX5_count 66 = .ok (.ireturn, 1) := by decide +kernel
theorem dX5_count_67 : decode cX5_count 67 = .ok (.aload_n 0, 1) := by decide +kernel
theorem dX5_count_68 : decode cX5_count 68 = .ok (.getfield 10, 3) := by decide +kernel
theorem dX5_count_71 : decode cX5_count 71 = .ok (.getfield 73, 3) := by decide +kernel
theorem dX5_count_74 : decode cX5_count 74 = .ok (.getfield 114, 3) := by decide +kernel
theorem dX5_count_77 : decode cX5_count 77 = .ok (.ireturn, 1) := by decide +kernel
theorem dX5_count_78 : decode cX5_count 78 = .ok (.aload_n 0, 1) := by decide +kernel
theorem dX5_count_79 : decode cX5_count 79 = .ok (.getfield 10, 3) := by decide +kernel
theorem dX5_count_82 : decode cX5_count 82 = .ok (.getfield 154, 3) := by decide +kernel
theorem dX5_count_85 : decode cX5_count 85 = .ok (.ireturn, 1) := by decide +kernel
theorem dX5_count_86 : decode cX5_count 86 = .ok (.aload_n 0, 1) := by decide +kernel
theorem dX5_count_87 : decode cX5_count 87 = .ok (.getfield 10, 3) := by decide +kernel
theorem dX5_count_90 : decode cX5_count 90 = .ok (.getfield 73, 3) := by decide +kernel
theorem dX5_count_93 : decode cX5_count 93 = .ok (.invokevirtual 310, 3) := by decide +kernel
theorem dX5_count_96 : decode cX5_count 96 = .ok (.ireturn, 1) := by decide +kernel
theorem dX5_count_97 : decode cX5_count 97 = .ok (.aload_n 0, 1) := by decide +kernel
theorem dX5_count_98 : decode cX5_count 98 = .ok (.getfield 26, 3) := by decide +kernel
theorem dX5_count_101 : decode cX5_count 101 = .ok (.getfield 256, 3) := by decide +kernel
theorem dX5_count_104 : decode cX5_count 104 = .ok (.ireturn, 1) := by decide +kernel
theorem dX5_count_105 : decode cX5_count 105 = .ok (.aload_n 0, 1) := by decide +kernel
theorem dX5_count_106 : decode cX5_count 106 = .ok (.getfield 10, 3) := by decide +kernel
theorem dX5_count_109 : decode cX5_count 109 = .ok (.getfield 253, 3) := by decide +kernel
theorem dX5_count_112 : decode cX5_count 112 = .ok (.ireturn, 1) := by decide +kernel
theorem dX5_count_113 : decode cX5_count 113 = .ok (.aload_n 0, 1) := by decide +kernel
theorem dX5_count_114 : decode cX5_count 114 = .ok (.getfield 10, 3) := by decide +kernel
theorem dX5_count_117 : decode cX5_count 117 = .ok (.invokevirtual 313, 3) := by decide +kernel
theorem dX5_count_120 : decode cX5_count 120 = .ok (.ireturn, 1) := by decide +kernel
theorem dX5_count_121 : decode cX5_count 121 = .ok (.aload_n 0, 1) := by decide +kernel
theorem dX5_count_122 : decode cX5_count 122 = .ok (.iconst 0, 1) := by decide +kernel
theorem dX5_count_123 : decode cX5_count 123 = .ok (.invokevirtual 69, 3) := by decide +kernel
theorem dX5_count_126 : decode cX5_count 126 = .ok (.ireturn, 1) := by decide +kernel
theorem dX5_status_0 : decode cX5_status 0 = .ok (.iload_n 1, 1) := by decide +kernel
theorem dX5_status_1 : decode cX5_status 1 = .ok (.iconst (-1), 1) := by decide +kernel
theorem dX5_status_2 : decode cX5_status 2 = .ok (.bipush 6, 2) := by decide +kernel
theorem dX5_status_4 : decode cX5_status 4 = .ok (.invokestatic 65, 3) := by decide +kernel
theorem dX5_status_7 : decode cX5_status 7 = .ok (.ifCond .ne 9, 3) := by decide +kernel
theorem dX5_status_10 : decode cX5_status 10 = .ok (.aload_n 0, 1) := by decide +kernel
theorem dX5_status_11 : decode cX5_status 11 = .ok (.iconst 0, 1) := by decide +kernel
theorem dX5_status_12 : decode cX5_status 12 = .ok (.invokevirtual 69, 3) := by decide +kernel
theorem dX5_status_15 : decode cX5_status 15 = .ok (.ireturn, 1) := by decide +kernel
theorem dX5_status_16 : decode cX5_status 16 = .ok (.iload_n 1, 1) := by decide +kernel
theorem dX5_status_17 : decode cX5_status 17 = .ok (.ifCond .lt 10, 3) := by decide +kernel
theorem dX5_status_20 : decode cX5_status 20 = .ok (.aload_n 0, 1) := by decide +kernel
theorem dX5_status_21 : decode cX5_status 21 = .ok (.getfield 36, 3) := by decide +kernel
theorem dX5_status_24 : decode cX5_status 24 = .ok (.iload_n 1, 1) := by decide +kernel
theorem dX5_status_25 : decode cX5_status 25 = .ok (.iaload, 1) := by decide +kernel
theorem dX5_status_26 : decode cX5_status 26 = .ok (.ireturn, 1) := by decide +kernel
theorem dX5_status_27 : decode cX5_status 27 = .ok (.iconst 0, 1) := by decide +kernel
theorem dX5_status_28 : decode cX5_status 28 = .ok (.istore_n 2, 1) := by decide +kernel
theorem dX5_status_29 : decode cX5_status 29 = .ok (.iconst 0, 1) := by decide +kernel
theorem dX5_status_30 : decode cX5_status 30 = .ok (.istore_n 3, 1) := by decide +kernel
theorem dX5_status_31 : decode cX5_status 31 = .ok (.iload_n 3, 1) := by decide +kernel
theorem dX5_status_32 : decode cX5_status 32 = .ok (.bipush 6, 2) := by decide +kernel
theorem dX5_status_34 : decode cX5_status 34 = .ok (.if_icmp .gt 18, 3) := by decide +kernel
theorem dX5_status_37 : decode cX5_status 37 = .ok (.iload_n 2, 1) := by decide +kernel
theorem dX5_status_38 : decode cX5_status 38 = .ok (.aload_n 0, 1) := by decide +kernel
theorem dX5_status_39 : decode cX5_status 39 = .ok (.getfield 36, 3) := by decide +kernel
theorem dX5_status_42 : decode cX5_status 42 = .ok (.iload_n 3, 1) := by decide +kernel
theorem dX5_status_43 : decode cX5_status 43 = .ok (.iaload, 1) := by decide +kernel
theorem dX5_status_44 : decode cX5_status 44 = .ok (.iadd, 1) := by decide +kernel
theorem dX5_status_45 : decode cX5_status 45 = .ok (.istore_n 2, 1) := by decide +kernel
theorem dX5_status_46 : decode cX5_status 46 = .ok (.iinc 3 1, 3) := by decide +kernel
theorem dX5_status_49 : decode cX5_status 49 = .ok (.goto (-18), 3) := by decide +kernel
theorem dX5_status_52 : decode cX5_status 52 = .ok (.iload_n 2, 1) := by decide +kernel
theorem dX5_status_53 : decode cX5_status 53 = .ok (.ireturn, 1) := by decide +kernel
theorem dX5_finding_0 : decode cX5_finding 0 = .ok (.aload_n 0, 1) := by decide +kernel
theorem dX5_finding_1 : decode cX5_finding 1 = .ok (.getfield 36, 3) := by decide +kernel
theorem dX5_finding_4 : decode cX5_finding 4 = .ok (.iload_n 1, 1) := by decide +kernel
theorem dX5_finding_5 : decode cX5_finding 5 = .ok (.dup2, 1) := by decide +kernel
theorem dX5_finding_6 : decode cX5_finding 6 = .ok (.iaload, 1) := by decide +kernel
theorem dX5_finding_7 : decode cX5_finding 7 = .ok (.iconst 1, 1) := by decide +kernel
theorem dX5_finding_8 : decode cX5_finding 8 = .ok (.iadd, 1) := by decide +kernel
theorem dX5_finding_9 : decode cX5_finding 9 = .ok (.iastore, 1) := by decide +kernel
theorem dX5_finding_10 : decode cX5_finding 10 = .ok (.ldc_w 316, 3) := by decide +kernel
theorem dX5_finding_13 : decode cX5_finding 13 = .ok (.iload_n 1, 1) := by decide +kernel
theorem dX5_finding_14 : decode cX5_finding 14 = .ok (.isub, 1) := by decide +kernel
theorem dX5_finding_15 : decode cX5_finding 15 = .ok (.ireturn, 1) := by decide +kernel
theorem dX5_within_0 : decode cX5_within 0 = .ok (.iload_n 0, 1) := by decide +kernel
theorem dX5_within_1 : decode cX5_within 1 = .ok (.iload_n 1, 1) := by decide +kernel
theorem dX5_within_2 : decode cX5_within 2 = .ok (.if_icmp .lt 12, 3) := by decide +kernel
theorem dX5_within_5 : decode cX5_within 5 = .ok (.iload_n 0, 1) := by decide +kernel
theorem dX5_within_6 : decode cX5_within 6 = .ok (.iload_n 2, 1) := by decide +kernel
theorem dX5_within_7 : decode cX5_within 7 = .ok (.if_icmp .gt 7, 3) := by decide +kernel
theorem dX5_within_10 : decode cX5_within 10 = .ok (.iconst 1, 1) := by decide +kernel
theorem dX5_within_11 : decode cX5_within 11 = .ok (.goto 4, 3) := by decide +kernel
theorem dX5_within_14 : decode cX5_within 14 = .ok (.iconst 0, 1) := by decide +kernel
theorem dX5_within_15 : decode cX5_within 15 = .ok (.ireturn, 1) := by decide +kernel
theorem dX5_isDays_0 : decode cX5_isDays 0 = .ok (.iload_n 0, 1) := by decide +kernel
theorem dX5_isDays_1 : decode cX5_isDays 1 = .ok (.iconst 1, 1) := by decide +kernel
theorem dX5_isDays_2 : decode cX5_isDays 2 = .ok (.bipush 60, 2) := by decide +kernel
theorem dX5_isDays_4 : decode cX5_isDays 4 = .ok (.invokestatic 65, 3) := by decide +kernel
theorem dX5_isDays_7 : decode cX5_isDays 7 = .ok (.ireturn, 1) := by decide +kernel
theorem dX5_isTooLate_0 : decode cX5_isTooLate 0 = .ok (.aload_n 0, 1) := by decide +kernel
theorem dX5_isTooLate_1 : decode cX5_isTooLate 1 = .ok (.getfield 10, 3) := by decide +kernel
theorem dX5_isTooLate_4 : decode cX5_isTooLate 4 = .ok (.getfield 148, 3) := by decide +kernel
theorem dX5_isTooLate_7 : decode cX5_isTooLate 7 = .ok (.iload_n 1, 1) := by decide +kernel
theorem dX5_isTooLate_8 : decode cX5_isTooLate 8 = .ok (.iadd, 1) := by decide +kernel
theorem dX5_isTooLate_9 : decode cX5_isTooLate 9 = .ok (.sipush 9999, 3) := by decide +kernel
theorem dX5_isTooLate_12 : decode cX5_isTooLate 12 = .ok (.if_icmp .le 7, 3) := by decide +kernel
theorem dX5_isTooLate_15 : decode cX5_isTooLate 15 = .ok (.iconst 1, 1) := by decide +kernel
theorem dX5_isTooLate_16 : decode cX5_isTooLate 16 = .ok (.goto 4, 3) := by decide +kernel
theorem dX5_isTooLate_19 : decode cX5_isTooLate 19 = .ok (.iconst 0, 1) := by decide +kernel
theorem dX5_isTooLate_20 : decode cX5_isTooLate 20 = .ok (.ireturn, 1) := by decide +kernel
theorem dX5_isThing_0 : decode cX5_isThing 0 = .ok (.iload_n 1, 1) := by decide +kernel
theorem dX5_isThing_1 : decode cX5_isThing 1 = .ok (.iconst 0, 1) := by decide +kernel
theorem dX5_isThing_2 : decode cX5_isThing 2 = .ok (.aload_n 0, 1) := by decide +kernel
theorem dX5_isThing_3 : decode cX5_isThing 3 = .ok (.getfield 10, 3) := by decide +kernel
theorem dX5_isThing_6 : decode cX5_isThing 6 = .ok (.getfield 73, 3) := by decide +kernel
theorem dX5_isThing_9 : decode cX5_isThing 9 = .ok (.getfield 76, 3) := by decide +kernel
theorem dX5_isThing_12 : decode cX5_isThing 12 = .ok (.iconst 1, 1) := by decide +kernel
theorem dX5_isThing_13 : decode cX5_isThing 13 = .ok (.isub, 1) := by decide +kernel
theorem dX5_isThing_14 : decode cX5_isThing 14 = .ok (.invokestatic 65, 3) := by decide +kernel
theorem dX5_isThing_17 : decode cX5_isThing 17 = .ok (.ireturn, 1) := by decide +kernel
theorem dX5_isSheet_0 : decode cX5_isSheet 0 = .ok (.iload_n 0, 1) := by decide +kernel
theorem dX5_isSheet_1 : decode cX5_isSheet 1 = .ok (.iconst 0, 1) := by decide +kernel
theorem dX5_isSheet_2 : decode cX5_isSheet 2 = .ok (.iconst 3, 1) := by decide +kernel
theorem dX5_isSheet_3 : decode cX5_isSheet 3 = .ok (.invokestatic 65, 3) := by decide +kernel
theorem dX5_isSheet_6 : decode cX5_isSheet 6 = .ok (.ireturn, 1) := by decide +kernel
theorem dX5_isFit_0 : decode cX5_isFit 0 = .ok (.iload_n 0, 1) := by decide +kernel
theorem dX5_isFit_1 : decode cX5_isFit 1 = .ok (.tableswitch 62 0 3 #[31, 39, 47, 55], 31) := by decide +kernel
theorem dX5_isFit_32 : decode cX5_isFit 32 = .ok (.iload_n 1, 1) := by decide +kernel
theorem dX5_isFit_33 : decode cX5_isFit 33 = .ok (.iconst 0, 1) := by decide +kernel
theorem dX5_isFit_34 : decode cX5_isFit 34 = .ok (.bipush 6, 2) := by decide +kernel
theorem dX5_isFit_36 : decode cX5_isFit 36 = .ok (.invokestatic 65, 3) := by decide +kernel
theorem dX5_isFit_39 : decode cX5_isFit 39 = .ok (.ireturn, 1) := by decide +kernel
theorem dX5_isFit_40 : decode cX5_isFit 40 = .ok (.iload_n 1, 1) := by decide +kernel
theorem dX5_isFit_41 : decode cX5_isFit 41 = .ok (.iconst 1, 1) := by decide +kernel
theorem dX5_isFit_42 : decode cX5_isFit 42 = .ok (.bipush 9, 2) := by decide +kernel
theorem dX5_isFit_44 : decode cX5_isFit 44 = .ok (.invokestatic 65, 3) := by decide +kernel
theorem dX5_isFit_47 : decode cX5_isFit 47 = .ok (.ireturn, 1) := by decide +kernel
theorem dX5_isFit_48 : decode cX5_isFit 48 = .ok (.iload_n 1, 1) := by decide +kernel
theorem dX5_isFit_49 : decode cX5_isFit 49 = .ok (.iconst 0, 1) := by decide +kernel
theorem dX5_isFit_50 : decode cX5_isFit 50 = .ok (.bipush 99, 2) := by decide +kernel
theorem dX5_isFit_52 : decode cX5_isFit 52 = .ok (.invokestatic 65, 3) := by decide +kernel
theorem dX5_isFit_55 : decode cX5_isFit 55 = .ok (.ireturn, 1) := by decide +kernel
theorem dX5_isFit_56 : decode cX5_isFit 56 = .ok (.iload_n 1, 1) := by decide +kernel
theorem dX5_isFit_57 : decode cX5_isFit 57 = .ok (.iconst 0, 1) := by decide +kernel
theorem dX5_isFit_58 : decode cX5_isFit 58 = .ok (.iconst 1, 1) := by decide +kernel
theorem dX5_isFit_59 : decode cX5_isFit 59 = .ok (.invokestatic 65, 3) := by decide +kernel
theorem dX5_isFit_62 : decode cX5_isFit 62 = .ok (.ireturn, 1) := by decide +kernel
theorem dX5_isFit_63 : decode cX5_isFit 63 = .ok (.iconst 0, 1) := by decide +kernel
theorem dX5_isFit_64 : decode cX5_isFit 64 = .ok (.ireturn, 1) := by decide +kernel
theorem dX5_isSet_0 : decode cX5_isSet 0 = .ok (.iload_n 1, 1) := by decide +kernel
theorem dX5_isSet_1 : decode cX5_isSet 1 = .ok (.aload_n 0, 1) := by decide +kernel
theorem dX5_isSet_2 : decode cX5_isSet 2 = .ok (.getfield 10, 3) := by decide +kernel
theorem dX5_isSet_5 : decode cX5_isSet 5 = .ok (.getfield 73, 3) := by decide +kernel
theorem dX5_isSet_8 : decode cX5_isSet 8 = .ok (.getfield 76, 3) := by decide +kernel
theorem dX5_isSet_11 : decode cX5_isSet 11 = .ok (.iushr, 1) := by decide +kernel
theorem dX5_isSet_12 : decode cX5_isSet 12 = .ok (.ifCond .ne 7, 3) := by decide +kernel
theorem dX5_isSet_15 : decode cX5_isSet 15 = .ok (.iconst 1, 1) := by decide +kernel
theorem dX5_isSet_16 : decode cX5_isSet 16 = .ok (.goto 4, 3) := by decide +kernel
theorem dX5_isSet_19 : decode cX5_isSet 19 = .ok (.iconst 0, 1) := by decide +kernel
theorem dX5_isSet_20 : decode cX5_isSet 20 = .ok (.ireturn, 1) := by decide +kernel
theorem dX5_areOut_0 : decode cX5_areOut 0 = .ok (.iconst 0, 1) := by decide +kernel
theorem dX5_areOut_1 : decode cX5_areOut 1 = .ok (.istore_n 2, 1) := by decide +kernel
theorem dX5_areOut_2 : decode cX5_areOut 2 = .ok (.iload_n 2, 1) := by decide +kernel
theorem dX5_areOut_3 : decode cX5_areOut 3 = .ok (.aload_n 0, 1) := by decide +kernel
theorem dX5_areOut_4 : decode cX5_areOut 4 = .ok (.getfield 10, 3) := by decide +kernel
theorem dX5_areOut_7 : decode cX5_areOut 7 = .ok (.getfield 73, 3) := by decide +kernel
theorem dX5_areOut_10 : decode cX5_areOut 10 = .ok (.getfield 76, 3) := by decide +kernel
theorem dX5_areOut_13 : decode cX5_areOut 13 = .ok (.if_icmp .ge 33, 3) := by decide +kernel
theorem dX5_areOut_16 : decode cX5_areOut 16 = .ok (.iload_n 1, 1) := by decide +kernel
theorem dX5_areOut_17 : decode cX5_areOut 17 = .ok (.iload_n 2, 1) := by decide +kernel
theorem dX5_areOut_18 : decode cX5_areOut 18 = .ok (.ishr, 1) := by decide +kernel
theorem dX5_areOut_19 : decode cX5_areOut 19 = .ok (.iconst 1, 1) := by decide +kernel
theorem dX5_areOut_20 : decode cX5_areOut 20 = .ok (.iand, 1) := by decide +kernel
theorem dX5_areOut_21 : decode cX5_areOut 21 = .ok (.ifCond .eq 19, 3) := by decide +kernel
theorem dX5_areOut_24 : decode cX5_areOut 24 = .ok (.aload_n 0, 1) := by decide +kernel
theorem dX5_areOut_25 : decode cX5_areOut 25 = .ok (.getfield 10, 3) := by decide +kernel
theorem dX5_areOut_28 : decode cX5_areOut 28 = .ok (.getfield 73, 3) := by decide +kernel
theorem dX5_areOut_31 : decode cX5_areOut 31 = .ok (.iload_n 2, 1) := by decide +kernel
theorem dX5_areOut_32 : decode cX5_areOut 32 = .ok (.invokevirtual 104, 3) := by decide +kernel
theorem dX5_areOut_35 : decode cX5_areOut 35 = .ok (.ifCond .ne 5, 3) := by decide +kernel
theorem dX5_areOut_38 : decode cX5_areOut 38 = .ok (.iconst 0, 1) := by decide +kernel
theorem dX5_areOut_39 : decode cX5_areOut 39 = .ok (.ireturn, 1) := by decide +kernel
theorem dX5_areOut_40 : decode cX5_areOut 40 = .ok (.iinc 2 1, 3) := by decide +kernel
theorem dX5_areOut_43 : decode cX5_areOut 43 = .ok (.goto (-41), 3) := by decide +kernel
theorem dX5_areOut_46 : decode cX5_areOut 46 = .ok (.iconst 1, 1) := by decide +kernel
theorem dX5_areOut_47 : decode cX5_areOut 47 = .ok (.ireturn, 1) := by decide +kernel
theorem dX5_unlookable_0 : decode cX5_unlookable 0 = .ok (.aload_n 0, 1) := by decide +kernel
theorem dX5_unlookable_1 : decode cX5_unlookable 1 = .ok (.iload_n 1, 1) := by decide +kernel
theorem dX5_unlookable_2 : decode cX5_unlookable 2 = .ok (.invokevirtual 82, 3) := by decide +kernel
theorem dX5_unlookable_5 : decode cX5_unlookable 5 = .ok (.ifCond .ne 5, 3) := by decide +kernel
theorem dX5_unlookable_8 : decode cX5_unlookable 8 = .ok (.iconst 0, 1) := by decide +kernel
theorem dX5_unlookable_9 : decode cX5_unlookable 9 = .ok (.ireturn, 1) := by decide +kernel
theorem dX5_unlookable_10 : decode cX5_unlookable 10 = .ok (.aload_n 0, 1) := by decide +kernel
theorem dX5_unlookable_11 : decode cX5_unlookable 11 = .ok (.getfield 10, 3) := by decide +kernel
theorem dX5_unlookable_14 : decode cX5_unlookable 14 = .ok (.getfield 73, 3) := by decide +kernel
theorem dX5_unlookable_17 : decode cX5_unlookable 17 = .ok (.getfield 117, 3) := by decide +kernel
theorem dX5_unlookable_20 : decode cX5_unlookable 20 = .ok (.iload_n 1, 1) := by decide +kernel
theorem dX5_unlookable_21 : decode cX5_unlookable 21 = .ok (.iaload, 1) := by decide +kernel
theorem dX5_unlookable_22 : decode cX5_unlookable 22 = .ok (.iconst 1, 1) := by decide +kernel
theorem dX5_unlookable_23 : decode cX5_unlookable 23 = .ok (.if_icmp .ne 12, 3) := by decide +kernel
theorem dX5_unlookable_26 : decode cX5_unlookable 26 = .ok (.aload_n 0, 1) := by decide +kernel
theorem dX5_unlookable_27 : decode cX5_unlookable 27 = .ok (.bipush 60, 2) := by decide +kernel
theorem dX5_unlookable_29 : decode cX5_unlookable 29 = .ok (.invokevirtual 142, 3) := by decide +kernel
theorem dX5_unlookable_32 : decode cX5_unlookable 32 = .ok (.ifCond .eq 7, 3) := by decide +kernel
theorem dX5_unlookable_35 : decode cX5_unlookable 35 = .ok (.iconst 4, 1) := by decide +kernel
theorem dX5_unlookable_36 : decode cX5_unlookable 36 = .ok (.goto 4, 3) := by decide +kernel
theorem dX5_unlookable_39 : decode cX5_unlookable 39 = .ok (.iconst (-1), 1) := by decide +kernel
theorem dX5_unlookable_40 : decode cX5_unlookable 40 = .ok (.ireturn, 1) := by decide +kernel
theorem dX5_unorderable_0 : decode cX5_unorderable 0 = .ok (.iload_n 2, 1) := by decide +kernel
theorem dX5_unorderable_1 : decode cX5_unorderable 1 = .ok (.invokestatic 139, 3) := by decide +kernel
theorem dX5_unorderable_4 : decode cX5_unorderable 4 = .ok (.ifCond .eq 19, 3) := by decide +kernel
theorem dX5_unorderable_7 : decode cX5_unorderable 7 = .ok (.aload_n 0, 1) := by decide +kernel
theorem dX5_unorderable_8 : decode cX5_unorderable 8 = .ok (.iload_n 1, 1) := by decide +kernel
theorem dX5_unorderable_9 : decode cX5_unorderable 9 = .ok (.invokevirtual 188, 3) := by decide +kernel
theorem dX5_unorderable_12 : decode cX5_unorderable 12 = .ok (.ifCond .eq 11, 3) := by decide +kernel
theorem dX5_unorderable_15 : decode cX5_unorderable 15 = .ok (.iload_n 1, 1) := by decide +kernel
theorem dX5_unorderable_16 : decode cX5_unorderable 16 = .ok (.invokestatic 206, 3) := by decide +kernel
theorem dX5_unorderable_19 : decode cX5_unorderable 19 = .ok (.iconst 5, 1) := by decide +kernel
theorem dX5_unorderable_20 : decode cX5_unorderable 20 = .ok (.if_icmp .le 5, 3) := by decide +kernel
theorem dX5_unorderable_23 : decode cX5_unorderable 23 = .ok (.iconst 0, 1) := by decide +kernel
theorem dX5_unorderable_24 : decode cX5_unorderable 24 = .ok (.ireturn, 1) := by decide +kernel
theorem dX5_unorderable_25 : decode cX5_unorderable 25 = .ok (.aload_n 0, 1) := by decide +kernel
theorem dX5_unorderable_26 : decode cX5_unorderable 26 = .ok (.iload_n 1, 1) := by decide +kernel
theorem dX5_unorderable_27 : decode cX5_unorderable 27 = .ok (.invokevirtual 191, 3) := by decide +kernel
theorem dX5_unorderable_30 : decode cX5_unorderable 30 = .ok (.ifCond .eq 11, 3) := by decide +kernel
theorem dX5_unorderable_33 : decode cX5_unorderable 33 = .ok (.aload_n 0, 1) := by decide +kernel
theorem dX5_unorderable_34 : decode cX5_unorderable 34 = .ok (.iload_n 2, 1) := by decide +kernel
theorem dX5_unorderable_35 : decode cX5_unorderable 35 = .ok (.invokevirtual 142, 3) := by decide +kernel
theorem dX5_unorderable_38 : decode cX5_unorderable 38 = .ok (.ifCond .eq 7, 3) := by decide +kernel
theorem dX5_unorderable_41 : decode cX5_unorderable 41 = .ok (.iconst 4, 1) := by decide +kernel
theorem dX5_unorderable_42 : decode cX5_unorderable 42 = .ok (.goto 4, 3) := by decide +kernel
theorem dX5_unorderable_45 : decode cX5_unorderable 45 = .ok (.iconst (-1), 1) := by decide +kernel
theorem dX5_unorderable_46 : decode cX5_unorderable 46 = .ok (.ireturn, 1) := by decide +kernel
theorem dX5_unplayable_0 : decode cX5_unplayable 0 = .ok (.iload_n 1, 1) := by decide +kernel
theorem dX5_unplayable_1 : decode cX5_unplayable 1 = .ok (.iconst 1, 1) := by decide +kernel
theorem dX5_unplayable_2 : decode cX5_unplayable 2 = .ok (.iconst 4, 1) := by decide +kernel
theorem dX5_unplayable_3 : decode cX5_unplayable 3 = .ok (.invokestatic 65, 3) := by decide +kernel
theorem dX5_unplayable_6 : decode cX5_unplayable 6 = .ok (.ifCond .eq 13, 3) := by decide +kernel
theorem dX5_unplayable_9 : decode cX5_unplayable 9 = .ok (.iload_n 2, 1) := by decide +kernel
theorem dX5_unplayable_10 : decode cX5_unplayable 10 = .ok (.iload_n 1, 1) := by decide +kernel
theorem dX5_unplayable_11 : decode cX5_unplayable 11 = .ok (.bipush 60, 2) := by decide +kernel
theorem dX5_unplayable_13 : decode cX5_unplayable 13 = .ok (.invokestatic 65, 3) := by decide +kernel
theorem dX5_unplayable_16 : decode cX5_unplayable 16 = .ok (.ifCond .ne 5, 3) := by decide +kernel
theorem dX5_unplayable_19 : decode cX5_unplayable 19 = .ok (.iconst 0, 1) := by decide +kernel
theorem dX5_unplayable_20 : decode cX5_unplayable 20 = .ok (.ireturn, 1) := by decide +kernel
theorem dX5_unplayable_21 : decode cX5_unplayable 21 = .ok (.aload_n 0, 1) := by decide +kernel
theorem dX5_unplayable_22 : decode cX5_unplayable 22 = .ok (.iload_n 2, 1) := by decide +kernel
theorem dX5_unplayable_23 : decode cX5_unplayable 23 = .ok (.invokevirtual 142, 3) := by decide +kernel
theorem dX5_unplayable_26 : decode cX5_unplayable 26 = .ok (.ifCond .eq 7, 3) := by decide +kernel
theorem dX5_unplayable_29 : decode cX5_unplayable 29 = .ok (.iconst 4, 1) := by decide +kernel
theorem dX5_unplayable_30 : decode cX5_unplayable 30 = .ok (.goto 4, 3) := by decide +kernel
theorem dX5_unplayable_33 : decode cX5_unplayable 33 = .ok (.iconst (-1), 1) := by decide +kernel
theorem dX5_unplayable_34 : decode cX5_unplayable 34 = .ok (.ireturn, 1) := by decide +kernel
theorem dX5_unfit_0 : decode cX5_unfit 0 = .ok (.iload_n 1, 1) := by decide +kernel
theorem dX5_unfit_1 : decode cX5_unfit 1 = .ok (.iconst 0, 1) := by decide +kernel
theorem dX5_unfit_2 : decode cX5_unfit 2 = .ok (.bipush 104, 2) := by decide +kernel
theorem dX5_unfit_4 : decode cX5_unfit 4 = .ok (.invokestatic 65, 3) := by decide +kernel
theorem dX5_unfit_7 : decode cX5_unfit 7 = .ok (.ifCond .eq 10, 3) := by decide +kernel
theorem dX5_unfit_10 : decode cX5_unfit 10 = .ok (.iload_n 2, 1) := by decide +kernel
theorem dX5_unfit_11 : decode cX5_unfit 11 = .ok (.invokestatic 139, 3) := by decide +kernel
theorem dX5_unfit_14 : decode cX5_unfit 14 = .ok (.ifCond .ne 5, 3) := by decide +kernel
theorem dX5_unfit_17 : decode cX5_unfit 17 = .ok (.iconst 0, 1) := by decide +kernel
theorem dX5_unfit_18 : decode cX5_unfit 18 = .ok (.ireturn, 1) := by decide +kernel
theorem dX5_unfit_19 : decode cX5_unfit 19 = .ok (.aload_n 0, 1) := by decide +kernel
theorem dX5_unfit_20 : decode cX5_unfit 20 = .ok (.iload_n 2, 1) := by decide +kernel
theorem dX5_unfit_21 : decode cX5_unfit 21 = .ok (.invokevirtual 142, 3) := by decide +kernel
theorem dX5_unfit_24 : decode cX5_unfit 24 = .ok (.ifCond .eq 7, 3) := by decide +kernel
theorem dX5_unfit_27 : decode cX5_unfit 27 = .ok (.iconst 4, 1) := by decide +kernel
theorem dX5_unfit_28 : decode cX5_unfit 28 = .ok (.goto 4, 3) := by decide +kernel
theorem dX5_unfit_31 : decode cX5_unfit 31 = .ok (.iconst (-1), 1) := by decide +kernel
theorem dX5_unfit_32 : decode cX5_unfit 32 = .ok (.ireturn, 1) := by decide +kernel
theorem dX5_daysUntilLaid_0 : decode cX5_daysUntilLaid 0 = .ok (.aload_n 0, 1) := by decide +kernel
theorem dX5_daysUntilLaid_1 : decode cX5_daysUntilLaid 1 = .ok (.getfield 43, 3) := by decide +kernel
theorem dX5_daysUntilLaid_4 : decode cX5_daysUntilLaid 4 = .ok (.aload_n 0, 1) := by decide +kernel
theorem dX5_daysUntilLaid_5 : decode cX5_daysUntilLaid 5 = .ok (.getfield 10, 3) := by decide +kernel
theorem dX5_daysUntilLaid_8 : decode cX5_daysUntilLaid 8 = .ok (.getfield 73, 3) := by decide +kernel
theorem dX5_daysUntilLaid_11 : decode cX5_daysUntilLaid 11 = .ok (.invokevirtual 160, 3) := by decide +kernel
theorem dX5_daysUntilLaid_14 : decode cX5_daysUntilLaid 14 = .ok (.iconst 1, 1) := by decide +kernel
theorem dX5_daysUntilLaid_15 : decode cX5_daysUntilLaid 15 = .ok (.istore_n 2, 1) := by decide +kernel
theorem dX5_daysUntilLaid_16 : decode cX5_daysUntilLaid 16 = .ok (.iload_n 2, 1) := by decide +kernel
theorem dX5_daysUntilLaid_17 : decode cX5_daysUntilLaid 17 = .ok (.bipush 60, 2) := by decide +kernel
theorem dX5_daysUntilLaid_19 : decode cX5_daysUntilLaid 19 = .ok (.if_icmp .gt 30, 3) := by decide +kernel
theorem dX5_daysUntilLaid_22 : decode cX5_daysUntilLaid 22 = .ok (.aload_n 0, 1) := by decide +kernel
theorem dX5_daysUntilLaid_23 : decode cX5_daysUntilLaid 23 = .ok (.getfield 43, 3) := by decide +kernel
theorem dX5_daysUntilLaid_26 : decode cX5_daysUntilLaid 26 = .ok (.invokevirtual 179, 3) := by decide +kernel
theorem dX5_daysUntilLaid_29 : decode cX5_daysUntilLaid 29 = .ok (.pop, 1) := by decide +kernel
theorem dX5_daysUntilLaid_30 : decode cX5_daysUntilLaid 30 = .ok (.aload_n 0, 1) := by decide +kernel
theorem dX5_daysUntilLaid_31 : decode cX5_daysUntilLaid 31 = .ok (.getfield 43, 3) := by decide +kernel
theorem dX5_daysUntilLaid_34 : decode cX5_daysUntilLaid 34 = .ok (.getfield 182, 3) := by decide +kernel
theorem dX5_daysUntilLaid_37 : decode cX5_daysUntilLaid 37 = .ok (.iload_n 1, 1) := by decide +kernel
theorem dX5_daysUntilLaid_38 : decode cX5_daysUntilLaid 38 = .ok (.if_icmp .ne 5, 3) := by decide +kernel
theorem dX5_daysUntilLaid_41 : decode cX5_daysUntilLaid 41 = .ok (.iload_n 2, 1) := by decide +kernel
theorem dX5_daysUntilLaid_42 : decode cX5_daysUntilLaid 42 = .ok (.ireturn, 1) := by decide +kernel
theorem dX5_daysUntilLaid_43 : decode cX5_daysUntilLaid 43 = .ok (.iinc 2 1, 3) := by decide +kernel
theorem dX5_daysUntilLaid_46 : decode cX5_daysUntilLaid 46 = .ok (.goto (-30), 3) := by decide +kernel
theorem dX5_daysUntilLaid_49 : decode cX5_daysUntilLaid 49 = .ok (.iconst 0, 1) := by decide +kernel
theorem dX5_daysUntilLaid_50 : decode cX5_daysUntilLaid 50 = .ok (.ireturn, 1) := by decide +kernel
theorem dX5_fillRow_0 : decode cX5_fillRow 0 = .ok (.iconst 0, 1) := by decide +kernel
theorem dX5_fillRow_1 : decode cX5_fillRow 1 = .ok (.istore_n 2, 1) := by decide +kernel
theorem dX5_fillRow_2 : decode cX5_fillRow 2 = .ok (.iconst 0, 1) := by decide +kernel
theorem dX5_fillRow_3 : decode cX5_fillRow 3 = .ok (.istore_n 3, 1) := by decide +kernel
theorem dX5_fillRow_4 : decode cX5_fillRow 4 = .ok (.iload_n 3, 1) := by decide +kernel
theorem dX5_fillRow_5 : decode cX5_fillRow 5 = .ok (.aload_n 0, 1) := by decide +kernel
theorem dX5_fillRow_6 : decode cX5_fillRow 6 = .ok (.getfield 10, 3) := by decide +kernel
theorem dX5_fillRow_9 : decode cX5_fillRow 9 = .ok (.getfield 73, 3) := by decide +kernel
theorem dX5_fillRow_12 : decode cX5_fillRow 12 = .ok (.getfield 76, 3) := by decide +kernel
theorem dX5_fillRow_15 : decode cX5_fillRow 15 = .ok (.if_icmp .ge 27, 3) := by decide +kernel
theorem dX5_fillRow_18 : decode cX5_fillRow 18 = .ok (.iload_n 1, 1) := by decide +kernel
theorem dX5_fillRow_19 : decode cX5_fillRow 19 = .ok (.iload_n 3, 1) := by decide +kernel
theorem dX5_fillRow_20 : decode cX5_fillRow 20 = .ok (.ishr, 1) := by decide +kernel
theorem dX5_fillRow_21 : decode cX5_fillRow 21 = .ok (.iconst 1, 1) := by decide +kernel
theorem dX5_fillRow_22 : decode cX5_fillRow 22 = .ok (.iand, 1) := by decide +kernel
theorem dX5_fillRow_23 : decode cX5_fillRow 23 = .ok (.ifCond .eq 13, 3) := by decide +kernel
theorem dX5_fillRow_26 : decode cX5_fillRow 26 = .ok (.aload_n 0, 1) := by decide +kernel
theorem dX5_fillRow_27 : decode cX5_fillRow 27 = .ok (.getfield 51, 3) := by decide +kernel
theorem dX5_fillRow_30 : decode cX5_fillRow 30 = .ok (.iload_n 2, 1) := by decide +kernel
theorem dX5_fillRow_31 : decode cX5_fillRow 31 = .ok (.iload_n 3, 1) := by decide +kernel
theorem dX5_fillRow_32 : decode cX5_fillRow 32 = .ok (.iastore, 1) := by decide +kernel
theorem dX5_fillRow_33 : decode cX5_fillRow 33 = .ok (.iinc 2 1, 3) := by decide +kernel
theorem dX5_fillRow_36 : decode cX5_fillRow 36 = .ok (.iinc 3 1, 3) := by decide +kernel
theorem dX5_fillRow_39 : decode cX5_fillRow 39 = .ok (.goto (-35), 3) := by decide +kernel
theorem dX5_fillRow_42 : decode cX5_fillRow 42 = .ok (.iload_n 2, 1) := by decide +kernel
theorem dX5_fillRow_43 : decode cX5_fillRow 43 = .ok (.ireturn, 1) := by decide +kernel
theorem dX5_passFeedingDay_0 : decode cX5_passFeedingDay 0 = .ok (.iload_n 2, 1) := by decide +kernel
theorem dX5_passFeedingDay_1 : decode cX5_passFeedingDay 1 = .ok (.iload_n 1, 1) := by decide +kernel
theorem dX5_passFeedingDay_2 : decode cX5_passFeedingDay 2 = .ok (.if_icmp .ge 32, 3) := by decide +kernel
theorem dX5_passFeedingDay_5 : decode cX5_passFeedingDay 5 = .ok (.aload_n 0, 1) := by decide +kernel
theorem dX5_passFeedingDay_6 : decode cX5_passFeedingDay 6 = .ok (.getfield 43, 3) := by decide +kernel
theorem dX5_passFeedingDay_9 : decode cX5_passFeedingDay 9 = .ok (.aload_n 0, 1) := by decide +kernel
theorem dX5_passFeedingDay_10 : decode cX5_passFeedingDay 10 = .ok (.getfield 51, 3) := by decide +kernel
theorem dX5_passFeedingDay_13 : decode cX5_passFeedingDay 13 = .ok (.iload_n 2, 1) := by decide +kernel
theorem dX5_passFeedingDay_14 : decode cX5_passFeedingDay 14 = .ok (.iaload, 1) := by decide +kernel
theorem dX5_passFeedingDay_15 : decode cX5_passFeedingDay 15 = .ok (.invokevirtual 107, 3) := by decide +kernel
theorem dX5_passFeedingDay_18 : decode cX5_passFeedingDay 18 = .ok (.ifCond .eq 16, 3) := by decide +kernel
theorem dX5_passFeedingDay_21 : decode cX5_passFeedingDay 21 = .ok (.aload_n 0, 1) := by decide +kernel
theorem dX5_passFeedingDay_22 : decode cX5_passFeedingDay 22 = .ok (.getfield 43, 3) := by decide +kernel
theorem dX5_passFeedingDay_25 : decode cX5_passFeedingDay 25 = .ok (.aload_n 0, 1) := by decide +kernel
theorem dX5_passFeedingDay_26 : decode cX5_passFeedingDay 26 = .ok (.getfield 51, 3) := by decide +kernel
theorem dX5_passFeedingDay_29 : decode cX5_passFeedingDay 29 = .ok (.iload_n 2, 1) := by decide +kernel
theorem dX5_passFeedingDay_30 : decode cX5_passFeedingDay 30 = .ok (.iaload, 1) := by decide +kernel
theorem dX5_passFeedingDay_31 : decode cX5_passFeedingDay 31 = .ok (.invokevirtual 110, 3) := by decide +kernel
theorem dX5_passFeedingDay_34 : decode cX5_passFeedingDay 34 = .ok (.aload_n 0, 1) := by decide +kernel
theorem dX5_passFeedingDay_35 : decode cX5_passFeedingDay 35 = .ok (.getfield 43, 3) := by decide +kernel
theorem dX5_passFeedingDay_38 : decode cX5_passFeedingDay 38 = .ok (.invokevirtual 179, 3) := by decide +kernel
theorem dX5_passFeedingDay_41 : decode cX5_passFeedingDay 41 = .ok (.ireturn, 1) := by decide +kernel
theorem dX5_bring_0 : decode cX5_bring 0 = .ok (.aload_n 0, 1) := by decide +kernel
theorem dX5_bring_1 : decode cX5_bring 1 = .ok (.getfield 43, 3) := by decide +kernel
theorem dX5_bring_4 : decode cX5_bring 4 = .ok (.aload_n 0, 1) := by decide +kernel
theorem dX5_bring_5 : decode cX5_bring 5 = .ok (.getfield 10, 3) := by decide +kernel
theorem dX5_bring_8 : decode cX5_bring 8 = .ok (.getfield 73, 3) := by decide +kernel
theorem dX5_bring_11 : decode cX5_bring 11 = .ok (.invokevirtual 160, 3) := by decide +kernel
theorem dX5_bring_14 : decode cX5_bring 14 = .ok (.iconst 0, 1) := by decide +kernel
theorem dX5_bring_15 : decode cX5_bring 15 = .ok (.istore_n 3, 1) := by decide +kernel
theorem dX5_bring_16 : decode cX5_bring 16 = .ok (.iconst 0, 1) := by decide +kernel
theorem dX5_bring_17 : decode cX5_bring 17 = .ok (.istore 4, 2) := by decide +kernel
theorem dX5_bring_19 : decode cX5_bring 19 = .ok (.iload 4, 2) := by decide +kernel
theorem dX5_bring_21 : decode cX5_bring 21 = .ok (.iload_n 2, 1) := by decide +kernel
theorem dX5_bring_22 : decode cX5_bring 22 = .ok (.if_icmp .ge 35, 3) := by decide +kernel
theorem dX5_bring_25 : decode cX5_bring 25 = .ok (.iload 4, 2) := by decide +kernel
theorem dX5_bring_27 : decode cX5_bring 27 = .ok (.iload_n 1, 1) := by decide +kernel
theorem dX5_bring_28 : decode cX5_bring 28 = .ok (.if_icmp .lt 13, 3) := by decide +kernel
theorem dX5_bring_31 : decode cX5_bring 31 = .ok (.aload_n 0, 1) := by decide +kernel
theorem dX5_bring_32 : decode cX5_bring 32 = .ok (.getfield 43, 3) := by decide +kernel
theorem dX5_bring_35 : decode cX5_bring 35 = .ok (.getfield 114, 3) := by decide +kernel
theorem dX5_bring_38 : decode cX5_bring 38 = .ok (.ifCond .le 19, 3) := by decide +kernel
theorem dX5_bring_41 : decode cX5_bring 41 = .ok (.iload_n 3, 1) := by decide +kernel
theorem dX5_bring_42 : decode cX5_bring 42 = .ok (.aload_n 0, 1) := by decide +kernel
theorem dX5_bring_43 : decode cX5_bring 43 = .ok (.iload_n 1, 1) := by decide +kernel
theorem dX5_bring_44 : decode cX5_bring 44 = .ok (.iload 4, 2) := by decide +kernel
theorem dX5_bring_46 : decode cX5_bring 46 = .ok (.invokevirtual 317, 3) := by decide +kernel
theorem dX5_bring_49 : decode cX5_bring 49 = .ok (.iadd, 1) := by decide +kernel
theorem dX5_bring_50 : decode cX5_bring 50 = .ok (.istore_n 3, 1) := by decide +kernel
theorem dX5_bring_51 : decode cX5_bring 51 = .ok (.iinc 4 1, 3) := by decide +kernel
theorem dX5_bring_54 : decode cX5_bring 54 = .ok (.goto (-35), 3) := by decide +kernel
theorem dX5_bring_57 : decode cX5_bring 57 = .ok (.iload_n 3, 1) := by decide +kernel
theorem dX5_bring_58 : decode cX5_bring 58 = .ok (.ireturn, 1) := by decide +kernel
theorem dX5_findBestRow_0 : decode cX5_findBestRow 0 = .ok (.aload_n 0, 1) := by decide +kernel
theorem dX5_findBestRow_1 : decode cX5_findBestRow 1 = .ok (.iload_n 1, 1) := by decide +kernel
theorem dX5_findBestRow_2 : decode cX5_findBestRow 2 = .ok (.invokevirtual 194, 3) := by decide +kernel
theorem dX5_findBestRow_5 : decode cX5_findBestRow 5 = .ok (.iconst 5, 1) := by decide +kernel
theorem dX5_findBestRow_6 : decode cX5_findBestRow 6 = .ok (.invokestatic 245, 3) := by decide +kernel
theorem dX5_findBestRow_9 : decode cX5_findBestRow 9 = .ok (.istore_n 3, 1) := by decide +kernel
theorem dX5_findBestRow_10 : decode cX5_findBestRow 10 = .ok (.iconst (-1), 1) := by decide +kernel
theorem dX5_findBestRow_11 : decode cX5_findBestRow 11 = .ok (.istore 4, 2) := by decide +kernel
theorem dX5_findBestRow_13 : decode cX5_findBestRow 13 = .ok (.iconst 1, 1) := by decide +kernel
theorem dX5_findBestRow_14 : decode cX5_findBestRow 14 = .ok (.istore 5, 2) := by decide +kernel
theorem dX5_findBestRow_16 : decode cX5_findBestRow 16 = .ok (.iconst 0, 1) := by decide +kernel
theorem dX5_findBestRow_17 : decode cX5_findBestRow 17 = .ok (.istore 6, 2) := by decide +kernel
theorem dX5_findBestRow_19 : decode cX5_findBestRow 19 = .ok (.iload 5, 2) := by decide +kernel
theorem dX5_findBestRow_21 : decode cX5_findBestRow 21 = .ok (.ifCond .eq 56, 3) := by decide +kernel
theorem dX5_findBestRow_24 : decode cX5_findBestRow 24 = .ok (.iload 6, 2) := by decide +kernel
theorem dX5_findBestRow_26 : decode cX5_findBestRow 26 = .ok (.bipush 120, 2) := by decide +kernel
theorem dX5_findBestRow_28 : decode cX5_findBestRow 28 = .ok (.if_icmp .ge 49, 3) := by decide +kernel
theorem dX5_findBestRow_31 : decode cX5_findBestRow 31 = .ok (.aload_n 0, 1) := by decide +kernel
theorem dX5_findBestRow_32 : decode cX5_findBestRow 32 = .ok (.iload_n 3, 1) := by decide +kernel
theorem dX5_findBestRow_33 : decode cX5_findBestRow 33 = .ok (.iload_n 2, 1) := by decide +kernel
theorem dX5_findBestRow_34 : decode cX5_findBestRow 34 = .ok (.invokevirtual 197, 3) := by decide +kernel
theorem dX5_findBestRow_37 : decode cX5_findBestRow 37 = .ok (.istore 7, 2) := by decide +kernel
theorem dX5_findBestRow_39 : decode cX5_findBestRow 39 = .ok (.iload 7, 2) := by decide +kernel
theorem dX5_findBestRow_41 : decode cX5_findBestRow 41 = .ok (.iload 4, 2) := by decide +kernel
theorem dX5_findBestRow_43 : decode cX5_findBestRow 43 = .ok (.if_icmp .le 21, 3) := by decide +kernel
theorem dX5_findBestRow_46 : decode cX5_findBestRow 46 = .ok (.iload 7, 2) := by decide +kernel
theorem dX5_findBestRow_48 : decode cX5_findBestRow 48 = .ok (.istore 4, 2) := by decide +kernel
theorem dX5_findBestRow_50 : decode cX5_findBestRow 50 = .ok (.aload_n 0, 1) := by decide +kernel
theorem dX5_findBestRow_51 : decode cX5_findBestRow 51 = .ok (.getfield 51, 3) := by decide +kernel
theorem dX5_findBestRow_54 : decode cX5_findBestRow 54 = .ok (.iconst 0, 1) := by decide +kernel
theorem dX5_findBestRow_55 : decode cX5_findBestRow 55 = .ok (.aload_n 0, 1) := by decide +kernel
theorem dX5_findBestRow_56 : decode cX5_findBestRow 56 = .ok (.getfield 54, 3) := by decide +kernel
theorem dX5_findBestRow_59 : decode cX5_findBestRow 59 = .ok (.iconst 0, 1) := by decide +kernel
theorem dX5_findBestRow_60 : decode cX5_findBestRow 60 = .ok (.iload_n 3, 1) := by decide +kernel
theorem dX5_findBestRow_61 : decode cX5_findBestRow 61 = .ok (.invokestatic 301, 3) := by decide +kernel
theorem dX5_findBestRow_64 : decode cX5_findBestRow 64 = .ok (.aload_n 0, 1) := by decide +kernel
theorem dX5_findBestRow_65 : decode cX5_findBestRow 65 = .ok (.iload_n 3, 1) := by decide +kernel
theorem dX5_findBestRow_66 : decode cX5_findBestRow 66 = .ok (.invokevirtual 320, 3) := by decide +kernel
theorem dX5_findBestRow_69 : decode cX5_findBestRow 69 = .ok (.istore 5, 2) := by decide +kernel
theorem dX5_findBestRow_71 : decode cX5_findBestRow 71 = .ok (.iinc 6 1, 3) := by decide +kernel
theorem dX5_findBestRow_74 : decode cX5_findBestRow 74 = .ok (.goto (-55), 3) := by decide +kernel
theorem dX5_findBestRow_77 : decode cX5_findBestRow 77 = .ok (.iload 4, 2) := by decide +kernel
theorem dX5_findBestRow_79 : decode cX5_findBestRow 79 = .ok (.ireturn, 1) := by decide +kernel
theorem dX5_turnRow_0 : decode cX5_turnRow 0 = .ok (.iload_n 1, 1) := by decide +kernel
theorem dX5_turnRow_1 : decode cX5_turnRow 1 = .ok (.iconst 2, 1) := by decide +kernel
theorem dX5_turnRow_2 : decode cX5_turnRow 2 = .ok (.isub, 1) := by decide +kernel
theorem dX5_turnRow_3 : decode cX5_turnRow 3 = .ok (.istore_n 2, 1) := by decide +kernel
theorem dX5_turnRow_4 : decode cX5_turnRow 4 = .ok (.iload_n 2, 1) := by decide +kernel
theorem dX5_turnRow_5 : decode cX5_turnRow 5 = .ok (.ifCond .lt 26, 3) := by decide +kernel
theorem dX5_turnRow_8 : decode cX5_turnRow 8 = .ok (.aload_n 0, 1) := by decide +kernel
theorem dX5_turnRow_9 : decode cX5_turnRow 9 = .ok (.getfield 51, 3) := by decide +kernel
theorem dX5_turnRow_12 : decode cX5_turnRow 12 = .ok (.iload_n 2, 1) := by decide +kernel
theorem dX5_turnRow_13 : decode cX5_turnRow 13 = .ok (.iaload, 1) := by decide +kernel
theorem dX5_turnRow_14 : decode cX5_turnRow 14 = .ok (.aload_n 0, 1) := by decide +kernel
theorem dX5_turnRow_15 : decode cX5_turnRow 15 = .ok (.getfield 51, 3) := by decide +kernel
theorem dX5_turnRow_18 : decode cX5_turnRow 18 = .ok (.iload_n 2, 1) := by decide +kernel
theorem dX5_turnRow_19 : decode cX5_turnRow 19 = .ok (.iconst 1, 1) := by decide +kernel
theorem dX5_turnRow_20 : decode cX5_turnRow 20 = .ok (.iadd, 1) := by decide +kernel
theorem dX5_turnRow_21 : decode cX5_turnRow 21 = .ok (.iaload, 1) := by decide +kernel
theorem dX5_turnRow_22 : decode cX5_turnRow 22 = .ok (.if_icmp .le 9, 3) := by decide +kernel
theorem dX5_turnRow_25 : decode cX5_turnRow 25 = .ok (.iinc 2 (-1), 3) := by decide +kernel
theorem dX5_turnRow_28 : decode cX5_turnRow 28 = .ok (.goto (-24), 3) := by decide +kernel
theorem dX5_turnRow_31 : decode cX5_turnRow 31 = .ok (.iload_n 2, 1) := by decide +kernel
theorem dX5_turnRow_32 : decode cX5_turnRow 32 = .ok (.ifCond .ge 5, 3) := by decide +kernel
theorem dX5_turnRow_35 : decode cX5_turnRow 35 = .ok (.iconst 0, 1) := by decide +kernel
theorem dX5_turnRow_36 : decode cX5_turnRow 36 = .ok (.ireturn, 1) := by decide +kernel
theorem dX5_turnRow_37 : decode cX5_turnRow 37 = .ok (.iload_n 1, 1) := by decide +kernel
theorem dX5_turnRow_38 : decode cX5_turnRow 38 = .ok (.iconst 1, 1) := by decide +kernel
theorem dX5_turnRow_39 : decode cX5_turnRow 39 = .ok (.isub, 1) := by decide +kernel
theorem dX5_turnRow_40 : decode cX5_turnRow 40 = .ok (.istore_n 3, 1) := by decide +kernel
theorem dX5_turnRow_41 : decode cX5_turnRow 41 = .ok (.iload_n 3, 1) := by decide +kernel
theorem dX5_turnRow_42 : decode cX5_turnRow 42 = .ok (.iload_n 2, 1) := by decide +kernel
theorem dX5_turnRow_43 : decode cX5_turnRow 43 = .ok (.if_icmp .le 24, 3) := by decide +kernel
theorem dX5_turnRow_46 : decode cX5_turnRow 46 = .ok (.aload_n 0, 1) := by decide +kernel
theorem dX5_turnRow_47 : decode cX5_turnRow 47 = .ok (.getfield 51, 3) := by decide +kernel
theorem dX5_turnRow_50 : decode cX5_turnRow 50 = .ok (.iload_n 3, 1) := by decide +kernel
theorem dX5_turnRow_51 : decode cX5_turnRow 51 = .ok (.iaload, 1) := by decide +kernel
theorem dX5_turnRow_52 : decode cX5_turnRow 52 = .ok (.aload_n 0, 1) := by decide +kernel
theorem dX5_turnRow_53 : decode cX5_turnRow 53 = .ok (.getfield 51, 3) := by decide +kernel
theorem dX5_turnRow_56 : decode cX5_turnRow 56 = .ok (.iload_n 2, 1) := by decide +kernel
theorem dX5_turnRow_57 : decode cX5_turnRow 57 = .ok (.iaload, 1) := by decide +kernel
theorem dX5_turnRow_58 : decode cX5_turnRow 58 = .ok (.if_icmp .ge 9, 3) := by decide +kernel
theorem dX5_turnRow_61 : decode cX5_turnRow 61 = .ok (.iinc 3 (-1), 3) := by decide +kernel
theorem dX5_turnRow_64 : decode cX5_turnRow 64 = .ok (.goto (-23), 3) := by decide +kernel
theorem dX5_turnRow_67 : decode cX5_turnRow 67 = .ok (.aload_n 0, 1) := by decide +kernel
theorem dX5_turnRow_68 : decode cX5_turnRow 68 = .ok (.iload_n 2, 1) := by decide +kernel
theorem dX5_turnRow_69 : decode cX5_turnRow 69 = .ok (.iload_n 3, 1) := by decide +kernel
theorem dX5_turnRow_70 : decode cX5_turnRow 70 = .ok (.invokevirtual 323, 3) := by decide +kernel
theorem dX5_turnRow_73 : decode cX5_turnRow 73 = .ok (.iload_n 2, 1) := by decide +kernel
theorem dX5_turnRow_74 : decode cX5_turnRow 74 = .ok (.iconst 1, 1) := by decide +kernel
theorem dX5_turnRow_75 : decode cX5_turnRow 75 = .ok (.iadd, 1) := by decide +kernel
theorem dX5_turnRow_76 : decode cX5_turnRow 76 = .ok (.istore 4, 2) := by decide +kernel
theorem dX5_turnRow_78 : decode cX5_turnRow 78 = .ok (.iload_n 1, 1) := by decide +kernel
theorem dX5_turnRow_79 : decode cX5_turnRow 79 = .ok (.iconst 1, 1) := by decide +kernel
theorem dX5_turnRow_80 : decode cX5_turnRow 80 = .ok (.isub, 1) := by decide +kernel
theorem dX5_turnRow_81 : decode cX5_turnRow 81 = .ok (.istore 5, 2) := by decide +kernel
theorem dX5_turnRow_83 : decode cX5_turnRow 83 = .ok (.iload 4, 2) := by decide +kernel
theorem dX5_turnRow_85 : decode cX5_turnRow 85 = .ok (.iload 5, 2) := by decide +kernel
theorem dX5_turnRow_87 : decode cX5_turnRow 87 = .ok (.if_icmp .ge 20, 3) := by decide +kernel
theorem dX5_turnRow_90 : decode cX5_turnRow 90 = .ok (.aload_n 0, 1) := by decide +kernel
theorem dX5_turnRow_91 : decode cX5_turnRow 91 = .ok (.iload 4, 2) := by decide +kernel
theorem dX5_turnRow_93 : decode cX5_turnRow 93 = .ok (.iload 5, 2) := by decide +kernel
theorem dX5_turnRow_95 : decode cX5_turnRow 95 = .ok (.invokevirtual 323, 3) := by decide +kernel
theorem dX5_turnRow_98 : decode cX5_turnRow 98 = .ok (.iinc 4 1, 3) := by decide +kernel
theorem dX5_turnRow_101 : decode cX5_turnRow 101 = .ok (.iinc 5 (-1), 3) := by decide +kernel
theorem dX5_turnRow_104 : decode cX5_turnRow 104 = .ok (.goto (-21), 3) := by decide +kernel
theorem dX5_turnRow_107 : decode cX5_turnRow 107 = .ok (.iconst 1, 1) := by decide +kernel
theorem dX5_turnRow_108 : decode cX5_turnRow 108 = .ok (.ireturn, 1) := by decide +kernel
theorem dX5_swapInRow_0 : decode cX5_swapInRow 0 = .ok (.aload_n 0, 1) := by decide +kernel
theorem dX5_swapInRow_1 : decode cX5_swapInRow 1 = .ok (.getfield 51, 3) := by decide +kernel
theorem dX5_swapInRow_4 : decode cX5_swapInRow 4 = .ok (.iload_n 1, 1) := by decide +kernel
theorem dX5_swapInRow_5 : decode cX5_swapInRow 5 = .ok (.iaload, 1) := by decide +kernel
theorem dX5_swapInRow_6 : decode cX5_swapInRow 6 = .ok (.istore_n 3, 1) := by decide +kernel
theorem dX5_swapInRow_7 : decode cX5_swapInRow 7 = .ok (.aload_n 0, 1) := by decide +kernel
theorem dX5_swapInRow_8 : decode cX5_swapInRow 8 = .ok (.getfield 51, 3) := by decide +kernel
theorem dX5_swapInRow_11 : decode cX5_swapInRow 11 = .ok (.iload_n 1, 1) := by decide +kernel
theorem dX5_swapInRow_12 : decode cX5_swapInRow 12 = .ok (.aload_n 0, 1) := by decide +kernel
theorem dX5_swapInRow_13 : decode cX5_swapInRow 13 = .ok (.getfield 51, 3) := by decide +kernel
theorem dX5_swapInRow_16 : decode cX5_swapInRow 16 = .ok (.iload_n 2, 1) := by decide +kernel
theorem dX5_swapInRow_17 : decode cX5_swapInRow 17 = .ok (.iaload, 1) := by decide +kernel
theorem dX5_swapInRow_18 : decode cX5_swapInRow 18 = .ok (.iastore, 1) := by decide +kernel
theorem dX5_swapInRow_19 : decode cX5_swapInRow 19 = .ok (.aload_n 0, 1) := by decide +kernel
theorem dX5_swapInRow_20 : decode cX5_swapInRow 20 = .ok (.getfield 51, 3) := by decide +kernel
theorem dX5_swapInRow_23 : decode cX5_swapInRow 23 = .ok (.iload_n 2, 1) := by decide +kernel
theorem dX5_swapInRow_24 : decode cX5_swapInRow 24 = .ok (.iload_n 3, 1) := by decide +kernel
theorem dX5_swapInRow_25 : decode cX5_swapInRow 25 = .ok (.iastore, 1) := by decide +kernel
theorem dX5_swapInRow_26 : decode cX5_swapInRow 26 = .ok (.return_, 1) := by decide +kernel
theorem dX5_worstPair_0 : decode cX5_worstPair 0 = .ok (.aload_n 0, 1) := by decide +kernel
theorem dX5_worstPair_1 : decode cX5_worstPair 1 = .ok (.getfield 10, 3) := by decide +kernel
theorem dX5_worstPair_4 : decode cX5_worstPair 4 = .ok (.getfield 73, 3) := by decide +kernel
theorem dX5_worstPair_7 : decode cX5_worstPair 7 = .ok (.astore_n 2, 1) := by decide +kernel
theorem dX5_worstPair_8 : decode cX5_worstPair 8 = .ok (.iconst 0, 1) := by decide +kernel
theorem dX5_worstPair_9 : decode cX5_worstPair 9 = .ok (.istore_n 3, 1) := by decide +kernel
theorem dX5_worstPair_10 : decode cX5_worstPair 10 = .ok (.iload_n 3, 1) := by decide +kernel
theorem dX5_worstPair_11 : decode cX5_worstPair 11 = .ok (.aload_n 2, 1) := by decide +kernel
theorem dX5_worstPair_12 : decode cX5_worstPair 12 = .ok (.getfield 76, 3) := by decide +kernel
theorem dX5_worstPair_15 : decode cX5_worstPair 15 = .ok (.if_icmp .ge 40, 3) := by decide +kernel
theorem dX5_worstPair_18 : decode cX5_worstPair 18 = .ok (.aload_n 0, 1) := by decide +kernel
theorem dX5_worstPair_19 : decode cX5_worstPair 19 = .ok (.getfield 51, 3) := by decide +kernel
theorem dX5_worstPair_22 : decode cX5_worstPair 22 = .ok (.iconst 0, 1) := by decide +kernel
theorem dX5_worstPair_23 : decode cX5_worstPair 23 = .ok (.iload_n 3, 1) := by decide +kernel
theorem dX5_worstPair_24 : decode cX5_worstPair 24 = .ok (.iastore, 1) := by decide +kernel
theorem dX5_worstPair_25 : decode cX5_worstPair 25 = .ok (.aload_n 0, 1) := by decide +kernel
theorem dX5_worstPair_26 : decode cX5_worstPair 26 = .ok (.getfield 57, 3) := by decide +kernel
theorem dX5_worstPair_29 : decode cX5_worstPair 29 = .ok (.iload_n 3, 1) := by decide +kernel
theorem dX5_worstPair_30 : decode cX5_worstPair 30 = .ok (.aload_n 2, 1) := by decide +kernel
theorem dX5_worstPair_31 : decode cX5_worstPair 31 = .ok (.iload_n 3, 1) := by decide +kernel
theorem dX5_worstPair_32 : decode cX5_worstPair 32 = .ok (.invokevirtual 104, 3) := by decide +kernel
theorem dX5_worstPair_35 : decode cX5_worstPair 35 = .ok (.ifCond .eq 12, 3) := by decide +kernel
theorem dX5_worstPair_38 : decode cX5_worstPair 38 = .ok (.aload_n 0, 1) := by decide +kernel
theorem dX5_worstPair_39 : decode cX5_worstPair 39 = .ok (.iconst 1, 1) := by decide +kernel
theorem dX5_worstPair_40 : decode cX5_worstPair 40 = .ok (.iload_n 1, 1) := by decide +kernel
theorem dX5_worstPair_41 : decode cX5_worstPair 41 = .ok (.invokevirtual 197, 3) := by decide +kernel
theorem dX5_worstPair_44 : decode cX5_worstPair 44 = .ok (.goto 4, 3) := by decide +kernel
theorem dX5_worstPair_47 : decode cX5_worstPair 47 = .ok (.iconst 0, 1) := by decide +kernel
theorem dX5_worstPair_48 : decode cX5_worstPair 48 = .ok (.iastore, 1) := by decide +kernel
theorem dX5_worstPair_49 : decode cX5_worstPair 49 = .ok (.iinc 3 1, 3) := by decide +kernel
theorem dX5_worstPair_52 : decode cX5_worstPair 52 = .ok (.goto (-42), 3) := by decide +kernel
theorem dX5_worstPair_55 : decode cX5_worstPair 55 = .ok (.iconst (-1), 1) := by decide +kernel
theorem dX5_worstPair_56 : decode cX5_worstPair 56 = .ok (.istore_n 3, 1) := by decide +kernel
theorem dX5_worstPair_57 : decode cX5_worstPair 57 = .ok (.iconst 0, 1) := by decide +kernel
theorem dX5_worstPair_58 : decode cX5_worstPair 58 = .ok (.istore 4, 2) := by decide +kernel
theorem dX5_worstPair_60 : decode cX5_worstPair 60 = .ok (.iconst 0, 1) := by decide +kernel
theorem dX5_worstPair_61 : decode cX5_worstPair 61 = .ok (.istore 5, 2) := by decide +kernel
theorem dX5_worstPair_63 : decode cX5_worstPair 63 = .ok (.iload 5, 2) := by decide +kernel
theorem dX5_worstPair_65 : decode cX5_worstPair 65 = .ok (.aload_n 2, 1) := by decide +kernel
theorem dX5_worstPair_66 : decode cX5_worstPair 66 = .ok (.getfield 76, 3) := by decide +kernel
theorem dX5_worstPair_69 : decode cX5_worstPair 69 = .ok (.if_icmp .ge 112, 3) := by decide +kernel
theorem dX5_worstPair_72 : decode cX5_worstPair 72 = .ok (.iload 5, 2) := by decide +kernel
theorem dX5_worstPair_74 : decode cX5_worstPair 74 = .ok (.iconst 1, 1) := by decide +kernel
theorem dX5_worstPair_75 : decode cX5_worstPair 75 = .ok (.iadd, 1) := by decide +kernel
theorem dX5_worstPair_76 : decode cX5_worstPair 76 = .ok (.istore 6, 2) := by decide +kernel
theorem dX5_worstPair_78 : decode cX5_worstPair 78 = .ok (.iload 6, 2) := by decide +kernel
theorem dX5_worstPair_80 : decode cX5_worstPair 80 = .ok (.aload_n 2, 1) := by decide +kernel
theorem dX5_worstPair_81 : decode cX5_worstPair 81 = .ok (.getfield 76, 3) := by decide +kernel
theorem dX5_worstPair_84 : decode cX5_worstPair 84 = .ok (.if_icmp .ge 91, 3) := by decide +kernel
theorem dX5_worstPair_87 : decode cX5_worstPair 87 = .ok (.aload_n 2, 1) := by decide +kernel
theorem dX5_worstPair_88 : decode cX5_worstPair 88 = .ok (.iload 5, 2) := by decide +kernel
theorem dX5_worstPair_90 : decode cX5_worstPair 90 = .ok (.invokevirtual 104, 3) := by decide +kernel
theorem dX5_worstPair_93 : decode cX5_worstPair 93 = .ok (.ifCond .eq 76, 3) := by decide +kernel
theorem dX5_worstPair_96 : decode cX5_worstPair 96 = .ok (.aload_n 2, 1) := by decide +kernel
theorem dX5_worstPair_97 : decode cX5_worstPair 97 = .ok (.iload 6, 2) := by decide +kernel
theorem dX5_worstPair_99 : decode cX5_worstPair 99 = .ok (.invokevirtual 104, 3) := by decide +kernel
theorem dX5_worstPair_102 : decode cX5_worstPair 102 = .ok (.ifCond .eq 67, 3) := by decide +kernel
theorem dX5_worstPair_105 : decode cX5_worstPair 105 = .ok (.aload_n 0, 1) := by decide +kernel
theorem dX5_worstPair_106 : decode cX5_worstPair 106 = .ok (.getfield 51, 3) := by decide +kernel
theorem dX5_worstPair_109 : decode cX5_worstPair 109 = .ok (.iconst 0, 1) := by decide +kernel
theorem dX5_worstPair_110 : decode cX5_worstPair 110 = .ok (.iload 5, 2) := by decide +kernel
theorem dX5_worstPair_112 : decode cX5_worstPair 112 = .ok (.iastore, 1) := by decide +kernel
theorem dX5_worstPair_113 : decode cX5_worstPair 113 = .ok (.aload_n 0, 1) := by decide +kernel
theorem dX5_worstPair_114 : decode cX5_worstPair 114 = .ok (.getfield 51, 3) := by decide +kernel
theorem dX5_worstPair_117 : decode cX5_worstPair 117 = .ok (.iconst 1, 1) := by decide +kernel
theorem dX5_worstPair_118 : decode cX5_worstPair 118 = .ok (.iload 6, 2) := by decide +kernel
theorem dX5_worstPair_120 : decode cX5_worstPair 120 = .ok (.iastore, 1) := by decide +kernel
theorem dX5_worstPair_121 : decode cX5_worstPair 121 = .ok (.aload_n 0, 1) := by decide +kernel
theorem dX5_worstPair_122 : decode cX5_worstPair 122 = .ok (.getfield 57, 3) := by decide +kernel
theorem dX5_worstPair_125 : decode cX5_worstPair 125 = .ok (.iload 5, 2) := by decide +kernel
theorem dX5_worstPair_127 : decode cX5_worstPair 127 = .ok (.iaload, 1) := by decide +kernel
theorem dX5_worstPair_128 : decode cX5_worstPair 128 = .ok (.aload_n 0, 1) := by decide +kernel
theorem dX5_worstPair_129 : decode cX5_worstPair 129 = .ok (.getfield 57, 3) := by decide +kernel
theorem dX5_worstPair_132 : decode cX5_worstPair 132 = .ok (.iload 6, 2) := by decide +kernel
theorem dX5_worstPair_134 : decode cX5_worstPair 134 = .ok (.iaload, 1) := by decide +kernel
theorem dX5_worstPair_135 : decode cX5_worstPair 135 = .ok (.iadd, 1) := by decide +kernel
theorem dX5_worstPair_136 : decode cX5_worstPair 136 = .ok (.aload_n 0, 1) := by decide +kernel
theorem dX5_worstPair_137 : decode cX5_worstPair 137 = .ok (.iconst 2, 1) := by decide +kernel
theorem dX5_worstPair_138 : decode cX5_worstPair 138 = .ok (.iload_n 1, 1) := by decide +kernel
theorem dX5_worstPair_139 : decode cX5_worstPair 139 = .ok (.invokevirtual 197, 3) := by decide +kernel
theorem dX5_worstPair_142 : decode cX5_worstPair 142 = .ok (.isub, 1) := by decide +kernel
theorem dX5_worstPair_143 : decode cX5_worstPair 143 = .ok (.istore 7, 2) := by decide +kernel
theorem dX5_worstPair_145 : decode cX5_worstPair 145 = .ok (.iload_n 3, 1) := by decide +kernel
theorem dX5_worstPair_146 : decode cX5_worstPair 146 = .ok (.ifCond .lt 10, 3) := by decide +kernel
theorem dX5_worstPair_149 : decode cX5_worstPair 149 = .ok (.iload 7, 2) := by decide +kernel
theorem dX5_worstPair_151 : decode cX5_worstPair 151 = .ok (.iload 4, 2) := by decide +kernel
theorem dX5_worstPair_153 : decode cX5_worstPair 153 = .ok (.if_icmp .le 16, 3) := by decide +kernel
theorem dX5_worstPair_156 : decode cX5_worstPair 156 = .ok (.iload 7, 2) := by decide +kernel
theorem dX5_worstPair_158 : decode cX5_worstPair 158 = .ok (.istore 4, 2) := by decide +kernel
theorem dX5_worstPair_160 : decode cX5_worstPair 160 = .ok (.bipush 10, 2) := by decide +kernel
theorem dX5_worstPair_162 : decode cX5_worstPair 162 = .ok (.iload 5, 2) := by decide +kernel
theorem dX5_worstPair_164 : decode cX5_worstPair 164 = .ok (.imul, 1) := by decide +kernel
theorem dX5_worstPair_165 : decode cX5_worstPair 165 = .ok (.iload 6, 2) := by decide +kernel
theorem dX5_worstPair_167 : decode cX5_worstPair 167 = .ok (.iadd, 1) := by decide +kernel
theorem dX5_worstPair_168 : decode cX5_worstPair 168 = .ok (.istore_n 3, 1) := by decide +kernel
theorem dX5_worstPair_169 : decode cX5_worstPair 169 = .ok (.iinc 6 1, 3) := by decide +kernel
theorem dX5_worstPair_172 : decode cX5_worstPair 172 = .ok (.goto (-94), 3) := by decide +kernel
theorem dX5_worstPair_175 : decode cX5_worstPair 175 = .ok (.iinc 5 1, 3) := by decide +kernel
theorem dX5_worstPair_178 : decode cX5_worstPair 178 = .ok (.goto (-115), 3) := by decide +kernel
theorem dX5_worstPair_181 : decode cX5_worstPair 181 = .ok (.iload_n 3, 1) := by decide +kernel
theorem dX5_worstPair_182 : decode cX5_worstPair 182 = .ok (.ireturn, 1) := by decide +kernel
theorem dX5_worthAs_0 : decode cX5_worthAs 0 = .ok (.aload_n 0, 1) := by decide +kernel
theorem dX5_worthAs_1 : decode cX5_worthAs 1 = .ok (.getfield 43, 3) := by decide +kernel
theorem dX5_worthAs_4 : decode cX5_worthAs 4 = .ok (.aload_n 0, 1) := by decide +kernel
theorem dX5_worthAs_5 : decode cX5_worthAs 5 = .ok (.getfield 10, 3) := by decide +kernel
theorem dX5_worthAs_8 : decode cX5_worthAs 8 = .ok (.getfield 73, 3) := by decide +kernel
theorem dX5_worthAs_11 : decode cX5_worthAs 11 = .ok (.invokevirtual 160, 3) := by decide +kernel
theorem dX5_worthAs_14 : decode cX5_worthAs 14 = .ok (.aload_n 0, 1) := by decide +kernel
theorem dX5_worthAs_15 : decode cX5_worthAs 15 = .ok (.getfield 43, 3) := by decide +kernel
theorem dX5_worthAs_18 : decode cX5_worthAs 18 = .ok (.getfield 269, 3) := by decide +kernel
theorem dX5_worthAs_21 : decode cX5_worthAs 21 = .ok (.iload_n 1, 1) := by decide +kernel
theorem dX5_worthAs_22 : decode cX5_worthAs 22 = .ok (.iload_n 2, 1) := by decide +kernel
theorem dX5_worthAs_23 : decode cX5_worthAs 23 = .ok (.iastore, 1) := by decide +kernel
theorem dX5_worthAs_24 : decode cX5_worthAs 24 = .ok (.aload_n 0, 1) := by decide +kernel
theorem dX5_worthAs_25 : decode cX5_worthAs 25 = .ok (.getfield 43, 3) := by decide +kernel
theorem dX5_worthAs_28 : decode cX5_worthAs 28 = .ok (.iload_n 1, 1) := by decide +kernel
theorem dX5_worthAs_29 : decode cX5_worthAs 29 = .ok (.invokevirtual 110, 3) := by decide +kernel
theorem dX5_worthAs_32 : decode cX5_worthAs 32 = .ok (.iconst 0, 1) := by decide +kernel
theorem dX5_worthAs_33 : decode cX5_worthAs 33 = .ok (.istore 4, 2) := by decide +kernel
theorem dX5_worthAs_35 : decode cX5_worthAs 35 = .ok (.iload 4, 2) := by decide +kernel
theorem dX5_worthAs_37 : decode cX5_worthAs 37 = .ok (.iload_n 3, 1) := by decide +kernel
theorem dX5_worthAs_38 : decode cX5_worthAs 38 = .ok (.if_icmp .ge 36, 3) := by decide +kernel
theorem dX5_worthAs_41 : decode cX5_worthAs 41 = .ok (.aload_n 0, 1) := by decide +kernel
theorem dX5_worthAs_42 : decode cX5_worthAs 42 = .ok (.getfield 43, 3) := by decide +kernel
theorem dX5_worthAs_45 : decode cX5_worthAs 45 = .ok (.invokevirtual 179, 3) := by decide +kernel
theorem dX5_worthAs_48 : decode cX5_worthAs 48 = .ok (.pop, 1) := by decide +kernel
theorem dX5_worthAs_49 : decode cX5_worthAs 49 = .ok (.aload_n 0, 1) := by decide +kernel
theorem dX5_worthAs_50 : decode cX5_worthAs 50 = .ok (.getfield 43, 3) := by decide +kernel
theorem dX5_worthAs_53 : decode cX5_worthAs 53 = .ok (.getfield 182, 3) := by decide +kernel
theorem dX5_worthAs_56 : decode cX5_worthAs 56 = .ok (.iload_n 1, 1) := by decide +kernel
theorem dX5_worthAs_57 : decode cX5_worthAs 57 = .ok (.if_icmp .ne 11, 3) := by decide +kernel
theorem dX5_worthAs_60 : decode cX5_worthAs 60 = .ok (.aload_n 0, 1) := by decide +kernel
theorem dX5_worthAs_61 : decode cX5_worthAs 61 = .ok (.getfield 43, 3) := by decide +kernel
theorem dX5_worthAs_64 : decode cX5_worthAs 64 = .ok (.getfield 176, 3) := by decide +kernel
theorem dX5_worthAs_67 : decode cX5_worthAs 67 = .ok (.ireturn, 1) := by decide +kernel
theorem dX5_worthAs_68 : decode cX5_worthAs 68 = .ok (.iinc 4 1, 3) := by decide +kernel
theorem dX5_worthAs_71 : decode cX5_worthAs 71 = .ok (.goto (-36), 3) := by decide +kernel
theorem dX5_worthAs_74 : decode cX5_worthAs 74 = .ok (.iconst 0, 1) := by decide +kernel
theorem dX5_worthAs_75 : decode cX5_worthAs 75 = .ok (.ireturn, 1) := by decide +kernel
theorem dX5_bringWithout_0 : decode cX5_bringWithout 0 = .ok (.aload_n 0, 1) := by decide +kernel
theorem dX5_bringWithout_1 : decode cX5_bringWithout 1 = .ok (.getfield 43, 3) := by decide +kernel
theorem dX5_bringWithout_4 : decode cX5_bringWithout 4 = .ok (.aload_n 0, 1) := by decide +kernel
theorem dX5_bringWithout_5 : decode cX5_bringWithout 5 = .ok (.getfield 10, 3) := by decide +kernel
theorem dX5_bringWithout_8 : decode cX5_bringWithout 8 = .ok (.getfield 73, 3) := by decide +kernel
theorem dX5_bringWithout_11 : decode cX5_bringWithout 11 = .ok (.invokevirtual 160, 3) := by decide +kernel
theorem dX5_bringWithout_14 : decode cX5_bringWithout 14 = .ok (.aload_n 0, 1) := by decide +kernel
theorem dX5_bringWithout_15 : decode cX5_bringWithout 15 = .ok (.getfield 43, 3) := by decide +kernel
theorem dX5_bringWithout_18 : decode cX5_bringWithout 18 = .ok (.iload_n 1, 1) := by decide +kernel
theorem dX5_bringWithout_19 : decode cX5_bringWithout 19 = .ok (.invokevirtual 326, 3) := by decide +kernel
theorem dX5_bringWithout_22 : decode cX5_bringWithout 22 = .ok (.aload_n 0, 1) := by decide +kernel
theorem dX5_bringWithout_23 : decode cX5_bringWithout 23 = .ok (.getfield 43, 3) := by decide +kernel
theorem dX5_bringWithout_26 : decode cX5_bringWithout 26 = .ok (.iload_n 2, 1) := by decide +kernel
theorem dX5_bringWithout_27 : decode cX5_bringWithout 27 = .ok (.invokevirtual 164, 3) := by decide +kernel
theorem dX5_bringWithout_30 : decode cX5_bringWithout 30 = .ok (.ireturn, 1) := by decide +kernel
theorem dX5_rowsFrom_0 : decode cX5_rowsFrom 0 = .ok (.aload_n 0, 1) := by decide +kernel
theorem dX5_rowsFrom_1 : decode cX5_rowsFrom 1 = .ok (.getfield 10, 3) := by decide +kernel
theorem dX5_rowsFrom_4 : decode cX5_rowsFrom 4 = .ok (.getfield 73, 3) := by decide +kernel
theorem dX5_rowsFrom_7 : decode cX5_rowsFrom 7 = .ok (.astore 4, 2) := by decide +kernel
theorem dX5_rowsFrom_9 : decode cX5_rowsFrom 9 = .ok (.iconst 0, 1) := by decide +kernel
theorem dX5_rowsFrom_10 : decode cX5_rowsFrom 10 = .ok (.istore 5, 2) := by decide +kernel
theorem dX5_rowsFrom_12 : decode cX5_rowsFrom 12 = .ok (.iconst 0, 1) := by decide +kernel
theorem dX5_rowsFrom_13 : decode cX5_rowsFrom 13 = .ok (.istore 6, 2) := by decide +kernel
theorem dX5_rowsFrom_15 : decode cX5_rowsFrom 15 = .ok (.iload 6, 2) := by decide +kernel
theorem dX5_rowsFrom_17 : decode cX5_rowsFrom 17 = .ok (.aload 4, 2) := by decide +kernel
theorem dX5_rowsFrom_19 : decode cX5_rowsFrom 19 = .ok (.getfield 76, 3) := by decide +kernel
theorem dX5_rowsFrom_22 : decode cX5_rowsFrom 22 = .ok (.if_icmp .ge 49, 3) := by decide +kernel
theorem dX5_rowsFrom_25 : decode cX5_rowsFrom 25 = .ok (.iload 6, 2) := by decide +kernel
theorem dX5_rowsFrom_27 : decode cX5_rowsFrom 27 = .ok (.iload_n 1, 1) := by decide +kernel
theorem dX5_rowsFrom_28 : decode cX5_rowsFrom 28 = .ok (.if_icmp .eq 37, 3) := by decide +kernel
theorem dX5_rowsFrom_31 : decode cX5_rowsFrom 31 = .ok (.aload 4, 2) := by decide +kernel
theorem dX5_rowsFrom_33 : decode cX5_rowsFrom 33 = .ok (.iload_n 1, 1) := by decide +kernel
theorem dX5_rowsFrom_34 : decode cX5_rowsFrom 34 = .ok (.invokevirtual 104, 3) := by decide +kernel
theorem dX5_rowsFrom_37 : decode cX5_rowsFrom 37 = .ok (.ifCond .eq 28, 3) := by decide +kernel
theorem dX5_rowsFrom_40 : decode cX5_rowsFrom 40 = .ok (.aload 4, 2) := by decide +kernel
theorem dX5_rowsFrom_42 : decode cX5_rowsFrom 42 = .ok (.iload 6, 2) := by decide +kernel
theorem dX5_rowsFrom_44 : decode cX5_rowsFrom 44 = .ok (.invokevirtual 104, 3) := by decide +kernel
theorem dX5_rowsFrom_47 : decode cX5_rowsFrom 47 = .ok (.ifCond .eq 18, 3) := by decide +kernel
theorem dX5_rowsFrom_50 : decode cX5_rowsFrom 50 = .ok (.aload_n 0, 1) := by decide +kernel
theorem dX5_rowsFrom_51 : decode cX5_rowsFrom 51 = .ok (.iload_n 1, 1) := by decide +kernel
theorem dX5_rowsFrom_52 : decode cX5_rowsFrom 52 = .ok (.iload 6, 2) := by decide +kernel
theorem dX5_rowsFrom_54 : decode cX5_rowsFrom 54 = .ok (.iload_n 3, 1) := by decide +kernel
theorem dX5_rowsFrom_55 : decode cX5_rowsFrom 55 = .ok (.invokevirtual 329, 3) := by decide +kernel
theorem dX5_rowsFrom_58 : decode cX5_rowsFrom 58 = .ok (.iload_n 2, 1) := by decide +kernel
theorem dX5_rowsFrom_59 : decode cX5_rowsFrom 59 = .ok (.if_icmp .ne 6, 3) := by decide +kernel
theorem dX5_rowsFrom_62 : decode cX5_rowsFrom 62 = .ok (.iinc 5 1, 3) := by decide +kernel
theorem dX5_rowsFrom_65 : decode cX5_rowsFrom 65 = .ok (.iinc 6 1, 3) := by decide +kernel
theorem dX5_rowsFrom_68 : decode cX5_rowsFrom 68 = .ok (.goto (-53), 3) := by decide +kernel
theorem dX5_rowsFrom_71 : decode cX5_rowsFrom 71 = .ok (.iload 5, 2) := by decide +kernel
theorem dX5_rowsFrom_73 : decode cX5_rowsFrom 73 = .ok (.ireturn, 1) := by decide +kernel
theorem dX5_firstWorth_0 : decode cX5_firstWorth 0 = .ok (.aload_n 0, 1) := by decide +kernel
theorem dX5_firstWorth_1 : decode cX5_firstWorth 1 = .ok (.getfield 51, 3) := by decide +kernel
theorem dX5_firstWorth_4 : decode cX5_firstWorth 4 = .ok (.iconst 0, 1) := by decide +kernel
theorem dX5_firstWorth_5 : decode cX5_firstWorth 5 = .ok (.iload_n 1, 1) := by decide +kernel
theorem dX5_firstWorth_6 : decode cX5_firstWorth 6 = .ok (.iastore, 1) := by decide +kernel
theorem dX5_firstWorth_7 : decode cX5_firstWorth 7 = .ok (.aload_n 0, 1) := by decide +kernel
theorem dX5_firstWorth_8 : decode cX5_firstWorth 8 = .ok (.getfield 51, 3) := by decide +kernel
theorem dX5_firstWorth_11 : decode cX5_firstWorth 11 = .ok (.iconst 1, 1) := by decide +kernel
theorem dX5_firstWorth_12 : decode cX5_firstWorth 12 = .ok (.iload_n 2, 1) := by decide +kernel
theorem dX5_firstWorth_13 : decode cX5_firstWorth 13 = .ok (.iastore, 1) := by decide +kernel
theorem dX5_firstWorth_14 : decode cX5_firstWorth 14 = .ok (.aload_n 0, 1) := by decide +kernel
theorem dX5_firstWorth_15 : decode cX5_firstWorth 15 = .ok (.getfield 43, 3) := by decide +kernel
theorem dX5_firstWorth_18 : decode cX5_firstWorth 18 = .ok (.aload_n 0, 1) := by decide +kernel
theorem dX5_firstWorth_19 : decode cX5_firstWorth 19 = .ok (.getfield 10, 3) := by decide +kernel
theorem dX5_firstWorth_22 : decode cX5_firstWorth 22 = .ok (.getfield 73, 3) := by decide +kernel
theorem dX5_firstWorth_25 : decode cX5_firstWorth 25 = .ok (.invokevirtual 160, 3) := by decide +kernel
theorem dX5_firstWorth_28 : decode cX5_firstWorth 28 = .ok (.iconst 0, 1) := by decide +kernel
theorem dX5_firstWorth_29 : decode cX5_firstWorth 29 = .ok (.istore 4, 2) := by decide +kernel
theorem dX5_firstWorth_31 : decode cX5_firstWorth 31 = .ok (.iload 4, 2) := by decide +kernel
theorem dX5_firstWorth_33 : decode cX5_firstWorth 33 = .ok (.iload_n 3, 1) := by decide +kernel
theorem dX5_firstWorth_34 : decode cX5_firstWorth 34 = .ok (.if_icmp .ge 43, 3) := by decide +kernel
theorem dX5_firstWorth_37 : decode cX5_firstWorth 37 = .ok (.aload_n 0, 1) := by decide +kernel
theorem dX5_firstWorth_38 : decode cX5_firstWorth 38 = .ok (.iconst 2, 1) := by decide +kernel
theorem dX5_firstWorth_39 : decode cX5_firstWorth 39 = .ok (.iload 4, 2) := by decide +kernel
theorem dX5_firstWorth_41 : decode cX5_firstWorth 41 = .ok (.invokevirtual 317, 3) := by decide +kernel
theorem dX5_firstWorth_44 : decode cX5_firstWorth 44 = .ok (.istore 5, 2) := by decide +kernel
theorem dX5_firstWorth_46 : decode cX5_firstWorth 46 = .ok (.aload_n 0, 1) := by decide +kernel
theorem dX5_firstWorth_47 : decode cX5_firstWorth 47 = .ok (.getfield 43, 3) := by decide +kernel
theorem dX5_firstWorth_50 : decode cX5_firstWorth 50 = .ok (.getfield 182, 3) := by decide +kernel
theorem dX5_firstWorth_53 : decode cX5_firstWorth 53 = .ok (.iload_n 1, 1) := by decide +kernel
theorem dX5_firstWorth_54 : decode cX5_firstWorth 54 = .ok (.if_icmp .eq 14, 3) := by decide +kernel
theorem dX5_firstWorth_57 : decode cX5_firstWorth 57 = .ok (.aload_n 0, 1) := by decide +kernel
theorem dX5_firstWorth_58 : decode cX5_firstWorth 58 = .ok (.getfield 43, 3) := by decide +kernel
theorem dX5_firstWorth_61 : decode cX5_firstWorth 61 = .ok (.getfield 182, 3) := by decide +kernel
theorem dX5_firstWorth_64 : decode cX5_firstWorth 64 = .ok (.iload_n 2, 1) := by decide +kernel
theorem dX5_firstWorth_65 : decode cX5_firstWorth 65 = .ok (.if_icmp .ne 6, 3) := by decide +kernel
theorem dX5_firstWorth_68 : decode cX5_firstWorth 68 = .ok (.iload 5, 2) := by decide +kernel
theorem dX5_firstWorth_70 : decode cX5_firstWorth 70 = .ok (.ireturn, 1) := by decide +kernel
theorem dX5_firstWorth_71 : decode cX5_firstWorth 71 = .ok (.iinc 4 1, 3) := by decide +kernel
theorem dX5_firstWorth_74 : decode cX5_firstWorth 74 = .ok (.goto (-43), 3) := by decide +kernel
theorem dX5_firstWorth_77 : decode cX5_firstWorth 77 = .ok (.iconst (-1), 1) := by decide +kernel
theorem dX5_firstWorth_78 : decode cX5_firstWorth 78 = .ok (.ireturn, 1) := by decide +kernel
theorem dX5_areAllFed_0 : decode cX5_areAllFed 0 = .ok (.aload_n 0, 1) := by decide +kernel
theorem dX5_areAllFed_1 : decode cX5_areAllFed 1 = .ok (.getfield 43, 3) := by decide +kernel
theorem dX5_areAllFed_4 : decode cX5_areAllFed 4 = .ok (.aload_n 0, 1) := by decide +kernel
theorem dX5_areAllFed_5 : decode cX5_areAllFed 5 = .ok (.getfield 10, 3) := by decide +kernel
theorem dX5_areAllFed_8 : decode cX5_areAllFed 8 = .ok (.getfield 73, 3) := by decide +kernel
theorem dX5_areAllFed_11 : decode cX5_areAllFed 11 = .ok (.invokevirtual 160, 3) := by decide +kernel
theorem dX5_areAllFed_14 : decode cX5_areAllFed 14 = .ok (.aload_n 0, 1) := by decide +kernel
theorem dX5_areAllFed_15 : decode cX5_areAllFed 15 = .ok (.getfield 43, 3) := by decide +kernel
theorem dX5_areAllFed_18 : decode cX5_areAllFed 18 = .ok (.iload_n 2, 1) := by decide +kernel
theorem dX5_areAllFed_19 : decode cX5_areAllFed 19 = .ok (.putfield 98, 3) := by decide +kernel
theorem dX5_areAllFed_22 : decode cX5_areAllFed 22 = .ok (.iconst 0, 1) := by decide +kernel
theorem dX5_areAllFed_23 : decode cX5_areAllFed 23 = .ok (.istore_n 3, 1) := by decide +kernel
theorem dX5_areAllFed_24 : decode cX5_areAllFed 24 = .ok (.iload_n 3, 1) := by decide +kernel
theorem dX5_areAllFed_25 : decode cX5_areAllFed 25 = .ok (.iload_n 1, 1) := by decide +kernel
theorem dX5_areAllFed_26 : decode cX5_areAllFed 26 = .ok (.if_icmp .ge 34, 3) := by decide +kernel
theorem dX5_areAllFed_29 : decode cX5_areAllFed 29 = .ok (.aload_n 0, 1) := by decide +kernel
theorem dX5_areAllFed_30 : decode cX5_areAllFed 30 = .ok (.getfield 43, 3) := by decide +kernel
theorem dX5_areAllFed_33 : decode cX5_areAllFed 33 = .ok (.aload_n 0, 1) := by decide +kernel
theorem dX5_areAllFed_34 : decode cX5_areAllFed 34 = .ok (.getfield 51, 3) := by decide +kernel
theorem dX5_areAllFed_37 : decode cX5_areAllFed 37 = .ok (.iload_n 3, 1) := by decide +kernel
theorem dX5_areAllFed_38 : decode cX5_areAllFed 38 = .ok (.iaload, 1) := by decide +kernel
theorem dX5_areAllFed_39 : decode cX5_areAllFed 39 = .ok (.invokevirtual 107, 3) := by decide +kernel
theorem dX5_areAllFed_42 : decode cX5_areAllFed 42 = .ok (.ifCond .ne 5, 3) := by decide +kernel
theorem dX5_areAllFed_45 : decode cX5_areAllFed 45 = .ok (.iconst 0, 1) := by decide +kernel
theorem dX5_areAllFed_46 : decode cX5_areAllFed 46 = .ok (.ireturn, 1) := by decide +kernel
theorem dX5_areAllFed_47 : decode cX5_areAllFed 47 = .ok (.aload_n 0, 1) := by decide +kernel
theorem dX5_areAllFed_48 : decode cX5_areAllFed 48 = .ok (.iload_n 1, 1) := by decide +kernel
theorem dX5_areAllFed_49 : decode cX5_areAllFed 49 = .ok (.iload_n 3, 1) := by decide +kernel
theorem dX5_areAllFed_50 : decode cX5_areAllFed 50 = .ok (.invokevirtual 317, 3) := by decide +kernel
theorem dX5_areAllFed_53 : decode cX5_areAllFed 53 = .ok (.pop, 1) := by decide +kernel
theorem dX5_areAllFed_54 : decode cX5_areAllFed 54 = .ok (.iinc 3 1, 3) := by decide +kernel
theorem dX5_areAllFed_57 : decode cX5_areAllFed 57 = .ok (.goto (-33), 3) := by decide +kernel
theorem dX5_areAllFed_60 : decode cX5_areAllFed 60 = .ok (.iconst 1, 1) := by decide +kernel
theorem dX5_areAllFed_61 : decode cX5_areAllFed 61 = .ok (.ireturn, 1) := by decide +kernel
theorem dX5_playAll_0 : decode cX5_playAll 0 = .ok (.aload_n 0, 1) := by decide +kernel
theorem dX5_playAll_1 : decode cX5_playAll 1 = .ok (.getfield 47, 3) := by decide +kernel
theorem dX5_playAll_4 : decode cX5_playAll 4 = .ok (.iconst 0, 1) := by decide +kernel
theorem dX5_playAll_5 : decode cX5_playAll 5 = .ok (.aaload, 1) := by decide +kernel
theorem dX5_playAll_6 : decode cX5_playAll 6 = .ok (.aload_n 0, 1) := by decide +kernel
theorem dX5_playAll_7 : decode cX5_playAll 7 = .ok (.getfield 10, 3) := by decide +kernel
theorem dX5_playAll_10 : decode cX5_playAll 10 = .ok (.getfield 73, 3) := by decide +kernel
theorem dX5_playAll_13 : decode cX5_playAll 13 = .ok (.invokevirtual 160, 3) := by decide +kernel
theorem dX5_playAll_16 : decode cX5_playAll 16 = .ok (.aload_n 0, 1) := by decide +kernel
theorem dX5_playAll_17 : decode cX5_playAll 17 = .ok (.iconst 0, 1) := by decide +kernel
theorem dX5_playAll_18 : decode cX5_playAll 18 = .ok (.iload_n 1, 1) := by decide +kernel
theorem dX5_playAll_19 : decode cX5_playAll 19 = .ok (.iload_n 2, 1) := by decide +kernel
theorem dX5_playAll_20 : decode cX5_playAll 20 = .ok (.invokevirtual 332, 3) := by decide +kernel
theorem dX5_playAll_23 : decode cX5_playAll 23 = .ok (.ireturn, 1) := by decide +kernel
theorem dX5_play_0 : decode cX5_play 0 = .ok (.aload_n 0, 1) := by decide +kernel
theorem dX5_play_1 : decode cX5_play 1 = .ok (.getfield 47, 3) := by decide +kernel
theorem dX5_play_4 : decode cX5_play 4 = .ok (.iload_n 1, 1) := by decide +kernel
theorem dX5_play_5 : decode cX5_play 5 = .ok (.aaload, 1) := by decide +kernel
theorem dX5_play_6 : decode cX5_play 6 = .ok (.astore 4, 2) := by decide +kernel
theorem dX5_play_8 : decode cX5_play 8 = .ok (.iload_n 1, 1) := by decide +kernel
theorem dX5_play_9 : decode cX5_play 9 = .ok (.iload_n 2, 1) := by decide +kernel
theorem dX5_play_10 : decode cX5_play 10 = .ok (.if_icmp .ge 8, 3) := by decide +kernel
theorem dX5_play_13 : decode cX5_play 13 = .ok (.iload_n 1, 1) := by decide +kernel
theorem dX5_play_14 : decode cX5_play 14 = .ok (.iconst 4, 1) := by decide +kernel
theorem dX5_play_15 : decode cX5_play 15 = .ok (.if_icmp .lt 12, 3) := by decide +kernel
theorem dX5_play_18 : decode cX5_play 18 = .ok (.aload 4, 2) := by decide +kernel
theorem dX5_play_20 : decode cX5_play 20 = .ok (.iload_n 3, 1) := by decide +kernel
theorem dX5_play_21 : decode cX5_play 21 = .ok (.iload_n 2, 1) := by decide +kernel
theorem dX5_play_22 : decode cX5_play 22 = .ok (.isub, 1) := by decide +kernel
theorem dX5_play_23 : decode cX5_play 23 = .ok (.invokestatic 335, 3) := by decide +kernel
theorem dX5_play_26 : decode cX5_play 26 = .ok (.ireturn, 1) := by decide +kernel
theorem dX5_play_27 : decode cX5_play 27 = .ok (.iload_n 1, 1) := by decide +kernel
theorem dX5_play_28 : decode cX5_play 28 = .ok (.iconst 1, 1) := by decide +kernel
theorem dX5_play_29 : decode cX5_play 29 = .ok (.iand, 1) := by decide +kernel
theorem dX5_play_30 : decode cX5_play 30 = .ok (.istore 5, 2) := by decide +kernel
theorem dX5_play_32 : decode cX5_play 32 = .ok (.aload_n 0, 1) := by decide +kernel
theorem dX5_play_33 : decode cX5_play 33 = .ok (.iload_n 1, 1) := by decide +kernel
theorem dX5_play_34 : decode cX5_play 34 = .ok (.iconst (-1), 1) := by decide +kernel
theorem dX5_play_35 : decode cX5_play 35 = .ok (.iload_n 2, 1) := by decide +kernel
theorem dX5_play_36 : decode cX5_play 36 = .ok (.iload_n 3, 1) := by decide +kernel
theorem dX5_play_37 : decode cX5_play 37 = .ok (.invokevirtual 339, 3) := by decide +kernel
theorem dX5_play_40 : decode cX5_play 40 = .ok (.istore 6, 2) := by decide +kernel
theorem dX5_play_42 : decode cX5_play 42 = .ok (.iconst (-1), 1) := by decide +kernel
theorem dX5_play_43 : decode cX5_play 43 = .ok (.istore 7, 2) := by decide +kernel
theorem dX5_play_45 : decode cX5_play 45 = .ok (.iconst 0, 1) := by decide +kernel
theorem dX5_play_46 : decode cX5_play 46 = .ok (.istore 8, 2) := by decide +kernel
theorem dX5_play_48 : decode cX5_play 48 = .ok (.iload 8, 2) := by decide +kernel
theorem dX5_play_50 : decode cX5_play 50 = .ok (.aload 4, 2) := by decide +kernel
theorem dX5_play_52 : decode cX5_play 52 = .ok (.getfield 76, 3) := by decide +kernel
theorem dX5_play_55 : decode cX5_play 55 = .ok (.if_icmp .ge 83, 3) := by decide +kernel
theorem dX5_play_58 : decode cX5_play 58 = .ok (.aload 4, 2) := by decide +kernel
theorem dX5_play_60 : decode cX5_play 60 = .ok (.getfield 239, 3) := by decide +kernel
theorem dX5_play_63 : decode cX5_play 63 = .ok (.iload 8, 2) := by decide +kernel
theorem dX5_play_65 : decode cX5_play 65 = .ok (.iaload, 1) := by decide +kernel
theorem dX5_play_66 : decode cX5_play 66 = .ok (.iload 5, 2) := by decide +kernel
theorem dX5_play_68 : decode cX5_play 68 = .ok (.if_icmp .ne 64, 3) := by decide +kernel
theorem dX5_play_71 : decode cX5_play 71 = .ok (.aload 4, 2) := by decide +kernel
theorem dX5_play_73 : decode cX5_play 73 = .ok (.iload 8, 2) := by decide +kernel
theorem dX5_play_75 : decode cX5_play 75 = .ok (.invokevirtual 104, 3) := by decide +kernel
theorem dX5_play_78 : decode cX5_play 78 = .ok (.ifCond .eq 54, 3) := by decide +kernel
theorem dX5_play_81 : decode cX5_play 81 = .ok (.aload 4, 2) := by decide +kernel
theorem dX5_play_83 : decode cX5_play 83 = .ok (.iload 8, 2) := by decide +kernel
theorem dX5_play_85 : decode cX5_play 85 = .ok (.invokevirtual 107, 3) := by decide +kernel
theorem dX5_play_88 : decode cX5_play 88 = .ok (.ifCond .eq 44, 3) := by decide +kernel
theorem dX5_play_91 : decode cX5_play 91 = .ok (.aload_n 0, 1) := by decide +kernel
theorem dX5_play_92 : decode cX5_play 92 = .ok (.iload_n 1, 1) := by decide +kernel
theorem dX5_play_93 : decode cX5_play 93 = .ok (.iload 8, 2) := by decide +kernel
theorem dX5_play_95 : decode cX5_play 95 = .ok (.iload_n 2, 1) := by decide +kernel
theorem dX5_play_96 : decode cX5_play 96 = .ok (.iload_n 3, 1) := by decide +kernel
theorem dX5_play_97 : decode cX5_play 97 = .ok (.invokevirtual 339, 3) := by decide +kernel
theorem dX5_play_100 : decode cX5_play 100 = .ok (.istore 9, 2) := by decide +kernel
theorem dX5_play_102 : decode cX5_play 102 = .ok (.iload 5, 2) := by decide +kernel
theorem dX5_play_104 : decode cX5_play 104 = .ok (.ifCond .ne 13, 3) := by decide +kernel
theorem dX5_play_107 : decode cX5_play 107 = .ok (.iload 9, 2) := by decide +kernel
theorem dX5_play_109 : decode cX5_play 109 = .ok (.iload 6, 2) := by decide +kernel
theorem dX5_play_111 : decode cX5_play 111 = .ok (.if_icmp .le 21, 3) := by decide +kernel
theorem dX5_play_114 : decode cX5_play 114 = .ok (.goto 10, 3) := by decide +kernel
theorem dX5_play_117 : decode cX5_play 117 = .ok (.iload 9, 2) := by decide +kernel
theorem dX5_play_119 : decode cX5_play 119 = .ok (.iload 6, 2) := by decide +kernel
theorem dX5_play_121 : decode cX5_play 121 = .ok (.if_icmp .ge 11, 3) := by decide +kernel
theorem dX5_play_124 : decode cX5_play 124 = .ok (.iload 9, 2) := by decide +kernel
theorem dX5_play_126 : decode cX5_play 126 = .ok (.istore 6, 2) := by decide +kernel
theorem dX5_play_128 : decode cX5_play 128 = .ok (.iload 8, 2) := by decide +kernel
theorem dX5_play_130 : decode cX5_play 130 = .ok (.istore 7, 2) := by decide +kernel
theorem dX5_play_132 : decode cX5_play 132 = .ok (.iinc 8 1, 3) := by decide +kernel
theorem dX5_play_135 : decode cX5_play 135 = .ok (.goto (-87), 3) := by decide +kernel
theorem dX5_play_138 : decode cX5_play 138 = .ok (.iload_n 1, 1) := by decide +kernel
theorem dX5_play_139 : decode cX5_play 139 = .ok (.ifCond .ne 9, 3) := by decide +kernel
theorem dX5_play_142 : decode cX5_play 142 = .ok (.aload_n 0, 1) := by decide +kernel
theorem dX5_play_143 : decode cX5_play 143 = .ok (.iload 7, 2) := by decide +kernel
theorem dX5_play_145 : decode cX5_play 145 = .ok (.putfield 60, 3) := by decide +kernel
theorem dX5_play_148 : decode cX5_play 148 = .ok (.iload 6, 2) := by decide +kernel
theorem dX5_play_150 : decode cX5_play 150 = .ok (.ireturn, 1) := by decide +kernel
theorem dX5_move_0 : decode cX5_move 0 = .ok (.aload_n 0, 1) := by decide +kernel
theorem dX5_move_1 : decode cX5_move 1 = .ok (.getfield 47, 3) := by decide +kernel
theorem dX5_move_4 : decode cX5_move 4 = .ok (.iload_n 1, 1) := by decide +kernel
theorem dX5_move_5 : decode cX5_move 5 = .ok (.iconst 1, 1) := by decide +kernel
theorem dX5_move_6 : decode cX5_move 6 = .ok (.iadd, 1) := by decide +kernel
theorem dX5_move_7 : decode cX5_move 7 = .ok (.aaload, 1) := by decide +kernel
theorem dX5_move_8 : decode cX5_move 8 = .ok (.astore 5, 2) := by decide +kernel
theorem dX5_move_10 : decode cX5_move 10 = .ok (.aload 5, 2) := by decide +kernel
theorem dX5_move_12 : decode cX5_move 12 = .ok (.aload_n 0, 1) := by decide +kernel
theorem dX5_move_13 : decode cX5_move 13 = .ok (.getfield 47, 3) := by decide +kernel
theorem dX5_move_16 : decode cX5_move 16 = .ok (.iload_n 1, 1) := by decide +kernel
theorem dX5_move_17 : decode cX5_move 17 = .ok (.aaload, 1) := by decide +kernel
theorem dX5_move_18 : decode cX5_move 18 = .ok (.invokevirtual 160, 3) := by decide +kernel
theorem dX5_move_21 : decode cX5_move 21 = .ok (.iload_n 2, 1) := by decide +kernel
theorem dX5_move_22 : decode cX5_move 22 = .ok (.ifCond .lt 9, 3) := by decide +kernel
theorem dX5_move_25 : decode cX5_move 25 = .ok (.aload 5, 2) := by decide +kernel
theorem dX5_move_27 : decode cX5_move 27 = .ok (.iload_n 2, 1) := by decide +kernel
theorem dX5_move_28 : decode cX5_move 28 = .ok (.invokevirtual 110, 3) := by decide +kernel
theorem dX5_move_31 : decode cX5_move 31 = .ok (.aload 5, 2) := by decide +kernel
theorem dX5_move_33 : decode cX5_move 33 = .ok (.invokevirtual 179, 3) := by decide +kernel
theorem dX5_move_36 : decode cX5_move 36 = .ok (.pop, 1) := by decide +kernel
theorem dX5_move_37 : decode cX5_move 37 = .ok (.aload 5, 2) := by decide +kernel
theorem dX5_move_39 : decode cX5_move 39 = .ok (.invokevirtual 343, 3) := by decide +kernel
theorem dX5_move_42 : decode cX5_move 42 = .ok (.istore 6, 2) := by decide +kernel
theorem dX5_move_44 : decode cX5_move 44 = .ok (.iload 6, 2) := by decide +kernel
theorem dX5_move_46 : decode cX5_move 46 = .ok (.aload_n 0, 1) := by decide +kernel
theorem dX5_move_47 : decode cX5_move 47 = .ok (.iload_n 1, 1) := by decide +kernel
theorem dX5_move_48 : decode cX5_move 48 = .ok (.iconst 1, 1) := by decide +kernel
theorem dX5_move_49 : decode cX5_move 49 = .ok (.iadd, 1) := by decide +kernel
theorem dX5_move_50 : decode cX5_move 50 = .ok (.iload_n 3, 1) := by decide +kernel
theorem dX5_move_51 : decode cX5_move 51 = .ok (.iload 4, 2) := by decide +kernel
theorem dX5_move_53 : decode cX5_move 53 = .ok (.invokevirtual 332, 3) := by decide +kernel
theorem dX5_move_56 : decode cX5_move 56 = .ok (.iadd, 1) := by decide +kernel
theorem dX5_move_57 : decode cX5_move 57 = .ok (.ireturn, 1) := by decide +kernel
theorem dX5_restOf_0 : decode cX5_restOf 0 = .ok (.iconst 0, 1) := by decide +kernel
theorem dX5_restOf_1 : decode cX5_restOf 1 = .ok (.istore_n 2, 1) := by decide +kernel
theorem dX5_restOf_2 : decode cX5_restOf 2 = .ok (.iconst 0, 1) := by decide +kernel
theorem dX5_restOf_3 : decode cX5_restOf 3 = .ok (.istore_n 3, 1) := by decide +kernel
theorem dX5_restOf_4 : decode cX5_restOf 4 = .ok (.iload_n 3, 1) := by decide +kernel
theorem dX5_restOf_5 : decode cX5_restOf 5 = .ok (.iload_n 1, 1) := by decide +kernel
theorem dX5_restOf_6 : decode cX5_restOf 6 = .ok (.if_icmp .ge 28, 3) := by decide +kernel
theorem dX5_restOf_9 : decode cX5_restOf 9 = .ok (.aload_n 0, 1) := by decide +kernel
theorem dX5_restOf_10 : decode cX5_restOf 10 = .ok (.getfield 114, 3) := by decide +kernel
theorem dX5_restOf_13 : decode cX5_restOf 13 = .ok (.ifCond .le 21, 3) := by decide +kernel
theorem dX5_restOf_16 : decode cX5_restOf 16 = .ok (.aload_n 0, 1) := by decide +kernel
theorem dX5_restOf_17 : decode cX5_restOf 17 = .ok (.invokevirtual 179, 3) := by decide +kernel
theorem dX5_restOf_20 : decode cX5_restOf 20 = .ok (.pop, 1) := by decide +kernel
theorem dX5_restOf_21 : decode cX5_restOf 21 = .ok (.iload_n 2, 1) := by decide +kernel
theorem dX5_restOf_22 : decode cX5_restOf 22 = .ok (.aload_n 0, 1) := by decide +kernel
theorem dX5_restOf_23 : decode cX5_restOf 23 = .ok (.invokevirtual 343, 3) := by decide +kernel
theorem dX5_restOf_26 : decode cX5_restOf 26 = .ok (.iadd, 1) := by decide +kernel
theorem dX5_restOf_27 : decode cX5_restOf 27 = .ok (.istore_n 2, 1) := by decide +kernel
theorem dX5_restOf_28 : decode cX5_restOf 28 = .ok (.iinc 3 1, 3) := by decide +kernel
theorem dX5_restOf_31 : decode cX5_restOf 31 = .ok (.goto (-27), 3) := by decide +kernel
theorem dX5_restOf_34 : decode cX5_restOf 34 = .ok (.iload_n 2, 1) := by decide +kernel
theorem dX5_restOf_35 : decode cX5_restOf 35 = .ok (.ireturn, 1) := by decide +kernel
theorem dX6_init_0 : decode cX6_init 0 = .ok (.aload_n 0, 1) := by decide +kernel
theorem dX6_init_1 : decode cX6_init 1 = .ok (.invokespecial 1, 3) := by decide +kernel
theorem dX6_init_4 : decode cX6_init 4 = .ok (.aload_n 0, 1) := by decide +kernel
theorem dX6_init_5 : decode cX6_init 5 = .ok (.sipush 132, 3) := by decide +kernel
theorem dX6_init_8 : decode cX6_init 8 = .ok (.newarray .int, 2) := by decide +kernel
theorem dX6_init_10 : decode cX6_init 10 = .ok (.putfield 9, 3) := by decide +kernel
theorem dX6_init_13 : decode cX6_init 13 = .ok (.aload_n 0, 1) := by decide +kernel
theorem dX6_init_14 : decode cX6_init 14 = .ok (.sipush 132, 3) := by decide +kernel
theorem dX6_init_17 : decode cX6_init 17 = .ok (.newarray .int, 2) := by decide +kernel
theorem dX6_init_19 : decode cX6_init 19 = .ok (.putfield 13, 3) := by decide +kernel
theorem dX6_init_22 : decode cX6_init 22 = .ok (.aload_n 0, 1) := by decide +kernel
theorem dX6_init_23 : decode cX6_init 23 = .ok (.sipush 132, 3) := by decide +kernel
theorem dX6_init_26 : decode cX6_init 26 = .ok (.newarray .int, 2) := by decide +kernel
theorem dX6_init_28 : decode cX6_init 28 = .ok (.putfield 16, 3) := by decide +kernel
theorem dX6_init_31 : decode cX6_init 31 = .ok (.aload_n 0, 1) := by decide +kernel
theorem dX6_init_32 : decode cX6_init 32 = .ok (.bipush 8, 2) := by decide +kernel
theorem dX6_init_34 : decode cX6_init 34 = .ok (.newarray .int, 2) := by decide +kernel
theorem dX6_init_36 : decode cX6_init 36 = .ok (.putfield 19, 3) := by decide +kernel
theorem dX6_init_39 : decode cX6_init 39 = .ok (.aload_n 0, 1) := by decide +kernel
theorem dX6_init_40 : decode cX6_init 40 = .ok (.bipush 10, 2) := by decide +kernel
theorem dX6_init_42 : decode cX6_init 42 = .ok (.newarray .int, 2) := by decide +kernel
theorem dX6_init_44 : decode cX6_init 44 = .ok (.putfield 22, 3) := by decide +kernel
theorem dX6_init_47 : decode cX6_init 47 = .ok (.aload_n 0, 1) := by decide +kernel
theorem dX6_init_48 : decode cX6_init 48 = .ok (.iconst 5, 1) := by decide +kernel
theorem dX6_init_49 : decode cX6_init 49 = .ok (.newarray .int, 2) := by decide +kernel
theorem dX6_init_51 : decode cX6_init 51 = .ok (.putfield 25, 3) := by decide +kernel
theorem dX6_init_54 : decode cX6_init 54 = .ok (.aload_n 0, 1) := by decide +kernel
theorem dX6_init_55 : decode cX6_init 55 = .ok (.sipush 660, 3) := by decide +kernel
theorem dX6_init_58 : decode cX6_init 58 = .ok (.newarray .int, 2) := by decide +kernel
theorem dX6_init_60 : decode cX6_init 60 = .ok (.putfield 28, 3) := by decide +kernel
theorem dX6_init_63 : decode cX6_init 63 = .ok (.aload_n 0, 1) := by decide +kernel
theorem dX6_init_64 : decode cX6_init 64 = .ok (.bipush 120, 2) := by decide +kernel
theorem dX6_init_66 : decode cX6_init 66 = .ok (.newarray .int, 2) := by decide +kernel
theorem dX6_init_68 : decode cX6_init 68 = .ok (.putfield 31, 3) := by decide +kernel
theorem dX6_init_71 : decode cX6_init 71 = .ok (.aload_n 0, 1) := by decide +kernel
theorem dX6_init_72 : decode cX6_init 72 = .ok (.bipush 7, 2) := by decide +kernel
theorem dX6_init_74 : decode cX6_init 74 = .ok (.anewarray 34, 3) := by decide +kernel
theorem dX6_init_77 : decode cX6_init 77 = .ok (.dup, 1) := by decide +kernel
theorem dX6_init_78 : decode cX6_init 78 = .ok (.iconst 0, 1) := by decide +kernel
theorem dX6_init_79 : decode cX6_init 79 = .ok (.ldc 36, 2) := by decide +kernel
theorem dX6_init_81 : decode cX6_init 81 = .ok (.aastore, 1) := by decide +kernel
theorem dX6_init_82 : decode cX6_init 82 = .ok (.dup, 1) := by decide +kernel
theorem dX6_init_83 : decode cX6_init 83 = .ok (.iconst 1, 1) := by decide +kernel
theorem dX6_init_84 : decode cX6_init 84 = .ok (.ldc 38, 2) := by decide +kernel
theorem dX6_init_86 : decode cX6_init 86 = .ok (.aastore, 1) := by decide +kernel
theorem dX6_init_87 : decode cX6_init 87 = .ok (.dup, 1) := by decide +kernel
theorem dX6_init_88 : decode cX6_init 88 = .ok (.iconst 2, 1) := by decide +kernel
theorem dX6_init_89 : decode cX6_init 89 = .ok (.ldc 40, 2) := by decide +kernel
theorem dX6_init_91 : decode cX6_init 91 = .ok (.aastore, 1) := by decide +kernel
theorem dX6_init_92 : decode cX6_init 92 = .ok (.dup, 1) := by decide +kernel
theorem dX6_init_93 : decode cX6_init 93 = .ok (.iconst 3, 1) := by decide +kernel
theorem dX6_init_94 : decode cX6_init 94 = .ok (.ldc 42, 2) := by decide +kernel
theorem dX6_init_96 : decode cX6_init 96 = .ok (.aastore, 1) := by decide +kernel
theorem dX6_init_97 : decode cX6_init 97 = .ok (.dup, 1) := by decide +kernel
theorem dX6_init_98 : decode cX6_init 98 = .ok (.iconst 4, 1) := by decide +kernel
theorem dX6_init_99 : decode cX6_init 99 = .ok (.ldc 44, 2) := by decide +kernel
theorem dX6_init_101 : decode cX6_init 101 = .ok (.aastore, 1) := by decide +kernel
theorem dX6_init_102 : decode cX6_init 102 = .ok (.dup, 1) := by decide +kernel
theorem dX6_init_103 : decode cX6_init 103 = .ok (.iconst 5, 1) := by decide +kernel
theorem dX6_init_104 : decode cX6_init 104 = .ok (.ldc 46, 2) := by decide +kernel
theorem dX6_init_106 : decode cX6_init 106 = .ok (.aastore, 1) := by decide +kernel
theorem dX6_init_107 : decode cX6_init 107 = .ok (.dup, 1) := by decide +kernel
theorem dX6_init_108 : decode cX6_init 108 = .ok (.bipush 6, 2) := by decide +kernel
theorem dX6_init_110 : decode cX6_init 110 = .ok (.ldc 48, 2) := by decide +kernel
theorem dX6_init_112 : decode cX6_init 112 = .ok (.aastore, 1) := by decide +kernel
theorem dX6_init_113 : decode cX6_init 113 = .ok (.putfield 50, 3) := by decide +kernel
theorem dX6_init_116 : decode cX6_init 116 = .ok (.aload_n 0, 1) := by decide +kernel
theorem dX6_init_117 : decode cX6_init 117 = .ok (.sipush 480, 3) := by decide +kernel
theorem dX6_init_120 : decode cX6_init 120 = .ok (.newarray .int, 2) := by decide +kernel
theorem dX6_init_122 : decode cX6_init 122 = .ok (.putfield 54, 3) := by decide +kernel
theorem dX6_init_125 : decode cX6_init 125 = .ok (.aload_n 0, 1) := by decide +kernel
theorem dX6_init_126 : decode cX6_init 126 = .ok (.iconst 4, 1) := by decide +kernel
theorem dX6_init_127 : decode cX6_init 127 = .ok (.newarray .int, 2) := by decide +kernel
theorem dX6_init_129 : decode cX6_init 129 = .ok (.putfield 57, 3) := by decide +kernel
theorem dX6_init_132 : decode cX6_init 132 = .ok (.aload_n 0, 1) := by decide +kernel
theorem dX6_init_133 : decode cX6_init 133 = .ok (.iconst 4, 1) := by decide +kernel
theorem dX6_init_134 : decode cX6_init 134 = .ok (.newarray .int, 2) := by decide +kernel
theorem dX6_init_136 : decode cX6_init 136 = .ok (.putfield 60, 3) := by decide +kernel
theorem dX6_init_139 : decode cX6_init 139 = .ok (.aload_n 0, 1) := by decide +kernel
theorem dX6_init_140 : decode cX6_init 140 = .ok (.sipush 160, 3) := by decide +kernel
theorem dX6_init_143 : decode cX6_init 143 = .ok (.newarray .int, 2) := by decide +kernel
theorem dX6_init_145 : decode cX6_init 145 = .ok (.putfield 63, 3) := by decide +kernel
theorem dX6_init_148 : decode cX6_init 148 = .ok (.aload_n 0, 1) := by decide +kernel
theorem dX6_init_149 : decode cX6_init 149 = .ok (.bipush 40, 2) := by decide +kernel
theorem dX6_init_151 : decode cX6_init 151 = .ok (.newarray .int, 2) := by decide +kernel
theorem dX6_init_153 : decode cX6_init 153 = .ok (.putfield 66, 3) := by decide +kernel
theorem dX6_init_156 : decode cX6_init 156 = .ok (.aload_n 0, 1) := by decide +kernel
theorem dX6_init_157 : decode cX6_init 157 = .ok (.getfield 9, 3) := by decide +kernel
theorem dX6_init_160 : decode cX6_init 160 = .ok (.iconst 1, 1) := by decide +kernel
theorem dX6_init_161 : decode cX6_init 161 = .ok (.bipush 12, 2) := by decide +kernel
theorem dX6_init_163 : decode cX6_init 163 = .ok (.iastore, 1) := by decide +kernel
theorem dX6_init_164 : decode cX6_init 164 = .ok (.aload_n 0, 1) := by decide +kernel
theorem dX6_init_165 : decode cX6_init 165 = .ok (.getfield 9, 3) := by decide +kernel
theorem dX6_init_168 : decode cX6_init 168 = .ok (.iconst 2, 1) := by decide +kernel
theorem dX6_init_169 : decode cX6_init 169 = .ok (.iconst 2, 1) := by decide +kernel
theorem dX6_init_170 : decode cX6_init 170 = .ok (.iastore, 1) := by decide +kernel
theorem dX6_init_171 : decode cX6_init 171 = .ok (.aload_n 0, 1) := by decide +kernel
theorem dX6_init_172 : decode cX6_init 172 = .ok (.getfield 9, 3) := by decide +kernel
theorem dX6_init_175 : decode cX6_init 175 = .ok (.bipush 7, 2) := by decide +kernel
theorem dX6_init_177 : decode cX6_init 177 = .ok (.iconst 1, 1) := by decide +kernel
theorem dX6_init_178 : decode cX6_init 178 = .ok (.iastore, 1) := by decide +kernel
theorem dX6_init_179 : decode cX6_init 179 = .ok (.iconst 0, 1) := by decide +kernel
theorem dX6_init_180 : decode cX6_init 180 = .ok (.istore_n 1, 1) := by decide +kernel
theorem dX6_init_181 : decode cX6_init 181 = .ok (.iload_n 1, 1) := by decide +kernel
theorem dX6_init_182 : decode cX6_init 182 = .ok (.bipush 10, 2) := by decide +kernel
theorem dX6_init_184 : decode cX6_init 184 = .ok (.if_icmp .ge 19, 3) := by decide +kernel
theorem dX6_init_187 : decode cX6_init 187 = .ok (.aload_n 0, 1) := by decide +kernel
theorem dX6_init_188 : decode cX6_init 188 = .ok (.getfield 9, 3) := by decide +kernel
theorem dX6_init_191 : decode cX6_init 191 = .ok (.bipush 8, 2) := by decide +kernel
theorem dX6_init_193 : decode cX6_init 193 = .ok (.iload_n 1, 1) := by decide +kernel
theorem dX6_init_194 : decode cX6_init 194 = .ok (.iadd, 1) := by decide +kernel
theorem dX6_init_195 : decode cX6_init 195 = .ok (.iconst (-1), 1) := by decide +kernel
theorem dX6_init_196 : decode cX6_init 196 = .ok (.iastore, 1) := by decide +kernel
theorem dX6_init_197 : decode cX6_init 197 = .ok (.iinc 1 1, 3) := by decide +kernel
theorem dX6_init_200 : decode cX6_init 200 = .ok (.goto (-19), 3) := by decide +kernel
theorem dX6_init_203 : decode cX6_init 203 = .ok (.return_, 1) := by decide +kernel
theorem dX6_finding_0 : decode cX6_finding 0 = .ok (.aload_n 0, 1) := by decide +kernel
theorem dX6_finding_1 : decode cX6_finding 1 = .ok (.getfield 19, 3) := by decide +kernel
theorem dX6_finding_4 : decode cX6_finding 4 = .ok (.ldc 69, 2) := by decide +kernel
theorem dX6_finding_6 : decode cX6_finding 6 = .ok (.iload_n 1, 1) := by decide +kernel
theorem dX6_finding_7 : decode cX6_finding 7 = .ok (.isub, 1) := by decide +kernel
theorem dX6_finding_8 : decode cX6_finding 8 = .ok (.iconst 1, 1) := by decide +kernel
theorem dX6_finding_9 : decode cX6_finding 9 = .ok (.iadd, 1) := by decide +kernel
theorem dX6_finding_10 : decode cX6_finding 10 = .ok (.dup2, 1) := by decide +kernel
theorem dX6_finding_11 : decode cX6_finding 11 = .ok (.iaload, 1) := by decide +kernel
theorem dX6_finding_12 : decode cX6_finding 12 = .ok (.iconst 1, 1) := by decide +kernel
theorem dX6_finding_13 : decode cX6_finding 13 = .ok (.iadd, 1) := by decide +kernel
theorem dX6_finding_14 : decode cX6_finding 14 = .ok (.iastore, 1) := by decide +kernel
theorem dX6_finding_15 : decode cX6_finding 15 = .ok (.aload_n 0, 1) := by decide +kernel
theorem dX6_finding_16 : decode cX6_finding 16 = .ok (.getfield 19, 3) := by decide +kernel
theorem dX6_finding_19 : decode cX6_finding 19 = .ok (.iconst 0, 1) := by decide +kernel
theorem dX6_finding_20 : decode cX6_finding 20 = .ok (.dup2, 1) := by decide +kernel
theorem dX6_finding_21 : decode cX6_finding 21 = .ok (.iaload, 1) := by decide +kernel
theorem dX6_finding_22 : decode cX6_finding 22 = .ok (.iconst 1, 1) := by decide +kernel
theorem dX6_finding_23 : decode cX6_finding 23 = .ok (.iadd, 1) := by decide +kernel
theorem dX6_finding_24 : decode cX6_finding 24 = .ok (.iastore, 1) := by decide +kernel
theorem dX6_finding_25 : decode cX6_finding 25 = .ok (.iload_n 1, 1) := by decide +kernel
theorem dX6_finding_26 : decode cX6_finding 26 = .ok (.ireturn, 1) := by decide +kernel
theorem dX6_within_0 : decode cX6_within 0 = .ok (.iload_n 0, 1) := by decide +kernel
theorem dX6_within_1 : decode cX6_within 1 = .ok (.iload_n 1, 1) := by decide +kernel
theorem dX6_within_2 : decode cX6_within 2 = .ok (.if_icmp .lt 12, 3) := by decide +kernel
theorem dX6_within_5 : decode cX6_within 5 = .ok (.iload_n 0, 1) := by decide +kernel
theorem dX6_within_6 : decode cX6_within 6 = .ok (.iload_n 2, 1) := by decide +kernel
theorem dX6_within_7 : decode cX6_within 7 = .ok (.if_icmp .gt 7, 3) := by decide +kernel
theorem dX6_within_10 : decode cX6_within 10 = .ok (.iconst 1, 1) := by decide +kernel
theorem dX6_within_11 : decode cX6_within 11 = .ok (.goto 4, 3) := by decide +kernel
theorem dX6_within_14 : decode cX6_within 14 = .ok (.iconst 0, 1) := by decide +kernel
theorem dX6_within_15 : decode cX6_within 15 = .ok (.ireturn, 1) := by decide +kernel
theorem dX6_become_0 : decode cX6_become 0 = .ok (.aload_n 0, 1) := by decide +kernel
theorem dX6_become_1 : decode cX6_become 1 = .ok (.getfield 9, 3) := by decide +kernel
theorem dX6_become_4 : decode cX6_become 4 = .ok (.iload_n 1, 1) := by decide +kernel
theorem dX6_become_5 : decode cX6_become 5 = .ok (.iaload, 1) := by decide +kernel
theorem dX6_become_6 : decode cX6_become 6 = .ok (.istore_n 3, 1) := by decide +kernel
theorem dX6_become_7 : decode cX6_become 7 = .ok (.aload_n 0, 1) := by decide +kernel
theorem dX6_become_8 : decode cX6_become 8 = .ok (.getfield 9, 3) := by decide +kernel
theorem dX6_become_11 : decode cX6_become 11 = .ok (.iload_n 1, 1) := by decide +kernel
theorem dX6_become_12 : decode cX6_become 12 = .ok (.iload_n 2, 1) := by decide +kernel
theorem dX6_become_13 : decode cX6_become 13 = .ok (.iastore, 1) := by decide +kernel
theorem dX6_become_14 : decode cX6_become 14 = .ok (.iload_n 3, 1) := by decide +kernel
theorem dX6_become_15 : decode cX6_become 15 = .ok (.ireturn, 1) := by decide +kernel
theorem dX6_copyRow_0 : decode cX6_copyRow 0 = .ok (.iconst 0, 1) := by decide +kernel
theorem dX6_copyRow_1 : decode cX6_copyRow 1 = .ok (.istore_n 2, 1) := by decide +kernel
theorem dX6_copyRow_2 : decode cX6_copyRow 2 = .ok (.iload_n 2, 1) := by decide +kernel
theorem dX6_copyRow_3 : decode cX6_copyRow 3 = .ok (.sipush 132, 3) := by decide +kernel
theorem dX6_copyRow_6 : decode cX6_copyRow 6 = .ok (.if_icmp .ge 15, 3) := by decide +kernel
theorem dX6_copyRow_9 : decode cX6_copyRow 9 = .ok (.aload_n 1, 1) := by decide +kernel
theorem dX6_copyRow_10 : decode cX6_copyRow 10 = .ok (.iload_n 2, 1) := by decide +kernel
theorem dX6_copyRow_11 : decode cX6_copyRow 11 = .ok (.aload_n 0, 1) := by decide +kernel
theorem dX6_copyRow_12 : decode cX6_copyRow 12 = .ok (.iload_n 2, 1) := by decide +kernel
theorem dX6_copyRow_13 : decode cX6_copyRow 13 = .ok (.iaload, 1) := by decide +kernel
theorem dX6_copyRow_14 : decode cX6_copyRow 14 = .ok (.iastore, 1) := by decide +kernel
theorem dX6_copyRow_15 : decode cX6_copyRow 15 = .ok (.iinc 2 1, 3) := by decide +kernel
theorem dX6_copyRow_18 : decode cX6_copyRow 18 = .ok (.goto (-16), 3) := by decide +kernel
theorem dX6_copyRow_21 : decode cX6_copyRow 21 = .ok (.return_, 1) := by decide +kernel
theorem dX6_putBack_0 : decode cX6_putBack 0 = .ok (.aload_n 0, 1) := by decide +kernel
theorem dX6_putBack_1 : decode cX6_putBack 1 = .ok (.getfield 16, 3) := by decide +kernel
theorem dX6_putBack_4 : decode cX6_putBack 4 = .ok (.aload_n 0, 1) := by decide +kernel
theorem dX6_putBack_5 : decode cX6_putBack 5 = .ok (.getfield 9, 3) := by decide +kernel
theorem dX6_putBack_8 : decode cX6_putBack 8 = .ok (.invokestatic 70, 3) := by decide +kernel
theorem dX6_putBack_11 : decode cX6_putBack 11 = .ok (.iload_n 1, 1) := by decide +kernel
theorem dX6_putBack_12 : decode cX6_putBack 12 = .ok (.ireturn, 1) := by decide +kernel
theorem dX6_has_0 : decode cX6_has 0 = .ok (.iload_n 0, 1) := by decide +kernel
theorem dX6_has_1 : decode cX6_has 1 = .ok (.iload_n 1, 1) := by decide +kernel
theorem dX6_has_2 : decode cX6_has 2 = .ok (.ishr, 1) := by decide +kernel
theorem dX6_has_3 : decode cX6_has 3 = .ok (.iconst 1, 1) := by decide +kernel
theorem dX6_has_4 : decode cX6_has 4 = .ok (.iand, 1) := by decide +kernel
theorem dX6_has_5 : decode cX6_has 5 = .ok (.iconst 1, 1) := by decide +kernel
theorem dX6_has_6 : decode cX6_has 6 = .ok (.if_icmp .ne 7, 3) := by decide +kernel
theorem dX6_has_9 : decode cX6_has 9 = .ok (.iconst 1, 1) := by decide +kernel
theorem dX6_has_10 : decode cX6_has 10 = .ok (.goto 4, 3) := by decide +kernel
theorem dX6_has_13 : decode cX6_has 13 = .ok (.iconst 0, 1) := by decide +kernel
theorem dX6_has_14 : decode cX6_has 14 = .ok (.ireturn, 1) := by decide +kernel
theorem dX6_bits_0 : decode cX6_bits 0 = .ok (.iconst 0, 1) := by decide +kernel
theorem dX6_bits_1 : decode cX6_bits 1 = .ok (.istore_n 1, 1) := by decide +kernel
theorem dX6_bits_2 : decode cX6_bits 2 = .ok (.iload_n 0, 1) := by decide +kernel
theorem dX6_bits_3 : decode cX6_bits 3 = .ok (.istore_n 2, 1) := by decide +kernel
theorem dX6_bits_4 : decode cX6_bits 4 = .ok (.iload_n 2, 1) := by decide +kernel
theorem dX6_bits_5 : decode cX6_bits 5 = .ok (.ifCond .eq 15, 3) := by decide +kernel
theorem dX6_bits_8 : decode cX6_bits 8 = .ok (.iinc 1 1, 3) := by decide +kernel
theorem dX6_bits_11 : decode cX6_bits 11 = .ok (.iload_n 2, 1) := by decide +kernel
theorem dX6_bits_12 : decode cX6_bits 12 = .ok (.iload_n 2, 1) := by decide +kernel
theorem dX6_bits_13 : decode cX6_bits 13 = .ok (.iconst 1, 1) := by decide +kernel
theorem dX6_bits_14 : decode cX6_bits 14 = .ok (.isub, 1) := by decide +kernel
theorem dX6_bits_15 : decode cX6_bits 15 = .ok (.iand, 1) := by decide +kernel
theorem dX6_bits_16 : decode cX6_bits 16 = .ok (.istore_n 2, 1) := by decide +kernel
theorem dX6_bits_17 : decode cX6_bits 17 = .ok (.goto (-13), 3) := by decide +kernel
theorem dX6_bits_20 : decode cX6_bits 20 = .ok (.iload_n 1, 1) := by decide +kernel
theorem dX6_bits_21 : decode cX6_bits 21 = .ok (.ireturn, 1) := by decide +kernel
theorem dX6_isThing_0 : decode cX6_isThing 0 = .ok (.iload_n 1, 1) := by decide +kernel
theorem dX6_isThing_1 : decode cX6_isThing 1 = .ok (.iconst 0, 1) := by decide +kernel
theorem dX6_isThing_2 : decode cX6_isThing 2 = .ok (.aload_n 0, 1) := by decide +kernel
theorem dX6_isThing_3 : decode cX6_isThing 3 = .ok (.getfield 9, 3) := by decide +kernel
theorem dX6_isThing_6 : decode cX6_isThing 6 = .ok (.iconst 3, 1) := by decide +kernel
theorem dX6_isThing_7 : decode cX6_isThing 7 = .ok (.iaload, 1) := by decide +kernel
theorem dX6_isThing_8 : decode cX6_isThing 8 = .ok (.iconst 1, 1) := by decide +kernel
theorem dX6_isThing_9 : decode cX6_isThing 9 = .ok (.isub, 1) := by decide +kernel
theorem dX6_isThing_10 : decode cX6_isThing 10 = .ok (.invokestatic 74, 3) := by decide +kernel
theorem dX6_isThing_13 : decode cX6_isThing 13 = .ok (.ireturn, 1) := by decide +kernel
theorem dX6_isKind_0 : decode cX6_isKind 0 = .ok (.iload_n 0, 1) := by decide +kernel
theorem dX6_isKind_1 : decode cX6_isKind 1 = .ok (.iconst 0, 1) := by decide +kernel
theorem dX6_isKind_2 : decode cX6_isKind 2 = .ok (.bipush 6, 2) := by decide +kernel
theorem dX6_isKind_4 : decode cX6_isKind 4 = .ok (.invokestatic 74, 3) := by decide +kernel
theorem dX6_isKind_7 : decode cX6_isKind 7 = .ok (.ireturn, 1) := by decide +kernel
theorem dX6_at_0 : decode cX6_at 0 = .ok (.bipush 18, 2) := by decide +kernel
theorem dX6_at_2 : decode cX6_at 2 = .ok (.bipush 7, 2) := by decide +kernel
theorem dX6_at_4 : decode cX6_at 4 = .ok (.iload_n 0, 1) := by decide +kernel
theorem dX6_at_5 : decode cX6_at 5 = .ok (.imul, 1) := by decide +kernel
theorem dX6_at_6 : decode cX6_at 6 = .ok (.iadd, 1) := by decide +kernel
theorem dX6_at_7 : decode cX6_at 7 = .ok (.iload_n 1, 1) := by decide +kernel
theorem dX6_at_8 : decode cX6_at 8 = .ok (.iadd, 1) := by decide +kernel
theorem dX6_at_9 : decode cX6_at 9 = .ok (.ireturn, 1) := by decide +kernel
theorem dX6_thingIs_0 : decode cX6_thingIs 0 = .ok (.aload_n 0, 1) := by decide +kernel
theorem dX6_thingIs_1 : decode cX6_thingIs 1 = .ok (.getfield 9, 3) := by decide +kernel
theorem dX6_thingIs_4 : decode cX6_thingIs 4 = .ok (.iload_n 1, 1) := by decide +kernel
theorem dX6_thingIs_5 : decode cX6_thingIs 5 = .ok (.iload_n 2, 1) := by decide +kernel
theorem dX6_thingIs_6 : decode cX6_thingIs 6 = .ok (.invokestatic 78, 3) := by decide +kernel
theorem dX6_thingIs_9 : decode cX6_thingIs 9 = .ok (.iaload, 1) := by decide +kernel
theorem dX6_thingIs_10 : decode cX6_thingIs 10 = .ok (.ireturn, 1) := by decide +kernel
theorem dX6_comes_0 : decode cX6_comes 0 = .ok (.aload_n 0, 1) := by decide +kernel
theorem dX6_comes_1 : decode cX6_comes 1 = .ok (.getfield 9, 3) := by decide +kernel
theorem dX6_comes_4 : decode cX6_comes 4 = .ok (.iconst 3, 1) := by decide +kernel
theorem dX6_comes_5 : decode cX6_comes 5 = .ok (.iaload, 1) := by decide +kernel
theorem dX6_comes_6 : decode cX6_comes 6 = .ok (.istore 5, 2) := by decide +kernel
theorem dX6_comes_8 : decode cX6_comes 8 = .ok (.aload_n 0, 1) := by decide +kernel
theorem dX6_comes_9 : decode cX6_comes 9 = .ok (.getfield 9, 3) := by decide +kernel
theorem dX6_comes_12 : decode cX6_comes 12 = .ok (.iload 5, 2) := by decide +kernel
theorem dX6_comes_14 : decode cX6_comes 14 = .ok (.iconst 0, 1) := by decide +kernel
theorem dX6_comes_15 : decode cX6_comes 15 = .ok (.invokestatic 78, 3) := by decide +kernel
theorem dX6_comes_18 : decode cX6_comes 18 = .ok (.iload_n 1, 1) := by decide +kernel
theorem dX6_comes_19 : decode cX6_comes 19 = .ok (.iastore, 1) := by decide +kernel
theorem dX6_comes_20 : decode cX6_comes 20 = .ok (.aload_n 0, 1) := by decide +kernel
theorem dX6_comes_21 : decode cX6_comes 21 = .ok (.getfield 9, 3) := by decide +kernel
theorem dX6_comes_24 : decode cX6_comes 24 = .ok (.iload 5, 2) := by decide +kernel
theorem dX6_comes_26 : decode cX6_comes 26 = .ok (.iconst 1, 1) := by decide +kernel
theorem dX6_comes_27 : decode cX6_comes 27 = .ok (.invokestatic 78, 3) := by decide +kernel
theorem dX6_comes_30 : decode cX6_comes 30 = .ok (.iload_n 2, 1) := by decide +kernel
theorem dX6_comes_31 : decode cX6_comes 31 = .ok (.iastore, 1) := by decide +kernel
theorem dX6_comes_32 : decode cX6_comes 32 = .ok (.aload_n 0, 1) := by decide +kernel
theorem dX6_comes_33 : decode cX6_comes 33 = .ok (.getfield 9, 3) := by decide +kernel
theorem dX6_comes_36 : decode cX6_comes 36 = .ok (.iload 5, 2) := by decide +kernel
theorem dX6_comes_38 : decode cX6_comes 38 = .ok (.iconst 2, 1) := by decide +kernel
theorem dX6_comes_39 : decode cX6_comes 39 = .ok (.invokestatic 78, 3) := by decide +kernel
theorem dX6_comes_42 : decode cX6_comes 42 = .ok (.iload_n 3, 1) := by decide +kernel
theorem dX6_comes_43 : decode cX6_comes 43 = .ok (.iastore, 1) := by decide +kernel
theorem dX6_comes_44 : decode cX6_comes 44 = .ok (.aload_n 0, 1) := by decide +kernel
theorem dX6_comes_45 : decode cX6_comes 45 = .ok (.getfield 9, 3) := by decide +kernel
theorem dX6_comes_48 : decode cX6_comes 48 = .ok (.iload 5, 2) := by decide +kernel
theorem dX6_comes_50 : decode cX6_comes 50 = .ok (.iconst 3, 1) := by decide +kernel
theorem dX6_comes_51 : decode cX6_comes 51 = .ok (.invokestatic 78, 3) := by decide +kernel
theorem dX6_comes_54 : decode cX6_comes 54 = .ok (.iload 4, 2) := by decide +kernel
theorem dX6_comes_56 : decode cX6_comes 56 = .ok (.iastore, 1) := by decide +kernel
theorem dX6_comes_57 : decode cX6_comes 57 = .ok (.aload_n 0, 1) := by decide +kernel
theorem dX6_comes_58 : decode cX6_comes 58 = .ok (.getfield 9, 3) := by decide +kernel
theorem dX6_comes_61 : decode cX6_comes 61 = .ok (.iload 5, 2) := by decide +kernel
theorem dX6_comes_63 : decode cX6_comes 63 = .ok (.iconst 4, 1) := by decide +kernel
theorem dX6_comes_64 : decode cX6_comes 64 = .ok (.invokestatic 78, 3) := by decide +kernel
theorem dX6_comes_67 : decode cX6_comes 67 = .ok (.iconst 0, 1) := by decide +kernel
theorem dX6_comes_68 : decode cX6_comes 68 = .ok (.iastore, 1) := by decide +kernel
theorem dX6_comes_69 : decode cX6_comes 69 = .ok (.aload_n 0, 1) := by decide +kernel
theorem dX6_comes_70 : decode cX6_comes 70 = .ok (.getfield 9, 3) := by decide +kernel
theorem dX6_comes_73 : decode cX6_comes 73 = .ok (.iload 5, 2) := by decide +kernel
theorem dX6_comes_75 : decode cX6_comes 75 = .ok (.iconst 5, 1) := by decide +kernel
theorem dX6_comes_76 : decode cX6_comes 76 = .ok (.invokestatic 78, 3) := by decide +kernel
theorem dX6_comes_79 : decode cX6_comes 79 = .ok (.iconst 0, 1) := by decide +kernel
theorem dX6_comes_80 : decode cX6_comes 80 = .ok (.iastore, 1) := by decide +kernel
theorem dX6_comes_81 : decode cX6_comes 81 = .ok (.aload_n 0, 1) := by decide +kernel
theorem dX6_comes_82 : decode cX6_comes 82 = .ok (.getfield 9, 3) := by decide +kernel
theorem dX6_comes_85 : decode cX6_comes 85 = .ok (.iload 5, 2) := by decide +kernel
theorem dX6_comes_87 : decode cX6_comes 87 = .ok (.bipush 6, 2) := by decide +kernel
theorem dX6_comes_89 : decode cX6_comes 89 = .ok (.invokestatic 78, 3) := by decide +kernel
theorem dX6_comes_92 : decode cX6_comes 92 = .ok (.iconst 0, 1) := by decide +kernel
theorem dX6_comes_93 : decode cX6_comes 93 = .ok (.iastore, 1) := by decide +kernel
theorem dX6_comes_94 : decode cX6_comes 94 = .ok (.aload_n 0, 1) := by decide +kernel
theorem dX6_comes_95 : decode cX6_comes 95 = .ok (.getfield 9, 3) := by decide +kernel
theorem dX6_comes_98 : decode cX6_comes 98 = .ok (.iconst 3, 1) := by decide +kernel
theorem dX6_comes_99 : decode cX6_comes 99 = .ok (.dup2, 1) := by decide +kernel
theorem dX6_comes_100 : decode cX6_comes 100 = .ok (.iaload, 1) := by decide +kernel
theorem dX6_comes_101 : decode cX6_comes 101 = .ok (.iconst 1, 1) := by decide +kernel
theorem dX6_comes_102 : decode cX6_comes 102 = .ok (.iadd, 1) := by decide +kernel
theorem dX6_comes_103 : decode cX6_comes 103 = .ok (.iastore, 1) := by decide +kernel
theorem dX6_comes_104 : decode cX6_comes 104 = .ok (.iload 5, 2) := by decide +kernel
theorem dX6_comes_106 : decode cX6_comes 106 = .ok (.ireturn, 1) := by decide +kernel
theorem dX6_thing_0 : decode cX6_thing 0 = .ok (.iload_n 1, 1) := by decide +kernel
theorem dX6_thing_1 : decode cX6_thing 1 = .ok (.invokestatic 82, 3) := by decide +kernel
theorem dX6_thing_4 : decode cX6_thing 4 = .ok (.ifCond .ne 10, 3) := by decide +kernel
theorem dX6_thing_7 : decode cX6_thing 7 = .ok (.aload_n 0, 1) := by decide +kernel
theorem dX6_thing_8 : decode cX6_thing 8 = .ok (.ldc 69, 2) := by decide +kernel
theorem dX6_thing_10 : decode cX6_thing 10 = .ok (.invokevirtual 86, 3) := by decide +kernel
theorem dX6_thing_13 : decode cX6_thing 13 = .ok (.ireturn, 1) := by decide +kernel
theorem dX6_thing_14 : decode cX6_thing 14 = .ok (.aload_n 0, 1) := by decide +kernel
theorem dX6_thing_15 : decode cX6_thing 15 = .ok (.getfield 9, 3) := by decide +kernel
theorem dX6_thing_18 : decode cX6_thing 18 = .ok (.iconst 3, 1) := by decide +kernel
theorem dX6_thing_19 : decode cX6_thing 19 = .ok (.iaload, 1) := by decide +kernel
theorem dX6_thing_20 : decode cX6_thing 20 = .ok (.bipush 10, 2) := by decide +kernel
theorem dX6_thing_22 : decode cX6_thing 22 = .ok (.if_icmp .ne 12, 3) := by decide +kernel
theorem dX6_thing_25 : decode cX6_thing 25 = .ok (.aload_n 0, 1) := by decide +kernel
theorem dX6_thing_26 : decode cX6_thing 26 = .ok (.ldc 90, 2) := by decide +kernel
theorem dX6_thing_28 : decode cX6_thing 28 = .ok (.invokevirtual 86, 3) := by decide +kernel
theorem dX6_thing_31 : decode cX6_thing 31 = .ok (.goto 12, 3) := by decide +kernel
theorem dX6_thing_34 : decode cX6_thing 34 = .ok (.aload_n 0, 1) := by decide +kernel
theorem dX6_thing_35 : decode cX6_thing 35 = .ok (.iload_n 1, 1) := by decide +kernel
theorem dX6_thing_36 : decode cX6_thing 36 = .ok (.iconst 2, 1) := by decide +kernel
theorem dX6_thing_37 : decode cX6_thing 37 = .ok (.bipush 10, 2) := by decide +kernel
theorem dX6_thing_39 : decode cX6_thing 39 = .ok (.iconst 0, 1) := by decide +kernel
theorem dX6_thing_40 : decode cX6_thing 40 = .ok (.invokevirtual 91, 3) := by decide +kernel
theorem dX6_thing_43 : decode cX6_thing 43 = .ok (.ireturn, 1) := by decide +kernel
theorem dX6_above_0 : decode cX6_above 0 = .ok (.iload_n 0, 1) := by decide +kernel
theorem dX6_above_1 : decode cX6_above 1 = .ok (.ifCond .ne 7, 3) := by decide +kernel
theorem dX6_above_4 : decode cX6_above 4 = .ok (.iconst (-1), 1) := by decide +kernel
theorem dX6_above_5 : decode cX6_above 5 = .ok (.goto 31, 3) := by decide +kernel
theorem dX6_above_8 : decode cX6_above 8 = .ok (.iload_n 0, 1) := by decide +kernel
theorem dX6_above_9 : decode cX6_above 9 = .ok (.iconst 5, 1) := by decide +kernel
theorem dX6_above_10 : decode cX6_above 10 = .ok (.if_icmp .ne 7, 3) := by decide +kernel
theorem dX6_above_13 : decode cX6_above 13 = .ok (.iconst 1, 1) := by decide +kernel
theorem dX6_above_14 : decode cX6_above 14 = .ok (.goto 22, 3) := by decide +kernel
theorem dX6_above_17 : decode cX6_above 17 = .ok (.iload_n 0, 1) := by decide +kernel
theorem dX6_above_18 : decode cX6_above 18 = .ok (.iconst 3, 1) := by decide +kernel
theorem dX6_above_19 : decode cX6_above 19 = .ok (.if_icmp .ne 7, 3) := by decide +kernel
theorem dX6_above_22 : decode cX6_above 22 = .ok (.iconst 2, 1) := by decide +kernel
theorem dX6_above_23 : decode cX6_above 23 = .ok (.goto 13, 3) := by decide +kernel
theorem dX6_above_26 : decode cX6_above 26 = .ok (.iload_n 0, 1) := by decide +kernel
theorem dX6_above_27 : decode cX6_above 27 = .ok (.iconst 4, 1) := by decide +kernel
theorem dX6_above_28 : decode cX6_above 28 = .ok (.if_icmp .ne 7, 3) := by decide +kernel
theorem dX6_above_31 : decode cX6_above 31 = .ok (.iconst 3, 1) := by decide +kernel
theorem dX6_above_32 : decode cX6_above 32 = .ok (.goto 4, 3) := by decide +kernel
theorem dX6_above_35 : decode cX6_above 35 = .ok (.iconst 0, 1) := by decide +kernel
theorem dX6_above_36 : decode cX6_above 36 = .ok (.ireturn, 1) := by decide +kernel
theorem dX6_isUnder_0 : decode cX6_isUnder 0 = .ok (.iload_n 0, 1) := by decide +kernel
theorem dX6_isUnder_1 : decode cX6_isUnder 1 = .ok (.istore_n 2, 1) := by decide +kernel
theorem dX6_isUnder_2 : decode cX6_isUnder 2 = .ok (.iload_n 2, 1) := by decide +kernel
theorem dX6_isUnder_3 : decode cX6_isUnder 3 = .ok (.ifCond .lt 16, 3) := by decide +kernel
theorem dX6_isUnder_6 : decode cX6_isUnder 6 = .ok (.iload_n 2, 1) := by decide +kernel
theorem dX6_isUnder_7 : decode cX6_isUnder 7 = .ok (.iload_n 1, 1) := by decide +kernel
theorem dX6_isUnder_8 : decode cX6_isUnder 8 = .ok (.if_icmp .eq 11, 3) := by decide +kernel
theorem dX6_isUnder_11 : decode cX6_isUnder 11 = .ok (.iload_n 2, 1) := by decide +kernel
theorem dX6_isUnder_12 : decode cX6_isUnder 12 = .ok (.invokestatic 95, 3) := by decide +kernel
theorem dX6_isUnder_15 : decode cX6_isUnder 15 = .ok (.istore_n 2, 1) := by decide +kernel
theorem dX6_isUnder_16 : decode cX6_isUnder 16 = .ok (.goto (-14), 3) := by decide +kernel
theorem dX6_isUnder_19 : decode cX6_isUnder 19 = .ok (.iload_n 2, 1) := by decide +kernel
theorem dX6_isUnder_20 : decode cX6_isUnder 20 = .ok (.ifCond .lt 7, 3) := by decide +kernel
theorem dX6_isUnder_23 : decode cX6_isUnder 23 = .ok (.iconst 1, 1) := by decide +kernel
theorem dX6_isUnder_24 : decode cX6_isUnder 24 = .ok (.goto 4, 3) := by decide +kernel
theorem dX6_isUnder_27 : decode cX6_isUnder 27 = .ok (.iconst 0, 1) := by decide +kernel
theorem dX6_isUnder_28 : decode cX6_isUnder 28 = .ok (.ireturn, 1) := by decide +kernel
theorem dX6_takes_0 : decode cX6_takes 0 = .ok (.aload_n 0, 1) := by decide +kernel
theorem dX6_takes_1 : decode cX6_takes 1 = .ok (.iload_n 1, 1) := by decide +kernel
theorem dX6_takes_2 : decode cX6_takes 2 = .ok (.iconst 0, 1) := by decide +kernel
theorem dX6_takes_3 : decode cX6_takes 3 = .ok (.invokevirtual 98, 3) := by decide +kernel
theorem dX6_takes_6 : decode cX6_takes 6 = .ok (.istore_n 2, 1) := by decide +kernel
theorem dX6_takes_7 : decode cX6_takes 7 = .ok (.iload_n 2, 1) := by decide +kernel
theorem dX6_takes_8 : decode cX6_takes 8 = .ok (.iconst 1, 1) := by decide +kernel
theorem dX6_takes_9 : decode cX6_takes 9 = .ok (.if_icmp .ne 7, 3) := by decide +kernel
theorem dX6_takes_12 : decode cX6_takes 12 = .ok (.iconst 1, 1) := by decide +kernel
theorem dX6_takes_13 : decode cX6_takes 13 = .ok (.goto 30, 3) := by decide +kernel
theorem dX6_takes_16 : decode cX6_takes 16 = .ok (.iload_n 2, 1) := by decide +kernel
theorem dX6_takes_17 : decode cX6_takes 17 = .ok (.iconst 5, 1) := by decide +kernel
theorem dX6_takes_18 : decode cX6_takes 18 = .ok (.if_icmp .eq 8, 3) := by decide +kernel
theorem dX6_takes_21 : decode cX6_takes 21 = .ok (.iload_n 2, 1) := by decide +kernel
theorem dX6_takes_22 : decode cX6_takes 22 = .ok (.iconst 4, 1) := by decide +kernel
theorem dX6_takes_23 : decode cX6_takes 23 = .ok (.if_icmp .ne 7, 3) := by decide +kernel
theorem dX6_takes_26 : decode cX6_takes 26 = .ok (.iconst 5, 1) := by decide +kernel
theorem dX6_takes_27 : decode cX6_takes 27 = .ok (.goto 16, 3) := by decide +kernel
theorem dX6_takes_30 : decode cX6_takes 30 = .ok (.iload_n 2, 1) := by decide +kernel
theorem dX6_takes_31 : decode cX6_takes 31 = .ok (.iconst 2, 1) := by decide +kernel
theorem dX6_takes_32 : decode cX6_takes 32 = .ok (.invokestatic 101, 3) := by decide +kernel
theorem dX6_takes_35 : decode cX6_takes 35 = .ok (.ifCond .eq 7, 3) := by decide +kernel
theorem dX6_takes_38 : decode cX6_takes 38 = .ok (.iconst 4, 1) := by decide +kernel
theorem dX6_takes_39 : decode cX6_takes 39 = .ok (.goto 4, 3) := by decide +kernel
theorem dX6_takes_42 : decode cX6_takes 42 = .ok (.iconst 3, 1) := by decide +kernel
theorem dX6_takes_43 : decode cX6_takes 43 = .ok (.ireturn, 1) := by decide +kernel
theorem dX6_stains_0 : decode cX6_stains 0 = .ok (.aload_n 0, 1) := by decide +kernel
theorem dX6_stains_1 : decode cX6_stains 1 = .ok (.iload_n 1, 1) := by decide +kernel
theorem dX6_stains_2 : decode cX6_stains 2 = .ok (.iconst 0, 1) := by decide +kernel
theorem dX6_stains_3 : decode cX6_stains 3 = .ok (.invokevirtual 98, 3) := by decide +kernel
theorem dX6_stains_6 : decode cX6_stains 6 = .ok (.tableswitch 44 1 6 #[38, 40, 44, 44, 40, 42], 38) := by decide +kernel
theorem dX6_stains_44 : decode cX6_stains 44 = .ok (.iconst 0, 1) := by decide +kernel
theorem dX6_stains_45 : decode cX6_stains 45 = .ok (.ireturn, 1) := by decide +kernel
theorem dX6_stains_46 : decode cX6_stains 46 = .ok (.iconst 2, 1) := by decide +kernel
theorem dX6_stains_47 : decode cX6_stains 47 = .ok (.ireturn, 1) := by decide +kernel
theorem dX6_stains_48 : decode cX6_stains 48 = .ok (.iconst 4, 1) := by decide +kernel
theorem dX6_stains_49 : decode cX6_stains 49 = .ok (.ireturn, 1) := by decide +kernel
theorem dX6_stains_50 : decode cX6_stains 50 = .ok (.iconst 1, 1) := by decide +kernel
theorem dX6_stains_51 : decode cX6_stains 51 = .ok (.ireturn, 1) := by decide +kernel
theorem dX6_left_0 : decode cX6_left 0 = .ok (.aload_n 0, 1) := by decide +kernel
theorem dX6_left_1 : decode cX6_left 1 = .ok (.iload_n 1, 1) := by decide +kernel
theorem dX6_left_2 : decode cX6_left 2 = .ok (.iconst 2, 1) := by decide +kernel
theorem dX6_left_3 : decode cX6_left 3 = .ok (.invokevirtual 98, 3) := by decide +kernel
theorem dX6_left_6 : decode cX6_left 6 = .ok (.istore_n 2, 1) := by decide +kernel
theorem dX6_left_7 : decode cX6_left 7 = .ok (.aload_n 0, 1) := by decide +kernel
theorem dX6_left_8 : decode cX6_left 8 = .ok (.iload_n 1, 1) := by decide +kernel
theorem dX6_left_9 : decode cX6_left 9 = .ok (.bipush 6, 2) := by decide +kernel
theorem dX6_left_11 : decode cX6_left 11 = .ok (.invokevirtual 98, 3) := by decide +kernel
theorem dX6_left_14 : decode cX6_left 14 = .ok (.istore_n 3, 1) := by decide +kernel
theorem dX6_left_15 : decode cX6_left 15 = .ok (.aload_n 0, 1) := by decide +kernel
theorem dX6_left_16 : decode cX6_left 16 = .ok (.iload_n 1, 1) := by decide +kernel
theorem dX6_left_17 : decode cX6_left 17 = .ok (.iconst 0, 1) := by decide +kernel
theorem dX6_left_18 : decode cX6_left 18 = .ok (.invokevirtual 98, 3) := by decide +kernel
theorem dX6_left_21 : decode cX6_left 21 = .ok (.istore 4, 2) := by decide +kernel
theorem dX6_left_23 : decode cX6_left 23 = .ok (.iload 4, 2) := by decide +kernel
theorem dX6_left_25 : decode cX6_left 25 = .ok (.iconst 1, 1) := by decide +kernel
theorem dX6_left_26 : decode cX6_left 26 = .ok (.invokestatic 101, 3) := by decide +kernel
theorem dX6_left_29 : decode cX6_left 29 = .ok (.ifCond .eq 7, 3) := by decide +kernel
theorem dX6_left_32 : decode cX6_left 32 = .ok (.iload_n 2, 1) := by decide +kernel
theorem dX6_left_33 : decode cX6_left 33 = .ok (.iconst 2, 1) := by decide +kernel
theorem dX6_left_34 : decode cX6_left 34 = .ok (.idiv, 1) := by decide +kernel
theorem dX6_left_35 : decode cX6_left 35 = .ok (.ireturn, 1) := by decide +kernel
theorem dX6_left_36 : decode cX6_left 36 = .ok (.iload 4, 2) := by decide +kernel
theorem dX6_left_38 : decode cX6_left 38 = .ok (.iconst 3, 1) := by decide +kernel
theorem dX6_left_39 : decode cX6_left 39 = .ok (.invokestatic 101, 3) := by decide +kernel
theorem dX6_left_42 : decode cX6_left 42 = .ok (.ifCond .eq 25, 3) := by decide +kernel
theorem dX6_left_45 : decode cX6_left 45 = .ok (.iconst 0, 1) := by decide +kernel
theorem dX6_left_46 : decode cX6_left 46 = .ok (.iload_n 2, 1) := by decide +kernel
theorem dX6_left_47 : decode cX6_left 47 = .ok (.iload_n 3, 1) := by decide +kernel
theorem dX6_left_48 : decode cX6_left 48 = .ok (.iconst 2, 1) := by decide +kernel
theorem dX6_left_49 : decode cX6_left 49 = .ok (.idiv, 1) := by decide +kernel
theorem dX6_left_50 : decode cX6_left 50 = .ok (.isub, 1) := by decide +kernel
theorem dX6_left_51 : decode cX6_left 51 = .ok (.invokestatic 105, 3) := by decide +kernel
theorem dX6_left_54 : decode cX6_left 54 = .ok (.iload 4, 2) := by decide +kernel
theorem dX6_left_56 : decode cX6_left 56 = .ok (.iconst 4, 1) := by decide +kernel
theorem dX6_left_57 : decode cX6_left 57 = .ok (.if_icmp .ne 7, 3) := by decide +kernel
theorem dX6_left_60 : decode cX6_left 60 = .ok (.iconst 5, 1) := by decide +kernel
theorem dX6_left_61 : decode cX6_left 61 = .ok (.goto 4, 3) := by decide +kernel
theorem dX6_left_64 : decode cX6_left 64 = .ok (.iconst 0, 1) := by decide +kernel
theorem dX6_left_65 : decode cX6_left 65 = .ok (.iadd, 1) := by decide +kernel
theorem dX6_left_66 : decode cX6_left 66 = .ok (.ireturn, 1) := by decide +kernel
theorem dX6_left_67 : decode cX6_left 67 = .ok (.iload 4, 2) := by decide +kernel
theorem dX6_left_69 : decode cX6_left 69 = .ok (.bipush 6, 2) := by decide +kernel
theorem dX6_left_71 : decode cX6_left 71 = .ok (.if_icmp .ne 15, 3) := by decide +kernel
theorem dX6_left_74 : decode cX6_left 74 = .ok (.iload_n 3, 1) := by decide +kernel
theorem dX6_left_75 : decode cX6_left 75 = .ok (.ifCond .ne 7, 3) := by decide +kernel
theorem dX6_left_78 : decode cX6_left 78 = .ok (.iload_n 2, 1) := by decide +kernel
theorem dX6_left_79 : decode cX6_left 79 = .ok (.goto 14, 3) := by decide +kernel
theorem dX6_left_82 : decode cX6_left 82 = .ok (.iconst 0, 1) := by decide +kernel
theorem dX6_left_83 : decode cX6_left 83 = .ok (.goto 10, 3) := by decide +kernel
theorem dX6_left_86 : decode cX6_left 86 = .ok (.iconst 0, 1) := by decide +kernel
theorem dX6_left_87 : decode cX6_left 87 = .ok (.iload_n 2, 1) := by decide +kernel
theorem dX6_left_88 : decode cX6_left 88 = .ok (.iload_n 3, 1) := by decide +kernel
theorem dX6_left_89 : decode cX6_left 89 = .ok (.isub, 1) := by decide +kernel
theorem dX6_left_90 : decode cX6_left 90 = .ok (.invokestatic 105, 3) := by decide +kernel
theorem dX6_left_93 : decode cX6_left 93 = .ok (.ireturn, 1) := by decide +kernel
theorem dX6_of_0 : decode cX6_of 0 = .ok (.aload_n 0, 1) := by decide +kernel
theorem dX6_of_1 : decode cX6_of 1 = .ok (.iload_n 1, 1) := by decide +kernel
theorem dX6_of_2 : decode cX6_of 2 = .ok (.invokevirtual 110, 3) := by decide +kernel
theorem dX6_of_5 : decode cX6_of 5 = .ok (.ifCond .eq 13, 3) := by decide +kernel
theorem dX6_of_8 : decode cX6_of 8 = .ok (.iload_n 2, 1) := by decide +kernel
theorem dX6_of_9 : decode cX6_of 9 = .ok (.iconst 0, 1) := by decide +kernel
theorem dX6_of_10 : decode cX6_of 10 = .ok (.bipush 9, 2) := by decide +kernel
theorem dX6_of_12 : decode cX6_of 12 = .ok (.invokestatic 74, 3) := by decide +kernel
theorem dX6_of_15 : decode cX6_of 15 = .ok (.ifCond .ne 10, 3) := by decide +kernel
theorem dX6_of_18 : decode cX6_of 18 = .ok (.aload_n 0, 1) := by decide +kernel
theorem dX6_of_19 : decode cX6_of 19 = .ok (.ldc 69, 2) := by decide +kernel
theorem dX6_of_21 : decode cX6_of 21 = .ok (.invokevirtual 86, 3) := by decide +kernel
theorem dX6_of_24 : decode cX6_of 24 = .ok (.ireturn, 1) := by decide +kernel
theorem dX6_of_25 : decode cX6_of 25 = .ok (.iload_n 2, 1) := by decide +kernel
theorem dX6_of_26 : decode cX6_of 26 = .ok (.bipush 7, 2) := by decide +kernel
theorem dX6_of_28 : decode cX6_of 28 = .ok (.if_icmp .ge 12, 3) := by decide +kernel
theorem dX6_of_31 : decode cX6_of 31 = .ok (.aload_n 0, 1) := by decide +kernel
theorem dX6_of_32 : decode cX6_of 32 = .ok (.iload_n 1, 1) := by decide +kernel
theorem dX6_of_33 : decode cX6_of 33 = .ok (.iload_n 2, 1) := by decide +kernel
theorem dX6_of_34 : decode cX6_of 34 = .ok (.invokevirtual 98, 3) := by decide +kernel
theorem dX6_of_37 : decode cX6_of 37 = .ok (.goto 36, 3) := by decide +kernel
theorem dX6_of_40 : decode cX6_of 40 = .ok (.iload_n 2, 1) := by decide +kernel
theorem dX6_of_41 : decode cX6_of 41 = .ok (.bipush 7, 2) := by decide +kernel
theorem dX6_of_43 : decode cX6_of 43 = .ok (.if_icmp .ne 11, 3) := by decide +kernel
theorem dX6_of_46 : decode cX6_of 46 = .ok (.aload_n 0, 1) := by decide +kernel
theorem dX6_of_47 : decode cX6_of 47 = .ok (.iload_n 1, 1) := by decide +kernel
theorem dX6_of_48 : decode cX6_of 48 = .ok (.invokevirtual 113, 3) := by decide +kernel
theorem dX6_of_51 : decode cX6_of 51 = .ok (.goto 22, 3) := by decide +kernel
theorem dX6_of_54 : decode cX6_of 54 = .ok (.iload_n 2, 1) := by decide +kernel
theorem dX6_of_55 : decode cX6_of 55 = .ok (.bipush 8, 2) := by decide +kernel
theorem dX6_of_57 : decode cX6_of 57 = .ok (.if_icmp .ne 11, 3) := by decide +kernel
theorem dX6_of_60 : decode cX6_of 60 = .ok (.aload_n 0, 1) := by decide +kernel
theorem dX6_of_61 : decode cX6_of 61 = .ok (.iload_n 1, 1) := by decide +kernel
theorem dX6_of_62 : decode cX6_of 62 = .ok (.invokevirtual 116, 3) := by decide +kernel
theorem dX6_of_65 : decode cX6_of 65 = .ok (.goto 8, 3) := by decide +kernel
theorem dX6_of_68 : decode cX6_of 68 = .ok (.aload_n 0, 1) := by decide +kernel
theorem dX6_of_69 : decode cX6_of 69 = .ok (.iload_n 1, 1) := by decide +kernel
theorem dX6_of_70 : decode cX6_of 70 = .ok (.invokevirtual 119, 3) := by decide +kernel
theorem dX6_of_73 : decode cX6_of 73 = .ok (.ireturn, 1) := by decide +kernel
theorem dX6_change_0 : decode cX6_change 0 = .ok (.iload_n 2, 1) := by decide +kernel
theorem dX6_change_1 : decode cX6_change 1 = .ok (.ifCond .ne 10, 3) := by decide +kernel
theorem dX6_change_4 : decode cX6_change 4 = .ok (.iload_n 3, 1) := by decide +kernel
theorem dX6_change_5 : decode cX6_change 5 = .ok (.invokestatic 82, 3) := by decide +kernel
theorem dX6_change_8 : decode cX6_change 8 = .ok (.ifCond .ne 47, 3) := by decide +kernel
theorem dX6_change_11 : decode cX6_change 11 = .ok (.iload_n 2, 1) := by decide +kernel
theorem dX6_change_12 : decode cX6_change 12 = .ok (.iconst 1, 1) := by decide +kernel
theorem dX6_change_13 : decode cX6_change 13 = .ok (.if_icmp .ne 13, 3) := by decide +kernel
theorem dX6_change_16 : decode cX6_change 16 = .ok (.iload_n 3, 1) := by decide +kernel
theorem dX6_change_17 : decode cX6_change 17 = .ok (.iconst 1, 1) := by decide +kernel
theorem dX6_change_18 : decode cX6_change 18 = .ok (.bipush 9, 2) := by decide +kernel
theorem dX6_change_20 : decode cX6_change 20 = .ok (.invokestatic 74, 3) := by decide +kernel
theorem dX6_change_23 : decode cX6_change 23 = .ok (.ifCond .ne 32, 3) := by decide +kernel
theorem dX6_change_26 : decode cX6_change 26 = .ok (.iload_n 2, 1) := by decide +kernel
theorem dX6_change_27 : decode cX6_change 27 = .ok (.iconst 2, 1) := by decide +kernel
theorem dX6_change_28 : decode cX6_change 28 = .ok (.if_icmp .ne 13, 3) := by decide +kernel
theorem dX6_change_31 : decode cX6_change 31 = .ok (.iload_n 3, 1) := by decide +kernel
theorem dX6_change_32 : decode cX6_change 32 = .ok (.iconst 0, 1) := by decide +kernel
theorem dX6_change_33 : decode cX6_change 33 = .ok (.bipush 99, 2) := by decide +kernel
theorem dX6_change_35 : decode cX6_change 35 = .ok (.invokestatic 74, 3) := by decide +kernel
theorem dX6_change_38 : decode cX6_change 38 = .ok (.ifCond .ne 17, 3) := by decide +kernel
theorem dX6_change_41 : decode cX6_change 41 = .ok (.iload_n 2, 1) := by decide +kernel
theorem dX6_change_42 : decode cX6_change 42 = .ok (.iconst 3, 1) := by decide +kernel
theorem dX6_change_43 : decode cX6_change 43 = .ok (.if_icmp .ne 16, 3) := by decide +kernel
theorem dX6_change_46 : decode cX6_change 46 = .ok (.iload_n 3, 1) := by decide +kernel
theorem dX6_change_47 : decode cX6_change 47 = .ok (.iconst 0, 1) := by decide +kernel
theorem dX6_change_48 : decode cX6_change 48 = .ok (.iconst 1, 1) := by decide +kernel
theorem dX6_change_49 : decode cX6_change 49 = .ok (.invokestatic 74, 3) := by decide +kernel
theorem dX6_change_52 : decode cX6_change 52 = .ok (.ifCond .eq 7, 3) := by decide +kernel
theorem dX6_change_55 : decode cX6_change 55 = .ok (.iconst 1, 1) := by decide +kernel
theorem dX6_change_56 : decode cX6_change 56 = .ok (.goto 4, 3) := by decide +kernel
theorem dX6_change_59 : decode cX6_change 59 = .ok (.iconst 0, 1) := by decide +kernel
theorem dX6_change_60 : decode cX6_change 60 = .ok (.istore 4, 2) := by decide +kernel
theorem dX6_change_62 : decode cX6_change 62 = .ok (.aload_n 0, 1) := by decide +kernel
theorem dX6_change_63 : decode cX6_change 63 = .ok (.iload_n 1, 1) := by decide +kernel
theorem dX6_change_64 : decode cX6_change 64 = .ok (.invokevirtual 110, 3) := by decide +kernel
theorem dX6_change_67 : decode cX6_change 67 = .ok (.ifCond .eq 21, 3) := by decide +kernel
theorem dX6_change_70 : decode cX6_change 70 = .ok (.iload 4, 2) := by decide +kernel
theorem dX6_change_72 : decode cX6_change 72 = .ok (.ifCond .eq 16, 3) := by decide +kernel
theorem dX6_change_75 : decode cX6_change 75 = .ok (.aload_n 0, 1) := by decide +kernel
theorem dX6_change_76 : decode cX6_change 76 = .ok (.iload_n 1, 1) := by decide +kernel
theorem dX6_change_77 : decode cX6_change 77 = .ok (.iload_n 2, 1) := by decide +kernel
theorem dX6_change_78 : decode cX6_change 78 = .ok (.invokestatic 78, 3) := by decide +kernel
theorem dX6_change_81 : decode cX6_change 81 = .ok (.iload_n 3, 1) := by decide +kernel
theorem dX6_change_82 : decode cX6_change 82 = .ok (.invokevirtual 122, 3) := by decide +kernel
theorem dX6_change_85 : decode cX6_change 85 = .ok (.goto 9, 3) := by decide +kernel
theorem dX6_change_88 : decode cX6_change 88 = .ok (.aload_n 0, 1) := by decide +kernel
theorem dX6_change_89 : decode cX6_change 89 = .ok (.ldc 69, 2) := by decide +kernel
theorem dX6_change_91 : decode cX6_change 91 = .ok (.invokevirtual 86, 3) := by decide +kernel
theorem dX6_change_94 : decode cX6_change 94 = .ok (.ireturn, 1) := by decide +kernel
theorem dX6_rule_0 : decode cX6_rule 0 = .ok (.iload_n 1, 1) := by decide +kernel
theorem dX6_rule_1 : decode cX6_rule 1 = .ok (.ifCond .ne 13, 3) := by decide +kernel
theorem dX6_rule_4 : decode cX6_rule 4 = .ok (.iload_n 2, 1) := by decide +kernel
theorem dX6_rule_5 : decode cX6_rule 5 = .ok (.iconst 1, 1) := by decide +kernel
theorem dX6_rule_6 : decode cX6_rule 6 = .ok (.bipush 40, 2) := by decide +kernel
theorem dX6_rule_8 : decode cX6_rule 8 = .ok (.invokestatic 74, 3) := by decide +kernel
theorem dX6_rule_11 : decode cX6_rule 11 = .ok (.ifCond .ne 18, 3) := by decide +kernel
theorem dX6_rule_14 : decode cX6_rule 14 = .ok (.iload_n 1, 1) := by decide +kernel
theorem dX6_rule_15 : decode cX6_rule 15 = .ok (.iconst 1, 1) := by decide +kernel
theorem dX6_rule_16 : decode cX6_rule 16 = .ok (.if_icmp .ne 17, 3) := by decide +kernel
theorem dX6_rule_19 : decode cX6_rule 19 = .ok (.iload_n 2, 1) := by decide +kernel
theorem dX6_rule_20 : decode cX6_rule 20 = .ok (.iconst 0, 1) := by decide +kernel
theorem dX6_rule_21 : decode cX6_rule 21 = .ok (.bipush 9, 2) := by decide +kernel
theorem dX6_rule_23 : decode cX6_rule 23 = .ok (.invokestatic 74, 3) := by decide +kernel
theorem dX6_rule_26 : decode cX6_rule 26 = .ok (.ifCond .eq 7, 3) := by decide +kernel
theorem dX6_rule_29 : decode cX6_rule 29 = .ok (.iconst 1, 1) := by decide +kernel
theorem dX6_rule_30 : decode cX6_rule 30 = .ok (.goto 4, 3) := by decide +kernel
theorem dX6_rule_33 : decode cX6_rule 33 = .ok (.iconst 0, 1) := by decide +kernel
theorem dX6_rule_34 : decode cX6_rule 34 = .ok (.istore_n 3, 1) := by decide +kernel
theorem dX6_rule_35 : decode cX6_rule 35 = .ok (.iload_n 3, 1) := by decide +kernel
theorem dX6_rule_36 : decode cX6_rule 36 = .ok (.ifCond .eq 14, 3) := by decide +kernel
theorem dX6_rule_39 : decode cX6_rule 39 = .ok (.aload_n 0, 1) := by decide +kernel
theorem dX6_rule_40 : decode cX6_rule 40 = .ok (.iconst 1, 1) := by decide +kernel
theorem dX6_rule_41 : decode cX6_rule 41 = .ok (.iload_n 1, 1) := by decide +kernel
theorem dX6_rule_42 : decode cX6_rule 42 = .ok (.iadd, 1) := by decide +kernel
theorem dX6_rule_43 : decode cX6_rule 43 = .ok (.iload_n 2, 1) := by decide +kernel
theorem dX6_rule_44 : decode cX6_rule 44 = .ok (.invokevirtual 122, 3) := by decide +kernel
theorem dX6_rule_47 : decode cX6_rule 47 = .ok (.goto 9, 3) := by decide +kernel
theorem dX6_rule_50 : decode cX6_rule 50 = .ok (.aload_n 0, 1) := by decide +kernel
theorem dX6_rule_51 : decode cX6_rule 51 = .ok (.ldc 69, 2) := by decide +kernel
theorem dX6_rule_53 : decode cX6_rule 53 = .ok (.invokevirtual 86, 3) := by decide +kernel
theorem dX6_rule_56 : decode cX6_rule 56 = .ok (.ireturn, 1) := by decide +kernel
theorem dX6_isHow_0 : decode cX6_isHow 0 = .ok (.aload_n 0, 1) := by decide +kernel
theorem dX6_isHow_1 : decode cX6_isHow 1 = .ok (.iload_n 1, 1) := by decide +kernel
theorem dX6_isHow_2 : decode cX6_isHow 2 = .ok (.iconst 4, 1) := by decide +kernel
theorem dX6_isHow_3 : decode cX6_isHow 3 = .ok (.invokevirtual 98, 3) := by decide +kernel
theorem dX6_isHow_6 : decode cX6_isHow 6 = .ok (.iload_n 2, 1) := by decide +kernel
theorem dX6_isHow_7 : decode cX6_isHow 7 = .ok (.if_icmp .ne 7, 3) := by decide +kernel
theorem dX6_isHow_10 : decode cX6_isHow 10 = .ok (.iconst 1, 1) := by decide +kernel
theorem dX6_isHow_11 : decode cX6_isHow 11 = .ok (.goto 4, 3) := by decide +kernel
theorem dX6_isHow_14 : decode cX6_isHow 14 = .ok (.iconst 0, 1) := by decide +kernel
theorem dX6_isHow_15 : decode cX6_isHow 15 = .ok (.ireturn, 1) := by decide +kernel
theorem dX6_thingsThat_0 : decode cX6_thingsThat 0 = .ok (.iconst 0, 1) := by decide +kernel
theorem dX6_thingsThat_1 : decode cX6_thingsThat 1 = .ok (.istore_n 2, 1) := by decide +kernel
theorem dX6_thingsThat_2 : decode cX6_thingsThat 2 = .ok (.iconst 0, 1) := by decide +kernel
theorem dX6_thingsThat_3 : decode cX6_thingsThat 3 = .ok (.istore_n 3, 1) := by decide +kernel
theorem dX6_thingsThat_4 : decode cX6_thingsThat 4 = .ok (.iload_n 3, 1) := by decide +kernel
theorem dX6_thingsThat_5 : decode cX6_thingsThat 5 = .ok (.aload_n 0, 1) := by decide +kernel
theorem dX6_thingsThat_6 : decode cX6_thingsThat 6 = .ok (.getfield 9, 3) := by decide +kernel
theorem dX6_thingsThat_9 : decode cX6_thingsThat 9 = .ok (.iconst 3, 1) := by decide +kernel
theorem dX6_thingsThat_10 : decode cX6_thingsThat 10 = .ok (.iaload, 1) := by decide +kernel
theorem dX6_thingsThat_11 : decode cX6_thingsThat 11 = .ok (.if_icmp .ge 28, 3) := by decide +kernel
theorem dX6_thingsThat_14 : decode cX6_thingsThat 14 = .ok (.iload_n 2, 1) := by decide +kernel
theorem dX6_thingsThat_15 : decode cX6_thingsThat 15 = .ok (.aload_n 0, 1) := by decide +kernel
theorem dX6_thingsThat_16 : decode cX6_thingsThat 16 = .ok (.iload_n 3, 1) := by decide +kernel
theorem dX6_thingsThat_17 : decode cX6_thingsThat 17 = .ok (.iload_n 1, 1) := by decide +kernel
theorem dX6_thingsThat_18 : decode cX6_thingsThat 18 = .ok (.invokevirtual 125, 3) := by decide +kernel
theorem dX6_thingsThat_21 : decode cX6_thingsThat 21 = .ok (.ifCond .eq 9, 3) := by decide +kernel
theorem dX6_thingsThat_24 : decode cX6_thingsThat 24 = .ok (.iconst 1, 1) := by decide +kernel
theorem dX6_thingsThat_25 : decode cX6_thingsThat 25 = .ok (.iload_n 3, 1) := by decide +kernel
theorem dX6_thingsThat_26 : decode cX6_thingsThat 26 = .ok (.ishl, 1) := by decide +kernel
theorem dX6_thingsThat_27 : decode cX6_thingsThat 27 = .ok (.goto 4, 3) := by decide +kernel
theorem dX6_thingsThat_30 : decode cX6_thingsThat 30 = .ok (.iconst 0, 1) := by decide +kernel
theorem dX6_thingsThat_31 : decode cX6_thingsThat 31 = .ok (.ior, 1) := by decide +kernel
theorem dX6_thingsThat_32 : decode cX6_thingsThat 32 = .ok (.istore_n 2, 1) := by decide +kernel
theorem dX6_thingsThat_33 : decode cX6_thingsThat 33 = .ok (.iinc 3 1, 3) := by decide +kernel
theorem dX6_thingsThat_36 : decode cX6_thingsThat 36 = .ok (.goto (-32), 3) := by decide +kernel
theorem dX6_thingsThat_39 : decode cX6_thingsThat 39 = .ok (.iload_n 2, 1) := by decide +kernel
theorem dX6_thingsThat_40 : decode cX6_thingsThat 40 = .ok (.ireturn, 1) := by decide +kernel
theorem dX6_bulkIn_0 : decode cX6_bulkIn 0 = .ok (.iconst 0, 1) := by decide +kernel
theorem dX6_bulkIn_1 : decode cX6_bulkIn 1 = .ok (.istore_n 1, 1) := by decide +kernel
theorem dX6_bulkIn_2 : decode cX6_bulkIn 2 = .ok (.iconst 0, 1) := by decide +kernel
theorem dX6_bulkIn_3 : decode cX6_bulkIn 3 = .ok (.istore_n 2, 1) := by decide +kernel
theorem dX6_bulkIn_4 : decode cX6_bulkIn 4 = .ok (.iload_n 2, 1) := by decide +kernel
theorem dX6_bulkIn_5 : decode cX6_bulkIn 5 = .ok (.aload_n 0, 1) := by decide +kernel
theorem dX6_bulkIn_6 : decode cX6_bulkIn 6 = .ok (.getfield 9, 3) := by decide +kernel
theorem dX6_bulkIn_9 : decode cX6_bulkIn 9 = .ok (.iconst 4, 1) := by decide +kernel
theorem dX6_bulkIn_10 : decode cX6_bulkIn 10 = .ok (.iaload, 1) := by decide +kernel
theorem dX6_bulkIn_11 : decode cX6_bulkIn 11 = .ok (.if_icmp .ge 26, 3) := by decide +kernel
theorem dX6_bulkIn_14 : decode cX6_bulkIn 14 = .ok (.iload_n 1, 1) := by decide +kernel
theorem dX6_bulkIn_15 : decode cX6_bulkIn 15 = .ok (.aload_n 0, 1) := by decide +kernel
theorem dX6_bulkIn_16 : decode cX6_bulkIn 16 = .ok (.aload_n 0, 1) := by decide +kernel
theorem dX6_bulkIn_17 : decode cX6_bulkIn 17 = .ok (.getfield 9, 3) := by decide +kernel
theorem dX6_bulkIn_20 : decode cX6_bulkIn 20 = .ok (.bipush 88, 2) := by decide +kernel
theorem dX6_bulkIn_22 : decode cX6_bulkIn 22 = .ok (.iload_n 2, 1) := by decide +kernel
theorem dX6_bulkIn_23 : decode cX6_bulkIn 23 = .ok (.iadd, 1) := by decide +kernel
theorem dX6_bulkIn_24 : decode cX6_bulkIn 24 = .ok (.iaload, 1) := by decide +kernel
theorem dX6_bulkIn_25 : decode cX6_bulkIn 25 = .ok (.iconst 1, 1) := by decide +kernel
theorem dX6_bulkIn_26 : decode cX6_bulkIn 26 = .ok (.invokevirtual 98, 3) := by decide +kernel
theorem dX6_bulkIn_29 : decode cX6_bulkIn 29 = .ok (.iadd, 1) := by decide +kernel
theorem dX6_bulkIn_30 : decode cX6_bulkIn 30 = .ok (.istore_n 1, 1) := by decide +kernel
theorem dX6_bulkIn_31 : decode cX6_bulkIn 31 = .ok (.iinc 2 1, 3) := by decide +kernel
theorem dX6_bulkIn_34 : decode cX6_bulkIn 34 = .ok (.goto (-30), 3) := by decide +kernel
theorem dX6_bulkIn_37 : decode cX6_bulkIn 37 = .ok (.iload_n 1, 1) := by decide +kernel
theorem dX6_bulkIn_38 : decode cX6_bulkIn 38 = .ok (.ireturn, 1) := by decide +kernel
theorem dX6_hasRoom_0 : decode cX6_hasRoom 0 = .ok (.aload_n 0, 1) := by decide +kernel
theorem dX6_hasRoom_1 : decode cX6_hasRoom 1 = .ok (.getfield 9, 3) := by decide +kernel
theorem dX6_hasRoom_4 : decode cX6_hasRoom 4 = .ok (.iconst 4, 1) := by decide +kernel
theorem dX6_hasRoom_5 : decode cX6_hasRoom 5 = .ok (.iaload, 1) := by decide +kernel
theorem dX6_hasRoom_6 : decode cX6_hasRoom 6 = .ok (.bipush 8, 2) := by decide +kernel
theorem dX6_hasRoom_8 : decode cX6_hasRoom 8 = .ok (.if_icmp .ge 27, 3) := by decide +kernel
theorem dX6_hasRoom_11 : decode cX6_hasRoom 11 = .ok (.aload_n 0, 1) := by decide +kernel
theorem dX6_hasRoom_12 : decode cX6_hasRoom 12 = .ok (.invokevirtual 128, 3) := by decide +kernel
theorem dX6_hasRoom_15 : decode cX6_hasRoom 15 = .ok (.aload_n 0, 1) := by decide +kernel
theorem dX6_hasRoom_16 : decode cX6_hasRoom 16 = .ok (.iload_n 1, 1) := by decide +kernel
theorem dX6_hasRoom_17 : decode cX6_hasRoom 17 = .ok (.iconst 1, 1) := by decide +kernel
theorem dX6_hasRoom_18 : decode cX6_hasRoom 18 = .ok (.invokevirtual 98, 3) := by decide +kernel
theorem dX6_hasRoom_21 : decode cX6_hasRoom 21 = .ok (.iadd, 1) := by decide +kernel
theorem dX6_hasRoom_22 : decode cX6_hasRoom 22 = .ok (.aload_n 0, 1) := by decide +kernel
theorem dX6_hasRoom_23 : decode cX6_hasRoom 23 = .ok (.getfield 9, 3) := by decide +kernel
theorem dX6_hasRoom_26 : decode cX6_hasRoom 26 = .ok (.iconst 1, 1) := by decide +kernel
theorem dX6_hasRoom_27 : decode cX6_hasRoom 27 = .ok (.iaload, 1) := by decide +kernel
theorem dX6_hasRoom_28 : decode cX6_hasRoom 28 = .ok (.if_icmp .gt 7, 3) := by decide +kernel
theorem dX6_hasRoom_31 : decode cX6_hasRoom 31 = .ok (.iconst 1, 1) := by decide +kernel
theorem dX6_hasRoom_32 : decode cX6_hasRoom 32 = .ok (.goto 4, 3) := by decide +kernel
theorem dX6_hasRoom_35 : decode cX6_hasRoom 35 = .ok (.iconst 0, 1) := by decide +kernel
theorem dX6_hasRoom_36 : decode cX6_hasRoom 36 = .ok (.ireturn, 1) := by decide +kernel
theorem dX6_becomesHow_0 : decode cX6_becomesHow 0 = .ok (.aload_n 0, 1) := by decide +kernel
theorem dX6_becomesHow_1 : decode cX6_becomesHow 1 = .ok (.getfield 9, 3) := by decide +kernel
theorem dX6_becomesHow_4 : decode cX6_becomesHow 4 = .ok (.iload_n 1, 1) := by decide +kernel
theorem dX6_becomesHow_5 : decode cX6_becomesHow 5 = .ok (.iconst 4, 1) := by decide +kernel
theorem dX6_becomesHow_6 : decode cX6_becomesHow 6 = .ok (.invokestatic 78, 3) := by decide +kernel
theorem dX6_becomesHow_9 : decode cX6_becomesHow 9 = .ok (.iload_n 2, 1) := by decide +kernel
theorem dX6_becomesHow_10 : decode cX6_becomesHow 10 = .ok (.iastore, 1) := by decide +kernel
theorem dX6_becomesHow_11 : decode cX6_becomesHow 11 = .ok (.aload_n 0, 1) := by decide +kernel
theorem dX6_becomesHow_12 : decode cX6_becomesHow 12 = .ok (.getfield 9, 3) := by decide +kernel
theorem dX6_becomesHow_15 : decode cX6_becomesHow 15 = .ok (.iload_n 1, 1) := by decide +kernel
theorem dX6_becomesHow_16 : decode cX6_becomesHow 16 = .ok (.iconst 5, 1) := by decide +kernel
theorem dX6_becomesHow_17 : decode cX6_becomesHow 17 = .ok (.invokestatic 78, 3) := by decide +kernel
theorem dX6_becomesHow_20 : decode cX6_becomesHow 20 = .ok (.iconst 0, 1) := by decide +kernel
theorem dX6_becomesHow_21 : decode cX6_becomesHow 21 = .ok (.iastore, 1) := by decide +kernel
theorem dX6_becomesHow_22 : decode cX6_becomesHow 22 = .ok (.aload_n 0, 1) := by decide +kernel
theorem dX6_becomesHow_23 : decode cX6_becomesHow 23 = .ok (.getfield 9, 3) := by decide +kernel
theorem dX6_becomesHow_26 : decode cX6_becomesHow 26 = .ok (.iload_n 1, 1) := by decide +kernel
theorem dX6_becomesHow_27 : decode cX6_becomesHow 27 = .ok (.bipush 6, 2) := by decide +kernel
theorem dX6_becomesHow_29 : decode cX6_becomesHow 29 = .ok (.invokestatic 78, 3) := by decide +kernel
theorem dX6_becomesHow_32 : decode cX6_becomesHow 32 = .ok (.iconst 0, 1) := by decide +kernel
theorem dX6_becomesHow_33 : decode cX6_becomesHow 33 = .ok (.iastore, 1) := by decide +kernel
theorem dX6_becomesHow_34 : decode cX6_becomesHow 34 = .ok (.return_, 1) := by decide +kernel
theorem dX6_feeds_0 : decode cX6_feeds 0 = .ok (.aload_n 0, 1) := by decide +kernel
theorem dX6_feeds_1 : decode cX6_feeds 1 = .ok (.iload_n 1, 1) := by decide +kernel
theorem dX6_feeds_2 : decode cX6_feeds 2 = .ok (.iconst 1, 1) := by decide +kernel
theorem dX6_feeds_3 : decode cX6_feeds 3 = .ok (.invokevirtual 132, 3) := by decide +kernel
theorem dX6_feeds_6 : decode cX6_feeds 6 = .ok (.aload_n 0, 1) := by decide +kernel
theorem dX6_feeds_7 : decode cX6_feeds 7 = .ok (.getfield 9, 3) := by decide +kernel
theorem dX6_feeds_10 : decode cX6_feeds 10 = .ok (.bipush 88, 2) := by decide +kernel
theorem dX6_feeds_12 : decode cX6_feeds 12 = .ok (.aload_n 0, 1) := by decide +kernel
theorem dX6_feeds_13 : decode cX6_feeds 13 = .ok (.getfield 9, 3) := by decide +kernel
theorem dX6_feeds_16 : decode cX6_feeds 16 = .ok (.iconst 4, 1) := by decide +kernel
theorem dX6_feeds_17 : decode cX6_feeds 17 = .ok (.iaload, 1) := by decide +kernel
theorem dX6_feeds_18 : decode cX6_feeds 18 = .ok (.iadd, 1) := by decide +kernel
theorem dX6_feeds_19 : decode cX6_feeds 19 = .ok (.iload_n 1, 1) := by decide +kernel
theorem dX6_feeds_20 : decode cX6_feeds 20 = .ok (.iastore, 1) := by decide +kernel
theorem dX6_feeds_21 : decode cX6_feeds 21 = .ok (.aload_n 0, 1) := by decide +kernel
theorem dX6_feeds_22 : decode cX6_feeds 22 = .ok (.getfield 9, 3) := by decide +kernel
theorem dX6_feeds_25 : decode cX6_feeds 25 = .ok (.iconst 4, 1) := by decide +kernel
theorem dX6_feeds_26 : decode cX6_feeds 26 = .ok (.dup2, 1) := by decide +kernel
theorem dX6_feeds_27 : decode cX6_feeds 27 = .ok (.iaload, 1) := by decide +kernel
theorem dX6_feeds_28 : decode cX6_feeds 28 = .ok (.iconst 1, 1) := by decide +kernel
theorem dX6_feeds_29 : decode cX6_feeds 29 = .ok (.iadd, 1) := by decide +kernel
theorem dX6_feeds_30 : decode cX6_feeds 30 = .ok (.iastore, 1) := by decide +kernel
theorem dX6_feeds_31 : decode cX6_feeds 31 = .ok (.aload_n 0, 1) := by decide +kernel
theorem dX6_feeds_32 : decode cX6_feeds 32 = .ok (.getfield 9, 3) := by decide +kernel
theorem dX6_feeds_35 : decode cX6_feeds 35 = .ok (.iconst 4, 1) := by decide +kernel
theorem dX6_feeds_36 : decode cX6_feeds 36 = .ok (.iaload, 1) := by decide +kernel
theorem dX6_feeds_37 : decode cX6_feeds 37 = .ok (.ireturn, 1) := by decide +kernel
theorem dX6_fed_0 : decode cX6_fed 0 = .ok (.aload_n 0, 1) := by decide +kernel
theorem dX6_fed_1 : decode cX6_fed 1 = .ok (.iload_n 1, 1) := by decide +kernel
theorem dX6_fed_2 : decode cX6_fed 2 = .ok (.invokevirtual 110, 3) := by decide +kernel
theorem dX6_fed_5 : decode cX6_fed 5 = .ok (.ifCond .ne 10, 3) := by decide +kernel
theorem dX6_fed_8 : decode cX6_fed 8 = .ok (.aload_n 0, 1) := by decide +kernel
theorem dX6_fed_9 : decode cX6_fed 9 = .ok (.ldc 69, 2) := by decide +kernel
theorem dX6_fed_11 : decode cX6_fed 11 = .ok (.invokevirtual 86, 3) := by decide +kernel
theorem dX6_fed_14 : decode cX6_fed 14 = .ok (.ireturn, 1) := by decide +kernel
theorem dX6_fed_15 : decode cX6_fed 15 = .ok (.aload_n 0, 1) := by decide +kernel
theorem dX6_fed_16 : decode cX6_fed 16 = .ok (.iload_n 1, 1) := by decide +kernel
theorem dX6_fed_17 : decode cX6_fed 17 = .ok (.iconst 0, 1) := by decide +kernel
theorem dX6_fed_18 : decode cX6_fed 18 = .ok (.invokevirtual 125, 3) := by decide +kernel
theorem dX6_fed_21 : decode cX6_fed 21 = .ok (.ifCond .ne 10, 3) := by decide +kernel
theorem dX6_fed_24 : decode cX6_fed 24 = .ok (.aload_n 0, 1) := by decide +kernel
theorem dX6_fed_25 : decode cX6_fed 25 = .ok (.ldc 136, 2) := by decide +kernel
theorem dX6_fed_27 : decode cX6_fed 27 = .ok (.invokevirtual 86, 3) := by decide +kernel
theorem dX6_fed_30 : decode cX6_fed 30 = .ok (.ireturn, 1) := by decide +kernel
theorem dX6_fed_31 : decode cX6_fed 31 = .ok (.aload_n 0, 1) := by decide +kernel
theorem dX6_fed_32 : decode cX6_fed 32 = .ok (.iload_n 1, 1) := by decide +kernel
theorem dX6_fed_33 : decode cX6_fed 33 = .ok (.invokevirtual 137, 3) := by decide +kernel
theorem dX6_fed_36 : decode cX6_fed 36 = .ok (.ifCond .eq 11, 3) := by decide +kernel
theorem dX6_fed_39 : decode cX6_fed 39 = .ok (.aload_n 0, 1) := by decide +kernel
theorem dX6_fed_40 : decode cX6_fed 40 = .ok (.iload_n 1, 1) := by decide +kernel
theorem dX6_fed_41 : decode cX6_fed 41 = .ok (.invokevirtual 140, 3) := by decide +kernel
theorem dX6_fed_44 : decode cX6_fed 44 = .ok (.goto 9, 3) := by decide +kernel
theorem dX6_fed_47 : decode cX6_fed 47 = .ok (.aload_n 0, 1) := by decide +kernel
theorem dX6_fed_48 : decode cX6_fed 48 = .ok (.ldc 90, 2) := by decide +kernel
theorem dX6_fed_50 : decode cX6_fed 50 = .ok (.invokevirtual 86, 3) := by decide +kernel
theorem dX6_fed_53 : decode cX6_fed 53 = .ok (.ireturn, 1) := by decide +kernel
theorem dX6_eggsKept_0 : decode cX6_eggsKept 0 = .ok (.bipush 12, 2) := by decide +kernel
theorem dX6_eggsKept_2 : decode cX6_eggsKept 2 = .ok (.aload_n 0, 1) := by decide +kernel
theorem dX6_eggsKept_3 : decode cX6_eggsKept 3 = .ok (.getfield 9, 3) := by decide +kernel
theorem dX6_eggsKept_6 : decode cX6_eggsKept 6 = .ok (.iconst 5, 1) := by decide +kernel
theorem dX6_eggsKept_7 : decode cX6_eggsKept 7 = .ok (.iaload, 1) := by decide +kernel
theorem dX6_eggsKept_8 : decode cX6_eggsKept 8 = .ok (.invokestatic 143, 3) := by decide +kernel
theorem dX6_eggsKept_11 : decode cX6_eggsKept 11 = .ok (.ireturn, 1) := by decide +kernel
theorem dX6_eggAt_0 : decode cX6_eggAt 0 = .ok (.aload_n 0, 1) := by decide +kernel
theorem dX6_eggAt_1 : decode cX6_eggAt 1 = .ok (.getfield 9, 3) := by decide +kernel
theorem dX6_eggAt_4 : decode cX6_eggAt 4 = .ok (.bipush 96, 2) := by decide +kernel
theorem dX6_eggAt_6 : decode cX6_eggAt 6 = .ok (.iconst 3, 1) := by decide +kernel
theorem dX6_eggAt_7 : decode cX6_eggAt 7 = .ok (.aload_n 0, 1) := by decide +kernel
theorem dX6_eggAt_8 : decode cX6_eggAt 8 = .ok (.getfield 9, 3) := by decide +kernel
theorem dX6_eggAt_11 : decode cX6_eggAt 11 = .ok (.iconst 5, 1) := by decide +kernel
theorem dX6_eggAt_12 : decode cX6_eggAt 12 = .ok (.iaload, 1) := by decide +kernel
theorem dX6_eggAt_13 : decode cX6_eggAt 13 = .ok (.iconst 1, 1) := by decide +kernel
theorem dX6_eggAt_14 : decode cX6_eggAt 14 = .ok (.isub, 1) := by decide +kernel
theorem dX6_eggAt_15 : decode cX6_eggAt 15 = .ok (.iload_n 1, 1) := by decide +kernel
theorem dX6_eggAt_16 : decode cX6_eggAt 16 = .ok (.isub, 1) := by decide +kernel
theorem dX6_eggAt_17 : decode cX6_eggAt 17 = .ok (.bipush 12, 2) := by decide +kernel
theorem dX6_eggAt_19 : decode cX6_eggAt 19 = .ok (.irem, 1) := by decide +kernel
theorem dX6_eggAt_20 : decode cX6_eggAt 20 = .ok (.imul, 1) := by decide +kernel
theorem dX6_eggAt_21 : decode cX6_eggAt 21 = .ok (.iadd, 1) := by decide +kernel
theorem dX6_eggAt_22 : decode cX6_eggAt 22 = .ok (.iload_n 2, 1) := by decide +kernel
theorem dX6_eggAt_23 : decode cX6_eggAt 23 = .ok (.iadd, 1) := by decide +kernel
theorem dX6_eggAt_24 : decode cX6_eggAt 24 = .ok (.iaload, 1) := by decide +kernel
theorem dX6_eggAt_25 : decode cX6_eggAt 25 = .ok (.ireturn, 1) := by decide +kernel
theorem dX6_home_0 : decode cX6_home 0 = .ok (.aload_n 0, 1) := by decide +kernel
theorem dX6_home_1 : decode cX6_home 1 = .ok (.iload_n 1, 1) := by decide +kernel
theorem dX6_home_2 : decode cX6_home 2 = .ok (.invokevirtual 110, 3) := by decide +kernel
theorem dX6_home_5 : decode cX6_home 5 = .ok (.ifCond .ne 10, 3) := by decide +kernel
theorem dX6_home_8 : decode cX6_home 8 = .ok (.aload_n 0, 1) := by decide +kernel
theorem dX6_home_9 : decode cX6_home 9 = .ok (.ldc 69, 2) := by decide +kernel
theorem dX6_home_11 : decode cX6_home 11 = .ok (.invokevirtual 86, 3) := by decide +kernel
theorem dX6_home_14 : decode cX6_home 14 = .ok (.ireturn, 1) := by decide +kernel
theorem dX6_home_15 : decode cX6_home 15 = .ok (.aload_n 0, 1) := by decide +kernel
theorem dX6_home_16 : decode cX6_home 16 = .ok (.iload_n 1, 1) := by decide +kernel
theorem dX6_home_17 : decode cX6_home 17 = .ok (.iconst 2, 1) := by decide +kernel
theorem dX6_home_18 : decode cX6_home 18 = .ok (.invokevirtual 125, 3) := by decide +kernel
theorem dX6_home_21 : decode cX6_home 21 = .ok (.ifCond .ne 10, 3) := by decide +kernel
theorem dX6_home_24 : decode cX6_home 24 = .ok (.aload_n 0, 1) := by decide +kernel
theorem dX6_home_25 : decode cX6_home 25 = .ok (.ldc 136, 2) := by decide +kernel
theorem dX6_home_27 : decode cX6_home 27 = .ok (.invokevirtual 86, 3) := by decide +kernel
theorem dX6_home_30 : decode cX6_home 30 = .ok (.ireturn, 1) := by decide +kernel
theorem dX6_home_31 : decode cX6_home 31 = .ok (.aload_n 0, 1) := by decide +kernel
theorem dX6_home_32 : decode cX6_home 32 = .ok (.iload_n 1, 1) := by decide +kernel
theorem dX6_home_33 : decode cX6_home 33 = .ok (.iconst 0, 1) := by decide +kernel
theorem dX6_home_34 : decode cX6_home 34 = .ok (.invokevirtual 132, 3) := by decide +kernel
theorem dX6_home_37 : decode cX6_home 37 = .ok (.iconst (-1), 1) := by decide +kernel
theorem dX6_home_38 : decode cX6_home 38 = .ok (.istore_n 2, 1) := by decide +kernel
theorem dX6_home_39 : decode cX6_home 39 = .ok (.aload_n 0, 1) := by decide +kernel
theorem dX6_home_40 : decode cX6_home 40 = .ok (.invokevirtual 146, 3) := by decide +kernel
theorem dX6_home_43 : decode cX6_home 43 = .ok (.iconst 1, 1) := by decide +kernel
theorem dX6_home_44 : decode cX6_home 44 = .ok (.isub, 1) := by decide +kernel
theorem dX6_home_45 : decode cX6_home 45 = .ok (.istore_n 3, 1) := by decide +kernel
theorem dX6_home_46 : decode cX6_home 46 = .ok (.iload_n 3, 1) := by decide +kernel
theorem dX6_home_47 : decode cX6_home 47 = .ok (.ifCond .lt 30, 3) := by decide +kernel
theorem dX6_home_50 : decode cX6_home 50 = .ok (.aload_n 0, 1) := by decide +kernel
theorem dX6_home_51 : decode cX6_home 51 = .ok (.iload_n 3, 1) := by decide +kernel
theorem dX6_home_52 : decode cX6_home 52 = .ok (.iconst 0, 1) := by decide +kernel
theorem dX6_home_53 : decode cX6_home 53 = .ok (.invokevirtual 149, 3) := by decide +kernel
theorem dX6_home_56 : decode cX6_home 56 = .ok (.iload_n 1, 1) := by decide +kernel
theorem dX6_home_57 : decode cX6_home 57 = .ok (.if_icmp .ne 12, 3) := by decide +kernel
theorem dX6_home_60 : decode cX6_home 60 = .ok (.aload_n 0, 1) := by decide +kernel
theorem dX6_home_61 : decode cX6_home 61 = .ok (.iload_n 3, 1) := by decide +kernel
theorem dX6_home_62 : decode cX6_home 62 = .ok (.iconst 1, 1) := by decide +kernel
theorem dX6_home_63 : decode cX6_home 63 = .ok (.invokevirtual 149, 3) := by decide +kernel
theorem dX6_home_66 : decode cX6_home 66 = .ok (.goto 4, 3) := by decide +kernel
theorem dX6_home_69 : decode cX6_home 69 = .ok (.iload_n 2, 1) := by decide +kernel
theorem dX6_home_70 : decode cX6_home 70 = .ok (.istore_n 2, 1) := by decide +kernel
theorem dX6_home_71 : decode cX6_home 71 = .ok (.iinc 3 (-1), 3) := by decide +kernel
theorem dX6_home_74 : decode cX6_home 74 = .ok (.goto (-28), 3) := by decide +kernel
theorem dX6_home_77 : decode cX6_home 77 = .ok (.iload_n 2, 1) := by decide +kernel
theorem dX6_home_78 : decode cX6_home 78 = .ok (.ireturn, 1) := by decide +kernel
theorem dX6_crop_0 : decode cX6_crop 0 = .ok (.iload_n 1, 1) := by decide +kernel
theorem dX6_crop_1 : decode cX6_crop 1 = .ok (.iconst 0, 1) := by decide +kernel
theorem dX6_crop_2 : decode cX6_crop 2 = .ok (.bipush 7, 2) := by decide +kernel
theorem dX6_crop_4 : decode cX6_crop 4 = .ok (.invokestatic 74, 3) := by decide +kernel
theorem dX6_crop_7 : decode cX6_crop 7 = .ok (.ifCond .ne 10, 3) := by decide +kernel
theorem dX6_crop_10 : decode cX6_crop 10 = .ok (.aload_n 0, 1) := by decide +kernel
theorem dX6_crop_11 : decode cX6_crop 11 = .ok (.ldc 69, 2) := by decide +kernel
theorem dX6_crop_13 : decode cX6_crop 13 = .ok (.invokevirtual 86, 3) := by decide +kernel
theorem dX6_crop_16 : decode cX6_crop 16 = .ok (.ireturn, 1) := by decide +kernel
theorem dX6_crop_17 : decode cX6_crop 17 = .ok (.iload_n 1, 1) := by decide +kernel
theorem dX6_crop_18 : decode cX6_crop 18 = .ok (.aload_n 0, 1) := by decide +kernel
theorem dX6_crop_19 : decode cX6_crop 19 = .ok (.getfield 9, 3) := by decide +kernel
theorem dX6_crop_22 : decode cX6_crop 22 = .ok (.iconst 4, 1) := by decide +kernel
theorem dX6_crop_23 : decode cX6_crop 23 = .ok (.iaload, 1) := by decide +kernel
theorem dX6_crop_24 : decode cX6_crop 24 = .ok (.if_icmp .ge 15, 3) := by decide +kernel
theorem dX6_crop_27 : decode cX6_crop 27 = .ok (.aload_n 0, 1) := by decide +kernel
theorem dX6_crop_28 : decode cX6_crop 28 = .ok (.getfield 9, 3) := by decide +kernel
theorem dX6_crop_31 : decode cX6_crop 31 = .ok (.bipush 88, 2) := by decide +kernel
theorem dX6_crop_33 : decode cX6_crop 33 = .ok (.iload_n 1, 1) := by decide +kernel
theorem dX6_crop_34 : decode cX6_crop 34 = .ok (.iadd, 1) := by decide +kernel
theorem dX6_crop_35 : decode cX6_crop 35 = .ok (.iaload, 1) := by decide +kernel
theorem dX6_crop_36 : decode cX6_crop 36 = .ok (.goto 9, 3) := by decide +kernel
theorem dX6_crop_39 : decode cX6_crop 39 = .ok (.aload_n 0, 1) := by decide +kernel
theorem dX6_crop_40 : decode cX6_crop 40 = .ok (.ldc 152, 2) := by decide +kernel
theorem dX6_crop_42 : decode cX6_crop 42 = .ok (.invokevirtual 86, 3) := by decide +kernel
theorem dX6_crop_45 : decode cX6_crop 45 = .ok (.ireturn, 1) := by decide +kernel
theorem dX6_egg_0 : decode cX6_egg 0 = .ok (.iload_n 1, 1) := by decide +kernel
theorem dX6_egg_1 : decode cX6_egg 1 = .ok (.ifCond .lt 12, 3) := by decide +kernel
theorem dX6_egg_4 : decode cX6_egg 4 = .ok (.iload_n 2, 1) := by decide +kernel
theorem dX6_egg_5 : decode cX6_egg 5 = .ok (.iconst 0, 1) := by decide +kernel
theorem dX6_egg_6 : decode cX6_egg 6 = .ok (.iconst 2, 1) := by decide +kernel
theorem dX6_egg_7 : decode cX6_egg 7 = .ok (.invokestatic 74, 3) := by decide +kernel
theorem dX6_egg_10 : decode cX6_egg 10 = .ok (.ifCond .ne 10, 3) := by decide +kernel
theorem dX6_egg_13 : decode cX6_egg 13 = .ok (.aload_n 0, 1) := by decide +kernel
theorem dX6_egg_14 : decode cX6_egg 14 = .ok (.ldc 69, 2) := by decide +kernel
theorem dX6_egg_16 : decode cX6_egg 16 = .ok (.invokevirtual 86, 3) := by decide +kernel
theorem dX6_egg_19 : decode cX6_egg 19 = .ok (.ireturn, 1) := by decide +kernel
theorem dX6_egg_20 : decode cX6_egg 20 = .ok (.iload_n 1, 1) := by decide +kernel
theorem dX6_egg_21 : decode cX6_egg 21 = .ok (.aload_n 0, 1) := by decide +kernel
theorem dX6_egg_22 : decode cX6_egg 22 = .ok (.invokevirtual 146, 3) := by decide +kernel
theorem dX6_egg_25 : decode cX6_egg 25 = .ok (.if_icmp .ge 12, 3) := by decide +kernel
theorem dX6_egg_28 : decode cX6_egg 28 = .ok (.aload_n 0, 1) := by decide +kernel
theorem dX6_egg_29 : decode cX6_egg 29 = .ok (.iload_n 1, 1) := by decide +kernel
theorem dX6_egg_30 : decode cX6_egg 30 = .ok (.iload_n 2, 1) := by decide +kernel
theorem dX6_egg_31 : decode cX6_egg 31 = .ok (.invokevirtual 149, 3) := by decide +kernel
theorem dX6_egg_34 : decode cX6_egg 34 = .ok (.goto 9, 3) := by decide +kernel
theorem dX6_egg_37 : decode cX6_egg 37 = .ok (.aload_n 0, 1) := by decide +kernel
theorem dX6_egg_38 : decode cX6_egg 38 = .ok (.ldc 152, 2) := by decide +kernel
theorem dX6_egg_40 : decode cX6_egg 40 = .ok (.invokevirtual 86, 3) := by decide +kernel
theorem dX6_egg_43 : decode cX6_egg 43 = .ok (.ireturn, 1) := by decide +kernel
theorem dX6_stainsAt_0 : decode cX6_stainsAt 0 = .ok (.iload_n 1, 1) := by decide +kernel
theorem dX6_stainsAt_1 : decode cX6_stainsAt 1 = .ok (.iconst 0, 1) := by decide +kernel
theorem dX6_stainsAt_2 : decode cX6_stainsAt 2 = .ok (.aload_n 0, 1) := by decide +kernel
theorem dX6_stainsAt_3 : decode cX6_stainsAt 3 = .ok (.getfield 9, 3) := by decide +kernel
theorem dX6_stainsAt_6 : decode cX6_stainsAt 6 = .ok (.iconst 4, 1) := by decide +kernel
theorem dX6_stainsAt_7 : decode cX6_stainsAt 7 = .ok (.iaload, 1) := by decide +kernel
theorem dX6_stainsAt_8 : decode cX6_stainsAt 8 = .ok (.iconst 1, 1) := by decide +kernel
theorem dX6_stainsAt_9 : decode cX6_stainsAt 9 = .ok (.isub, 1) := by decide +kernel
theorem dX6_stainsAt_10 : decode cX6_stainsAt 10 = .ok (.invokestatic 74, 3) := by decide +kernel
theorem dX6_stainsAt_13 : decode cX6_stainsAt 13 = .ok (.ifCond .eq 19, 3) := by decide +kernel
theorem dX6_stainsAt_16 : decode cX6_stainsAt 16 = .ok (.aload_n 0, 1) := by decide +kernel
theorem dX6_stainsAt_17 : decode cX6_stainsAt 17 = .ok (.aload_n 0, 1) := by decide +kernel
theorem dX6_stainsAt_18 : decode cX6_stainsAt 18 = .ok (.getfield 9, 3) := by decide +kernel
theorem dX6_stainsAt_21 : decode cX6_stainsAt 21 = .ok (.bipush 88, 2) := by decide +kernel
theorem dX6_stainsAt_23 : decode cX6_stainsAt 23 = .ok (.iload_n 1, 1) := by decide +kernel
theorem dX6_stainsAt_24 : decode cX6_stainsAt 24 = .ok (.iadd, 1) := by decide +kernel
theorem dX6_stainsAt_25 : decode cX6_stainsAt 25 = .ok (.iaload, 1) := by decide +kernel
theorem dX6_stainsAt_26 : decode cX6_stainsAt 26 = .ok (.invokevirtual 116, 3) := by decide +kernel
theorem dX6_stainsAt_29 : decode cX6_stainsAt 29 = .ok (.goto 4, 3) := by decide +kernel
theorem dX6_stainsAt_32 : decode cX6_stainsAt 32 = .ok (.iconst 0, 1) := by decide +kernel
theorem dX6_stainsAt_33 : decode cX6_stainsAt 33 = .ok (.ireturn, 1) := by decide +kernel
theorem dX6_leaves_0 : decode cX6_leaves 0 = .ok (.aload_n 0, 1) := by decide +kernel
theorem dX6_leaves_1 : decode cX6_leaves 1 = .ok (.aload_n 0, 1) := by decide +kernel
theorem dX6_leaves_2 : decode cX6_leaves 2 = .ok (.getfield 9, 3) := by decide +kernel
theorem dX6_leaves_5 : decode cX6_leaves 5 = .ok (.bipush 88, 2) := by decide +kernel
theorem dX6_leaves_7 : decode cX6_leaves 7 = .ok (.iload_n 1, 1) := by decide +kernel
theorem dX6_leaves_8 : decode cX6_leaves 8 = .ok (.iadd, 1) := by decide +kernel
theorem dX6_leaves_9 : decode cX6_leaves 9 = .ok (.iaload, 1) := by decide +kernel
theorem dX6_leaves_10 : decode cX6_leaves 10 = .ok (.iload_n 2, 1) := by decide +kernel
theorem dX6_leaves_11 : decode cX6_leaves 11 = .ok (.invokevirtual 132, 3) := by decide +kernel
theorem dX6_leaves_14 : decode cX6_leaves 14 = .ok (.aload_n 0, 1) := by decide +kernel
theorem dX6_leaves_15 : decode cX6_leaves 15 = .ok (.getfield 9, 3) := by decide +kernel
theorem dX6_leaves_18 : decode cX6_leaves 18 = .ok (.iconst 4, 1) := by decide +kernel
theorem dX6_leaves_19 : decode cX6_leaves 19 = .ok (.dup2, 1) := by decide +kernel
theorem dX6_leaves_20 : decode cX6_leaves 20 = .ok (.iaload, 1) := by decide +kernel
theorem dX6_leaves_21 : decode cX6_leaves 21 = .ok (.iconst 1, 1) := by decide +kernel
theorem dX6_leaves_22 : decode cX6_leaves 22 = .ok (.isub, 1) := by decide +kernel
theorem dX6_leaves_23 : decode cX6_leaves 23 = .ok (.iastore, 1) := by decide +kernel
theorem dX6_leaves_24 : decode cX6_leaves 24 = .ok (.iload_n 1, 1) := by decide +kernel
theorem dX6_leaves_25 : decode cX6_leaves 25 = .ok (.istore_n 3, 1) := by decide +kernel
theorem dX6_leaves_26 : decode cX6_leaves 26 = .ok (.iload_n 3, 1) := by decide +kernel
theorem dX6_leaves_27 : decode cX6_leaves 27 = .ok (.aload_n 0, 1) := by decide +kernel
theorem dX6_leaves_28 : decode cX6_leaves 28 = .ok (.getfield 9, 3) := by decide +kernel
theorem dX6_leaves_31 : decode cX6_leaves 31 = .ok (.iconst 4, 1) := by decide +kernel
theorem dX6_leaves_32 : decode cX6_leaves 32 = .ok (.iaload, 1) := by decide +kernel
theorem dX6_leaves_33 : decode cX6_leaves 33 = .ok (.if_icmp .ge 29, 3) := by decide +kernel
theorem dX6_leaves_36 : decode cX6_leaves 36 = .ok (.aload_n 0, 1) := by decide +kernel
theorem dX6_leaves_37 : decode cX6_leaves 37 = .ok (.getfield 9, 3) := by decide +kernel
theorem dX6_leaves_40 : decode cX6_leaves 40 = .ok (.bipush 88, 2) := by decide +kernel
theorem dX6_leaves_42 : decode cX6_leaves 42 = .ok (.iload_n 3, 1) := by decide +kernel
theorem dX6_leaves_43 : decode cX6_leaves 43 = .ok (.iadd, 1) := by decide +kernel
theorem dX6_leaves_44 : decode cX6_leaves 44 = .ok (.aload_n 0, 1) := by decide +kernel
theorem dX6_leaves_45 : decode cX6_leaves 45 = .ok (.getfield 9, 3) := by decide +kernel
theorem dX6_leaves_48 : decode cX6_leaves 48 = .ok (.bipush 88, 2) := by decide +kernel
theorem dX6_leaves_50 : decode cX6_leaves 50 = .ok (.iload_n 3, 1) := by decide +kernel
theorem dX6_leaves_51 : decode cX6_leaves 51 = .ok (.iadd, 1) := by decide +kernel
theorem dX6_leaves_52 : decode cX6_leaves 52 = .ok (.iconst 1, 1) := by decide +kernel
theorem dX6_leaves_53 : decode cX6_leaves 53 = .ok (.iadd, 1) := by decide +kernel
theorem dX6_leaves_54 : decode cX6_leaves 54 = .ok (.iaload, 1) := by decide +kernel
theorem dX6_leaves_55 : decode cX6_leaves 55 = .ok (.iastore, 1) := by decide +kernel
theorem dX6_leaves_56 : decode cX6_leaves 56 = .ok (.iinc 3 1, 3) := by decide +kernel
theorem dX6_leaves_59 : decode cX6_leaves 59 = .ok (.goto (-33), 3) := by decide +kernel
theorem dX6_leaves_62 : decode cX6_leaves 62 = .ok (.aload_n 0, 1) := by decide +kernel
theorem dX6_leaves_63 : decode cX6_leaves 63 = .ok (.getfield 9, 3) := by decide +kernel
theorem dX6_leaves_66 : decode cX6_leaves 66 = .ok (.bipush 88, 2) := by decide +kernel
theorem dX6_leaves_68 : decode cX6_leaves 68 = .ok (.aload_n 0, 1) := by decide +kernel
theorem dX6_leaves_69 : decode cX6_leaves 69 = .ok (.getfield 9, 3) := by decide +kernel
theorem dX6_leaves_72 : decode cX6_leaves 72 = .ok (.iconst 4, 1) := by decide +kernel
theorem dX6_leaves_73 : decode cX6_leaves 73 = .ok (.iaload, 1) := by decide +kernel
theorem dX6_leaves_74 : decode cX6_leaves 74 = .ok (.iadd, 1) := by decide +kernel
theorem dX6_leaves_75 : decode cX6_leaves 75 = .ok (.iconst 0, 1) := by decide +kernel
theorem dX6_leaves_76 : decode cX6_leaves 76 = .ok (.iastore, 1) := by decide +kernel
theorem dX6_leaves_77 : decode cX6_leaves 77 = .ok (.return_, 1) := by decide +kernel
theorem dX6_lays_0 : decode cX6_lays 0 = .ok (.aload_n 0, 1) := by decide +kernel
theorem dX6_lays_1 : decode cX6_lays 1 = .ok (.getfield 9, 3) := by decide +kernel
theorem dX6_lays_4 : decode cX6_lays 4 = .ok (.bipush 88, 2) := by decide +kernel
theorem dX6_lays_6 : decode cX6_lays 6 = .ok (.iaload, 1) := by decide +kernel
theorem dX6_lays_7 : decode cX6_lays 7 = .ok (.istore_n 1, 1) := by decide +kernel
theorem dX6_lays_8 : decode cX6_lays 8 = .ok (.aload_n 0, 1) := by decide +kernel
theorem dX6_lays_9 : decode cX6_lays 9 = .ok (.aload_n 0, 1) := by decide +kernel
theorem dX6_lays_10 : decode cX6_lays 10 = .ok (.invokevirtual 128, 3) := by decide +kernel
theorem dX6_lays_13 : decode cX6_lays 13 = .ok (.aload_n 0, 1) := by decide +kernel
theorem dX6_lays_14 : decode cX6_lays 14 = .ok (.getfield 9, 3) := by decide +kernel
theorem dX6_lays_17 : decode cX6_lays 17 = .ok (.iconst 2, 1) := by decide +kernel
theorem dX6_lays_18 : decode cX6_lays 18 = .ok (.iaload, 1) := by decide +kernel
theorem dX6_lays_19 : decode cX6_lays 19 = .ok (.if_icmp .ge 7, 3) := by decide +kernel
theorem dX6_lays_22 : decode cX6_lays 22 = .ok (.iconst 1, 1) := by decide +kernel
theorem dX6_lays_23 : decode cX6_lays 23 = .ok (.goto 4, 3) := by decide +kernel
theorem dX6_lays_26 : decode cX6_lays 26 = .ok (.iconst 0, 1) := by decide +kernel
theorem dX6_lays_27 : decode cX6_lays 27 = .ok (.putfield 153, 3) := by decide +kernel
theorem dX6_lays_30 : decode cX6_lays 30 = .ok (.aload_n 0, 1) := by decide +kernel
theorem dX6_lays_31 : decode cX6_lays 31 = .ok (.iload_n 1, 1) := by decide +kernel
theorem dX6_lays_32 : decode cX6_lays 32 = .ok (.putfield 157, 3) := by decide +kernel
theorem dX6_lays_35 : decode cX6_lays 35 = .ok (.aload_n 0, 1) := by decide +kernel
theorem dX6_lays_36 : decode cX6_lays 36 = .ok (.aload_n 0, 1) := by decide +kernel
theorem dX6_lays_37 : decode cX6_lays 37 = .ok (.getfield 153, 3) := by decide +kernel
theorem dX6_lays_40 : decode cX6_lays 40 = .ok (.ifCond .eq 7, 3) := by decide +kernel
theorem dX6_lays_43 : decode cX6_lays 43 = .ok (.iconst 0, 1) := by decide +kernel
theorem dX6_lays_44 : decode cX6_lays 44 = .ok (.goto 8, 3) := by decide +kernel
theorem dX6_lays_47 : decode cX6_lays 47 = .ok (.aload_n 0, 1) := by decide +kernel
theorem dX6_lays_48 : decode cX6_lays 48 = .ok (.iload_n 1, 1) := by decide +kernel
theorem dX6_lays_49 : decode cX6_lays 49 = .ok (.invokevirtual 119, 3) := by decide +kernel
theorem dX6_lays_52 : decode cX6_lays 52 = .ok (.putfield 161, 3) := by decide +kernel
theorem dX6_lays_55 : decode cX6_lays 55 = .ok (.bipush 96, 2) := by decide +kernel
theorem dX6_lays_57 : decode cX6_lays 57 = .ok (.iconst 3, 1) := by decide +kernel
theorem dX6_lays_58 : decode cX6_lays 58 = .ok (.aload_n 0, 1) := by decide +kernel
theorem dX6_lays_59 : decode cX6_lays 59 = .ok (.getfield 9, 3) := by decide +kernel
theorem dX6_lays_62 : decode cX6_lays 62 = .ok (.iconst 5, 1) := by decide +kernel
theorem dX6_lays_63 : decode cX6_lays 63 = .ok (.iaload, 1) := by decide +kernel
theorem dX6_lays_64 : decode cX6_lays 64 = .ok (.bipush 12, 2) := by decide +kernel
theorem dX6_lays_66 : decode cX6_lays 66 = .ok (.irem, 1) := by decide +kernel
theorem dX6_lays_67 : decode cX6_lays 67 = .ok (.imul, 1) := by decide +kernel
theorem dX6_lays_68 : decode cX6_lays 68 = .ok (.iadd, 1) := by decide +kernel
theorem dX6_lays_69 : decode cX6_lays 69 = .ok (.istore_n 2, 1) := by decide +kernel
theorem dX6_lays_70 : decode cX6_lays 70 = .ok (.aload_n 0, 1) := by decide +kernel
theorem dX6_lays_71 : decode cX6_lays 71 = .ok (.getfield 9, 3) := by decide +kernel
theorem dX6_lays_74 : decode cX6_lays 74 = .ok (.iload_n 2, 1) := by decide +kernel
theorem dX6_lays_75 : decode cX6_lays 75 = .ok (.iload_n 1, 1) := by decide +kernel
theorem dX6_lays_76 : decode cX6_lays 76 = .ok (.iastore, 1) := by decide +kernel
theorem dX6_lays_77 : decode cX6_lays 77 = .ok (.aload_n 0, 1) := by decide +kernel
theorem dX6_lays_78 : decode cX6_lays 78 = .ok (.getfield 9, 3) := by decide +kernel
theorem dX6_lays_81 : decode cX6_lays 81 = .ok (.iload_n 2, 1) := by decide +kernel
theorem dX6_lays_82 : decode cX6_lays 82 = .ok (.iconst 1, 1) := by decide +kernel
theorem dX6_lays_83 : decode cX6_lays 83 = .ok (.iadd, 1) := by decide +kernel
theorem dX6_lays_84 : decode cX6_lays 84 = .ok (.aload_n 0, 1) := by decide +kernel
theorem dX6_lays_85 : decode cX6_lays 85 = .ok (.getfield 161, 3) := by decide +kernel
theorem dX6_lays_88 : decode cX6_lays 88 = .ok (.iastore, 1) := by decide +kernel
theorem dX6_lays_89 : decode cX6_lays 89 = .ok (.aload_n 0, 1) := by decide +kernel
theorem dX6_lays_90 : decode cX6_lays 90 = .ok (.getfield 9, 3) := by decide +kernel
theorem dX6_lays_93 : decode cX6_lays 93 = .ok (.iload_n 2, 1) := by decide +kernel
theorem dX6_lays_94 : decode cX6_lays 94 = .ok (.iconst 2, 1) := by decide +kernel
theorem dX6_lays_95 : decode cX6_lays 95 = .ok (.iadd, 1) := by decide +kernel
theorem dX6_lays_96 : decode cX6_lays 96 = .ok (.aload_n 0, 1) := by decide +kernel
theorem dX6_lays_97 : decode cX6_lays 97 = .ok (.getfield 9, 3) := by decide +kernel
theorem dX6_lays_100 : decode cX6_lays 100 = .ok (.iconst 0, 1) := by decide +kernel
theorem dX6_lays_101 : decode cX6_lays 101 = .ok (.iaload, 1) := by decide +kernel
theorem dX6_lays_102 : decode cX6_lays 102 = .ok (.iastore, 1) := by decide +kernel
theorem dX6_lays_103 : decode cX6_lays 103 = .ok (.aload_n 0, 1) := by decide +kernel
theorem dX6_lays_104 : decode cX6_lays 104 = .ok (.getfield 9, 3) := by decide +kernel
theorem dX6_lays_107 : decode cX6_lays 107 = .ok (.iconst 5, 1) := by decide +kernel
theorem dX6_lays_108 : decode cX6_lays 108 = .ok (.dup2, 1) := by decide +kernel
theorem dX6_lays_109 : decode cX6_lays 109 = .ok (.iaload, 1) := by decide +kernel
theorem dX6_lays_110 : decode cX6_lays 110 = .ok (.iconst 1, 1) := by decide +kernel
theorem dX6_lays_111 : decode cX6_lays 111 = .ok (.iadd, 1) := by decide +kernel
theorem dX6_lays_112 : decode cX6_lays 112 = .ok (.iastore, 1) := by decide +kernel
theorem dX6_lays_113 : decode cX6_lays 113 = .ok (.aload_n 0, 1) := by decide +kernel
theorem dX6_lays_114 : decode cX6_lays 114 = .ok (.getfield 9, 3) := by decide +kernel
theorem dX6_lays_117 : decode cX6_lays 117 = .ok (.bipush 6, 2) := by decide +kernel
theorem dX6_lays_119 : decode cX6_lays 119 = .ok (.dup2, 1) := by decide +kernel
theorem dX6_lays_120 : decode cX6_lays 120 = .ok (.iaload, 1) := by decide +kernel
theorem dX6_lays_121 : decode cX6_lays 121 = .ok (.aload_n 0, 1) := by decide +kernel
theorem dX6_lays_122 : decode cX6_lays 122 = .ok (.getfield 153, 3) := by decide +kernel
theorem dX6_lays_125 : decode cX6_lays 125 = .ok (.ifCond .eq 7, 3) := by decide +kernel
theorem dX6_lays_128 : decode cX6_lays 128 = .ok (.iconst 1, 1) := by decide +kernel
theorem dX6_lays_129 : decode cX6_lays 129 = .ok (.goto 4, 3) := by decide +kernel
theorem dX6_lays_132 : decode cX6_lays 132 = .ok (.iconst 0, 1) := by decide +kernel
theorem dX6_lays_133 : decode cX6_lays 133 = .ok (.iadd, 1) := by decide +kernel
theorem dX6_lays_134 : decode cX6_lays 134 = .ok (.iastore, 1) := by decide +kernel
theorem dX6_lays_135 : decode cX6_lays 135 = .ok (.aload_n 0, 1) := by decide +kernel
theorem dX6_lays_136 : decode cX6_lays 136 = .ok (.iconst 0, 1) := by decide +kernel
theorem dX6_lays_137 : decode cX6_lays 137 = .ok (.iconst 2, 1) := by decide +kernel
theorem dX6_lays_138 : decode cX6_lays 138 = .ok (.invokevirtual 164, 3) := by decide +kernel
theorem dX6_lays_141 : decode cX6_lays 141 = .ok (.return_, 1) := by decide +kernel
theorem dX6_day_0 : decode cX6_day 0 = .ok (.aload_n 0, 1) := by decide +kernel
theorem dX6_day_1 : decode cX6_day 1 = .ok (.iconst (-1), 1) := by decide +kernel
theorem dX6_day_2 : decode cX6_day 2 = .ok (.putfield 157, 3) := by decide +kernel
theorem dX6_day_5 : decode cX6_day 5 = .ok (.aload_n 0, 1) := by decide +kernel
theorem dX6_day_6 : decode cX6_day 6 = .ok (.iconst 0, 1) := by decide +kernel
theorem dX6_day_7 : decode cX6_day 7 = .ok (.putfield 161, 3) := by decide +kernel
theorem dX6_day_10 : decode cX6_day 10 = .ok (.aload_n 0, 1) := by decide +kernel
theorem dX6_day_11 : decode cX6_day 11 = .ok (.iconst 0, 1) := by decide +kernel
theorem dX6_day_12 : decode cX6_day 12 = .ok (.putfield 153, 3) := by decide +kernel
theorem dX6_day_15 : decode cX6_day 15 = .ok (.iconst 0, 1) := by decide +kernel
theorem dX6_day_16 : decode cX6_day 16 = .ok (.istore_n 1, 1) := by decide +kernel
theorem dX6_day_17 : decode cX6_day 17 = .ok (.iload_n 1, 1) := by decide +kernel
theorem dX6_day_18 : decode cX6_day 18 = .ok (.aload_n 0, 1) := by decide +kernel
theorem dX6_day_19 : decode cX6_day 19 = .ok (.getfield 9, 3) := by decide +kernel
theorem dX6_day_22 : decode cX6_day 22 = .ok (.iconst 4, 1) := by decide +kernel
theorem dX6_day_23 : decode cX6_day 23 = .ok (.iaload, 1) := by decide +kernel
theorem dX6_day_24 : decode cX6_day 24 = .ok (.if_icmp .ge 72, 3) := by decide +kernel
theorem dX6_day_27 : decode cX6_day 27 = .ok (.aload_n 0, 1) := by decide +kernel
theorem dX6_day_28 : decode cX6_day 28 = .ok (.getfield 9, 3) := by decide +kernel
theorem dX6_day_31 : decode cX6_day 31 = .ok (.bipush 88, 2) := by decide +kernel
theorem dX6_day_33 : decode cX6_day 33 = .ok (.iload_n 1, 1) := by decide +kernel
theorem dX6_day_34 : decode cX6_day 34 = .ok (.iadd, 1) := by decide +kernel
theorem dX6_day_35 : decode cX6_day 35 = .ok (.iaload, 1) := by decide +kernel
theorem dX6_day_36 : decode cX6_day 36 = .ok (.istore_n 2, 1) := by decide +kernel
theorem dX6_day_37 : decode cX6_day 37 = .ok (.aload_n 0, 1) := by decide +kernel
theorem dX6_day_38 : decode cX6_day 38 = .ok (.getfield 9, 3) := by decide +kernel
theorem dX6_day_41 : decode cX6_day 41 = .ok (.iload_n 2, 1) := by decide +kernel
theorem dX6_day_42 : decode cX6_day 42 = .ok (.iconst 5, 1) := by decide +kernel
theorem dX6_day_43 : decode cX6_day 43 = .ok (.invokestatic 78, 3) := by decide +kernel
theorem dX6_day_46 : decode cX6_day 46 = .ok (.dup2, 1) := by decide +kernel
theorem dX6_day_47 : decode cX6_day 47 = .ok (.iaload, 1) := by decide +kernel
theorem dX6_day_48 : decode cX6_day 48 = .ok (.iconst 1, 1) := by decide +kernel
theorem dX6_day_49 : decode cX6_day 49 = .ok (.iadd, 1) := by decide +kernel
theorem dX6_day_50 : decode cX6_day 50 = .ok (.iastore, 1) := by decide +kernel
theorem dX6_day_51 : decode cX6_day 51 = .ok (.aload_n 0, 1) := by decide +kernel
theorem dX6_day_52 : decode cX6_day 52 = .ok (.getfield 9, 3) := by decide +kernel
theorem dX6_day_55 : decode cX6_day 55 = .ok (.iload_n 2, 1) := by decide +kernel
theorem dX6_day_56 : decode cX6_day 56 = .ok (.bipush 6, 2) := by decide +kernel
theorem dX6_day_58 : decode cX6_day 58 = .ok (.invokestatic 78, 3) := by decide +kernel
theorem dX6_day_61 : decode cX6_day 61 = .ok (.bipush 99, 2) := by decide +kernel
theorem dX6_day_63 : decode cX6_day 63 = .ok (.aload_n 0, 1) := by decide +kernel
theorem dX6_day_64 : decode cX6_day 64 = .ok (.iload_n 2, 1) := by decide +kernel
theorem dX6_day_65 : decode cX6_day 65 = .ok (.bipush 6, 2) := by decide +kernel
theorem dX6_day_67 : decode cX6_day 67 = .ok (.invokevirtual 98, 3) := by decide +kernel
theorem dX6_day_70 : decode cX6_day 70 = .ok (.aload_n 0, 1) := by decide +kernel
theorem dX6_day_71 : decode cX6_day 71 = .ok (.iload_n 1, 1) := by decide +kernel
theorem dX6_day_72 : decode cX6_day 72 = .ok (.iconst 1, 1) := by decide +kernel
theorem dX6_day_73 : decode cX6_day 73 = .ok (.isub, 1) := by decide +kernel
theorem dX6_day_74 : decode cX6_day 74 = .ok (.invokevirtual 167, 3) := by decide +kernel
theorem dX6_day_77 : decode cX6_day 77 = .ok (.iadd, 1) := by decide +kernel
theorem dX6_day_78 : decode cX6_day 78 = .ok (.aload_n 0, 1) := by decide +kernel
theorem dX6_day_79 : decode cX6_day 79 = .ok (.iload_n 1, 1) := by decide +kernel
theorem dX6_day_80 : decode cX6_day 80 = .ok (.iconst 1, 1) := by decide +kernel
theorem dX6_day_81 : decode cX6_day 81 = .ok (.iadd, 1) := by decide +kernel
theorem dX6_day_82 : decode cX6_day 82 = .ok (.invokevirtual 167, 3) := by decide +kernel
theorem dX6_day_85 : decode cX6_day 85 = .ok (.iadd, 1) := by decide +kernel
theorem dX6_day_86 : decode cX6_day 86 = .ok (.invokestatic 143, 3) := by decide +kernel
theorem dX6_day_89 : decode cX6_day 89 = .ok (.iastore, 1) := by decide +kernel
theorem dX6_day_90 : decode cX6_day 90 = .ok (.iinc 1 1, 3) := by decide +kernel
theorem dX6_day_93 : decode cX6_day 93 = .ok (.goto (-76), 3) := by decide +kernel
theorem dX6_day_96 : decode cX6_day 96 = .ok (.aload_n 0, 1) := by decide +kernel
theorem dX6_day_97 : decode cX6_day 97 = .ok (.getfield 9, 3) := by decide +kernel
theorem dX6_day_100 : decode cX6_day 100 = .ok (.iconst 4, 1) := by decide +kernel
theorem dX6_day_101 : decode cX6_day 101 = .ok (.iaload, 1) := by decide +kernel
theorem dX6_day_102 : decode cX6_day 102 = .ok (.ifCond .le 33, 3) := by decide +kernel
theorem dX6_day_105 : decode cX6_day 105 = .ok (.aload_n 0, 1) := by decide +kernel
theorem dX6_day_106 : decode cX6_day 106 = .ok (.aload_n 0, 1) := by decide +kernel
theorem dX6_day_107 : decode cX6_day 107 = .ok (.getfield 9, 3) := by decide +kernel
theorem dX6_day_110 : decode cX6_day 110 = .ok (.bipush 88, 2) := by decide +kernel
theorem dX6_day_112 : decode cX6_day 112 = .ok (.iaload, 1) := by decide +kernel
theorem dX6_day_113 : decode cX6_day 113 = .ok (.iconst 5, 1) := by decide +kernel
theorem dX6_day_114 : decode cX6_day 114 = .ok (.invokevirtual 98, 3) := by decide +kernel
theorem dX6_day_117 : decode cX6_day 117 = .ok (.aload_n 0, 1) := by decide +kernel
theorem dX6_day_118 : decode cX6_day 118 = .ok (.aload_n 0, 1) := by decide +kernel
theorem dX6_day_119 : decode cX6_day 119 = .ok (.getfield 9, 3) := by decide +kernel
theorem dX6_day_122 : decode cX6_day 122 = .ok (.bipush 88, 2) := by decide +kernel
theorem dX6_day_124 : decode cX6_day 124 = .ok (.iaload, 1) := by decide +kernel
theorem dX6_day_125 : decode cX6_day 125 = .ok (.invokevirtual 113, 3) := by decide +kernel
theorem dX6_day_128 : decode cX6_day 128 = .ok (.if_icmp .lt 7, 3) := by decide +kernel
theorem dX6_day_131 : decode cX6_day 131 = .ok (.aload_n 0, 1) := by decide +kernel
theorem dX6_day_132 : decode cX6_day 132 = .ok (.invokevirtual 170, 3) := by decide +kernel
theorem dX6_day_135 : decode cX6_day 135 = .ok (.aload_n 0, 1) := by decide +kernel
theorem dX6_day_136 : decode cX6_day 136 = .ok (.getfield 9, 3) := by decide +kernel
theorem dX6_day_139 : decode cX6_day 139 = .ok (.iconst 0, 1) := by decide +kernel
theorem dX6_day_140 : decode cX6_day 140 = .ok (.dup2, 1) := by decide +kernel
theorem dX6_day_141 : decode cX6_day 141 = .ok (.iaload, 1) := by decide +kernel
theorem dX6_day_142 : decode cX6_day 142 = .ok (.iconst 1, 1) := by decide +kernel
theorem dX6_day_143 : decode cX6_day 143 = .ok (.iadd, 1) := by decide +kernel
theorem dX6_day_144 : decode cX6_day 144 = .ok (.iastore, 1) := by decide +kernel
theorem dX6_day_145 : decode cX6_day 145 = .ok (.aload_n 0, 1) := by decide +kernel
theorem dX6_day_146 : decode cX6_day 146 = .ok (.getfield 161, 3) := by decide +kernel
theorem dX6_day_149 : decode cX6_day 149 = .ok (.ireturn, 1) := by decide +kernel
theorem dX6_daysGo_0 : decode cX6_daysGo 0 = .ok (.iconst 0, 1) := by decide +kernel
theorem dX6_daysGo_1 : decode cX6_daysGo 1 = .ok (.istore_n 2, 1) := by decide +kernel
theorem dX6_daysGo_2 : decode cX6_daysGo 2 = .ok (.iconst 0, 1) := by decide +kernel
theorem dX6_daysGo_3 : decode cX6_daysGo 3 = .ok (.istore_n 3, 1) := by decide +kernel
theorem dX6_daysGo_4 : decode cX6_daysGo 4 = .ok (.iload_n 3, 1) := by decide +kernel
theorem dX6_daysGo_5 : decode cX6_daysGo 5 = .ok (.iload_n 1, 1) := by decide +kernel
theorem dX6_daysGo_6 : decode cX6_daysGo 6 = .ok (.if_icmp .ge 16, 3) := by decide +kernel
theorem dX6_daysGo_9 : decode cX6_daysGo 9 = .ok (.iload_n 2, 1) := by decide +kernel
theorem dX6_daysGo_10 : decode cX6_daysGo 10 = .ok (.aload_n 0, 1) := by decide +kernel
theorem dX6_daysGo_11 : decode cX6_daysGo 11 = .ok (.invokevirtual 173, 3) := by decide +kernel
theorem dX6_daysGo_14 : decode cX6_daysGo 14 = .ok (.iadd, 1) := by decide +kernel
theorem dX6_daysGo_15 : decode cX6_daysGo 15 = .ok (.istore_n 2, 1) := by decide +kernel
theorem dX6_daysGo_16 : decode cX6_daysGo 16 = .ok (.iinc 3 1, 3) := by decide +kernel
theorem dX6_daysGo_19 : decode cX6_daysGo 19 = .ok (.goto (-15), 3) := by decide +kernel
theorem dX6_daysGo_22 : decode cX6_daysGo 22 = .ok (.iload_n 2, 1) := by decide +kernel
theorem dX6_daysGo_23 : decode cX6_daysGo 23 = .ok (.ireturn, 1) := by decide +kernel
theorem dX6_isTooLate_0 : decode cX6_isTooLate 0 = .ok (.aload_n 0, 1) := by decide +kernel
theorem dX6_isTooLate_1 : decode cX6_isTooLate 1 = .ok (.getfield 9, 3) := by decide +kernel
theorem dX6_isTooLate_4 : decode cX6_isTooLate 4 = .ok (.iconst 0, 1) := by decide +kernel
theorem dX6_isTooLate_5 : decode cX6_isTooLate 5 = .ok (.iaload, 1) := by decide +kernel
theorem dX6_isTooLate_6 : decode cX6_isTooLate 6 = .ok (.iload_n 1, 1) := by decide +kernel
theorem dX6_isTooLate_7 : decode cX6_isTooLate 7 = .ok (.iadd, 1) := by decide +kernel
theorem dX6_isTooLate_8 : decode cX6_isTooLate 8 = .ok (.sipush 9999, 3) := by decide +kernel
theorem dX6_isTooLate_11 : decode cX6_isTooLate 11 = .ok (.if_icmp .le 7, 3) := by decide +kernel
theorem dX6_isTooLate_14 : decode cX6_isTooLate 14 = .ok (.iconst 1, 1) := by decide +kernel
theorem dX6_isTooLate_15 : decode cX6_isTooLate 15 = .ok (.goto 4, 3) := by decide +kernel
theorem dX6_isTooLate_18 : decode cX6_isTooLate 18 = .ok (.iconst 0, 1) := by decide +kernel
theorem dX6_isTooLate_19 : decode cX6_isTooLate 19 = .ok (.ireturn, 1) := by decide +kernel
theorem dX6_days_0 : decode cX6_days 0 = .ok (.iload_n 1, 1) := by decide +kernel
theorem dX6_days_1 : decode cX6_days 1 = .ok (.iconst 1, 1) := by decide +kernel
theorem dX6_days_2 : decode cX6_days 2 = .ok (.bipush 60, 2) := by decide +kernel
theorem dX6_days_4 : decode cX6_days 4 = .ok (.invokestatic 74, 3) := by decide +kernel
theorem dX6_days_7 : decode cX6_days 7 = .ok (.ifCond .ne 10, 3) := by decide +kernel
theorem dX6_days_10 : decode cX6_days 10 = .ok (.aload_n 0, 1) := by decide +kernel
theorem dX6_days_11 : decode cX6_days 11 = .ok (.ldc 69, 2) := by decide +kernel
theorem dX6_days_13 : decode cX6_days 13 = .ok (.invokevirtual 86, 3) := by decide +kernel
theorem dX6_days_16 : decode cX6_days 16 = .ok (.ireturn, 1) := by decide +kernel
theorem dX6_days_17 : decode cX6_days 17 = .ok (.aload_n 0, 1) := by decide +kernel
theorem dX6_days_18 : decode cX6_days 18 = .ok (.iload_n 1, 1) := by decide +kernel
theorem dX6_days_19 : decode cX6_days 19 = .ok (.invokevirtual 176, 3) := by decide +kernel
theorem dX6_days_22 : decode cX6_days 22 = .ok (.ifCond .eq 12, 3) := by decide +kernel
theorem dX6_days_25 : decode cX6_days 25 = .ok (.aload_n 0, 1) := by decide +kernel
theorem dX6_days_26 : decode cX6_days 26 = .ok (.ldc 136, 2) := by decide +kernel
theorem dX6_days_28 : decode cX6_days 28 = .ok (.invokevirtual 86, 3) := by decide +kernel
theorem dX6_days_31 : decode cX6_days 31 = .ok (.goto 8, 3) := by decide +kernel
theorem dX6_days_34 : decode cX6_days 34 = .ok (.aload_n 0, 1) := by decide +kernel
theorem dX6_days_35 : decode cX6_days 35 = .ok (.iload_n 1, 1) := by decide +kernel
theorem dX6_days_36 : decode cX6_days 36 = .ok (.invokevirtual 179, 3) := by decide +kernel
theorem dX6_days_39 : decode cX6_days 39 = .ok (.ireturn, 1) := by decide +kernel
theorem dX6_now_0 : decode cX6_now 0 = .ok (.iload_n 1, 1) := by decide +kernel
theorem dX6_now_1 : decode cX6_now 1 = .ok (.tableswitch 91 0 6 #[43, 50, 57, 62, 69, 77, 84], 43) := by decide +kernel
theorem dX6_now_44 : decode cX6_now 44 = .ok (.aload_n 0, 1) := by decide +kernel
theorem dX6_now_45 : decode cX6_now 45 = .ok (.getfield 9, 3) := by decide +kernel
theorem dX6_now_48 : decode cX6_now 48 = .ok (.iconst 0, 1) := by decide +kernel
theorem dX6_now_49 : decode cX6_now 49 = .ok (.iaload, 1) := by decide +kernel
theorem dX6_now_50 : decode cX6_now 50 = .ok (.ireturn, 1) := by decide +kernel
theorem dX6_now_51 : decode cX6_now 51 = .ok (.aload_n 0, 1) := by decide +kernel
theorem dX6_now_52 : decode cX6_now 52 = .ok (.getfield 9, 3) := by decide +kernel
theorem dX6_now_55 : decode cX6_now 55 = .ok (.iconst 4, 1) := by decide +kernel
theorem dX6_now_56 : decode cX6_now 56 = .ok (.iaload, 1) := by decide +kernel
theorem dX6_now_57 : decode cX6_now 57 = .ok (.ireturn, 1) := by decide +kernel
theorem dX6_now_58 : decode cX6_now 58 = .ok (.aload_n 0, 1) := by decide +kernel
theorem dX6_now_59 : decode cX6_now 59 = .ok (.invokevirtual 128, 3) := by decide +kernel
theorem dX6_now_62 : decode cX6_now 62 = .ok (.ireturn, 1) := by decide +kernel
theorem dX6_now_63 : decode cX6_now 63 = .ok (.aload_n 0, 1) := by decide +kernel
theorem dX6_now_64 : decode cX6_now 64 = .ok (.getfield 9, 3) := by decide +kernel
theorem dX6_now_67 : decode cX6_now 67 = .ok (.iconst 5, 1) := by decide +kernel
theorem dX6_now_68 : decode cX6_now 68 = .ok (.iaload, 1) := by decide +kernel
theorem dX6_now_69 : decode cX6_now 69 = .ok (.ireturn, 1) := by decide +kernel
theorem dX6_now_70 : decode cX6_now 70 = .ok (.aload_n 0, 1) := by decide +kernel
theorem dX6_now_71 : decode cX6_now 71 = .ok (.getfield 9, 3) := by decide +kernel
theorem dX6_now_74 : decode cX6_now 74 = .ok (.bipush 6, 2) := by decide +kernel
theorem dX6_now_76 : decode cX6_now 76 = .ok (.iaload, 1) := by decide +kernel
theorem dX6_now_77 : decode cX6_now 77 = .ok (.ireturn, 1) := by decide +kernel
theorem dX6_now_78 : decode cX6_now 78 = .ok (.aload_n 0, 1) := by decide +kernel
theorem dX6_now_79 : decode cX6_now 79 = .ok (.getfield 9, 3) := by decide +kernel
theorem dX6_now_82 : decode cX6_now 82 = .ok (.iconst 1, 1) := by decide +kernel
theorem dX6_now_83 : decode cX6_now 83 = .ok (.iaload, 1) := by decide +kernel
theorem dX6_now_84 : decode cX6_now 84 = .ok (.ireturn, 1) := by decide +kernel
theorem dX6_now_85 : decode cX6_now 85 = .ok (.aload_n 0, 1) := by decide +kernel
theorem dX6_now_86 : decode cX6_now 86 = .ok (.getfield 9, 3) := by decide +kernel
theorem dX6_now_89 : decode cX6_now 89 = .ok (.iconst 2, 1) := by decide +kernel
theorem dX6_now_90 : decode cX6_now 90 = .ok (.iaload, 1) := by decide +kernel
theorem dX6_now_91 : decode cX6_now 91 = .ok (.ireturn, 1) := by decide +kernel
theorem dX6_now_92 : decode cX6_now 92 = .ok (.aload_n 0, 1) := by decide +kernel
theorem dX6_now_93 : decode cX6_now 93 = .ok (.ldc 69, 2) := by decide +kernel
theorem dX6_now_95 : decode cX6_now 95 = .ok (.invokevirtual 86, 3) := by decide +kernel
theorem dX6_now_98 : decode cX6_now 98 = .ok (.ireturn, 1) := by decide +kernel
theorem dX6_stainIn_0 : decode cX6_stainIn 0 = .ok (.iconst 0, 1) := by decide +kernel
theorem dX6_stainIn_1 : decode cX6_stainIn 1 = .ok (.istore_n 1, 1) := by decide +kernel
theorem dX6_stainIn_2 : decode cX6_stainIn 2 = .ok (.iconst 0, 1) := by decide +kernel
theorem dX6_stainIn_3 : decode cX6_stainIn 3 = .ok (.istore_n 2, 1) := by decide +kernel
theorem dX6_stainIn_4 : decode cX6_stainIn 4 = .ok (.iload_n 2, 1) := by decide +kernel
theorem dX6_stainIn_5 : decode cX6_stainIn 5 = .ok (.aload_n 0, 1) := by decide +kernel
theorem dX6_stainIn_6 : decode cX6_stainIn 6 = .ok (.getfield 9, 3) := by decide +kernel
theorem dX6_stainIn_9 : decode cX6_stainIn 9 = .ok (.iconst 4, 1) := by decide +kernel
theorem dX6_stainIn_10 : decode cX6_stainIn 10 = .ok (.iaload, 1) := by decide +kernel
theorem dX6_stainIn_11 : decode cX6_stainIn 11 = .ok (.if_icmp .ge 27, 3) := by decide +kernel
theorem dX6_stainIn_14 : decode cX6_stainIn 14 = .ok (.iload_n 1, 1) := by decide +kernel
theorem dX6_stainIn_15 : decode cX6_stainIn 15 = .ok (.aload_n 0, 1) := by decide +kernel
theorem dX6_stainIn_16 : decode cX6_stainIn 16 = .ok (.aload_n 0, 1) := by decide +kernel
theorem dX6_stainIn_17 : decode cX6_stainIn 17 = .ok (.getfield 9, 3) := by decide +kernel
theorem dX6_stainIn_20 : decode cX6_stainIn 20 = .ok (.bipush 88, 2) := by decide +kernel
theorem dX6_stainIn_22 : decode cX6_stainIn 22 = .ok (.iload_n 2, 1) := by decide +kernel
theorem dX6_stainIn_23 : decode cX6_stainIn 23 = .ok (.iadd, 1) := by decide +kernel
theorem dX6_stainIn_24 : decode cX6_stainIn 24 = .ok (.iaload, 1) := by decide +kernel
theorem dX6_stainIn_25 : decode cX6_stainIn 25 = .ok (.bipush 6, 2) := by decide +kernel
theorem dX6_stainIn_27 : decode cX6_stainIn 27 = .ok (.invokevirtual 98, 3) := by decide +kernel
theorem dX6_stainIn_30 : decode cX6_stainIn 30 = .ok (.iadd, 1) := by decide +kernel
theorem dX6_stainIn_31 : decode cX6_stainIn 31 = .ok (.istore_n 1, 1) := by decide +kernel
theorem dX6_stainIn_32 : decode cX6_stainIn 32 = .ok (.iinc 2 1, 3) := by decide +kernel
theorem dX6_stainIn_35 : decode cX6_stainIn 35 = .ok (.goto (-31), 3) := by decide +kernel
theorem dX6_stainIn_38 : decode cX6_stainIn 38 = .ok (.iload_n 1, 1) := by decide +kernel
theorem dX6_stainIn_39 : decode cX6_stainIn 39 = .ok (.ireturn, 1) := by decide +kernel
theorem dX6_ahead_0 : decode cX6_ahead 0 = .ok (.iload_n 1, 1) := by decide +kernel
theorem dX6_ahead_1 : decode cX6_ahead 1 = .ok (.iconst 0, 1) := by decide +kernel
theorem dX6_ahead_2 : decode cX6_ahead 2 = .ok (.bipush 60, 2) := by decide +kernel
theorem dX6_ahead_4 : decode cX6_ahead 4 = .ok (.invokestatic 74, 3) := by decide +kernel
theorem dX6_ahead_7 : decode cX6_ahead 7 = .ok (.ifCond .eq 12, 3) := by decide +kernel
theorem dX6_ahead_10 : decode cX6_ahead 10 = .ok (.iload_n 2, 1) := by decide +kernel
theorem dX6_ahead_11 : decode cX6_ahead 11 = .ok (.iconst 0, 1) := by decide +kernel
theorem dX6_ahead_12 : decode cX6_ahead 12 = .ok (.iconst 4, 1) := by decide +kernel
theorem dX6_ahead_13 : decode cX6_ahead 13 = .ok (.invokestatic 74, 3) := by decide +kernel
theorem dX6_ahead_16 : decode cX6_ahead 16 = .ok (.ifCond .ne 10, 3) := by decide +kernel
theorem dX6_ahead_19 : decode cX6_ahead 19 = .ok (.aload_n 0, 1) := by decide +kernel
theorem dX6_ahead_20 : decode cX6_ahead 20 = .ok (.ldc 69, 2) := by decide +kernel
theorem dX6_ahead_22 : decode cX6_ahead 22 = .ok (.invokevirtual 86, 3) := by decide +kernel
theorem dX6_ahead_25 : decode cX6_ahead 25 = .ok (.ireturn, 1) := by decide +kernel
theorem dX6_ahead_26 : decode cX6_ahead 26 = .ok (.aload_n 0, 1) := by decide +kernel
theorem dX6_ahead_27 : decode cX6_ahead 27 = .ok (.iload_n 1, 1) := by decide +kernel
theorem dX6_ahead_28 : decode cX6_ahead 28 = .ok (.invokevirtual 176, 3) := by decide +kernel
theorem dX6_ahead_31 : decode cX6_ahead 31 = .ok (.ifCond .eq 10, 3) := by decide +kernel
theorem dX6_ahead_34 : decode cX6_ahead 34 = .ok (.aload_n 0, 1) := by decide +kernel
theorem dX6_ahead_35 : decode cX6_ahead 35 = .ok (.ldc 136, 2) := by decide +kernel
theorem dX6_ahead_37 : decode cX6_ahead 37 = .ok (.invokevirtual 86, 3) := by decide +kernel
theorem dX6_ahead_40 : decode cX6_ahead 40 = .ok (.ireturn, 1) := by decide +kernel
theorem dX6_ahead_41 : decode cX6_ahead 41 = .ok (.aload_n 0, 1) := by decide +kernel
theorem dX6_ahead_42 : decode cX6_ahead 42 = .ok (.getfield 9, 3) := by decide +kernel
theorem dX6_ahead_45 : decode cX6_ahead 45 = .ok (.aload_n 0, 1) := by decide +kernel
theorem dX6_ahead_46 : decode cX6_ahead 46 = .ok (.getfield 16, 3) := by decide +kernel
theorem dX6_ahead_49 : decode cX6_ahead 49 = .ok (.invokestatic 70, 3) := by decide +kernel
theorem dX6_ahead_52 : decode cX6_ahead 52 = .ok (.aload_n 0, 1) := by decide +kernel
theorem dX6_ahead_53 : decode cX6_ahead 53 = .ok (.getfield 9, 3) := by decide +kernel
theorem dX6_ahead_56 : decode cX6_ahead 56 = .ok (.iconst 5, 1) := by decide +kernel
theorem dX6_ahead_57 : decode cX6_ahead 57 = .ok (.iaload, 1) := by decide +kernel
theorem dX6_ahead_58 : decode cX6_ahead 58 = .ok (.istore_n 3, 1) := by decide +kernel
theorem dX6_ahead_59 : decode cX6_ahead 59 = .ok (.aload_n 0, 1) := by decide +kernel
theorem dX6_ahead_60 : decode cX6_ahead 60 = .ok (.iload_n 1, 1) := by decide +kernel
theorem dX6_ahead_61 : decode cX6_ahead 61 = .ok (.invokevirtual 179, 3) := by decide +kernel
theorem dX6_ahead_64 : decode cX6_ahead 64 = .ok (.istore 4, 2) := by decide +kernel
theorem dX6_ahead_66 : decode cX6_ahead 66 = .ok (.iload_n 2, 1) := by decide +kernel
theorem dX6_ahead_67 : decode cX6_ahead 67 = .ok (.tableswitch 69 0 3 #[29, 42, 49, 60], 29) := by decide +kernel
theorem dX6_ahead_96 : decode cX6_ahead 96 = .ok (.aload_n 0, 1) := by decide +kernel
theorem dX6_ahead_97 : decode cX6_ahead 97 = .ok (.aload_n 0, 1) := by decide +kernel
theorem dX6_ahead_98 : decode cX6_ahead 98 = .ok (.getfield 9, 3) := by decide +kernel
theorem dX6_ahead_101 : decode cX6_ahead 101 = .ok (.iconst 5, 1) := by decide +kernel
theorem dX6_ahead_102 : decode cX6_ahead 102 = .ok (.iaload, 1) := by decide +kernel
theorem dX6_ahead_103 : decode cX6_ahead 103 = .ok (.iload_n 3, 1) := by decide +kernel
theorem dX6_ahead_104 : decode cX6_ahead 104 = .ok (.isub, 1) := by decide +kernel
theorem dX6_ahead_105 : decode cX6_ahead 105 = .ok (.invokevirtual 182, 3) := by decide +kernel
theorem dX6_ahead_108 : decode cX6_ahead 108 = .ok (.ireturn, 1) := by decide +kernel
theorem dX6_ahead_109 : decode cX6_ahead 109 = .ok (.aload_n 0, 1) := by decide +kernel
theorem dX6_ahead_110 : decode cX6_ahead 110 = .ok (.iload 4, 2) := by decide +kernel
theorem dX6_ahead_112 : decode cX6_ahead 112 = .ok (.invokevirtual 182, 3) := by decide +kernel
theorem dX6_ahead_115 : decode cX6_ahead 115 = .ok (.ireturn, 1) := by decide +kernel
theorem dX6_ahead_116 : decode cX6_ahead 116 = .ok (.aload_n 0, 1) := by decide +kernel
theorem dX6_ahead_117 : decode cX6_ahead 117 = .ok (.aload_n 0, 1) := by decide +kernel
theorem dX6_ahead_118 : decode cX6_ahead 118 = .ok (.getfield 9, 3) := by decide +kernel
theorem dX6_ahead_121 : decode cX6_ahead 121 = .ok (.iconst 4, 1) := by decide +kernel
theorem dX6_ahead_122 : decode cX6_ahead 122 = .ok (.iaload, 1) := by decide +kernel
theorem dX6_ahead_123 : decode cX6_ahead 123 = .ok (.invokevirtual 182, 3) := by decide +kernel
theorem dX6_ahead_126 : decode cX6_ahead 126 = .ok (.ireturn, 1) := by decide +kernel
theorem dX6_ahead_127 : decode cX6_ahead 127 = .ok (.aload_n 0, 1) := by decide +kernel
theorem dX6_ahead_128 : decode cX6_ahead 128 = .ok (.aload_n 0, 1) := by decide +kernel
theorem dX6_ahead_129 : decode cX6_ahead 129 = .ok (.invokevirtual 185, 3) := by decide +kernel
theorem dX6_ahead_132 : decode cX6_ahead 132 = .ok (.invokevirtual 182, 3) := by decide +kernel
theorem dX6_ahead_135 : decode cX6_ahead 135 = .ok (.ireturn, 1) := by decide +kernel
theorem dX6_ahead_136 : decode cX6_ahead 136 = .ok (.aload_n 0, 1) := by decide +kernel
theorem dX6_ahead_137 : decode cX6_ahead 137 = .ok (.aload_n 0, 1) := by decide +kernel
theorem dX6_ahead_138 : decode cX6_ahead 138 = .ok (.getfield 9, 3) := by decide +kernel
theorem dX6_ahead_141 : decode cX6_ahead 141 = .ok (.iconst 4, 1) := by decide +kernel
theorem dX6_ahead_142 : decode cX6_ahead 142 = .ok (.iaload, 1) := by decide +kernel
theorem dX6_ahead_143 : decode cX6_ahead 143 = .ok (.ifCond .ne 7, 3) := by decide +kernel
theorem dX6_ahead_146 : decode cX6_ahead 146 = .ok (.iconst (-1), 1) := by decide +kernel
theorem dX6_ahead_147 : decode cX6_ahead 147 = .ok (.goto 10, 3) := by decide +kernel
theorem dX6_ahead_150 : decode cX6_ahead 150 = .ok (.aload_n 0, 1) := by decide +kernel
theorem dX6_ahead_151 : decode cX6_ahead 151 = .ok (.getfield 9, 3) := by decide +kernel
theorem dX6_ahead_154 : decode cX6_ahead 154 = .ok (.bipush 88, 2) := by decide +kernel
theorem dX6_ahead_156 : decode cX6_ahead 156 = .ok (.iaload, 1) := by decide +kernel
theorem dX6_ahead_157 : decode cX6_ahead 157 = .ok (.invokevirtual 182, 3) := by decide +kernel
theorem dX6_ahead_160 : decode cX6_ahead 160 = .ok (.ireturn, 1) := by decide +kernel
theorem dX6_isLate_0 : decode cX6_isLate 0 = .ok (.aload_n 0, 1) := by decide +kernel
theorem dX6_isLate_1 : decode cX6_isLate 1 = .ok (.bipush 60, 2) := by decide +kernel
theorem dX6_isLate_3 : decode cX6_isLate 3 = .ok (.invokevirtual 176, 3) := by decide +kernel
theorem dX6_isLate_6 : decode cX6_isLate 6 = .ok (.ireturn, 1) := by decide +kernel
theorem dX6_tillLaid_0 : decode cX6_tillLaid 0 = .ok (.aload_n 0, 1) := by decide +kernel
theorem dX6_tillLaid_1 : decode cX6_tillLaid 1 = .ok (.getfield 9, 3) := by decide +kernel
theorem dX6_tillLaid_4 : decode cX6_tillLaid 4 = .ok (.aload_n 0, 1) := by decide +kernel
theorem dX6_tillLaid_5 : decode cX6_tillLaid 5 = .ok (.getfield 16, 3) := by decide +kernel
theorem dX6_tillLaid_8 : decode cX6_tillLaid 8 = .ok (.invokestatic 70, 3) := by decide +kernel
theorem dX6_tillLaid_11 : decode cX6_tillLaid 11 = .ok (.iconst 0, 1) := by decide +kernel
theorem dX6_tillLaid_12 : decode cX6_tillLaid 12 = .ok (.istore_n 2, 1) := by decide +kernel
theorem dX6_tillLaid_13 : decode cX6_tillLaid 13 = .ok (.iconst 0, 1) := by decide +kernel
theorem dX6_tillLaid_14 : decode cX6_tillLaid 14 = .ok (.istore_n 3, 1) := by decide +kernel
theorem dX6_tillLaid_15 : decode cX6_tillLaid 15 = .ok (.iload_n 2, 1) := by decide +kernel
theorem dX6_tillLaid_16 : decode cX6_tillLaid 16 = .ok (.bipush 60, 2) := by decide +kernel
theorem dX6_tillLaid_18 : decode cX6_tillLaid 18 = .ok (.if_icmp .ge 35, 3) := by decide +kernel
theorem dX6_tillLaid_21 : decode cX6_tillLaid 21 = .ok (.iload_n 3, 1) := by decide +kernel
theorem dX6_tillLaid_22 : decode cX6_tillLaid 22 = .ok (.ifCond .ne 31, 3) := by decide +kernel
theorem dX6_tillLaid_25 : decode cX6_tillLaid 25 = .ok (.aload_n 0, 1) := by decide +kernel
theorem dX6_tillLaid_26 : decode cX6_tillLaid 26 = .ok (.aload_n 0, 1) := by decide +kernel
theorem dX6_tillLaid_27 : decode cX6_tillLaid 27 = .ok (.invokevirtual 173, 3) := by decide +kernel
theorem dX6_tillLaid_30 : decode cX6_tillLaid 30 = .ok (.putfield 188, 3) := by decide +kernel
theorem dX6_tillLaid_33 : decode cX6_tillLaid 33 = .ok (.aload_n 0, 1) := by decide +kernel
theorem dX6_tillLaid_34 : decode cX6_tillLaid 34 = .ok (.getfield 157, 3) := by decide +kernel
theorem dX6_tillLaid_37 : decode cX6_tillLaid 37 = .ok (.iload_n 1, 1) := by decide +kernel
theorem dX6_tillLaid_38 : decode cX6_tillLaid 38 = .ok (.if_icmp .ne 7, 3) := by decide +kernel
theorem dX6_tillLaid_41 : decode cX6_tillLaid 41 = .ok (.iconst 1, 1) := by decide +kernel
theorem dX6_tillLaid_42 : decode cX6_tillLaid 42 = .ok (.goto 4, 3) := by decide +kernel
theorem dX6_tillLaid_45 : decode cX6_tillLaid 45 = .ok (.iconst 0, 1) := by decide +kernel
theorem dX6_tillLaid_46 : decode cX6_tillLaid 46 = .ok (.istore_n 3, 1) := by decide +kernel
theorem dX6_tillLaid_47 : decode cX6_tillLaid 47 = .ok (.iinc 2 1, 3) := by decide +kernel
theorem dX6_tillLaid_50 : decode cX6_tillLaid 50 = .ok (.goto (-35), 3) := by decide +kernel
theorem dX6_tillLaid_53 : decode cX6_tillLaid 53 = .ok (.aload_n 0, 1) := by decide +kernel
theorem dX6_tillLaid_54 : decode cX6_tillLaid 54 = .ok (.iload_n 3, 1) := by decide +kernel
theorem dX6_tillLaid_55 : decode cX6_tillLaid 55 = .ok (.ifCond .eq 7, 3) := by decide +kernel
theorem dX6_tillLaid_58 : decode cX6_tillLaid 58 = .ok (.iload_n 2, 1) := by decide +kernel
theorem dX6_tillLaid_59 : decode cX6_tillLaid 59 = .ok (.goto 4, 3) := by decide +kernel
theorem dX6_tillLaid_62 : decode cX6_tillLaid 62 = .ok (.iconst 0, 1) := by decide +kernel
theorem dX6_tillLaid_63 : decode cX6_tillLaid 63 = .ok (.invokevirtual 182, 3) := by decide +kernel
theorem dX6_tillLaid_66 : decode cX6_tillLaid 66 = .ok (.ireturn, 1) := by decide +kernel
theorem dX6_laidTold_0 : decode cX6_laidTold 0 = .ok (.aload_n 0, 1) := by decide +kernel
theorem dX6_laidTold_1 : decode cX6_laidTold 1 = .ok (.iload_n 1, 1) := by decide +kernel
theorem dX6_laidTold_2 : decode cX6_laidTold 2 = .ok (.invokevirtual 110, 3) := by decide +kernel
theorem dX6_laidTold_5 : decode cX6_laidTold 5 = .ok (.ifCond .ne 10, 3) := by decide +kernel
theorem dX6_laidTold_8 : decode cX6_laidTold 8 = .ok (.aload_n 0, 1) := by decide +kernel
theorem dX6_laidTold_9 : decode cX6_laidTold 9 = .ok (.ldc 69, 2) := by decide +kernel
theorem dX6_laidTold_11 : decode cX6_laidTold 11 = .ok (.invokevirtual 86, 3) := by decide +kernel
theorem dX6_laidTold_14 : decode cX6_laidTold 14 = .ok (.ireturn, 1) := by decide +kernel
theorem dX6_laidTold_15 : decode cX6_laidTold 15 = .ok (.aload_n 0, 1) := by decide +kernel
theorem dX6_laidTold_16 : decode cX6_laidTold 16 = .ok (.iload_n 1, 1) := by decide +kernel
theorem dX6_laidTold_17 : decode cX6_laidTold 17 = .ok (.iconst 1, 1) := by decide +kernel
theorem dX6_laidTold_18 : decode cX6_laidTold 18 = .ok (.invokevirtual 125, 3) := by decide +kernel
theorem dX6_laidTold_21 : decode cX6_laidTold 21 = .ok (.ifCond .eq 10, 3) := by decide +kernel
theorem dX6_laidTold_24 : decode cX6_laidTold 24 = .ok (.aload_n 0, 1) := by decide +kernel
theorem dX6_laidTold_25 : decode cX6_laidTold 25 = .ok (.invokevirtual 191, 3) := by decide +kernel
theorem dX6_laidTold_28 : decode cX6_laidTold 28 = .ok (.ifCond .eq 10, 3) := by decide +kernel
theorem dX6_laidTold_31 : decode cX6_laidTold 31 = .ok (.aload_n 0, 1) := by decide +kernel
theorem dX6_laidTold_32 : decode cX6_laidTold 32 = .ok (.ldc 136, 2) := by decide +kernel
theorem dX6_laidTold_34 : decode cX6_laidTold 34 = .ok (.invokevirtual 86, 3) := by decide +kernel
theorem dX6_laidTold_37 : decode cX6_laidTold 37 = .ok (.ireturn, 1) := by decide +kernel
theorem dX6_laidTold_38 : decode cX6_laidTold 38 = .ok (.aload_n 0, 1) := by decide +kernel
theorem dX6_laidTold_39 : decode cX6_laidTold 39 = .ok (.iload_n 1, 1) := by decide +kernel
theorem dX6_laidTold_40 : decode cX6_laidTold 40 = .ok (.invokevirtual 195, 3) := by decide +kernel
theorem dX6_laidTold_43 : decode cX6_laidTold 43 = .ok (.istore_n 3, 1) := by decide +kernel
theorem dX6_laidTold_44 : decode cX6_laidTold 44 = .ok (.iload_n 3, 1) := by decide +kernel
theorem dX6_laidTold_45 : decode cX6_laidTold 45 = .ok (.ifCond .ne 12, 3) := by decide +kernel
theorem dX6_laidTold_48 : decode cX6_laidTold 48 = .ok (.aload_n 0, 1) := by decide +kernel
theorem dX6_laidTold_49 : decode cX6_laidTold 49 = .ok (.ldc 152, 2) := by decide +kernel
theorem dX6_laidTold_51 : decode cX6_laidTold 51 = .ok (.invokevirtual 86, 3) := by decide +kernel
theorem dX6_laidTold_54 : decode cX6_laidTold 54 = .ok (.goto 15, 3) := by decide +kernel
theorem dX6_laidTold_57 : decode cX6_laidTold 57 = .ok (.iload_n 2, 1) := by decide +kernel
theorem dX6_laidTold_58 : decode cX6_laidTold 58 = .ok (.ifCond .eq 10, 3) := by decide +kernel
theorem dX6_laidTold_61 : decode cX6_laidTold 61 = .ok (.aload_n 0, 1) := by decide +kernel
theorem dX6_laidTold_62 : decode cX6_laidTold 62 = .ok (.getfield 188, 3) := by decide +kernel
theorem dX6_laidTold_65 : decode cX6_laidTold 65 = .ok (.goto 4, 3) := by decide +kernel
theorem dX6_laidTold_68 : decode cX6_laidTold 68 = .ok (.iload_n 3, 1) := by decide +kernel
theorem dX6_laidTold_69 : decode cX6_laidTold 69 = .ok (.ireturn, 1) := by decide +kernel
theorem dX6_when_0 : decode cX6_when 0 = .ok (.aload_n 0, 1) := by decide +kernel
theorem dX6_when_1 : decode cX6_when 1 = .ok (.iload_n 1, 1) := by decide +kernel
theorem dX6_when_2 : decode cX6_when 2 = .ok (.iconst 0, 1) := by decide +kernel
theorem dX6_when_3 : decode cX6_when 3 = .ok (.invokevirtual 198, 3) := by decide +kernel
theorem dX6_when_6 : decode cX6_when 6 = .ok (.ireturn, 1) := by decide +kernel
theorem dX6_worth_0 : decode cX6_worth 0 = .ok (.aload_n 0, 1) := by decide +kernel
theorem dX6_worth_1 : decode cX6_worth 1 = .ok (.iload_n 1, 1) := by decide +kernel
theorem dX6_worth_2 : decode cX6_worth 2 = .ok (.iconst 1, 1) := by decide +kernel
theorem dX6_worth_3 : decode cX6_worth 3 = .ok (.invokevirtual 198, 3) := by decide +kernel
theorem dX6_worth_6 : decode cX6_worth 6 = .ok (.ireturn, 1) := by decide +kernel
theorem dX6_spoils_0 : decode cX6_spoils 0 = .ok (.aload_n 0, 1) := by decide +kernel
theorem dX6_spoils_1 : decode cX6_spoils 1 = .ok (.invokevirtual 191, 3) := by decide +kernel
theorem dX6_spoils_4 : decode cX6_spoils 4 = .ok (.ifCond .eq 10, 3) := by decide +kernel
theorem dX6_spoils_7 : decode cX6_spoils 7 = .ok (.aload_n 0, 1) := by decide +kernel
theorem dX6_spoils_8 : decode cX6_spoils 8 = .ok (.ldc 136, 2) := by decide +kernel
theorem dX6_spoils_10 : decode cX6_spoils 10 = .ok (.invokevirtual 86, 3) := by decide +kernel
theorem dX6_spoils_13 : decode cX6_spoils 13 = .ok (.ireturn, 1) := by decide +kernel
theorem dX6_spoils_14 : decode cX6_spoils 14 = .ok (.aload_n 0, 1) := by decide +kernel
theorem dX6_spoils_15 : decode cX6_spoils 15 = .ok (.getfield 9, 3) := by decide +kernel
theorem dX6_spoils_18 : decode cX6_spoils 18 = .ok (.aload_n 0, 1) := by decide +kernel
theorem dX6_spoils_19 : decode cX6_spoils 19 = .ok (.getfield 16, 3) := by decide +kernel
theorem dX6_spoils_22 : decode cX6_spoils 22 = .ok (.invokestatic 70, 3) := by decide +kernel
theorem dX6_spoils_25 : decode cX6_spoils 25 = .ok (.iconst 0, 1) := by decide +kernel
theorem dX6_spoils_26 : decode cX6_spoils 26 = .ok (.istore_n 1, 1) := by decide +kernel
theorem dX6_spoils_27 : decode cX6_spoils 27 = .ok (.iconst 0, 1) := by decide +kernel
theorem dX6_spoils_28 : decode cX6_spoils 28 = .ok (.istore_n 2, 1) := by decide +kernel
theorem dX6_spoils_29 : decode cX6_spoils 29 = .ok (.iload_n 1, 1) := by decide +kernel
theorem dX6_spoils_30 : decode cX6_spoils 30 = .ok (.bipush 60, 2) := by decide +kernel
theorem dX6_spoils_32 : decode cX6_spoils 32 = .ok (.if_icmp .ge 44, 3) := by decide +kernel
theorem dX6_spoils_35 : decode cX6_spoils 35 = .ok (.iload_n 2, 1) := by decide +kernel
theorem dX6_spoils_36 : decode cX6_spoils 36 = .ok (.ifCond .ne 40, 3) := by decide +kernel
theorem dX6_spoils_39 : decode cX6_spoils 39 = .ok (.aload_n 0, 1) := by decide +kernel
theorem dX6_spoils_40 : decode cX6_spoils 40 = .ok (.invokevirtual 173, 3) := by decide +kernel
theorem dX6_spoils_43 : decode cX6_spoils 43 = .ok (.istore_n 3, 1) := by decide +kernel
theorem dX6_spoils_44 : decode cX6_spoils 44 = .ok (.aload_n 0, 1) := by decide +kernel
theorem dX6_spoils_45 : decode cX6_spoils 45 = .ok (.getfield 157, 3) := by decide +kernel
theorem dX6_spoils_48 : decode cX6_spoils 48 = .ok (.ifCond .lt 20, 3) := by decide +kernel
theorem dX6_spoils_51 : decode cX6_spoils 51 = .ok (.iload_n 3, 1) := by decide +kernel
theorem dX6_spoils_52 : decode cX6_spoils 52 = .ok (.aload_n 0, 1) := by decide +kernel
theorem dX6_spoils_53 : decode cX6_spoils 53 = .ok (.aload_n 0, 1) := by decide +kernel
theorem dX6_spoils_54 : decode cX6_spoils 54 = .ok (.getfield 157, 3) := by decide +kernel
theorem dX6_spoils_57 : decode cX6_spoils 57 = .ok (.iconst 2, 1) := by decide +kernel
theorem dX6_spoils_58 : decode cX6_spoils 58 = .ok (.invokevirtual 98, 3) := by decide +kernel
theorem dX6_spoils_61 : decode cX6_spoils 61 = .ok (.if_icmp .ge 7, 3) := by decide +kernel
theorem dX6_spoils_64 : decode cX6_spoils 64 = .ok (.iconst 1, 1) := by decide +kernel
theorem dX6_spoils_65 : decode cX6_spoils 65 = .ok (.goto 4, 3) := by decide +kernel
theorem dX6_spoils_68 : decode cX6_spoils 68 = .ok (.iconst 0, 1) := by decide +kernel
theorem dX6_spoils_69 : decode cX6_spoils 69 = .ok (.istore_n 2, 1) := by decide +kernel
theorem dX6_spoils_70 : decode cX6_spoils 70 = .ok (.iinc 1 1, 3) := by decide +kernel
theorem dX6_spoils_73 : decode cX6_spoils 73 = .ok (.goto (-44), 3) := by decide +kernel
theorem dX6_spoils_76 : decode cX6_spoils 76 = .ok (.aload_n 0, 1) := by decide +kernel
theorem dX6_spoils_77 : decode cX6_spoils 77 = .ok (.iload_n 2, 1) := by decide +kernel
theorem dX6_spoils_78 : decode cX6_spoils 78 = .ok (.ifCond .eq 7, 3) := by decide +kernel
theorem dX6_spoils_81 : decode cX6_spoils 81 = .ok (.iload_n 1, 1) := by decide +kernel
theorem dX6_spoils_82 : decode cX6_spoils 82 = .ok (.goto 4, 3) := by decide +kernel
theorem dX6_spoils_85 : decode cX6_spoils 85 = .ok (.iconst 0, 1) := by decide +kernel
theorem dX6_spoils_86 : decode cX6_spoils 86 = .ok (.invokevirtual 182, 3) := by decide +kernel
theorem dX6_spoils_89 : decode cX6_spoils 89 = .ok (.ifCond .ne 12, 3) := by decide +kernel
theorem dX6_spoils_92 : decode cX6_spoils 92 = .ok (.aload_n 0, 1) := by decide +kernel
theorem dX6_spoils_93 : decode cX6_spoils 93 = .ok (.ldc 152, 2) := by decide +kernel
theorem dX6_spoils_95 : decode cX6_spoils 95 = .ok (.invokevirtual 86, 3) := by decide +kernel
theorem dX6_spoils_98 : decode cX6_spoils 98 = .ok (.goto 4, 3) := by decide +kernel
theorem dX6_spoils_101 : decode cX6_spoils 101 = .ok (.iload_n 1, 1) := by decide +kernel
theorem dX6_spoils_102 : decode cX6_spoils 102 = .ok (.ireturn, 1) := by decide +kernel
theorem dX6_brings_0 : decode cX6_brings 0 = .ok (.iconst 0, 1) := by decide +kernel
theorem dX6_brings_1 : decode cX6_brings 1 = .ok (.istore_n 2, 1) := by decide +kernel
theorem dX6_brings_2 : decode cX6_brings 2 = .ok (.iconst 0, 1) := by decide +kernel
theorem dX6_brings_3 : decode cX6_brings 3 = .ok (.istore_n 3, 1) := by decide +kernel
theorem dX6_brings_4 : decode cX6_brings 4 = .ok (.iload_n 3, 1) := by decide +kernel
theorem dX6_brings_5 : decode cX6_brings 5 = .ok (.iload_n 1, 1) := by decide +kernel
theorem dX6_brings_6 : decode cX6_brings 6 = .ok (.if_icmp .ge 54, 3) := by decide +kernel
theorem dX6_brings_9 : decode cX6_brings 9 = .ok (.iload_n 3, 1) := by decide +kernel
theorem dX6_brings_10 : decode cX6_brings 10 = .ok (.aload_n 0, 1) := by decide +kernel
theorem dX6_brings_11 : decode cX6_brings 11 = .ok (.getfield 202, 3) := by decide +kernel
theorem dX6_brings_14 : decode cX6_brings 14 = .ok (.if_icmp .ge 33, 3) := by decide +kernel
theorem dX6_brings_17 : decode cX6_brings 17 = .ok (.aload_n 0, 1) := by decide +kernel
theorem dX6_brings_18 : decode cX6_brings 18 = .ok (.aload_n 0, 1) := by decide +kernel
theorem dX6_brings_19 : decode cX6_brings 19 = .ok (.getfield 22, 3) := by decide +kernel
theorem dX6_brings_22 : decode cX6_brings 22 = .ok (.iload_n 3, 1) := by decide +kernel
theorem dX6_brings_23 : decode cX6_brings 23 = .ok (.iaload, 1) := by decide +kernel
theorem dX6_brings_24 : decode cX6_brings 24 = .ok (.invokevirtual 137, 3) := by decide +kernel
theorem dX6_brings_27 : decode cX6_brings 27 = .ok (.ifCond .eq 20, 3) := by decide +kernel
theorem dX6_brings_30 : decode cX6_brings 30 = .ok (.iload_n 2, 1) := by decide +kernel
theorem dX6_brings_31 : decode cX6_brings 31 = .ok (.iconst 0, 1) := by decide +kernel
theorem dX6_brings_32 : decode cX6_brings 32 = .ok (.aload_n 0, 1) := by decide +kernel
theorem dX6_brings_33 : decode cX6_brings 33 = .ok (.aload_n 0, 1) := by decide +kernel
theorem dX6_brings_34 : decode cX6_brings 34 = .ok (.getfield 22, 3) := by decide +kernel
theorem dX6_brings_37 : decode cX6_brings 37 = .ok (.iload_n 3, 1) := by decide +kernel
theorem dX6_brings_38 : decode cX6_brings 38 = .ok (.iaload, 1) := by decide +kernel
theorem dX6_brings_39 : decode cX6_brings 39 = .ok (.invokevirtual 140, 3) := by decide +kernel
theorem dX6_brings_42 : decode cX6_brings 42 = .ok (.invokestatic 143, 3) := by decide +kernel
theorem dX6_brings_45 : decode cX6_brings 45 = .ok (.iadd, 1) := by decide +kernel
theorem dX6_brings_46 : decode cX6_brings 46 = .ok (.istore_n 2, 1) := by decide +kernel
theorem dX6_brings_47 : decode cX6_brings 47 = .ok (.iload_n 2, 1) := by decide +kernel
theorem dX6_brings_48 : decode cX6_brings 48 = .ok (.aload_n 0, 1) := by decide +kernel
theorem dX6_brings_49 : decode cX6_brings 49 = .ok (.invokevirtual 173, 3) := by decide +kernel
theorem dX6_brings_52 : decode cX6_brings 52 = .ok (.iadd, 1) := by decide +kernel
theorem dX6_brings_53 : decode cX6_brings 53 = .ok (.istore_n 2, 1) := by decide +kernel
theorem dX6_brings_54 : decode cX6_brings 54 = .ok (.iinc 3 1, 3) := by decide +kernel
theorem dX6_brings_57 : decode cX6_brings 57 = .ok (.goto (-53), 3) := by decide +kernel
theorem dX6_brings_60 : decode cX6_brings 60 = .ok (.aload_n 0, 1) := by decide +kernel
theorem dX6_brings_61 : decode cX6_brings 61 = .ok (.getfield 16, 3) := by decide +kernel
theorem dX6_brings_64 : decode cX6_brings 64 = .ok (.aload_n 0, 1) := by decide +kernel
theorem dX6_brings_65 : decode cX6_brings 65 = .ok (.getfield 9, 3) := by decide +kernel
theorem dX6_brings_68 : decode cX6_brings 68 = .ok (.invokestatic 70, 3) := by decide +kernel
theorem dX6_brings_71 : decode cX6_brings 71 = .ok (.iload_n 2, 1) := by decide +kernel
theorem dX6_brings_72 : decode cX6_brings 72 = .ok (.ireturn, 1) := by decide +kernel
theorem dX6_mealOf_0 : decode cX6_mealOf 0 = .ok (.aload_n 0, 1) := by decide +kernel
theorem dX6_mealOf_1 : decode cX6_mealOf 1 = .ok (.iconst 0, 1) := by decide +kernel
theorem dX6_mealOf_2 : decode cX6_mealOf 2 = .ok (.putfield 202, 3) := by decide +kernel
theorem dX6_mealOf_5 : decode cX6_mealOf 5 = .ok (.iconst 0, 1) := by decide +kernel
theorem dX6_mealOf_6 : decode cX6_mealOf 6 = .ok (.istore_n 2, 1) := by decide +kernel
theorem dX6_mealOf_7 : decode cX6_mealOf 7 = .ok (.iload_n 2, 1) := by decide +kernel
theorem dX6_mealOf_8 : decode cX6_mealOf 8 = .ok (.aload_n 0, 1) := by decide +kernel
theorem dX6_mealOf_9 : decode cX6_mealOf 9 = .ok (.getfield 9, 3) := by decide +kernel
theorem dX6_mealOf_12 : decode cX6_mealOf 12 = .ok (.iconst 3, 1) := by decide +kernel
theorem dX6_mealOf_13 : decode cX6_mealOf 13 = .ok (.iaload, 1) := by decide +kernel
theorem dX6_mealOf_14 : decode cX6_mealOf 14 = .ok (.if_icmp .ge 37, 3) := by decide +kernel
theorem dX6_mealOf_17 : decode cX6_mealOf 17 = .ok (.iload_n 1, 1) := by decide +kernel
theorem dX6_mealOf_18 : decode cX6_mealOf 18 = .ok (.iload_n 2, 1) := by decide +kernel
theorem dX6_mealOf_19 : decode cX6_mealOf 19 = .ok (.invokestatic 205, 3) := by decide +kernel
theorem dX6_mealOf_22 : decode cX6_mealOf 22 = .ok (.ifCond .eq 23, 3) := by decide +kernel
theorem dX6_mealOf_25 : decode cX6_mealOf 25 = .ok (.aload_n 0, 1) := by decide +kernel
theorem dX6_mealOf_26 : decode cX6_mealOf 26 = .ok (.getfield 22, 3) := by decide +kernel
theorem dX6_mealOf_29 : decode cX6_mealOf 29 = .ok (.aload_n 0, 1) := by decide +kernel
theorem dX6_mealOf_30 : decode cX6_mealOf 30 = .ok (.getfield 202, 3) := by decide +kernel
theorem dX6_mealOf_33 : decode cX6_mealOf 33 = .ok (.iload_n 2, 1) := by decide +kernel
theorem dX6_mealOf_34 : decode cX6_mealOf 34 = .ok (.iastore, 1) := by decide +kernel
theorem dX6_mealOf_35 : decode cX6_mealOf 35 = .ok (.aload_n 0, 1) := by decide +kernel
theorem dX6_mealOf_36 : decode cX6_mealOf 36 = .ok (.dup, 1) := by decide +kernel
theorem dX6_mealOf_37 : decode cX6_mealOf 37 = .ok (.getfield 202, 3) := by decide +kernel
theorem dX6_mealOf_40 : decode cX6_mealOf 40 = .ok (.iconst 1, 1) := by decide +kernel
theorem dX6_mealOf_41 : decode cX6_mealOf 41 = .ok (.iadd, 1) := by decide +kernel
theorem dX6_mealOf_42 : decode cX6_mealOf 42 = .ok (.putfield 202, 3) := by decide +kernel
theorem dX6_mealOf_45 : decode cX6_mealOf 45 = .ok (.iinc 2 1, 3) := by decide +kernel
theorem dX6_mealOf_48 : decode cX6_mealOf 48 = .ok (.goto (-41), 3) := by decide +kernel
theorem dX6_mealOf_51 : decode cX6_mealOf 51 = .ok (.return_, 1) := by decide +kernel
theorem dX6_isSet_0 : decode cX6_isSet 0 = .ok (.iload_n 1, 1) := by decide +kernel
theorem dX6_isSet_1 : decode cX6_isSet 1 = .ok (.iconst 0, 1) := by decide +kernel
theorem dX6_isSet_2 : decode cX6_isSet 2 = .ok (.iconst 1, 1) := by decide +kernel
theorem dX6_isSet_3 : decode cX6_isSet 3 = .ok (.aload_n 0, 1) := by decide +kernel
theorem dX6_isSet_4 : decode cX6_isSet 4 = .ok (.getfield 9, 3) := by decide +kernel
theorem dX6_isSet_7 : decode cX6_isSet 7 = .ok (.iconst 3, 1) := by decide +kernel
theorem dX6_isSet_8 : decode cX6_isSet 8 = .ok (.iaload, 1) := by decide +kernel
theorem dX6_isSet_9 : decode cX6_isSet 9 = .ok (.ishl, 1) := by decide +kernel
theorem dX6_isSet_10 : decode cX6_isSet 10 = .ok (.iconst 1, 1) := by decide +kernel
theorem dX6_isSet_11 : decode cX6_isSet 11 = .ok (.isub, 1) := by decide +kernel
theorem dX6_isSet_12 : decode cX6_isSet 12 = .ok (.invokestatic 74, 3) := by decide +kernel
theorem dX6_isSet_15 : decode cX6_isSet 15 = .ok (.ireturn, 1) := by decide +kernel
theorem dX6_refuses_0 : decode cX6_refuses 0 = .ok (.iload_n 1, 1) := by decide +kernel
theorem dX6_refuses_1 : decode cX6_refuses 1 = .ok (.ifCond .eq 13, 3) := by decide +kernel
theorem dX6_refuses_4 : decode cX6_refuses 4 = .ok (.iload_n 3, 1) := by decide +kernel
theorem dX6_refuses_5 : decode cX6_refuses 5 = .ok (.iconst 1, 1) := by decide +kernel
theorem dX6_refuses_6 : decode cX6_refuses 6 = .ok (.bipush 60, 2) := by decide +kernel
theorem dX6_refuses_8 : decode cX6_refuses 8 = .ok (.invokestatic 74, 3) := by decide +kernel
theorem dX6_refuses_11 : decode cX6_refuses 11 = .ok (.ifCond .ne 6, 3) := by decide +kernel
theorem dX6_refuses_14 : decode cX6_refuses 14 = .ok (.ldc 69, 2) := by decide +kernel
theorem dX6_refuses_16 : decode cX6_refuses 16 = .ok (.ireturn, 1) := by decide +kernel
theorem dX6_refuses_17 : decode cX6_refuses 17 = .ok (.iload_n 2, 1) := by decide +kernel
theorem dX6_refuses_18 : decode cX6_refuses 18 = .ok (.aload_n 0, 1) := by decide +kernel
theorem dX6_refuses_19 : decode cX6_refuses 19 = .ok (.iconst 0, 1) := by decide +kernel
theorem dX6_refuses_20 : decode cX6_refuses 20 = .ok (.invokevirtual 208, 3) := by decide +kernel
theorem dX6_refuses_23 : decode cX6_refuses 23 = .ok (.iconst (-1), 1) := by decide +kernel
theorem dX6_refuses_24 : decode cX6_refuses 24 = .ok (.ixor, 1) := by decide +kernel
theorem dX6_refuses_25 : decode cX6_refuses 25 = .ok (.iand, 1) := by decide +kernel
theorem dX6_refuses_26 : decode cX6_refuses 26 = .ok (.ifCond .ne 11, 3) := by decide +kernel
theorem dX6_refuses_29 : decode cX6_refuses 29 = .ok (.aload_n 0, 1) := by decide +kernel
theorem dX6_refuses_30 : decode cX6_refuses 30 = .ok (.iload_n 3, 1) := by decide +kernel
theorem dX6_refuses_31 : decode cX6_refuses 31 = .ok (.invokevirtual 176, 3) := by decide +kernel
theorem dX6_refuses_34 : decode cX6_refuses 34 = .ok (.ifCond .eq 8, 3) := by decide +kernel
theorem dX6_refuses_37 : decode cX6_refuses 37 = .ok (.ldc 136, 2) := by decide +kernel
theorem dX6_refuses_39 : decode cX6_refuses 39 = .ok (.goto 4, 3) := by decide +kernel
theorem dX6_refuses_42 : decode cX6_refuses 42 = .ok (.iconst 0, 1) := by decide +kernel
theorem dX6_refuses_43 : decode cX6_refuses 43 = .ok (.ireturn, 1) := by decide +kernel
theorem dX6_plan_0 : decode cX6_plan 0 = .ok (.aload_n 0, 1) := by decide +kernel
theorem dX6_plan_1 : decode cX6_plan 1 = .ok (.aload_n 0, 1) := by decide +kernel
theorem dX6_plan_2 : decode cX6_plan 2 = .ok (.iload_n 1, 1) := by decide +kernel
theorem dX6_plan_3 : decode cX6_plan 3 = .ok (.invokevirtual 211, 3) := by decide +kernel
theorem dX6_plan_6 : decode cX6_plan 6 = .ok (.iload_n 1, 1) := by decide +kernel
theorem dX6_plan_7 : decode cX6_plan 7 = .ok (.iload_n 2, 1) := by decide +kernel
theorem dX6_plan_8 : decode cX6_plan 8 = .ok (.invokevirtual 214, 3) := by decide +kernel
theorem dX6_plan_11 : decode cX6_plan 11 = .ok (.istore_n 3, 1) := by decide +kernel
theorem dX6_plan_12 : decode cX6_plan 12 = .ok (.iload_n 3, 1) := by decide +kernel
theorem dX6_plan_13 : decode cX6_plan 13 = .ok (.ifCond .eq 9, 3) := by decide +kernel
theorem dX6_plan_16 : decode cX6_plan 16 = .ok (.aload_n 0, 1) := by decide +kernel
theorem dX6_plan_17 : decode cX6_plan 17 = .ok (.iload_n 3, 1) := by decide +kernel
theorem dX6_plan_18 : decode cX6_plan 18 = .ok (.invokevirtual 86, 3) := by decide +kernel
theorem dX6_plan_21 : decode cX6_plan 21 = .ok (.ireturn, 1) := by decide +kernel
theorem dX6_plan_22 : decode cX6_plan 22 = .ok (.aload_n 0, 1) := by decide +kernel
theorem dX6_plan_23 : decode cX6_plan 23 = .ok (.getfield 9, 3) := by decide +kernel
theorem dX6_plan_26 : decode cX6_plan 26 = .ok (.aload_n 0, 1) := by decide +kernel
theorem dX6_plan_27 : decode cX6_plan 27 = .ok (.getfield 16, 3) := by decide +kernel
theorem dX6_plan_30 : decode cX6_plan 30 = .ok (.invokestatic 70, 3) := by decide +kernel
theorem dX6_plan_33 : decode cX6_plan 33 = .ok (.aload_n 0, 1) := by decide +kernel
theorem dX6_plan_34 : decode cX6_plan 34 = .ok (.iload_n 1, 1) := by decide +kernel
theorem dX6_plan_35 : decode cX6_plan 35 = .ok (.invokevirtual 218, 3) := by decide +kernel
theorem dX6_plan_38 : decode cX6_plan 38 = .ok (.aload_n 0, 1) := by decide +kernel
theorem dX6_plan_39 : decode cX6_plan 39 = .ok (.iload_n 2, 1) := by decide +kernel
theorem dX6_plan_40 : decode cX6_plan 40 = .ok (.invokevirtual 222, 3) := by decide +kernel
theorem dX6_plan_43 : decode cX6_plan 43 = .ok (.ireturn, 1) := by decide +kernel
theorem dX6_orders_0 : decode cX6_orders 0 = .ok (.iload_n 1, 1) := by decide +kernel
theorem dX6_orders_1 : decode cX6_orders 1 = .ok (.ifCond .ne 54, 3) := by decide +kernel
theorem dX6_orders_4 : decode cX6_orders 4 = .ok (.aload_n 0, 1) := by decide +kernel
theorem dX6_orders_5 : decode cX6_orders 5 = .ok (.iload_n 2, 1) := by decide +kernel
theorem dX6_orders_6 : decode cX6_orders 6 = .ok (.invokevirtual 222, 3) := by decide +kernel
theorem dX6_orders_9 : decode cX6_orders 9 = .ok (.istore_n 3, 1) := by decide +kernel
theorem dX6_orders_10 : decode cX6_orders 10 = .ok (.iload_n 3, 1) := by decide +kernel
theorem dX6_orders_11 : decode cX6_orders 11 = .ok (.aload_n 0, 1) := by decide +kernel
theorem dX6_orders_12 : decode cX6_orders 12 = .ok (.getfield 225, 3) := by decide +kernel
theorem dX6_orders_15 : decode cX6_orders 15 = .ok (.if_icmp .le 40, 3) := by decide +kernel
theorem dX6_orders_18 : decode cX6_orders 18 = .ok (.aload_n 0, 1) := by decide +kernel
theorem dX6_orders_19 : decode cX6_orders 19 = .ok (.iload_n 3, 1) := by decide +kernel
theorem dX6_orders_20 : decode cX6_orders 20 = .ok (.putfield 225, 3) := by decide +kernel
theorem dX6_orders_23 : decode cX6_orders 23 = .ok (.iconst 0, 1) := by decide +kernel
theorem dX6_orders_24 : decode cX6_orders 24 = .ok (.istore 4, 2) := by decide +kernel
theorem dX6_orders_26 : decode cX6_orders 26 = .ok (.iload 4, 2) := by decide +kernel
theorem dX6_orders_28 : decode cX6_orders 28 = .ok (.aload_n 0, 1) := by decide +kernel
theorem dX6_orders_29 : decode cX6_orders 29 = .ok (.getfield 202, 3) := by decide +kernel
theorem dX6_orders_32 : decode cX6_orders 32 = .ok (.if_icmp .ge 23, 3) := by decide +kernel
theorem dX6_orders_35 : decode cX6_orders 35 = .ok (.aload_n 0, 1) := by decide +kernel
theorem dX6_orders_36 : decode cX6_orders 36 = .ok (.getfield 25, 3) := by decide +kernel
theorem dX6_orders_39 : decode cX6_orders 39 = .ok (.iload 4, 2) := by decide +kernel
theorem dX6_orders_41 : decode cX6_orders 41 = .ok (.aload_n 0, 1) := by decide +kernel
theorem dX6_orders_42 : decode cX6_orders 42 = .ok (.getfield 22, 3) := by decide +kernel
theorem dX6_orders_45 : decode cX6_orders 45 = .ok (.iload 4, 2) := by decide +kernel
theorem dX6_orders_47 : decode cX6_orders 47 = .ok (.iaload, 1) := by decide +kernel
theorem dX6_orders_48 : decode cX6_orders 48 = .ok (.iastore, 1) := by decide +kernel
theorem dX6_orders_49 : decode cX6_orders 49 = .ok (.iinc 4 1, 3) := by decide +kernel
theorem dX6_orders_52 : decode cX6_orders 52 = .ok (.goto (-26), 3) := by decide +kernel
theorem dX6_orders_55 : decode cX6_orders 55 = .ok (.iconst 0, 1) := by decide +kernel
theorem dX6_orders_56 : decode cX6_orders 56 = .ok (.istore_n 3, 1) := by decide +kernel
theorem dX6_orders_57 : decode cX6_orders 57 = .ok (.iload_n 3, 1) := by decide +kernel
theorem dX6_orders_58 : decode cX6_orders 58 = .ok (.bipush 10, 2) := by decide +kernel
theorem dX6_orders_60 : decode cX6_orders 60 = .ok (.if_icmp .ge 48, 3) := by decide +kernel
theorem dX6_orders_63 : decode cX6_orders 63 = .ok (.iload_n 1, 1) := by decide +kernel
theorem dX6_orders_64 : decode cX6_orders 64 = .ok (.ifCond .eq 44, 3) := by decide +kernel
theorem dX6_orders_67 : decode cX6_orders 67 = .ok (.iload_n 1, 1) := by decide +kernel
theorem dX6_orders_68 : decode cX6_orders 68 = .ok (.iload_n 3, 1) := by decide +kernel
theorem dX6_orders_69 : decode cX6_orders 69 = .ok (.invokestatic 205, 3) := by decide +kernel
theorem dX6_orders_72 : decode cX6_orders 72 = .ok (.ifCond .eq 30, 3) := by decide +kernel
theorem dX6_orders_75 : decode cX6_orders 75 = .ok (.aload_n 0, 1) := by decide +kernel
theorem dX6_orders_76 : decode cX6_orders 76 = .ok (.getfield 22, 3) := by decide +kernel
theorem dX6_orders_79 : decode cX6_orders 79 = .ok (.aload_n 0, 1) := by decide +kernel
theorem dX6_orders_80 : decode cX6_orders 80 = .ok (.getfield 202, 3) := by decide +kernel
theorem dX6_orders_83 : decode cX6_orders 83 = .ok (.iload_n 1, 1) := by decide +kernel
theorem dX6_orders_84 : decode cX6_orders 84 = .ok (.invokestatic 228, 3) := by decide +kernel
theorem dX6_orders_87 : decode cX6_orders 87 = .ok (.isub, 1) := by decide +kernel
theorem dX6_orders_88 : decode cX6_orders 88 = .ok (.iload_n 3, 1) := by decide +kernel
theorem dX6_orders_89 : decode cX6_orders 89 = .ok (.iastore, 1) := by decide +kernel
theorem dX6_orders_90 : decode cX6_orders 90 = .ok (.aload_n 0, 1) := by decide +kernel
theorem dX6_orders_91 : decode cX6_orders 91 = .ok (.iload_n 1, 1) := by decide +kernel
theorem dX6_orders_92 : decode cX6_orders 92 = .ok (.iconst 1, 1) := by decide +kernel
theorem dX6_orders_93 : decode cX6_orders 93 = .ok (.iload_n 3, 1) := by decide +kernel
theorem dX6_orders_94 : decode cX6_orders 94 = .ok (.ishl, 1) := by decide +kernel
theorem dX6_orders_95 : decode cX6_orders 95 = .ok (.iconst (-1), 1) := by decide +kernel
theorem dX6_orders_96 : decode cX6_orders 96 = .ok (.ixor, 1) := by decide +kernel
theorem dX6_orders_97 : decode cX6_orders 97 = .ok (.iand, 1) := by decide +kernel
theorem dX6_orders_98 : decode cX6_orders 98 = .ok (.iload_n 2, 1) := by decide +kernel
theorem dX6_orders_99 : decode cX6_orders 99 = .ok (.invokevirtual 231, 3) := by decide +kernel
theorem dX6_orders_102 : decode cX6_orders 102 = .ok (.iinc 3 1, 3) := by decide +kernel
theorem dX6_orders_105 : decode cX6_orders 105 = .ok (.goto (-48), 3) := by decide +kernel
theorem dX6_orders_108 : decode cX6_orders 108 = .ok (.return_, 1) := by decide +kernel
theorem dX6_findBest_0 : decode cX6_findBest 0 = .ok (.aload_n 0, 1) := by decide +kernel
theorem dX6_findBest_1 : decode cX6_findBest 1 = .ok (.getfield 9, 3) := by decide +kernel
theorem dX6_findBest_4 : decode cX6_findBest 4 = .ok (.aload_n 0, 1) := by decide +kernel
theorem dX6_findBest_5 : decode cX6_findBest 5 = .ok (.getfield 16, 3) := by decide +kernel
theorem dX6_findBest_8 : decode cX6_findBest 8 = .ok (.invokestatic 70, 3) := by decide +kernel
theorem dX6_findBest_11 : decode cX6_findBest 11 = .ok (.aload_n 0, 1) := by decide +kernel
theorem dX6_findBest_12 : decode cX6_findBest 12 = .ok (.iconst (-1), 1) := by decide +kernel
theorem dX6_findBest_13 : decode cX6_findBest 13 = .ok (.putfield 225, 3) := by decide +kernel
theorem dX6_findBest_16 : decode cX6_findBest 16 = .ok (.aload_n 0, 1) := by decide +kernel
theorem dX6_findBest_17 : decode cX6_findBest 17 = .ok (.iload_n 1, 1) := by decide +kernel
theorem dX6_findBest_18 : decode cX6_findBest 18 = .ok (.invokestatic 228, 3) := by decide +kernel
theorem dX6_findBest_21 : decode cX6_findBest 21 = .ok (.putfield 202, 3) := by decide +kernel
theorem dX6_findBest_24 : decode cX6_findBest 24 = .ok (.aload_n 0, 1) := by decide +kernel
theorem dX6_findBest_25 : decode cX6_findBest 25 = .ok (.iload_n 1, 1) := by decide +kernel
theorem dX6_findBest_26 : decode cX6_findBest 26 = .ok (.iload_n 2, 1) := by decide +kernel
theorem dX6_findBest_27 : decode cX6_findBest 27 = .ok (.invokevirtual 231, 3) := by decide +kernel
theorem dX6_findBest_30 : decode cX6_findBest 30 = .ok (.return_, 1) := by decide +kernel
theorem dX6_isFew_0 : decode cX6_isFew 0 = .ok (.aload_n 0, 1) := by decide +kernel
theorem dX6_isFew_1 : decode cX6_isFew 1 = .ok (.iload_n 1, 1) := by decide +kernel
theorem dX6_isFew_2 : decode cX6_isFew 2 = .ok (.invokevirtual 211, 3) := by decide +kernel
theorem dX6_isFew_5 : decode cX6_isFew 5 = .ok (.ifCond .eq 15, 3) := by decide +kernel
theorem dX6_isFew_8 : decode cX6_isFew 8 = .ok (.iload_n 1, 1) := by decide +kernel
theorem dX6_isFew_9 : decode cX6_isFew 9 = .ok (.invokestatic 228, 3) := by decide +kernel
theorem dX6_isFew_12 : decode cX6_isFew 12 = .ok (.iconst 5, 1) := by decide +kernel
theorem dX6_isFew_13 : decode cX6_isFew 13 = .ok (.if_icmp .gt 7, 3) := by decide +kernel
theorem dX6_isFew_16 : decode cX6_isFew 16 = .ok (.iconst 1, 1) := by decide +kernel
theorem dX6_isFew_17 : decode cX6_isFew 17 = .ok (.goto 4, 3) := by decide +kernel
theorem dX6_isFew_20 : decode cX6_isFew 20 = .ok (.iconst 0, 1) := by decide +kernel
theorem dX6_isFew_21 : decode cX6_isFew 21 = .ok (.ireturn, 1) := by decide +kernel
theorem dX6_best_0 : decode cX6_best 0 = .ok (.aload_n 0, 1) := by decide +kernel
theorem dX6_best_1 : decode cX6_best 1 = .ok (.aload_n 0, 1) := by decide +kernel
theorem dX6_best_2 : decode cX6_best 2 = .ok (.iload_n 1, 1) := by decide +kernel
theorem dX6_best_3 : decode cX6_best 3 = .ok (.invokevirtual 234, 3) := by decide +kernel
theorem dX6_best_6 : decode cX6_best 6 = .ok (.iload_n 1, 1) := by decide +kernel
theorem dX6_best_7 : decode cX6_best 7 = .ok (.iload_n 2, 1) := by decide +kernel
theorem dX6_best_8 : decode cX6_best 8 = .ok (.invokevirtual 214, 3) := by decide +kernel
theorem dX6_best_11 : decode cX6_best 11 = .ok (.istore_n 3, 1) := by decide +kernel
theorem dX6_best_12 : decode cX6_best 12 = .ok (.iload_n 3, 1) := by decide +kernel
theorem dX6_best_13 : decode cX6_best 13 = .ok (.ifCond .eq 9, 3) := by decide +kernel
theorem dX6_best_16 : decode cX6_best 16 = .ok (.aload_n 0, 1) := by decide +kernel
theorem dX6_best_17 : decode cX6_best 17 = .ok (.iload_n 3, 1) := by decide +kernel
theorem dX6_best_18 : decode cX6_best 18 = .ok (.invokevirtual 86, 3) := by decide +kernel
theorem dX6_best_21 : decode cX6_best 21 = .ok (.ireturn, 1) := by decide +kernel
theorem dX6_best_22 : decode cX6_best 22 = .ok (.aload_n 0, 1) := by decide +kernel
theorem dX6_best_23 : decode cX6_best 23 = .ok (.iload_n 1, 1) := by decide +kernel
theorem dX6_best_24 : decode cX6_best 24 = .ok (.iload_n 2, 1) := by decide +kernel
theorem dX6_best_25 : decode cX6_best 25 = .ok (.invokevirtual 237, 3) := by decide +kernel
theorem dX6_best_28 : decode cX6_best 28 = .ok (.aload_n 0, 1) := by decide +kernel
theorem dX6_best_29 : decode cX6_best 29 = .ok (.getfield 225, 3) := by decide +kernel
theorem dX6_best_32 : decode cX6_best 32 = .ok (.ireturn, 1) := by decide +kernel
theorem dX6_ith_0 : decode cX6_ith 0 = .ok (.aload_n 0, 1) := by decide +kernel
theorem dX6_ith_1 : decode cX6_ith 1 = .ok (.aload_n 0, 1) := by decide +kernel
theorem dX6_ith_2 : decode cX6_ith 2 = .ok (.iload_n 1, 1) := by decide +kernel
theorem dX6_ith_3 : decode cX6_ith 3 = .ok (.invokevirtual 234, 3) := by decide +kernel
theorem dX6_ith_6 : decode cX6_ith 6 = .ok (.ifCond .eq 21, 3) := by decide +kernel
theorem dX6_ith_9 : decode cX6_ith 9 = .ok (.iload_n 3, 1) := by decide +kernel
theorem dX6_ith_10 : decode cX6_ith 10 = .ok (.iconst 0, 1) := by decide +kernel
theorem dX6_ith_11 : decode cX6_ith 11 = .ok (.iload_n 1, 1) := by decide +kernel
theorem dX6_ith_12 : decode cX6_ith 12 = .ok (.invokestatic 228, 3) := by decide +kernel
theorem dX6_ith_15 : decode cX6_ith 15 = .ok (.iconst 1, 1) := by decide +kernel
theorem dX6_ith_16 : decode cX6_ith 16 = .ok (.isub, 1) := by decide +kernel
theorem dX6_ith_17 : decode cX6_ith 17 = .ok (.invokestatic 74, 3) := by decide +kernel
theorem dX6_ith_20 : decode cX6_ith 20 = .ok (.ifCond .eq 7, 3) := by decide +kernel
theorem dX6_ith_23 : decode cX6_ith 23 = .ok (.iconst 1, 1) := by decide +kernel
theorem dX6_ith_24 : decode cX6_ith 24 = .ok (.goto 4, 3) := by decide +kernel
theorem dX6_ith_27 : decode cX6_ith 27 = .ok (.iconst 0, 1) := by decide +kernel
theorem dX6_ith_28 : decode cX6_ith 28 = .ok (.iload_n 1, 1) := by decide +kernel
theorem dX6_ith_29 : decode cX6_ith 29 = .ok (.iload_n 2, 1) := by decide +kernel
theorem dX6_ith_30 : decode cX6_ith 30 = .ok (.invokevirtual 214, 3) := by decide +kernel
theorem dX6_ith_33 : decode cX6_ith 33 = .ok (.istore 4, 2) := by decide +kernel
theorem dX6_ith_35 : decode cX6_ith 35 = .ok (.iload 4, 2) := by decide +kernel
theorem dX6_ith_37 : decode cX6_ith 37 = .ok (.ifCond .eq 10, 3) := by decide +kernel
theorem dX6_ith_40 : decode cX6_ith 40 = .ok (.aload_n 0, 1) := by decide +kernel
theorem dX6_ith_41 : decode cX6_ith 41 = .ok (.iload 4, 2) := by decide +kernel
theorem dX6_ith_43 : decode cX6_ith 43 = .ok (.invokevirtual 86, 3) := by decide +kernel
theorem dX6_ith_46 : decode cX6_ith 46 = .ok (.ireturn, 1) := by decide +kernel
theorem dX6_ith_47 : decode cX6_ith 47 = .ok (.aload_n 0, 1) := by decide +kernel
theorem dX6_ith_48 : decode cX6_ith 48 = .ok (.iload_n 1, 1) := by decide +kernel
theorem dX6_ith_49 : decode cX6_ith 49 = .ok (.iload_n 2, 1) := by decide +kernel
theorem dX6_ith_50 : decode cX6_ith 50 = .ok (.invokevirtual 237, 3) := by decide +kernel
theorem dX6_ith_53 : decode cX6_ith 53 = .ok (.aload_n 0, 1) := by decide +kernel
theorem dX6_ith_54 : decode cX6_ith 54 = .ok (.getfield 25, 3) := by decide +kernel
theorem dX6_ith_57 : decode cX6_ith 57 = .ok (.iload_n 3, 1) := by decide +kernel
theorem dX6_ith_58 : decode cX6_ith 58 = .ok (.iaload, 1) := by decide +kernel
theorem dX6_ith_59 : decode cX6_ith 59 = .ok (.ireturn, 1) := by decide +kernel
theorem dX6_bringsOf_0 : decode cX6_bringsOf 0 = .ok (.aload_n 0, 1) := by decide +kernel
theorem dX6_bringsOf_1 : decode cX6_bringsOf 1 = .ok (.iload_n 2, 1) := by decide +kernel
theorem dX6_bringsOf_2 : decode cX6_bringsOf 2 = .ok (.ifCond .ge 7, 3) := by decide +kernel
theorem dX6_bringsOf_5 : decode cX6_bringsOf 5 = .ok (.iconst 1, 1) := by decide +kernel
theorem dX6_bringsOf_6 : decode cX6_bringsOf 6 = .ok (.goto 4, 3) := by decide +kernel
theorem dX6_bringsOf_9 : decode cX6_bringsOf 9 = .ok (.iconst 2, 1) := by decide +kernel
theorem dX6_bringsOf_10 : decode cX6_bringsOf 10 = .ok (.putfield 202, 3) := by decide +kernel
theorem dX6_bringsOf_13 : decode cX6_bringsOf 13 = .ok (.aload_n 0, 1) := by decide +kernel
theorem dX6_bringsOf_14 : decode cX6_bringsOf 14 = .ok (.getfield 22, 3) := by decide +kernel
theorem dX6_bringsOf_17 : decode cX6_bringsOf 17 = .ok (.iconst 0, 1) := by decide +kernel
theorem dX6_bringsOf_18 : decode cX6_bringsOf 18 = .ok (.iload_n 1, 1) := by decide +kernel
theorem dX6_bringsOf_19 : decode cX6_bringsOf 19 = .ok (.iastore, 1) := by decide +kernel
theorem dX6_bringsOf_20 : decode cX6_bringsOf 20 = .ok (.aload_n 0, 1) := by decide +kernel
theorem dX6_bringsOf_21 : decode cX6_bringsOf 21 = .ok (.getfield 22, 3) := by decide +kernel
theorem dX6_bringsOf_24 : decode cX6_bringsOf 24 = .ok (.iconst 1, 1) := by decide +kernel
theorem dX6_bringsOf_25 : decode cX6_bringsOf 25 = .ok (.iconst 0, 1) := by decide +kernel
theorem dX6_bringsOf_26 : decode cX6_bringsOf 26 = .ok (.iload_n 2, 1) := by decide +kernel
theorem dX6_bringsOf_27 : decode cX6_bringsOf 27 = .ok (.invokestatic 105, 3) := by decide +kernel
theorem dX6_bringsOf_30 : decode cX6_bringsOf 30 = .ok (.iastore, 1) := by decide +kernel
theorem dX6_bringsOf_31 : decode cX6_bringsOf 31 = .ok (.aload_n 0, 1) := by decide +kernel
theorem dX6_bringsOf_32 : decode cX6_bringsOf 32 = .ok (.iload_n 3, 1) := by decide +kernel
theorem dX6_bringsOf_33 : decode cX6_bringsOf 33 = .ok (.invokevirtual 222, 3) := by decide +kernel
theorem dX6_bringsOf_36 : decode cX6_bringsOf 36 = .ok (.ireturn, 1) := by decide +kernel
theorem dX6_next_0 : decode cX6_next 0 = .ok (.aload_n 0, 1) := by decide +kernel
theorem dX6_next_1 : decode cX6_next 1 = .ok (.iconst 1, 1) := by decide +kernel
theorem dX6_next_2 : decode cX6_next 2 = .ok (.iconst 0, 1) := by decide +kernel
theorem dX6_next_3 : decode cX6_next 3 = .ok (.iload_n 1, 1) := by decide +kernel
theorem dX6_next_4 : decode cX6_next 4 = .ok (.invokevirtual 214, 3) := by decide +kernel
theorem dX6_next_7 : decode cX6_next 7 = .ok (.istore_n 2, 1) := by decide +kernel
theorem dX6_next_8 : decode cX6_next 8 = .ok (.iload_n 2, 1) := by decide +kernel
theorem dX6_next_9 : decode cX6_next 9 = .ok (.ifCond .eq 9, 3) := by decide +kernel
theorem dX6_next_12 : decode cX6_next 12 = .ok (.aload_n 0, 1) := by decide +kernel
theorem dX6_next_13 : decode cX6_next 13 = .ok (.iload_n 2, 1) := by decide +kernel
theorem dX6_next_14 : decode cX6_next 14 = .ok (.invokevirtual 86, 3) := by decide +kernel
theorem dX6_next_17 : decode cX6_next 17 = .ok (.ireturn, 1) := by decide +kernel
theorem dX6_next_18 : decode cX6_next 18 = .ok (.aload_n 0, 1) := by decide +kernel
theorem dX6_next_19 : decode cX6_next 19 = .ok (.getfield 9, 3) := by decide +kernel
theorem dX6_next_22 : decode cX6_next 22 = .ok (.aload_n 0, 1) := by decide +kernel
theorem dX6_next_23 : decode cX6_next 23 = .ok (.getfield 16, 3) := by decide +kernel
theorem dX6_next_26 : decode cX6_next 26 = .ok (.invokestatic 70, 3) := by decide +kernel
theorem dX6_next_29 : decode cX6_next 29 = .ok (.aload_n 0, 1) := by decide +kernel
theorem dX6_next_30 : decode cX6_next 30 = .ok (.iconst 0, 1) := by decide +kernel
theorem dX6_next_31 : decode cX6_next 31 = .ok (.putfield 202, 3) := by decide +kernel
theorem dX6_next_34 : decode cX6_next 34 = .ok (.iconst (-1), 1) := by decide +kernel
theorem dX6_next_35 : decode cX6_next 35 = .ok (.istore_n 3, 1) := by decide +kernel
theorem dX6_next_36 : decode cX6_next 36 = .ok (.aload_n 0, 1) := by decide +kernel
theorem dX6_next_37 : decode cX6_next 37 = .ok (.iload_n 1, 1) := by decide +kernel
theorem dX6_next_38 : decode cX6_next 38 = .ok (.invokevirtual 222, 3) := by decide +kernel
theorem dX6_next_41 : decode cX6_next 41 = .ok (.istore 4, 2) := by decide +kernel
theorem dX6_next_43 : decode cX6_next 43 = .ok (.iconst 0, 1) := by decide +kernel
theorem dX6_next_44 : decode cX6_next 44 = .ok (.istore 5, 2) := by decide +kernel
theorem dX6_next_46 : decode cX6_next 46 = .ok (.iload 5, 2) := by decide +kernel
theorem dX6_next_48 : decode cX6_next 48 = .ok (.aload_n 0, 1) := by decide +kernel
theorem dX6_next_49 : decode cX6_next 49 = .ok (.getfield 9, 3) := by decide +kernel
theorem dX6_next_52 : decode cX6_next 52 = .ok (.iconst 3, 1) := by decide +kernel
theorem dX6_next_53 : decode cX6_next 53 = .ok (.iaload, 1) := by decide +kernel
theorem dX6_next_54 : decode cX6_next 54 = .ok (.if_icmp .ge 56, 3) := by decide +kernel
theorem dX6_next_57 : decode cX6_next 57 = .ok (.aload_n 0, 1) := by decide +kernel
theorem dX6_next_58 : decode cX6_next 58 = .ok (.iload 5, 2) := by decide +kernel
theorem dX6_next_60 : decode cX6_next 60 = .ok (.iconst 0, 1) := by decide +kernel
theorem dX6_next_61 : decode cX6_next 61 = .ok (.invokevirtual 125, 3) := by decide +kernel
theorem dX6_next_64 : decode cX6_next 64 = .ok (.ifCond .eq 14, 3) := by decide +kernel
theorem dX6_next_67 : decode cX6_next 67 = .ok (.aload_n 0, 1) := by decide +kernel
theorem dX6_next_68 : decode cX6_next 68 = .ok (.iload 5, 2) := by decide +kernel
theorem dX6_next_70 : decode cX6_next 70 = .ok (.iconst (-1), 1) := by decide +kernel
theorem dX6_next_71 : decode cX6_next 71 = .ok (.iload_n 1, 1) := by decide +kernel
theorem dX6_next_72 : decode cX6_next 72 = .ok (.invokevirtual 240, 3) := by decide +kernel
theorem dX6_next_75 : decode cX6_next 75 = .ok (.goto 4, 3) := by decide +kernel
theorem dX6_next_78 : decode cX6_next 78 = .ok (.iconst (-1), 1) := by decide +kernel
theorem dX6_next_79 : decode cX6_next 79 = .ok (.istore 6, 2) := by decide +kernel
theorem dX6_next_81 : decode cX6_next 81 = .ok (.iload 6, 2) := by decide +kernel
theorem dX6_next_83 : decode cX6_next 83 = .ok (.iload 4, 2) := by decide +kernel
theorem dX6_next_85 : decode cX6_next 85 = .ok (.if_icmp .le 8, 3) := by decide +kernel
theorem dX6_next_88 : decode cX6_next 88 = .ok (.iload 5, 2) := by decide +kernel
theorem dX6_next_90 : decode cX6_next 90 = .ok (.goto 4, 3) := by decide +kernel
theorem dX6_next_93 : decode cX6_next 93 = .ok (.iload_n 3, 1) := by decide +kernel
theorem dX6_next_94 : decode cX6_next 94 = .ok (.istore_n 3, 1) := by decide +kernel
theorem dX6_next_95 : decode cX6_next 95 = .ok (.iload 4, 2) := by decide +kernel
theorem dX6_next_97 : decode cX6_next 97 = .ok (.iload 6, 2) := by decide +kernel
theorem dX6_next_99 : decode cX6_next 99 = .ok (.invokestatic 105, 3) := by decide +kernel
theorem dX6_next_102 : decode cX6_next 102 = .ok (.istore 4, 2) := by decide +kernel
theorem dX6_next_104 : decode cX6_next 104 = .ok (.iinc 5 1, 3) := by decide +kernel
theorem dX6_next_107 : decode cX6_next 107 = .ok (.goto (-61), 3) := by decide +kernel
theorem dX6_next_110 : decode cX6_next 110 = .ok (.iload_n 3, 1) := by decide +kernel
theorem dX6_next_111 : decode cX6_next 111 = .ok (.ireturn, 1) := by decide +kernel
theorem dX6_foes_0 : decode cX6_foes 0 = .ok (.aload_n 0, 1) := by decide +kernel
theorem dX6_foes_1 : decode cX6_foes 1 = .ok (.iconst 1, 1) := by decide +kernel
theorem dX6_foes_2 : decode cX6_foes 2 = .ok (.iconst 0, 1) := by decide +kernel
theorem dX6_foes_3 : decode cX6_foes 3 = .ok (.iload_n 1, 1) := by decide +kernel
theorem dX6_foes_4 : decode cX6_foes 4 = .ok (.invokevirtual 214, 3) := by decide +kernel
theorem dX6_foes_7 : decode cX6_foes 7 = .ok (.istore_n 2, 1) := by decide +kernel
theorem dX6_foes_8 : decode cX6_foes 8 = .ok (.iload_n 2, 1) := by decide +kernel
theorem dX6_foes_9 : decode cX6_foes 9 = .ok (.ifCond .eq 9, 3) := by decide +kernel
theorem dX6_foes_12 : decode cX6_foes 12 = .ok (.aload_n 0, 1) := by decide +kernel
theorem dX6_foes_13 : decode cX6_foes 13 = .ok (.iload_n 2, 1) := by decide +kernel
theorem dX6_foes_14 : decode cX6_foes 14 = .ok (.invokevirtual 86, 3) := by decide +kernel
theorem dX6_foes_17 : decode cX6_foes 17 = .ok (.ireturn, 1) := by decide +kernel
theorem dX6_foes_18 : decode cX6_foes 18 = .ok (.aload_n 0, 1) := by decide +kernel
theorem dX6_foes_19 : decode cX6_foes 19 = .ok (.getfield 9, 3) := by decide +kernel
theorem dX6_foes_22 : decode cX6_foes 22 = .ok (.aload_n 0, 1) := by decide +kernel
theorem dX6_foes_23 : decode cX6_foes 23 = .ok (.getfield 16, 3) := by decide +kernel
theorem dX6_foes_26 : decode cX6_foes 26 = .ok (.invokestatic 70, 3) := by decide +kernel
theorem dX6_foes_29 : decode cX6_foes 29 = .ok (.iconst (-1), 1) := by decide +kernel
theorem dX6_foes_30 : decode cX6_foes 30 = .ok (.istore_n 3, 1) := by decide +kernel
theorem dX6_foes_31 : decode cX6_foes 31 = .ok (.iconst 0, 1) := by decide +kernel
theorem dX6_foes_32 : decode cX6_foes 32 = .ok (.istore 4, 2) := by decide +kernel
theorem dX6_foes_34 : decode cX6_foes 34 = .ok (.iconst 0, 1) := by decide +kernel
theorem dX6_foes_35 : decode cX6_foes 35 = .ok (.istore 5, 2) := by decide +kernel
theorem dX6_foes_37 : decode cX6_foes 37 = .ok (.iload 5, 2) := by decide +kernel
theorem dX6_foes_39 : decode cX6_foes 39 = .ok (.aload_n 0, 1) := by decide +kernel
theorem dX6_foes_40 : decode cX6_foes 40 = .ok (.getfield 9, 3) := by decide +kernel
theorem dX6_foes_43 : decode cX6_foes 43 = .ok (.iconst 3, 1) := by decide +kernel
theorem dX6_foes_44 : decode cX6_foes 44 = .ok (.iaload, 1) := by decide +kernel
theorem dX6_foes_45 : decode cX6_foes 45 = .ok (.if_icmp .ge 105, 3) := by decide +kernel
theorem dX6_foes_48 : decode cX6_foes 48 = .ok (.iload 5, 2) := by decide +kernel
theorem dX6_foes_50 : decode cX6_foes 50 = .ok (.iconst 1, 1) := by decide +kernel
theorem dX6_foes_51 : decode cX6_foes 51 = .ok (.iadd, 1) := by decide +kernel
theorem dX6_foes_52 : decode cX6_foes 52 = .ok (.istore 6, 2) := by decide +kernel
theorem dX6_foes_54 : decode cX6_foes 54 = .ok (.iload 6, 2) := by decide +kernel
theorem dX6_foes_56 : decode cX6_foes 56 = .ok (.aload_n 0, 1) := by decide +kernel
theorem dX6_foes_57 : decode cX6_foes 57 = .ok (.getfield 9, 3) := by decide +kernel
theorem dX6_foes_60 : decode cX6_foes 60 = .ok (.iconst 3, 1) := by decide +kernel
theorem dX6_foes_61 : decode cX6_foes 61 = .ok (.iaload, 1) := by decide +kernel
theorem dX6_foes_62 : decode cX6_foes 62 = .ok (.if_icmp .ge 82, 3) := by decide +kernel
theorem dX6_foes_65 : decode cX6_foes 65 = .ok (.aload_n 0, 1) := by decide +kernel
theorem dX6_foes_66 : decode cX6_foes 66 = .ok (.iload 5, 2) := by decide +kernel
theorem dX6_foes_68 : decode cX6_foes 68 = .ok (.iconst 0, 1) := by decide +kernel
theorem dX6_foes_69 : decode cX6_foes 69 = .ok (.invokevirtual 125, 3) := by decide +kernel
theorem dX6_foes_72 : decode cX6_foes 72 = .ok (.ifCond .eq 66, 3) := by decide +kernel
theorem dX6_foes_75 : decode cX6_foes 75 = .ok (.aload_n 0, 1) := by decide +kernel
theorem dX6_foes_76 : decode cX6_foes 76 = .ok (.iload 6, 2) := by decide +kernel
theorem dX6_foes_78 : decode cX6_foes 78 = .ok (.iconst 0, 1) := by decide +kernel
theorem dX6_foes_79 : decode cX6_foes 79 = .ok (.invokevirtual 125, 3) := by decide +kernel
theorem dX6_foes_82 : decode cX6_foes 82 = .ok (.ifCond .eq 56, 3) := by decide +kernel
theorem dX6_foes_85 : decode cX6_foes 85 = .ok (.aload_n 0, 1) := by decide +kernel
theorem dX6_foes_86 : decode cX6_foes 86 = .ok (.iload 5, 2) := by decide +kernel
theorem dX6_foes_88 : decode cX6_foes 88 = .ok (.iconst (-1), 1) := by decide +kernel
theorem dX6_foes_89 : decode cX6_foes 89 = .ok (.iload_n 1, 1) := by decide +kernel
theorem dX6_foes_90 : decode cX6_foes 90 = .ok (.invokevirtual 240, 3) := by decide +kernel
theorem dX6_foes_93 : decode cX6_foes 93 = .ok (.aload_n 0, 1) := by decide +kernel
theorem dX6_foes_94 : decode cX6_foes 94 = .ok (.iload 6, 2) := by decide +kernel
theorem dX6_foes_96 : decode cX6_foes 96 = .ok (.iconst (-1), 1) := by decide +kernel
theorem dX6_foes_97 : decode cX6_foes 97 = .ok (.iload_n 1, 1) := by decide +kernel
theorem dX6_foes_98 : decode cX6_foes 98 = .ok (.invokevirtual 240, 3) := by decide +kernel
theorem dX6_foes_101 : decode cX6_foes 101 = .ok (.iadd, 1) := by decide +kernel
theorem dX6_foes_102 : decode cX6_foes 102 = .ok (.aload_n 0, 1) := by decide +kernel
theorem dX6_foes_103 : decode cX6_foes 103 = .ok (.iload 5, 2) := by decide +kernel
theorem dX6_foes_105 : decode cX6_foes 105 = .ok (.iload 6, 2) := by decide +kernel
theorem dX6_foes_107 : decode cX6_foes 107 = .ok (.iload_n 1, 1) := by decide +kernel
theorem dX6_foes_108 : decode cX6_foes 108 = .ok (.invokevirtual 240, 3) := by decide +kernel
theorem dX6_foes_111 : decode cX6_foes 111 = .ok (.isub, 1) := by decide +kernel
theorem dX6_foes_112 : decode cX6_foes 112 = .ok (.istore 7, 2) := by decide +kernel
theorem dX6_foes_114 : decode cX6_foes 114 = .ok (.iload_n 3, 1) := by decide +kernel
theorem dX6_foes_115 : decode cX6_foes 115 = .ok (.ifCond .lt 10, 3) := by decide +kernel
theorem dX6_foes_118 : decode cX6_foes 118 = .ok (.iload 7, 2) := by decide +kernel
theorem dX6_foes_120 : decode cX6_foes 120 = .ok (.iload 4, 2) := by decide +kernel
theorem dX6_foes_122 : decode cX6_foes 122 = .ok (.if_icmp .le 16, 3) := by decide +kernel
theorem dX6_foes_125 : decode cX6_foes 125 = .ok (.bipush 10, 2) := by decide +kernel
theorem dX6_foes_127 : decode cX6_foes 127 = .ok (.iload 5, 2) := by decide +kernel
theorem dX6_foes_129 : decode cX6_foes 129 = .ok (.imul, 1) := by decide +kernel
theorem dX6_foes_130 : decode cX6_foes 130 = .ok (.iload 6, 2) := by decide +kernel
theorem dX6_foes_132 : decode cX6_foes 132 = .ok (.iadd, 1) := by decide +kernel
theorem dX6_foes_133 : decode cX6_foes 133 = .ok (.istore_n 3, 1) := by decide +kernel
theorem dX6_foes_134 : decode cX6_foes 134 = .ok (.iload 7, 2) := by decide +kernel
theorem dX6_foes_136 : decode cX6_foes 136 = .ok (.istore 4, 2) := by decide +kernel
theorem dX6_foes_138 : decode cX6_foes 138 = .ok (.iinc 6 1, 3) := by decide +kernel
theorem dX6_foes_141 : decode cX6_foes 141 = .ok (.goto (-87), 3) := by decide +kernel
theorem dX6_foes_144 : decode cX6_foes 144 = .ok (.iinc 5 1, 3) := by decide +kernel
theorem dX6_foes_147 : decode cX6_foes 147 = .ok (.goto (-110), 3) := by decide +kernel
theorem dX6_foes_150 : decode cX6_foes 150 = .ok (.iload_n 3, 1) := by decide +kernel
theorem dX6_foes_151 : decode cX6_foes 151 = .ok (.ifCond .ge 12, 3) := by decide +kernel
theorem dX6_foes_154 : decode cX6_foes 154 = .ok (.aload_n 0, 1) := by decide +kernel
theorem dX6_foes_155 : decode cX6_foes 155 = .ok (.ldc 152, 2) := by decide +kernel
theorem dX6_foes_157 : decode cX6_foes 157 = .ok (.invokevirtual 86, 3) := by decide +kernel
theorem dX6_foes_160 : decode cX6_foes 160 = .ok (.goto 4, 3) := by decide +kernel
theorem dX6_foes_163 : decode cX6_foes 163 = .ok (.iload_n 3, 1) := by decide +kernel
theorem dX6_foes_164 : decode cX6_foes 164 = .ok (.ireturn, 1) := by decide +kernel
theorem dX6_ownEgg_0 : decode cX6_ownEgg 0 = .ok (.iconst 0, 1) := by decide +kernel
theorem dX6_ownEgg_1 : decode cX6_ownEgg 1 = .ok (.istore_n 3, 1) := by decide +kernel
theorem dX6_ownEgg_2 : decode cX6_ownEgg 2 = .ok (.iconst 0, 1) := by decide +kernel
theorem dX6_ownEgg_3 : decode cX6_ownEgg 3 = .ok (.istore 4, 2) := by decide +kernel
theorem dX6_ownEgg_5 : decode cX6_ownEgg 5 = .ok (.iconst 0, 1) := by decide +kernel
theorem dX6_ownEgg_6 : decode cX6_ownEgg 6 = .ok (.istore 5, 2) := by decide +kernel
theorem dX6_ownEgg_8 : decode cX6_ownEgg 8 = .ok (.iload 5, 2) := by decide +kernel
theorem dX6_ownEgg_10 : decode cX6_ownEgg 10 = .ok (.iload_n 2, 1) := by decide +kernel
theorem dX6_ownEgg_11 : decode cX6_ownEgg 11 = .ok (.if_icmp .ge 47, 3) := by decide +kernel
theorem dX6_ownEgg_14 : decode cX6_ownEgg 14 = .ok (.iload 4, 2) := by decide +kernel
theorem dX6_ownEgg_16 : decode cX6_ownEgg 16 = .ok (.ifCond .ne 42, 3) := by decide +kernel
theorem dX6_ownEgg_19 : decode cX6_ownEgg 19 = .ok (.aload_n 0, 1) := by decide +kernel
theorem dX6_ownEgg_20 : decode cX6_ownEgg 20 = .ok (.invokevirtual 173, 3) := by decide +kernel
theorem dX6_ownEgg_23 : decode cX6_ownEgg 23 = .ok (.istore 6, 2) := by decide +kernel
theorem dX6_ownEgg_25 : decode cX6_ownEgg 25 = .ok (.aload_n 0, 1) := by decide +kernel
theorem dX6_ownEgg_26 : decode cX6_ownEgg 26 = .ok (.getfield 157, 3) := by decide +kernel
theorem dX6_ownEgg_29 : decode cX6_ownEgg 29 = .ok (.iload_n 1, 1) := by decide +kernel
theorem dX6_ownEgg_30 : decode cX6_ownEgg 30 = .ok (.if_icmp .ne 7, 3) := by decide +kernel
theorem dX6_ownEgg_33 : decode cX6_ownEgg 33 = .ok (.iconst 1, 1) := by decide +kernel
theorem dX6_ownEgg_34 : decode cX6_ownEgg 34 = .ok (.goto 4, 3) := by decide +kernel
theorem dX6_ownEgg_37 : decode cX6_ownEgg 37 = .ok (.iconst 0, 1) := by decide +kernel
theorem dX6_ownEgg_38 : decode cX6_ownEgg 38 = .ok (.istore 4, 2) := by decide +kernel
theorem dX6_ownEgg_40 : decode cX6_ownEgg 40 = .ok (.iload 4, 2) := by decide +kernel
theorem dX6_ownEgg_42 : decode cX6_ownEgg 42 = .ok (.ifCond .eq 8, 3) := by decide +kernel
theorem dX6_ownEgg_45 : decode cX6_ownEgg 45 = .ok (.iload 6, 2) := by decide +kernel
theorem dX6_ownEgg_47 : decode cX6_ownEgg 47 = .ok (.goto 4, 3) := by decide +kernel
theorem dX6_ownEgg_50 : decode cX6_ownEgg 50 = .ok (.iconst 0, 1) := by decide +kernel
theorem dX6_ownEgg_51 : decode cX6_ownEgg 51 = .ok (.istore_n 3, 1) := by decide +kernel
theorem dX6_ownEgg_52 : decode cX6_ownEgg 52 = .ok (.iinc 5 1, 3) := by decide +kernel
theorem dX6_ownEgg_55 : decode cX6_ownEgg 55 = .ok (.goto (-47), 3) := by decide +kernel
theorem dX6_ownEgg_58 : decode cX6_ownEgg 58 = .ok (.aload_n 0, 1) := by decide +kernel
theorem dX6_ownEgg_59 : decode cX6_ownEgg 59 = .ok (.getfield 16, 3) := by decide +kernel
theorem dX6_ownEgg_62 : decode cX6_ownEgg 62 = .ok (.aload_n 0, 1) := by decide +kernel
theorem dX6_ownEgg_63 : decode cX6_ownEgg 63 = .ok (.getfield 9, 3) := by decide +kernel
theorem dX6_ownEgg_66 : decode cX6_ownEgg 66 = .ok (.invokestatic 70, 3) := by decide +kernel
theorem dX6_ownEgg_69 : decode cX6_ownEgg 69 = .ok (.iload_n 3, 1) := by decide +kernel
theorem dX6_ownEgg_70 : decode cX6_ownEgg 70 = .ok (.ireturn, 1) := by decide +kernel
theorem dX6_kindFor_0 : decode cX6_kindFor 0 = .ok (.aload_n 0, 1) := by decide +kernel
theorem dX6_kindFor_1 : decode cX6_kindFor 1 = .ok (.iload_n 1, 1) := by decide +kernel
theorem dX6_kindFor_2 : decode cX6_kindFor 2 = .ok (.invokevirtual 110, 3) := by decide +kernel
theorem dX6_kindFor_5 : decode cX6_kindFor 5 = .ok (.ifCond .eq 13, 3) := by decide +kernel
theorem dX6_kindFor_8 : decode cX6_kindFor 8 = .ok (.iload_n 2, 1) := by decide +kernel
theorem dX6_kindFor_9 : decode cX6_kindFor 9 = .ok (.iconst 1, 1) := by decide +kernel
theorem dX6_kindFor_10 : decode cX6_kindFor 10 = .ok (.bipush 60, 2) := by decide +kernel
theorem dX6_kindFor_12 : decode cX6_kindFor 12 = .ok (.invokestatic 74, 3) := by decide +kernel
theorem dX6_kindFor_15 : decode cX6_kindFor 15 = .ok (.ifCond .ne 10, 3) := by decide +kernel
theorem dX6_kindFor_18 : decode cX6_kindFor 18 = .ok (.aload_n 0, 1) := by decide +kernel
theorem dX6_kindFor_19 : decode cX6_kindFor 19 = .ok (.ldc 69, 2) := by decide +kernel
theorem dX6_kindFor_21 : decode cX6_kindFor 21 = .ok (.invokevirtual 86, 3) := by decide +kernel
theorem dX6_kindFor_24 : decode cX6_kindFor 24 = .ok (.ireturn, 1) := by decide +kernel
theorem dX6_kindFor_25 : decode cX6_kindFor 25 = .ok (.aload_n 0, 1) := by decide +kernel
theorem dX6_kindFor_26 : decode cX6_kindFor 26 = .ok (.iload_n 1, 1) := by decide +kernel
theorem dX6_kindFor_27 : decode cX6_kindFor 27 = .ok (.iconst 0, 1) := by decide +kernel
theorem dX6_kindFor_28 : decode cX6_kindFor 28 = .ok (.invokevirtual 125, 3) := by decide +kernel
theorem dX6_kindFor_31 : decode cX6_kindFor 31 = .ok (.ifCond .eq 11, 3) := by decide +kernel
theorem dX6_kindFor_34 : decode cX6_kindFor 34 = .ok (.aload_n 0, 1) := by decide +kernel
theorem dX6_kindFor_35 : decode cX6_kindFor 35 = .ok (.iload_n 2, 1) := by decide +kernel
theorem dX6_kindFor_36 : decode cX6_kindFor 36 = .ok (.invokevirtual 176, 3) := by decide +kernel
theorem dX6_kindFor_39 : decode cX6_kindFor 39 = .ok (.ifCond .eq 10, 3) := by decide +kernel
theorem dX6_kindFor_42 : decode cX6_kindFor 42 = .ok (.aload_n 0, 1) := by decide +kernel
theorem dX6_kindFor_43 : decode cX6_kindFor 43 = .ok (.ldc 136, 2) := by decide +kernel
theorem dX6_kindFor_45 : decode cX6_kindFor 45 = .ok (.invokevirtual 86, 3) := by decide +kernel
theorem dX6_kindFor_48 : decode cX6_kindFor 48 = .ok (.ireturn, 1) := by decide +kernel
theorem dX6_kindFor_49 : decode cX6_kindFor 49 = .ok (.aload_n 0, 1) := by decide +kernel
theorem dX6_kindFor_50 : decode cX6_kindFor 50 = .ok (.iload_n 1, 1) := by decide +kernel
theorem dX6_kindFor_51 : decode cX6_kindFor 51 = .ok (.invokevirtual 137, 3) := by decide +kernel
theorem dX6_kindFor_54 : decode cX6_kindFor 54 = .ok (.ifCond .ne 10, 3) := by decide +kernel
theorem dX6_kindFor_57 : decode cX6_kindFor 57 = .ok (.aload_n 0, 1) := by decide +kernel
theorem dX6_kindFor_58 : decode cX6_kindFor 58 = .ok (.ldc 90, 2) := by decide +kernel
theorem dX6_kindFor_60 : decode cX6_kindFor 60 = .ok (.invokevirtual 86, 3) := by decide +kernel
theorem dX6_kindFor_63 : decode cX6_kindFor 63 = .ok (.ireturn, 1) := by decide +kernel
theorem dX6_kindFor_64 : decode cX6_kindFor 64 = .ok (.aload_n 0, 1) := by decide +kernel
theorem dX6_kindFor_65 : decode cX6_kindFor 65 = .ok (.getfield 9, 3) := by decide +kernel
theorem dX6_kindFor_68 : decode cX6_kindFor 68 = .ok (.aload_n 0, 1) := by decide +kernel
theorem dX6_kindFor_69 : decode cX6_kindFor 69 = .ok (.getfield 16, 3) := by decide +kernel
theorem dX6_kindFor_72 : decode cX6_kindFor 72 = .ok (.invokestatic 70, 3) := by decide +kernel
theorem dX6_kindFor_75 : decode cX6_kindFor 75 = .ok (.iconst (-1), 1) := by decide +kernel
theorem dX6_kindFor_76 : decode cX6_kindFor 76 = .ok (.istore_n 3, 1) := by decide +kernel
theorem dX6_kindFor_77 : decode cX6_kindFor 77 = .ok (.iconst (-1), 1) := by decide +kernel
theorem dX6_kindFor_78 : decode cX6_kindFor 78 = .ok (.istore 4, 2) := by decide +kernel
theorem dX6_kindFor_80 : decode cX6_kindFor 80 = .ok (.iconst 0, 1) := by decide +kernel
theorem dX6_kindFor_81 : decode cX6_kindFor 81 = .ok (.istore 5, 2) := by decide +kernel
theorem dX6_kindFor_83 : decode cX6_kindFor 83 = .ok (.iload 5, 2) := by decide +kernel
theorem dX6_kindFor_85 : decode cX6_kindFor 85 = .ok (.bipush 6, 2) := by decide +kernel
theorem dX6_kindFor_87 : decode cX6_kindFor 87 = .ok (.if_icmp .gt 64, 3) := by decide +kernel
theorem dX6_kindFor_90 : decode cX6_kindFor 90 = .ok (.aload_n 0, 1) := by decide +kernel
theorem dX6_kindFor_91 : decode cX6_kindFor 91 = .ok (.getfield 9, 3) := by decide +kernel
theorem dX6_kindFor_94 : decode cX6_kindFor 94 = .ok (.iload_n 1, 1) := by decide +kernel
theorem dX6_kindFor_95 : decode cX6_kindFor 95 = .ok (.iconst 0, 1) := by decide +kernel
theorem dX6_kindFor_96 : decode cX6_kindFor 96 = .ok (.invokestatic 78, 3) := by decide +kernel
theorem dX6_kindFor_99 : decode cX6_kindFor 99 = .ok (.iload 5, 2) := by decide +kernel
theorem dX6_kindFor_101 : decode cX6_kindFor 101 = .ok (.iastore, 1) := by decide +kernel
theorem dX6_kindFor_102 : decode cX6_kindFor 102 = .ok (.aload_n 0, 1) := by decide +kernel
theorem dX6_kindFor_103 : decode cX6_kindFor 103 = .ok (.iload_n 1, 1) := by decide +kernel
theorem dX6_kindFor_104 : decode cX6_kindFor 104 = .ok (.invokevirtual 140, 3) := by decide +kernel
theorem dX6_kindFor_107 : decode cX6_kindFor 107 = .ok (.istore 6, 2) := by decide +kernel
theorem dX6_kindFor_109 : decode cX6_kindFor 109 = .ok (.aload_n 0, 1) := by decide +kernel
theorem dX6_kindFor_110 : decode cX6_kindFor 110 = .ok (.iload_n 1, 1) := by decide +kernel
theorem dX6_kindFor_111 : decode cX6_kindFor 111 = .ok (.iload_n 2, 1) := by decide +kernel
theorem dX6_kindFor_112 : decode cX6_kindFor 112 = .ok (.invokevirtual 244, 3) := by decide +kernel
theorem dX6_kindFor_115 : decode cX6_kindFor 115 = .ok (.istore 7, 2) := by decide +kernel
theorem dX6_kindFor_117 : decode cX6_kindFor 117 = .ok (.iload 6, 2) := by decide +kernel
theorem dX6_kindFor_119 : decode cX6_kindFor 119 = .ok (.ifCond .le 15, 3) := by decide +kernel
theorem dX6_kindFor_122 : decode cX6_kindFor 122 = .ok (.iload 7, 2) := by decide +kernel
theorem dX6_kindFor_124 : decode cX6_kindFor 124 = .ok (.iload 4, 2) := by decide +kernel
theorem dX6_kindFor_126 : decode cX6_kindFor 126 = .ok (.if_icmp .le 8, 3) := by decide +kernel
theorem dX6_kindFor_129 : decode cX6_kindFor 129 = .ok (.iload 5, 2) := by decide +kernel
theorem dX6_kindFor_131 : decode cX6_kindFor 131 = .ok (.goto 4, 3) := by decide +kernel
theorem dX6_kindFor_134 : decode cX6_kindFor 134 = .ok (.iload_n 3, 1) := by decide +kernel
theorem dX6_kindFor_135 : decode cX6_kindFor 135 = .ok (.istore_n 3, 1) := by decide +kernel
theorem dX6_kindFor_136 : decode cX6_kindFor 136 = .ok (.iload 4, 2) := by decide +kernel
theorem dX6_kindFor_138 : decode cX6_kindFor 138 = .ok (.iload 7, 2) := by decide +kernel
theorem dX6_kindFor_140 : decode cX6_kindFor 140 = .ok (.invokestatic 105, 3) := by decide +kernel
theorem dX6_kindFor_143 : decode cX6_kindFor 143 = .ok (.istore 4, 2) := by decide +kernel
theorem dX6_kindFor_145 : decode cX6_kindFor 145 = .ok (.iinc 5 1, 3) := by decide +kernel
theorem dX6_kindFor_148 : decode cX6_kindFor 148 = .ok (.goto (-65), 3) := by decide +kernel
theorem dX6_kindFor_151 : decode cX6_kindFor 151 = .ok (.iload_n 3, 1) := by decide +kernel
theorem dX6_kindFor_152 : decode cX6_kindFor 152 = .ok (.ireturn, 1) := by decide +kernel
theorem dX6_rid_0 : decode cX6_rid 0 = .ok (.aload_n 0, 1) := by decide +kernel
theorem dX6_rid_1 : decode cX6_rid 1 = .ok (.iconst 1, 1) := by decide +kernel
theorem dX6_rid_2 : decode cX6_rid 2 = .ok (.iconst 0, 1) := by decide +kernel
theorem dX6_rid_3 : decode cX6_rid 3 = .ok (.iload_n 1, 1) := by decide +kernel
theorem dX6_rid_4 : decode cX6_rid 4 = .ok (.invokevirtual 214, 3) := by decide +kernel
theorem dX6_rid_7 : decode cX6_rid 7 = .ok (.istore_n 2, 1) := by decide +kernel
theorem dX6_rid_8 : decode cX6_rid 8 = .ok (.iload_n 2, 1) := by decide +kernel
theorem dX6_rid_9 : decode cX6_rid 9 = .ok (.ifCond .eq 9, 3) := by decide +kernel
theorem dX6_rid_12 : decode cX6_rid 12 = .ok (.aload_n 0, 1) := by decide +kernel
theorem dX6_rid_13 : decode cX6_rid 13 = .ok (.iload_n 2, 1) := by decide +kernel
theorem dX6_rid_14 : decode cX6_rid 14 = .ok (.invokevirtual 86, 3) := by decide +kernel
theorem dX6_rid_17 : decode cX6_rid 17 = .ok (.ireturn, 1) := by decide +kernel
theorem dX6_rid_18 : decode cX6_rid 18 = .ok (.aload_n 0, 1) := by decide +kernel
theorem dX6_rid_19 : decode cX6_rid 19 = .ok (.getfield 9, 3) := by decide +kernel
theorem dX6_rid_22 : decode cX6_rid 22 = .ok (.aload_n 0, 1) := by decide +kernel
theorem dX6_rid_23 : decode cX6_rid 23 = .ok (.getfield 16, 3) := by decide +kernel
theorem dX6_rid_26 : decode cX6_rid 26 = .ok (.invokestatic 70, 3) := by decide +kernel
theorem dX6_rid_29 : decode cX6_rid 29 = .ok (.aload_n 0, 1) := by decide +kernel
theorem dX6_rid_30 : decode cX6_rid 30 = .ok (.iconst 1, 1) := by decide +kernel
theorem dX6_rid_31 : decode cX6_rid 31 = .ok (.invokevirtual 208, 3) := by decide +kernel
theorem dX6_rid_34 : decode cX6_rid 34 = .ok (.istore_n 3, 1) := by decide +kernel
theorem dX6_rid_35 : decode cX6_rid 35 = .ok (.iconst (-1), 1) := by decide +kernel
theorem dX6_rid_36 : decode cX6_rid 36 = .ok (.istore 4, 2) := by decide +kernel
theorem dX6_rid_38 : decode cX6_rid 38 = .ok (.iconst 0, 1) := by decide +kernel
theorem dX6_rid_39 : decode cX6_rid 39 = .ok (.istore 5, 2) := by decide +kernel
theorem dX6_rid_41 : decode cX6_rid 41 = .ok (.iconst 0, 1) := by decide +kernel
theorem dX6_rid_42 : decode cX6_rid 42 = .ok (.istore 6, 2) := by decide +kernel
theorem dX6_rid_44 : decode cX6_rid 44 = .ok (.iload 6, 2) := by decide +kernel
theorem dX6_rid_46 : decode cX6_rid 46 = .ok (.iload_n 3, 1) := by decide +kernel
theorem dX6_rid_47 : decode cX6_rid 47 = .ok (.if_icmp .gt 96, 3) := by decide +kernel
theorem dX6_rid_50 : decode cX6_rid 50 = .ok (.iload 6, 2) := by decide +kernel
theorem dX6_rid_52 : decode cX6_rid 52 = .ok (.iload_n 3, 1) := by decide +kernel
theorem dX6_rid_53 : decode cX6_rid 53 = .ok (.iconst (-1), 1) := by decide +kernel
theorem dX6_rid_54 : decode cX6_rid 54 = .ok (.ixor, 1) := by decide +kernel
theorem dX6_rid_55 : decode cX6_rid 55 = .ok (.iand, 1) := by decide +kernel
theorem dX6_rid_56 : decode cX6_rid 56 = .ok (.ifCond .ne 81, 3) := by decide +kernel
theorem dX6_rid_59 : decode cX6_rid 59 = .ok (.aload_n 0, 1) := by decide +kernel
theorem dX6_rid_60 : decode cX6_rid 60 = .ok (.getfield 9, 3) := by decide +kernel
theorem dX6_rid_63 : decode cX6_rid 63 = .ok (.iconst 4, 1) := by decide +kernel
theorem dX6_rid_64 : decode cX6_rid 64 = .ok (.iaload, 1) := by decide +kernel
theorem dX6_rid_65 : decode cX6_rid 65 = .ok (.iconst 1, 1) := by decide +kernel
theorem dX6_rid_66 : decode cX6_rid 66 = .ok (.isub, 1) := by decide +kernel
theorem dX6_rid_67 : decode cX6_rid 67 = .ok (.istore 7, 2) := by decide +kernel
theorem dX6_rid_69 : decode cX6_rid 69 = .ok (.iload 7, 2) := by decide +kernel
theorem dX6_rid_71 : decode cX6_rid 71 = .ok (.ifCond .lt 34, 3) := by decide +kernel
theorem dX6_rid_74 : decode cX6_rid 74 = .ok (.iload 6, 2) := by decide +kernel
theorem dX6_rid_76 : decode cX6_rid 76 = .ok (.aload_n 0, 1) := by decide +kernel
theorem dX6_rid_77 : decode cX6_rid 77 = .ok (.getfield 9, 3) := by decide +kernel
theorem dX6_rid_80 : decode cX6_rid 80 = .ok (.bipush 88, 2) := by decide +kernel
theorem dX6_rid_82 : decode cX6_rid 82 = .ok (.iload 7, 2) := by decide +kernel
theorem dX6_rid_84 : decode cX6_rid 84 = .ok (.iadd, 1) := by decide +kernel
theorem dX6_rid_85 : decode cX6_rid 85 = .ok (.iaload, 1) := by decide +kernel
theorem dX6_rid_86 : decode cX6_rid 86 = .ok (.invokestatic 205, 3) := by decide +kernel
theorem dX6_rid_89 : decode cX6_rid 89 = .ok (.ifCond .eq 10, 3) := by decide +kernel
theorem dX6_rid_92 : decode cX6_rid 92 = .ok (.aload_n 0, 1) := by decide +kernel
theorem dX6_rid_93 : decode cX6_rid 93 = .ok (.iload 7, 2) := by decide +kernel
theorem dX6_rid_95 : decode cX6_rid 95 = .ok (.iconst 0, 1) := by decide +kernel
theorem dX6_rid_96 : decode cX6_rid 96 = .ok (.invokevirtual 164, 3) := by decide +kernel
theorem dX6_rid_99 : decode cX6_rid 99 = .ok (.iinc 7 (-1), 3) := by decide +kernel
theorem dX6_rid_102 : decode cX6_rid 102 = .ok (.goto (-33), 3) := by decide +kernel
theorem dX6_rid_105 : decode cX6_rid 105 = .ok (.aload_n 0, 1) := by decide +kernel
theorem dX6_rid_106 : decode cX6_rid 106 = .ok (.iconst 0, 1) := by decide +kernel
theorem dX6_rid_107 : decode cX6_rid 107 = .ok (.putfield 202, 3) := by decide +kernel
theorem dX6_rid_110 : decode cX6_rid 110 = .ok (.aload_n 0, 1) := by decide +kernel
theorem dX6_rid_111 : decode cX6_rid 111 = .ok (.iload_n 1, 1) := by decide +kernel
theorem dX6_rid_112 : decode cX6_rid 112 = .ok (.invokevirtual 222, 3) := by decide +kernel
theorem dX6_rid_115 : decode cX6_rid 115 = .ok (.istore 7, 2) := by decide +kernel
theorem dX6_rid_117 : decode cX6_rid 117 = .ok (.iload 4, 2) := by decide +kernel
theorem dX6_rid_119 : decode cX6_rid 119 = .ok (.ifCond .lt 10, 3) := by decide +kernel
theorem dX6_rid_122 : decode cX6_rid 122 = .ok (.iload 7, 2) := by decide +kernel
theorem dX6_rid_124 : decode cX6_rid 124 = .ok (.iload 5, 2) := by decide +kernel
theorem dX6_rid_126 : decode cX6_rid 126 = .ok (.if_icmp .le 11, 3) := by decide +kernel
theorem dX6_rid_129 : decode cX6_rid 129 = .ok (.iload 6, 2) := by decide +kernel
theorem dX6_rid_131 : decode cX6_rid 131 = .ok (.istore 4, 2) := by decide +kernel
theorem dX6_rid_133 : decode cX6_rid 133 = .ok (.iload 7, 2) := by decide +kernel
theorem dX6_rid_135 : decode cX6_rid 135 = .ok (.istore 5, 2) := by decide +kernel
theorem dX6_rid_137 : decode cX6_rid 137 = .ok (.iinc 6 1, 3) := by decide +kernel
theorem dX6_rid_140 : decode cX6_rid 140 = .ok (.goto (-96), 3) := by decide +kernel
theorem dX6_rid_143 : decode cX6_rid 143 = .ok (.iload 4, 2) := by decide +kernel
theorem dX6_rid_145 : decode cX6_rid 145 = .ok (.ireturn, 1) := by decide +kernel
theorem dX6_save_0 : decode cX6_save 0 = .ok (.iconst 0, 1) := by decide +kernel
theorem dX6_save_1 : decode cX6_save 1 = .ok (.istore_n 2, 1) := by decide +kernel
theorem dX6_save_2 : decode cX6_save 2 = .ok (.iload_n 2, 1) := by decide +kernel
theorem dX6_save_3 : decode cX6_save 3 = .ok (.sipush 132, 3) := by decide +kernel
theorem dX6_save_6 : decode cX6_save 6 = .ok (.if_icmp .ge 27, 3) := by decide +kernel
theorem dX6_save_9 : decode cX6_save 9 = .ok (.aload_n 0, 1) := by decide +kernel
theorem dX6_save_10 : decode cX6_save 10 = .ok (.getfield 28, 3) := by decide +kernel
theorem dX6_save_13 : decode cX6_save 13 = .ok (.sipush 132, 3) := by decide +kernel
theorem dX6_save_16 : decode cX6_save 16 = .ok (.iload_n 1, 1) := by decide +kernel
theorem dX6_save_17 : decode cX6_save 17 = .ok (.imul, 1) := by decide +kernel
theorem dX6_save_18 : decode cX6_save 18 = .ok (.iload_n 2, 1) := by decide +kernel
theorem dX6_save_19 : decode cX6_save 19 = .ok (.iadd, 1) := by decide +kernel
theorem dX6_save_20 : decode cX6_save 20 = .ok (.aload_n 0, 1) := by decide +kernel
theorem dX6_save_21 : decode cX6_save 21 = .ok (.getfield 9, 3) := by decide +kernel
theorem dX6_save_24 : decode cX6_save 24 = .ok (.iload_n 2, 1) := by decide +kernel
theorem dX6_save_25 : decode cX6_save 25 = .ok (.iaload, 1) := by decide +kernel
theorem dX6_save_26 : decode cX6_save 26 = .ok (.iastore, 1) := by decide +kernel
theorem dX6_save_27 : decode cX6_save 27 = .ok (.iinc 2 1, 3) := by decide +kernel
theorem dX6_save_30 : decode cX6_save 30 = .ok (.goto (-28), 3) := by decide +kernel
theorem dX6_save_33 : decode cX6_save 33 = .ok (.return_, 1) := by decide +kernel
theorem dX6_restore_0 : decode cX6_restore 0 = .ok (.iconst 0, 1) := by decide +kernel
theorem dX6_restore_1 : decode cX6_restore 1 = .ok (.istore_n 2, 1) := by decide +kernel
theorem dX6_restore_2 : decode cX6_restore 2 = .ok (.iload_n 2, 1) := by decide +kernel
theorem dX6_restore_3 : decode cX6_restore 3 = .ok (.sipush 132, 3) := by decide +kernel
theorem dX6_restore_6 : decode cX6_restore 6 = .ok (.if_icmp .ge 27, 3) := by decide +kernel
theorem dX6_restore_9 : decode cX6_restore 9 = .ok (.aload_n 0, 1) := by decide +kernel
theorem dX6_restore_10 : decode cX6_restore 10 = .ok (.getfield 9, 3) := by decide +kernel
theorem dX6_restore_13 : decode cX6_restore 13 = .ok (.iload_n 2, 1) := by decide +kernel
theorem dX6_restore_14 : decode cX6_restore 14 = .ok (.aload_n 0, 1) := by decide +kernel
theorem dX6_restore_15 : decode cX6_restore 15 = .ok (.getfield 28, 3) := by decide +kernel
theorem dX6_restore_18 : decode cX6_restore 18 = .ok (.sipush 132, 3) := by decide +kernel
theorem dX6_restore_21 : decode cX6_restore 21 = .ok (.iload_n 1, 1) := by decide +kernel
theorem dX6_restore_22 : decode cX6_restore 22 = .ok (.imul, 1) := by decide +kernel
theorem dX6_restore_23 : decode cX6_restore 23 = .ok (.iload_n 2, 1) := by decide +kernel
theorem dX6_restore_24 : decode cX6_restore 24 = .ok (.iadd, 1) := by decide +kernel
theorem dX6_restore_25 : decode cX6_restore 25 = .ok (.iaload, 1) := by decide +kernel
theorem dX6_restore_26 : decode cX6_restore 26 = .ok (.iastore, 1) := by decide +kernel
theorem dX6_restore_27 : decode cX6_restore 27 = .ok (.iinc 2 1, 3) := by decide +kernel
theorem dX6_restore_30 : decode cX6_restore 30 = .ok (.goto (-28), 3) := by decide +kernel
theorem dX6_restore_33 : decode cX6_restore 33 = .ok (.return_, 1) := by decide +kernel
theorem dX6_sharesGo_0 : decode cX6_sharesGo 0 = .ok (.iconst 0, 1) := by decide +kernel
theorem dX6_sharesGo_1 : decode cX6_sharesGo 1 = .ok (.istore_n 2, 1) := by decide +kernel
theorem dX6_sharesGo_2 : decode cX6_sharesGo 2 = .ok (.iconst 0, 1) := by decide +kernel
theorem dX6_sharesGo_3 : decode cX6_sharesGo 3 = .ok (.istore_n 3, 1) := by decide +kernel
theorem dX6_sharesGo_4 : decode cX6_sharesGo 4 = .ok (.iload_n 3, 1) := by decide +kernel
theorem dX6_sharesGo_5 : decode cX6_sharesGo 5 = .ok (.iload_n 1, 1) := by decide +kernel
theorem dX6_sharesGo_6 : decode cX6_sharesGo 6 = .ok (.if_icmp .ge 49, 3) := by decide +kernel
theorem dX6_sharesGo_9 : decode cX6_sharesGo 9 = .ok (.aload_n 0, 1) := by decide +kernel
theorem dX6_sharesGo_10 : decode cX6_sharesGo 10 = .ok (.invokevirtual 173, 3) := by decide +kernel
theorem dX6_sharesGo_13 : decode cX6_sharesGo 13 = .ok (.istore 4, 2) := by decide +kernel
theorem dX6_sharesGo_15 : decode cX6_sharesGo 15 = .ok (.iload_n 2, 1) := by decide +kernel
theorem dX6_sharesGo_16 : decode cX6_sharesGo 16 = .ok (.aload_n 0, 1) := by decide +kernel
theorem dX6_sharesGo_17 : decode cX6_sharesGo 17 = .ok (.getfield 157, 3) := by decide +kernel
theorem dX6_sharesGo_20 : decode cX6_sharesGo 20 = .ok (.ifCond .ge 7, 3) := by decide +kernel
theorem dX6_sharesGo_23 : decode cX6_sharesGo 23 = .ok (.iconst 0, 1) := by decide +kernel
theorem dX6_sharesGo_24 : decode cX6_sharesGo 24 = .ok (.goto 23, 3) := by decide +kernel
theorem dX6_sharesGo_27 : decode cX6_sharesGo 27 = .ok (.aload_n 0, 1) := by decide +kernel
theorem dX6_sharesGo_28 : decode cX6_sharesGo 28 = .ok (.aload_n 0, 1) := by decide +kernel
theorem dX6_sharesGo_29 : decode cX6_sharesGo 29 = .ok (.getfield 157, 3) := by decide +kernel
theorem dX6_sharesGo_32 : decode cX6_sharesGo 32 = .ok (.iconst 3, 1) := by decide +kernel
theorem dX6_sharesGo_33 : decode cX6_sharesGo 33 = .ok (.invokevirtual 98, 3) := by decide +kernel
theorem dX6_sharesGo_36 : decode cX6_sharesGo 36 = .ok (.ifCond .ne 8, 3) := by decide +kernel
theorem dX6_sharesGo_39 : decode cX6_sharesGo 39 = .ok (.iload 4, 2) := by decide +kernel
theorem dX6_sharesGo_41 : decode cX6_sharesGo 41 = .ok (.goto 6, 3) := by decide +kernel
theorem dX6_sharesGo_44 : decode cX6_sharesGo 44 = .ok (.iload 4, 2) := by decide +kernel
theorem dX6_sharesGo_46 : decode cX6_sharesGo 46 = .ok (.ineg, 1) := by decide +kernel
theorem dX6_sharesGo_47 : decode cX6_sharesGo 47 = .ok (.iadd, 1) := by decide +kernel
theorem dX6_sharesGo_48 : decode cX6_sharesGo 48 = .ok (.istore_n 2, 1) := by decide +kernel
theorem dX6_sharesGo_49 : decode cX6_sharesGo 49 = .ok (.iinc 3 1, 3) := by decide +kernel
theorem dX6_sharesGo_52 : decode cX6_sharesGo 52 = .ok (.goto (-48), 3) := by decide +kernel
theorem dX6_sharesGo_55 : decode cX6_sharesGo 55 = .ok (.iload_n 2, 1) := by decide +kernel
theorem dX6_sharesGo_56 : decode cX6_sharesGo 56 = .ok (.ireturn, 1) := by decide +kernel
theorem dX6_turnsFrom_0 : decode cX6_turnsFrom 0 = .ok (.iload_n 1, 1) := by decide +kernel
theorem dX6_turnsFrom_1 : decode cX6_turnsFrom 1 = .ok (.iload_n 2, 1) := by decide +kernel
theorem dX6_turnsFrom_2 : decode cX6_turnsFrom 2 = .ok (.if_icmp .ne 23, 3) := by decide +kernel
theorem dX6_turnsFrom_5 : decode cX6_turnsFrom 5 = .ok (.aload_n 0, 1) := by decide +kernel
theorem dX6_turnsFrom_6 : decode cX6_turnsFrom 6 = .ok (.iload_n 1, 1) := by decide +kernel
theorem dX6_turnsFrom_7 : decode cX6_turnsFrom 7 = .ok (.invokevirtual 247, 3) := by decide +kernel
theorem dX6_turnsFrom_10 : decode cX6_turnsFrom 10 = .ok (.aload_n 0, 1) := by decide +kernel
theorem dX6_turnsFrom_11 : decode cX6_turnsFrom 11 = .ok (.iload_n 3, 1) := by decide +kernel
theorem dX6_turnsFrom_12 : decode cX6_turnsFrom 12 = .ok (.invokevirtual 250, 3) := by decide +kernel
theorem dX6_turnsFrom_15 : decode cX6_turnsFrom 15 = .ok (.istore 4, 2) := by decide +kernel
theorem dX6_turnsFrom_17 : decode cX6_turnsFrom 17 = .ok (.aload_n 0, 1) := by decide +kernel
theorem dX6_turnsFrom_18 : decode cX6_turnsFrom 18 = .ok (.iload_n 1, 1) := by decide +kernel
theorem dX6_turnsFrom_19 : decode cX6_turnsFrom 19 = .ok (.invokevirtual 253, 3) := by decide +kernel
theorem dX6_turnsFrom_22 : decode cX6_turnsFrom 22 = .ok (.iload 4, 2) := by decide +kernel
theorem dX6_turnsFrom_24 : decode cX6_turnsFrom 24 = .ok (.ireturn, 1) := by decide +kernel
theorem dX6_turnsFrom_25 : decode cX6_turnsFrom 25 = .ok (.iload_n 1, 1) := by decide +kernel
theorem dX6_turnsFrom_26 : decode cX6_turnsFrom 26 = .ok (.iconst 2, 1) := by decide +kernel
theorem dX6_turnsFrom_27 : decode cX6_turnsFrom 27 = .ok (.irem, 1) := by decide +kernel
theorem dX6_turnsFrom_28 : decode cX6_turnsFrom 28 = .ok (.istore 4, 2) := by decide +kernel
theorem dX6_turnsFrom_30 : decode cX6_turnsFrom 30 = .ok (.iconst 0, 1) := by decide +kernel
theorem dX6_turnsFrom_31 : decode cX6_turnsFrom 31 = .ok (.istore 5, 2) := by decide +kernel
theorem dX6_turnsFrom_33 : decode cX6_turnsFrom 33 = .ok (.bipush (-2), 2) := by decide +kernel
theorem dX6_turnsFrom_35 : decode cX6_turnsFrom 35 = .ok (.istore 6, 2) := by decide +kernel
theorem dX6_turnsFrom_37 : decode cX6_turnsFrom 37 = .ok (.iconst (-1), 1) := by decide +kernel
theorem dX6_turnsFrom_38 : decode cX6_turnsFrom 38 = .ok (.istore 7, 2) := by decide +kernel
theorem dX6_turnsFrom_40 : decode cX6_turnsFrom 40 = .ok (.iload 7, 2) := by decide +kernel
theorem dX6_turnsFrom_42 : decode cX6_turnsFrom 42 = .ok (.aload_n 0, 1) := by decide +kernel
theorem dX6_turnsFrom_43 : decode cX6_turnsFrom 43 = .ok (.getfield 9, 3) := by decide +kernel
theorem dX6_turnsFrom_46 : decode cX6_turnsFrom 46 = .ok (.iconst 3, 1) := by decide +kernel
theorem dX6_turnsFrom_47 : decode cX6_turnsFrom 47 = .ok (.iaload, 1) := by decide +kernel
theorem dX6_turnsFrom_48 : decode cX6_turnsFrom 48 = .ok (.if_icmp .ge 172, 3) := by decide +kernel
theorem dX6_turnsFrom_51 : decode cX6_turnsFrom 51 = .ok (.iload 7, 2) := by decide +kernel
theorem dX6_turnsFrom_53 : decode cX6_turnsFrom 53 = .ok (.ifCond .lt 34, 3) := by decide +kernel
theorem dX6_turnsFrom_56 : decode cX6_turnsFrom 56 = .ok (.aload_n 0, 1) := by decide +kernel
theorem dX6_turnsFrom_57 : decode cX6_turnsFrom 57 = .ok (.iload 7, 2) := by decide +kernel
theorem dX6_turnsFrom_59 : decode cX6_turnsFrom 59 = .ok (.iconst 0, 1) := by decide +kernel
theorem dX6_turnsFrom_60 : decode cX6_turnsFrom 60 = .ok (.invokevirtual 125, 3) := by decide +kernel
theorem dX6_turnsFrom_63 : decode cX6_turnsFrom 63 = .ok (.ifCond .eq 28, 3) := by decide +kernel
theorem dX6_turnsFrom_66 : decode cX6_turnsFrom 66 = .ok (.aload_n 0, 1) := by decide +kernel
theorem dX6_turnsFrom_67 : decode cX6_turnsFrom 67 = .ok (.iload 7, 2) := by decide +kernel
theorem dX6_turnsFrom_69 : decode cX6_turnsFrom 69 = .ok (.iconst 3, 1) := by decide +kernel
theorem dX6_turnsFrom_70 : decode cX6_turnsFrom 70 = .ok (.invokevirtual 98, 3) := by decide +kernel
theorem dX6_turnsFrom_73 : decode cX6_turnsFrom 73 = .ok (.iload 4, 2) := by decide +kernel
theorem dX6_turnsFrom_75 : decode cX6_turnsFrom 75 = .ok (.if_icmp .ne 16, 3) := by decide +kernel
theorem dX6_turnsFrom_78 : decode cX6_turnsFrom 78 = .ok (.aload_n 0, 1) := by decide +kernel
theorem dX6_turnsFrom_79 : decode cX6_turnsFrom 79 = .ok (.iload 7, 2) := by decide +kernel
theorem dX6_turnsFrom_81 : decode cX6_turnsFrom 81 = .ok (.invokevirtual 137, 3) := by decide +kernel
theorem dX6_turnsFrom_84 : decode cX6_turnsFrom 84 = .ok (.ifCond .eq 7, 3) := by decide +kernel
theorem dX6_turnsFrom_87 : decode cX6_turnsFrom 87 = .ok (.iconst 1, 1) := by decide +kernel
theorem dX6_turnsFrom_88 : decode cX6_turnsFrom 88 = .ok (.goto 4, 3) := by decide +kernel
theorem dX6_turnsFrom_91 : decode cX6_turnsFrom 91 = .ok (.iconst 0, 1) := by decide +kernel
theorem dX6_turnsFrom_92 : decode cX6_turnsFrom 92 = .ok (.istore 8, 2) := by decide +kernel
theorem dX6_turnsFrom_94 : decode cX6_turnsFrom 94 = .ok (.iload 8, 2) := by decide +kernel
theorem dX6_turnsFrom_96 : decode cX6_turnsFrom 96 = .ok (.ifCond .eq 118, 3) := by decide +kernel
theorem dX6_turnsFrom_99 : decode cX6_turnsFrom 99 = .ok (.aload_n 0, 1) := by decide +kernel
theorem dX6_turnsFrom_100 : decode cX6_turnsFrom 100 = .ok (.iload_n 1, 1) := by decide +kernel
theorem dX6_turnsFrom_101 : decode cX6_turnsFrom 101 = .ok (.invokevirtual 247, 3) := by decide +kernel
theorem dX6_turnsFrom_104 : decode cX6_turnsFrom 104 = .ok (.iload 7, 2) := by decide +kernel
theorem dX6_turnsFrom_106 : decode cX6_turnsFrom 106 = .ok (.ifCond .ge 7, 3) := by decide +kernel
theorem dX6_turnsFrom_109 : decode cX6_turnsFrom 109 = .ok (.iconst 0, 1) := by decide +kernel
theorem dX6_turnsFrom_110 : decode cX6_turnsFrom 110 = .ok (.goto 9, 3) := by decide +kernel
theorem dX6_turnsFrom_113 : decode cX6_turnsFrom 113 = .ok (.aload_n 0, 1) := by decide +kernel
theorem dX6_turnsFrom_114 : decode cX6_turnsFrom 114 = .ok (.iload 7, 2) := by decide +kernel
theorem dX6_turnsFrom_116 : decode cX6_turnsFrom 116 = .ok (.invokevirtual 140, 3) := by decide +kernel
theorem dX6_turnsFrom_119 : decode cX6_turnsFrom 119 = .ok (.istore 9, 2) := by decide +kernel
theorem dX6_turnsFrom_121 : decode cX6_turnsFrom 121 = .ok (.aload_n 0, 1) := by decide +kernel
theorem dX6_turnsFrom_122 : decode cX6_turnsFrom 122 = .ok (.iconst 1, 1) := by decide +kernel
theorem dX6_turnsFrom_123 : decode cX6_turnsFrom 123 = .ok (.invokevirtual 250, 3) := by decide +kernel
theorem dX6_turnsFrom_126 : decode cX6_turnsFrom 126 = .ok (.aload_n 0, 1) := by decide +kernel
theorem dX6_turnsFrom_127 : decode cX6_turnsFrom 127 = .ok (.iload_n 1, 1) := by decide +kernel
theorem dX6_turnsFrom_128 : decode cX6_turnsFrom 128 = .ok (.iconst 1, 1) := by decide +kernel
theorem dX6_turnsFrom_129 : decode cX6_turnsFrom 129 = .ok (.iadd, 1) := by decide +kernel
theorem dX6_turnsFrom_130 : decode cX6_turnsFrom 130 = .ok (.iload_n 2, 1) := by decide +kernel
theorem dX6_turnsFrom_131 : decode cX6_turnsFrom 131 = .ok (.iload_n 3, 1) := by decide +kernel
theorem dX6_turnsFrom_132 : decode cX6_turnsFrom 132 = .ok (.iconst 1, 1) := by decide +kernel
theorem dX6_turnsFrom_133 : decode cX6_turnsFrom 133 = .ok (.isub, 1) := by decide +kernel
theorem dX6_turnsFrom_134 : decode cX6_turnsFrom 134 = .ok (.invokevirtual 256, 3) := by decide +kernel
theorem dX6_turnsFrom_137 : decode cX6_turnsFrom 137 = .ok (.iadd, 1) := by decide +kernel
theorem dX6_turnsFrom_138 : decode cX6_turnsFrom 138 = .ok (.istore 10, 2) := by decide +kernel
theorem dX6_turnsFrom_140 : decode cX6_turnsFrom 140 = .ok (.aload_n 0, 1) := by decide +kernel
theorem dX6_turnsFrom_141 : decode cX6_turnsFrom 141 = .ok (.iload_n 1, 1) := by decide +kernel
theorem dX6_turnsFrom_142 : decode cX6_turnsFrom 142 = .ok (.invokevirtual 253, 3) := by decide +kernel
theorem dX6_turnsFrom_145 : decode cX6_turnsFrom 145 = .ok (.iload 6, 2) := by decide +kernel
theorem dX6_turnsFrom_147 : decode cX6_turnsFrom 147 = .ok (.bipush (-2), 2) := by decide +kernel
theorem dX6_turnsFrom_149 : decode cX6_turnsFrom 149 = .ok (.if_icmp .eq 30, 3) := by decide +kernel
theorem dX6_turnsFrom_152 : decode cX6_turnsFrom 152 = .ok (.iload 9, 2) := by decide +kernel
theorem dX6_turnsFrom_154 : decode cX6_turnsFrom 154 = .ok (.ifCond .lt 29, 3) := by decide +kernel
theorem dX6_turnsFrom_157 : decode cX6_turnsFrom 157 = .ok (.iload 4, 2) := by decide +kernel
theorem dX6_turnsFrom_159 : decode cX6_turnsFrom 159 = .ok (.ifCond .ne 13, 3) := by decide +kernel
theorem dX6_turnsFrom_162 : decode cX6_turnsFrom 162 = .ok (.iload 10, 2) := by decide +kernel
theorem dX6_turnsFrom_164 : decode cX6_turnsFrom 164 = .ok (.iload 5, 2) := by decide +kernel
theorem dX6_turnsFrom_166 : decode cX6_turnsFrom 166 = .ok (.if_icmp .le 17, 3) := by decide +kernel
theorem dX6_turnsFrom_169 : decode cX6_turnsFrom 169 = .ok (.goto 10, 3) := by decide +kernel
theorem dX6_turnsFrom_172 : decode cX6_turnsFrom 172 = .ok (.iload 10, 2) := by decide +kernel
theorem dX6_turnsFrom_174 : decode cX6_turnsFrom 174 = .ok (.iload 5, 2) := by decide +kernel
theorem dX6_turnsFrom_176 : decode cX6_turnsFrom 176 = .ok (.if_icmp .ge 7, 3) := by decide +kernel
theorem dX6_turnsFrom_179 : decode cX6_turnsFrom 179 = .ok (.iconst 1, 1) := by decide +kernel
theorem dX6_turnsFrom_180 : decode cX6_turnsFrom 180 = .ok (.goto 4, 3) := by decide +kernel
theorem dX6_turnsFrom_183 : decode cX6_turnsFrom 183 = .ok (.iconst 0, 1) := by decide +kernel
theorem dX6_turnsFrom_184 : decode cX6_turnsFrom 184 = .ok (.istore 11, 2) := by decide +kernel
theorem dX6_turnsFrom_186 : decode cX6_turnsFrom 186 = .ok (.iload 11, 2) := by decide +kernel
theorem dX6_turnsFrom_188 : decode cX6_turnsFrom 188 = .ok (.ifCond .eq 8, 3) := by decide +kernel
theorem dX6_turnsFrom_191 : decode cX6_turnsFrom 191 = .ok (.iload 10, 2) := by decide +kernel
theorem dX6_turnsFrom_193 : decode cX6_turnsFrom 193 = .ok (.goto 5, 3) := by decide +kernel
theorem dX6_turnsFrom_196 : decode cX6_turnsFrom 196 = .ok (.iload 5, 2) := by decide +kernel
theorem dX6_turnsFrom_198 : decode cX6_turnsFrom 198 = .ok (.istore 5, 2) := by decide +kernel
theorem dX6_turnsFrom_200 : decode cX6_turnsFrom 200 = .ok (.iload 11, 2) := by decide +kernel
theorem dX6_turnsFrom_202 : decode cX6_turnsFrom 202 = .ok (.ifCond .eq 8, 3) := by decide +kernel
theorem dX6_turnsFrom_205 : decode cX6_turnsFrom 205 = .ok (.iload 7, 2) := by decide +kernel
theorem dX6_turnsFrom_207 : decode cX6_turnsFrom 207 = .ok (.goto 5, 3) := by decide +kernel
theorem dX6_turnsFrom_210 : decode cX6_turnsFrom 210 = .ok (.iload 6, 2) := by decide +kernel
theorem dX6_turnsFrom_212 : decode cX6_turnsFrom 212 = .ok (.istore 6, 2) := by decide +kernel
theorem dX6_turnsFrom_214 : decode cX6_turnsFrom 214 = .ok (.iinc 7 1, 3) := by decide +kernel
theorem dX6_turnsFrom_217 : decode cX6_turnsFrom 217 = .ok (.goto (-177), 3) := by decide +kernel
theorem dX6_turnsFrom_220 : decode cX6_turnsFrom 220 = .ok (.aload_n 0, 1) := by decide +kernel
theorem dX6_turnsFrom_221 : decode cX6_turnsFrom 221 = .ok (.iload 6, 2) := by decide +kernel
theorem dX6_turnsFrom_223 : decode cX6_turnsFrom 223 = .ok (.putfield 259, 3) := by decide +kernel
theorem dX6_turnsFrom_226 : decode cX6_turnsFrom 226 = .ok (.iload 5, 2) := by decide +kernel
theorem dX6_turnsFrom_228 : decode cX6_turnsFrom 228 = .ok (.ireturn, 1) := by decide +kernel
theorem dX6_refusesTurns_0 : decode cX6_refusesTurns 0 = .ok (.iload_n 1, 1) := by decide +kernel
theorem dX6_refusesTurns_1 : decode cX6_refusesTurns 1 = .ok (.iconst 1, 1) := by decide +kernel
theorem dX6_refusesTurns_2 : decode cX6_refusesTurns 2 = .ok (.iconst 4, 1) := by decide +kernel
theorem dX6_refusesTurns_3 : decode cX6_refusesTurns 3 = .ok (.invokestatic 74, 3) := by decide +kernel
theorem dX6_refusesTurns_6 : decode cX6_refusesTurns 6 = .ok (.ifCond .eq 13, 3) := by decide +kernel
theorem dX6_refusesTurns_9 : decode cX6_refusesTurns 9 = .ok (.iload_n 2, 1) := by decide +kernel
theorem dX6_refusesTurns_10 : decode cX6_refusesTurns 10 = .ok (.iload_n 1, 1) := by decide +kernel
theorem dX6_refusesTurns_11 : decode cX6_refusesTurns 11 = .ok (.bipush 60, 2) := by decide +kernel
theorem dX6_refusesTurns_13 : decode cX6_refusesTurns 13 = .ok (.invokestatic 74, 3) := by decide +kernel
theorem dX6_refusesTurns_16 : decode cX6_refusesTurns 16 = .ok (.ifCond .ne 8, 3) := by decide +kernel
theorem dX6_refusesTurns_19 : decode cX6_refusesTurns 19 = .ok (.ldc 69, 2) := by decide +kernel
theorem dX6_refusesTurns_21 : decode cX6_refusesTurns 21 = .ok (.goto 17, 3) := by decide +kernel
theorem dX6_refusesTurns_24 : decode cX6_refusesTurns 24 = .ok (.aload_n 0, 1) := by decide +kernel
theorem dX6_refusesTurns_25 : decode cX6_refusesTurns 25 = .ok (.iload_n 2, 1) := by decide +kernel
theorem dX6_refusesTurns_26 : decode cX6_refusesTurns 26 = .ok (.invokevirtual 176, 3) := by decide +kernel
theorem dX6_refusesTurns_29 : decode cX6_refusesTurns 29 = .ok (.ifCond .eq 8, 3) := by decide +kernel
theorem dX6_refusesTurns_32 : decode cX6_refusesTurns 32 = .ok (.ldc 136, 2) := by decide +kernel
theorem dX6_refusesTurns_34 : decode cX6_refusesTurns 34 = .ok (.goto 4, 3) := by decide +kernel
theorem dX6_refusesTurns_37 : decode cX6_refusesTurns 37 = .ok (.iconst 0, 1) := by decide +kernel
theorem dX6_refusesTurns_38 : decode cX6_refusesTurns 38 = .ok (.ireturn, 1) := by decide +kernel
theorem dX6_turns_0 : decode cX6_turns 0 = .ok (.aload_n 0, 1) := by decide +kernel
theorem dX6_turns_1 : decode cX6_turns 1 = .ok (.iload_n 1, 1) := by decide +kernel
theorem dX6_turns_2 : decode cX6_turns 2 = .ok (.iload_n 2, 1) := by decide +kernel
theorem dX6_turns_3 : decode cX6_turns 3 = .ok (.invokevirtual 262, 3) := by decide +kernel
theorem dX6_turns_6 : decode cX6_turns 6 = .ok (.istore_n 3, 1) := by decide +kernel
theorem dX6_turns_7 : decode cX6_turns 7 = .ok (.iload_n 3, 1) := by decide +kernel
theorem dX6_turns_8 : decode cX6_turns 8 = .ok (.ifCond .eq 11, 3) := by decide +kernel
theorem dX6_turns_11 : decode cX6_turns 11 = .ok (.aload_n 0, 1) := by decide +kernel
theorem dX6_turns_12 : decode cX6_turns 12 = .ok (.iload_n 3, 1) := by decide +kernel
theorem dX6_turns_13 : decode cX6_turns 13 = .ok (.invokevirtual 86, 3) := by decide +kernel
theorem dX6_turns_16 : decode cX6_turns 16 = .ok (.goto 10, 3) := by decide +kernel
theorem dX6_turns_19 : decode cX6_turns 19 = .ok (.aload_n 0, 1) := by decide +kernel
theorem dX6_turns_20 : decode cX6_turns 20 = .ok (.iconst 0, 1) := by decide +kernel
theorem dX6_turns_21 : decode cX6_turns 21 = .ok (.iload_n 1, 1) := by decide +kernel
theorem dX6_turns_22 : decode cX6_turns 22 = .ok (.iload_n 2, 1) := by decide +kernel
theorem dX6_turns_23 : decode cX6_turns 23 = .ok (.invokevirtual 256, 3) := by decide +kernel
theorem dX6_turns_26 : decode cX6_turns 26 = .ok (.ireturn, 1) := by decide +kernel
theorem dX6_first_0 : decode cX6_first 0 = .ok (.aload_n 0, 1) := by decide +kernel
theorem dX6_first_1 : decode cX6_first 1 = .ok (.iload_n 1, 1) := by decide +kernel
theorem dX6_first_2 : decode cX6_first 2 = .ok (.iload_n 2, 1) := by decide +kernel
theorem dX6_first_3 : decode cX6_first 3 = .ok (.invokevirtual 262, 3) := by decide +kernel
theorem dX6_first_6 : decode cX6_first 6 = .ok (.istore_n 3, 1) := by decide +kernel
theorem dX6_first_7 : decode cX6_first 7 = .ok (.iload_n 3, 1) := by decide +kernel
theorem dX6_first_8 : decode cX6_first 8 = .ok (.ifCond .eq 9, 3) := by decide +kernel
theorem dX6_first_11 : decode cX6_first 11 = .ok (.aload_n 0, 1) := by decide +kernel
theorem dX6_first_12 : decode cX6_first 12 = .ok (.iload_n 3, 1) := by decide +kernel
theorem dX6_first_13 : decode cX6_first 13 = .ok (.invokevirtual 86, 3) := by decide +kernel
theorem dX6_first_16 : decode cX6_first 16 = .ok (.ireturn, 1) := by decide +kernel
theorem dX6_first_17 : decode cX6_first 17 = .ok (.aload_n 0, 1) := by decide +kernel
theorem dX6_first_18 : decode cX6_first 18 = .ok (.iconst 0, 1) := by decide +kernel
theorem dX6_first_19 : decode cX6_first 19 = .ok (.iload_n 1, 1) := by decide +kernel
theorem dX6_first_20 : decode cX6_first 20 = .ok (.iload_n 2, 1) := by decide +kernel
theorem dX6_first_21 : decode cX6_first 21 = .ok (.invokevirtual 256, 3) := by decide +kernel
theorem dX6_first_24 : decode cX6_first 24 = .ok (.ldc 69, 2) := by decide +kernel
theorem dX6_first_26 : decode cX6_first 26 = .ok (.if_icmp .ne 7, 3) := by decide +kernel
theorem dX6_first_29 : decode cX6_first 29 = .ok (.iconst (-1), 1) := by decide +kernel
theorem dX6_first_30 : decode cX6_first 30 = .ok (.goto 7, 3) := by decide +kernel
theorem dX6_first_33 : decode cX6_first 33 = .ok (.aload_n 0, 1) := by decide +kernel
theorem dX6_first_34 : decode cX6_first 34 = .ok (.getfield 259, 3) := by decide +kernel
theorem dX6_first_37 : decode cX6_first 37 = .ok (.ireturn, 1) := by decide +kernel
theorem dX6_share_0 : decode cX6_share 0 = .ok (.iload_n 1, 1) := by decide +kernel
theorem dX6_share_1 : decode cX6_share 1 = .ok (.iconst 0, 1) := by decide +kernel
theorem dX6_share_2 : decode cX6_share 2 = .ok (.iconst 1, 1) := by decide +kernel
theorem dX6_share_3 : decode cX6_share 3 = .ok (.invokestatic 74, 3) := by decide +kernel
theorem dX6_share_6 : decode cX6_share 6 = .ok (.ifCond .eq 13, 3) := by decide +kernel
theorem dX6_share_9 : decode cX6_share 9 = .ok (.iload_n 2, 1) := by decide +kernel
theorem dX6_share_10 : decode cX6_share 10 = .ok (.iconst 0, 1) := by decide +kernel
theorem dX6_share_11 : decode cX6_share 11 = .ok (.bipush 60, 2) := by decide +kernel
theorem dX6_share_13 : decode cX6_share 13 = .ok (.invokestatic 74, 3) := by decide +kernel
theorem dX6_share_16 : decode cX6_share 16 = .ok (.ifCond .ne 10, 3) := by decide +kernel
theorem dX6_share_19 : decode cX6_share 19 = .ok (.aload_n 0, 1) := by decide +kernel
theorem dX6_share_20 : decode cX6_share 20 = .ok (.ldc 69, 2) := by decide +kernel
theorem dX6_share_22 : decode cX6_share 22 = .ok (.invokevirtual 86, 3) := by decide +kernel
theorem dX6_share_25 : decode cX6_share 25 = .ok (.ireturn, 1) := by decide +kernel
theorem dX6_share_26 : decode cX6_share 26 = .ok (.aload_n 0, 1) := by decide +kernel
theorem dX6_share_27 : decode cX6_share 27 = .ok (.iload_n 2, 1) := by decide +kernel
theorem dX6_share_28 : decode cX6_share 28 = .ok (.invokevirtual 176, 3) := by decide +kernel
theorem dX6_share_31 : decode cX6_share 31 = .ok (.ifCond .eq 10, 3) := by decide +kernel
theorem dX6_share_34 : decode cX6_share 34 = .ok (.aload_n 0, 1) := by decide +kernel
theorem dX6_share_35 : decode cX6_share 35 = .ok (.ldc 136, 2) := by decide +kernel
theorem dX6_share_37 : decode cX6_share 37 = .ok (.invokevirtual 86, 3) := by decide +kernel
theorem dX6_share_40 : decode cX6_share 40 = .ok (.ireturn, 1) := by decide +kernel
theorem dX6_share_41 : decode cX6_share 41 = .ok (.aload_n 0, 1) := by decide +kernel
theorem dX6_share_42 : decode cX6_share 42 = .ok (.getfield 9, 3) := by decide +kernel
theorem dX6_share_45 : decode cX6_share 45 = .ok (.aload_n 0, 1) := by decide +kernel
theorem dX6_share_46 : decode cX6_share 46 = .ok (.getfield 16, 3) := by decide +kernel
theorem dX6_share_49 : decode cX6_share 49 = .ok (.invokestatic 70, 3) := by decide +kernel
theorem dX6_share_52 : decode cX6_share 52 = .ok (.iconst 0, 1) := by decide +kernel
theorem dX6_share_53 : decode cX6_share 53 = .ok (.istore_n 3, 1) := by decide +kernel
theorem dX6_share_54 : decode cX6_share 54 = .ok (.iconst 0, 1) := by decide +kernel
theorem dX6_share_55 : decode cX6_share 55 = .ok (.istore 4, 2) := by decide +kernel
theorem dX6_share_57 : decode cX6_share 57 = .ok (.iload 4, 2) := by decide +kernel
theorem dX6_share_59 : decode cX6_share 59 = .ok (.iload_n 2, 1) := by decide +kernel
theorem dX6_share_60 : decode cX6_share 60 = .ok (.if_icmp .ge 44, 3) := by decide +kernel
theorem dX6_share_63 : decode cX6_share 63 = .ok (.aload_n 0, 1) := by decide +kernel
theorem dX6_share_64 : decode cX6_share 64 = .ok (.invokevirtual 173, 3) := by decide +kernel
theorem dX6_share_67 : decode cX6_share 67 = .ok (.istore 5, 2) := by decide +kernel
theorem dX6_share_69 : decode cX6_share 69 = .ok (.iload_n 3, 1) := by decide +kernel
theorem dX6_share_70 : decode cX6_share 70 = .ok (.aload_n 0, 1) := by decide +kernel
theorem dX6_share_71 : decode cX6_share 71 = .ok (.getfield 157, 3) := by decide +kernel
theorem dX6_share_74 : decode cX6_share 74 = .ok (.ifCond .lt 21, 3) := by decide +kernel
theorem dX6_share_77 : decode cX6_share 77 = .ok (.aload_n 0, 1) := by decide +kernel
theorem dX6_share_78 : decode cX6_share 78 = .ok (.aload_n 0, 1) := by decide +kernel
theorem dX6_share_79 : decode cX6_share 79 = .ok (.getfield 157, 3) := by decide +kernel
theorem dX6_share_82 : decode cX6_share 82 = .ok (.iconst 3, 1) := by decide +kernel
theorem dX6_share_83 : decode cX6_share 83 = .ok (.invokevirtual 98, 3) := by decide +kernel
theorem dX6_share_86 : decode cX6_share 86 = .ok (.iload_n 1, 1) := by decide +kernel
theorem dX6_share_87 : decode cX6_share 87 = .ok (.if_icmp .ne 8, 3) := by decide +kernel
theorem dX6_share_90 : decode cX6_share 90 = .ok (.iload 5, 2) := by decide +kernel
theorem dX6_share_92 : decode cX6_share 92 = .ok (.goto 4, 3) := by decide +kernel
theorem dX6_share_95 : decode cX6_share 95 = .ok (.iconst 0, 1) := by decide +kernel
theorem dX6_share_96 : decode cX6_share 96 = .ok (.iadd, 1) := by decide +kernel
theorem dX6_share_97 : decode cX6_share 97 = .ok (.istore_n 3, 1) := by decide +kernel
theorem dX6_share_98 : decode cX6_share 98 = .ok (.iinc 4 1, 3) := by decide +kernel
theorem dX6_share_101 : decode cX6_share 101 = .ok (.goto (-44), 3) := by decide +kernel
theorem dX6_share_104 : decode cX6_share 104 = .ok (.aload_n 0, 1) := by decide +kernel
theorem dX6_share_105 : decode cX6_share 105 = .ok (.iload_n 3, 1) := by decide +kernel
theorem dX6_share_106 : decode cX6_share 106 = .ok (.invokevirtual 182, 3) := by decide +kernel
theorem dX6_share_109 : decode cX6_share 109 = .ok (.ireturn, 1) := by decide +kernel
theorem dX6_firstEgg_0 : decode cX6_firstEgg 0 = .ok (.iconst (-1), 1) := by decide +kernel
theorem dX6_firstEgg_1 : decode cX6_firstEgg 1 = .ok (.istore 4, 2) := by decide +kernel
theorem dX6_firstEgg_3 : decode cX6_firstEgg 3 = .ok (.iconst 0, 1) := by decide +kernel
theorem dX6_firstEgg_4 : decode cX6_firstEgg 4 = .ok (.istore 5, 2) := by decide +kernel
theorem dX6_firstEgg_6 : decode cX6_firstEgg 6 = .ok (.iload 5, 2) := by decide +kernel
theorem dX6_firstEgg_8 : decode cX6_firstEgg 8 = .ok (.iload_n 3, 1) := by decide +kernel
theorem dX6_firstEgg_9 : decode cX6_firstEgg 9 = .ok (.if_icmp .ge 83, 3) := by decide +kernel
theorem dX6_firstEgg_12 : decode cX6_firstEgg 12 = .ok (.iload 4, 2) := by decide +kernel
theorem dX6_firstEgg_14 : decode cX6_firstEgg 14 = .ok (.ifCond .ge 78, 3) := by decide +kernel
theorem dX6_firstEgg_17 : decode cX6_firstEgg 17 = .ok (.iload 5, 2) := by decide +kernel
theorem dX6_firstEgg_19 : decode cX6_firstEgg 19 = .ok (.ifCond .ne 7, 3) := by decide +kernel
theorem dX6_firstEgg_22 : decode cX6_firstEgg 22 = .ok (.iload_n 1, 1) := by decide +kernel
theorem dX6_firstEgg_23 : decode cX6_firstEgg 23 = .ok (.goto 4, 3) := by decide +kernel
theorem dX6_firstEgg_26 : decode cX6_firstEgg 26 = .ok (.iload_n 2, 1) := by decide +kernel
theorem dX6_firstEgg_27 : decode cX6_firstEgg 27 = .ok (.istore 6, 2) := by decide +kernel
theorem dX6_firstEgg_29 : decode cX6_firstEgg 29 = .ok (.iload 5, 2) := by decide +kernel
theorem dX6_firstEgg_31 : decode cX6_firstEgg 31 = .ok (.iconst 2, 1) := by decide +kernel
theorem dX6_firstEgg_32 : decode cX6_firstEgg 32 = .ok (.if_icmp .ge 24, 3) := by decide +kernel
theorem dX6_firstEgg_35 : decode cX6_firstEgg 35 = .ok (.aload_n 0, 1) := by decide +kernel
theorem dX6_firstEgg_36 : decode cX6_firstEgg 36 = .ok (.iload 6, 2) := by decide +kernel
theorem dX6_firstEgg_38 : decode cX6_firstEgg 38 = .ok (.invokevirtual 137, 3) := by decide +kernel
theorem dX6_firstEgg_41 : decode cX6_firstEgg 41 = .ok (.ifCond .eq 15, 3) := by decide +kernel
theorem dX6_firstEgg_44 : decode cX6_firstEgg 44 = .ok (.iconst (-1), 1) := by decide +kernel
theorem dX6_firstEgg_45 : decode cX6_firstEgg 45 = .ok (.aload_n 0, 1) := by decide +kernel
theorem dX6_firstEgg_46 : decode cX6_firstEgg 46 = .ok (.iload 6, 2) := by decide +kernel
theorem dX6_firstEgg_48 : decode cX6_firstEgg 48 = .ok (.invokevirtual 140, 3) := by decide +kernel
theorem dX6_firstEgg_51 : decode cX6_firstEgg 51 = .ok (.invokestatic 143, 3) := by decide +kernel
theorem dX6_firstEgg_54 : decode cX6_firstEgg 54 = .ok (.istore 4, 2) := by decide +kernel
theorem dX6_firstEgg_56 : decode cX6_firstEgg 56 = .ok (.aload_n 0, 1) := by decide +kernel
theorem dX6_firstEgg_57 : decode cX6_firstEgg 57 = .ok (.invokevirtual 173, 3) := by decide +kernel
theorem dX6_firstEgg_60 : decode cX6_firstEgg 60 = .ok (.istore 7, 2) := by decide +kernel
theorem dX6_firstEgg_62 : decode cX6_firstEgg 62 = .ok (.aload_n 0, 1) := by decide +kernel
theorem dX6_firstEgg_63 : decode cX6_firstEgg 63 = .ok (.getfield 157, 3) := by decide +kernel
theorem dX6_firstEgg_66 : decode cX6_firstEgg 66 = .ok (.iload_n 1, 1) := by decide +kernel
theorem dX6_firstEgg_67 : decode cX6_firstEgg 67 = .ok (.if_icmp .eq 11, 3) := by decide +kernel
theorem dX6_firstEgg_70 : decode cX6_firstEgg 70 = .ok (.aload_n 0, 1) := by decide +kernel
theorem dX6_firstEgg_71 : decode cX6_firstEgg 71 = .ok (.getfield 157, 3) := by decide +kernel
theorem dX6_firstEgg_74 : decode cX6_firstEgg 74 = .ok (.iload_n 2, 1) := by decide +kernel
theorem dX6_firstEgg_75 : decode cX6_firstEgg 75 = .ok (.if_icmp .ne 8, 3) := by decide +kernel
theorem dX6_firstEgg_78 : decode cX6_firstEgg 78 = .ok (.iload 7, 2) := by decide +kernel
theorem dX6_firstEgg_80 : decode cX6_firstEgg 80 = .ok (.goto 4, 3) := by decide +kernel
theorem dX6_firstEgg_83 : decode cX6_firstEgg 83 = .ok (.iconst (-1), 1) := by decide +kernel
theorem dX6_firstEgg_84 : decode cX6_firstEgg 84 = .ok (.istore 4, 2) := by decide +kernel
theorem dX6_firstEgg_86 : decode cX6_firstEgg 86 = .ok (.iinc 5 1, 3) := by decide +kernel
theorem dX6_firstEgg_89 : decode cX6_firstEgg 89 = .ok (.goto (-83), 3) := by decide +kernel
theorem dX6_firstEgg_92 : decode cX6_firstEgg 92 = .ok (.aload_n 0, 1) := by decide +kernel
theorem dX6_firstEgg_93 : decode cX6_firstEgg 93 = .ok (.getfield 16, 3) := by decide +kernel
theorem dX6_firstEgg_96 : decode cX6_firstEgg 96 = .ok (.aload_n 0, 1) := by decide +kernel
theorem dX6_firstEgg_97 : decode cX6_firstEgg 97 = .ok (.getfield 9, 3) := by decide +kernel
theorem dX6_firstEgg_100 : decode cX6_firstEgg 100 = .ok (.invokestatic 70, 3) := by decide +kernel
theorem dX6_firstEgg_103 : decode cX6_firstEgg 103 = .ok (.iload 4, 2) := by decide +kernel
theorem dX6_firstEgg_105 : decode cX6_firstEgg 105 = .ok (.ireturn, 1) := by decide +kernel
theorem dX6_findRows_0 : decode cX6_findRows 0 = .ok (.aload_n 0, 1) := by decide +kernel
theorem dX6_findRows_1 : decode cX6_findRows 1 = .ok (.getfield 9, 3) := by decide +kernel
theorem dX6_findRows_4 : decode cX6_findRows 4 = .ok (.aload_n 0, 1) := by decide +kernel
theorem dX6_findRows_5 : decode cX6_findRows 5 = .ok (.getfield 16, 3) := by decide +kernel
theorem dX6_findRows_8 : decode cX6_findRows 8 = .ok (.invokestatic 70, 3) := by decide +kernel
theorem dX6_findRows_11 : decode cX6_findRows 11 = .ok (.iconst 0, 1) := by decide +kernel
theorem dX6_findRows_12 : decode cX6_findRows 12 = .ok (.istore_n 3, 1) := by decide +kernel
theorem dX6_findRows_13 : decode cX6_findRows 13 = .ok (.aload_n 0, 1) := by decide +kernel
theorem dX6_findRows_14 : decode cX6_findRows 14 = .ok (.iconst 0, 1) := by decide +kernel
theorem dX6_findRows_15 : decode cX6_findRows 15 = .ok (.putfield 265, 3) := by decide +kernel
theorem dX6_findRows_18 : decode cX6_findRows 18 = .ok (.iconst 0, 1) := by decide +kernel
theorem dX6_findRows_19 : decode cX6_findRows 19 = .ok (.istore 4, 2) := by decide +kernel
theorem dX6_findRows_21 : decode cX6_findRows 21 = .ok (.iload 4, 2) := by decide +kernel
theorem dX6_findRows_23 : decode cX6_findRows 23 = .ok (.aload_n 0, 1) := by decide +kernel
theorem dX6_findRows_24 : decode cX6_findRows 24 = .ok (.getfield 9, 3) := by decide +kernel
theorem dX6_findRows_27 : decode cX6_findRows 27 = .ok (.iconst 3, 1) := by decide +kernel
theorem dX6_findRows_28 : decode cX6_findRows 28 = .ok (.iaload, 1) := by decide +kernel
theorem dX6_findRows_29 : decode cX6_findRows 29 = .ok (.if_icmp .ge 86, 3) := by decide +kernel
theorem dX6_findRows_32 : decode cX6_findRows 32 = .ok (.iconst 0, 1) := by decide +kernel
theorem dX6_findRows_33 : decode cX6_findRows 33 = .ok (.istore 5, 2) := by decide +kernel
theorem dX6_findRows_35 : decode cX6_findRows 35 = .ok (.iload 5, 2) := by decide +kernel
theorem dX6_findRows_37 : decode cX6_findRows 37 = .ok (.aload_n 0, 1) := by decide +kernel
theorem dX6_findRows_38 : decode cX6_findRows 38 = .ok (.getfield 9, 3) := by decide +kernel
theorem dX6_findRows_41 : decode cX6_findRows 41 = .ok (.iconst 3, 1) := by decide +kernel
theorem dX6_findRows_42 : decode cX6_findRows 42 = .ok (.iaload, 1) := by decide +kernel
theorem dX6_findRows_43 : decode cX6_findRows 43 = .ok (.if_icmp .ge 66, 3) := by decide +kernel
theorem dX6_findRows_46 : decode cX6_findRows 46 = .ok (.iload 4, 2) := by decide +kernel
theorem dX6_findRows_48 : decode cX6_findRows 48 = .ok (.iload 5, 2) := by decide +kernel
theorem dX6_findRows_50 : decode cX6_findRows 50 = .ok (.if_icmp .eq 53, 3) := by decide +kernel
theorem dX6_findRows_53 : decode cX6_findRows 53 = .ok (.aload_n 0, 1) := by decide +kernel
theorem dX6_findRows_54 : decode cX6_findRows 54 = .ok (.iload 4, 2) := by decide +kernel
theorem dX6_findRows_56 : decode cX6_findRows 56 = .ok (.iconst 0, 1) := by decide +kernel
theorem dX6_findRows_57 : decode cX6_findRows 57 = .ok (.invokevirtual 125, 3) := by decide +kernel
theorem dX6_findRows_60 : decode cX6_findRows 60 = .ok (.ifCond .eq 43, 3) := by decide +kernel
theorem dX6_findRows_63 : decode cX6_findRows 63 = .ok (.aload_n 0, 1) := by decide +kernel
theorem dX6_findRows_64 : decode cX6_findRows 64 = .ok (.iload 5, 2) := by decide +kernel
theorem dX6_findRows_66 : decode cX6_findRows 66 = .ok (.iconst 0, 1) := by decide +kernel
theorem dX6_findRows_67 : decode cX6_findRows 67 = .ok (.invokevirtual 125, 3) := by decide +kernel
theorem dX6_findRows_70 : decode cX6_findRows 70 = .ok (.ifCond .eq 33, 3) := by decide +kernel
theorem dX6_findRows_73 : decode cX6_findRows 73 = .ok (.aload_n 0, 1) := by decide +kernel
theorem dX6_findRows_74 : decode cX6_findRows 74 = .ok (.iload 4, 2) := by decide +kernel
theorem dX6_findRows_76 : decode cX6_findRows 76 = .ok (.iload 5, 2) := by decide +kernel
theorem dX6_findRows_78 : decode cX6_findRows 78 = .ok (.iload_n 2, 1) := by decide +kernel
theorem dX6_findRows_79 : decode cX6_findRows 79 = .ok (.invokevirtual 268, 3) := by decide +kernel
theorem dX6_findRows_82 : decode cX6_findRows 82 = .ok (.iload_n 1, 1) := by decide +kernel
theorem dX6_findRows_83 : decode cX6_findRows 83 = .ok (.if_icmp .ne 20, 3) := by decide +kernel
theorem dX6_findRows_86 : decode cX6_findRows 86 = .ok (.iload_n 3, 1) := by decide +kernel
theorem dX6_findRows_87 : decode cX6_findRows 87 = .ok (.iconst 1, 1) := by decide +kernel
theorem dX6_findRows_88 : decode cX6_findRows 88 = .ok (.iload 4, 2) := by decide +kernel
theorem dX6_findRows_90 : decode cX6_findRows 90 = .ok (.ishl, 1) := by decide +kernel
theorem dX6_findRows_91 : decode cX6_findRows 91 = .ok (.ior, 1) := by decide +kernel
theorem dX6_findRows_92 : decode cX6_findRows 92 = .ok (.istore_n 3, 1) := by decide +kernel
theorem dX6_findRows_93 : decode cX6_findRows 93 = .ok (.aload_n 0, 1) := by decide +kernel
theorem dX6_findRows_94 : decode cX6_findRows 94 = .ok (.dup, 1) := by decide +kernel
theorem dX6_findRows_95 : decode cX6_findRows 95 = .ok (.getfield 265, 3) := by decide +kernel
theorem dX6_findRows_98 : decode cX6_findRows 98 = .ok (.iconst 1, 1) := by decide +kernel
theorem dX6_findRows_99 : decode cX6_findRows 99 = .ok (.iadd, 1) := by decide +kernel
theorem dX6_findRows_100 : decode cX6_findRows 100 = .ok (.putfield 265, 3) := by decide +kernel
theorem dX6_findRows_103 : decode cX6_findRows 103 = .ok (.iinc 5 1, 3) := by decide +kernel
theorem dX6_findRows_106 : decode cX6_findRows 106 = .ok (.goto (-71), 3) := by decide +kernel
theorem dX6_findRows_109 : decode cX6_findRows 109 = .ok (.iinc 4 1, 3) := by decide +kernel
theorem dX6_findRows_112 : decode cX6_findRows 112 = .ok (.goto (-91), 3) := by decide +kernel
theorem dX6_findRows_115 : decode cX6_findRows 115 = .ok (.iload_n 3, 1) := by decide +kernel
theorem dX6_findRows_116 : decode cX6_findRows 116 = .ok (.ireturn, 1) := by decide +kernel
theorem dX6_fits_0 : decode cX6_fits 0 = .ok (.aload_n 0, 1) := by decide +kernel
theorem dX6_fits_1 : decode cX6_fits 1 = .ok (.iload_n 1, 1) := by decide +kernel
theorem dX6_fits_2 : decode cX6_fits 2 = .ok (.iconst 0, 1) := by decide +kernel
theorem dX6_fits_3 : decode cX6_fits 3 = .ok (.bipush 104, 2) := by decide +kernel
theorem dX6_fits_5 : decode cX6_fits 5 = .ok (.invokestatic 74, 3) := by decide +kernel
theorem dX6_fits_8 : decode cX6_fits 8 = .ok (.iconst 0, 1) := by decide +kernel
theorem dX6_fits_9 : decode cX6_fits 9 = .ok (.iload_n 2, 1) := by decide +kernel
theorem dX6_fits_10 : decode cX6_fits 10 = .ok (.invokevirtual 214, 3) := by decide +kernel
theorem dX6_fits_13 : decode cX6_fits 13 = .ok (.istore_n 3, 1) := by decide +kernel
theorem dX6_fits_14 : decode cX6_fits 14 = .ok (.iload_n 3, 1) := by decide +kernel
theorem dX6_fits_15 : decode cX6_fits 15 = .ok (.ifCond .eq 9, 3) := by decide +kernel
theorem dX6_fits_18 : decode cX6_fits 18 = .ok (.aload_n 0, 1) := by decide +kernel
theorem dX6_fits_19 : decode cX6_fits 19 = .ok (.iload_n 3, 1) := by decide +kernel
theorem dX6_fits_20 : decode cX6_fits 20 = .ok (.invokevirtual 86, 3) := by decide +kernel
theorem dX6_fits_23 : decode cX6_fits 23 = .ok (.ireturn, 1) := by decide +kernel
theorem dX6_fits_24 : decode cX6_fits 24 = .ok (.aload_n 0, 1) := by decide +kernel
theorem dX6_fits_25 : decode cX6_fits 25 = .ok (.iload_n 1, 1) := by decide +kernel
theorem dX6_fits_26 : decode cX6_fits 26 = .ok (.iload_n 2, 1) := by decide +kernel
theorem dX6_fits_27 : decode cX6_fits 27 = .ok (.invokevirtual 271, 3) := by decide +kernel
theorem dX6_fits_30 : decode cX6_fits 30 = .ok (.ifCond .ge 7, 3) := by decide +kernel
theorem dX6_fits_33 : decode cX6_fits 33 = .ok (.iconst 0, 1) := by decide +kernel
theorem dX6_fits_34 : decode cX6_fits 34 = .ok (.goto 7, 3) := by decide +kernel
theorem dX6_fits_37 : decode cX6_fits 37 = .ok (.aload_n 0, 1) := by decide +kernel
theorem dX6_fits_38 : decode cX6_fits 38 = .ok (.getfield 265, 3) := by decide +kernel
theorem dX6_fits_41 : decode cX6_fits 41 = .ok (.ireturn, 1) := by decide +kernel
theorem dX6_may_0 : decode cX6_may 0 = .ok (.aload_n 0, 1) := by decide +kernel
theorem dX6_may_1 : decode cX6_may 1 = .ok (.iload_n 1, 1) := by decide +kernel
theorem dX6_may_2 : decode cX6_may 2 = .ok (.iconst 0, 1) := by decide +kernel
theorem dX6_may_3 : decode cX6_may 3 = .ok (.bipush 104, 2) := by decide +kernel
theorem dX6_may_5 : decode cX6_may 5 = .ok (.invokestatic 74, 3) := by decide +kernel
theorem dX6_may_8 : decode cX6_may 8 = .ok (.iconst 0, 1) := by decide +kernel
theorem dX6_may_9 : decode cX6_may 9 = .ok (.iload_n 2, 1) := by decide +kernel
theorem dX6_may_10 : decode cX6_may 10 = .ok (.invokevirtual 214, 3) := by decide +kernel
theorem dX6_may_13 : decode cX6_may 13 = .ok (.istore_n 3, 1) := by decide +kernel
theorem dX6_may_14 : decode cX6_may 14 = .ok (.iload_n 3, 1) := by decide +kernel
theorem dX6_may_15 : decode cX6_may 15 = .ok (.ifCond .eq 11, 3) := by decide +kernel
theorem dX6_may_18 : decode cX6_may 18 = .ok (.aload_n 0, 1) := by decide +kernel
theorem dX6_may_19 : decode cX6_may 19 = .ok (.iload_n 3, 1) := by decide +kernel
theorem dX6_may_20 : decode cX6_may 20 = .ok (.invokevirtual 86, 3) := by decide +kernel
theorem dX6_may_23 : decode cX6_may 23 = .ok (.goto 9, 3) := by decide +kernel
theorem dX6_may_26 : decode cX6_may 26 = .ok (.aload_n 0, 1) := by decide +kernel
theorem dX6_may_27 : decode cX6_may 27 = .ok (.iload_n 1, 1) := by decide +kernel
theorem dX6_may_28 : decode cX6_may 28 = .ok (.iload_n 2, 1) := by decide +kernel
theorem dX6_may_29 : decode cX6_may 29 = .ok (.invokevirtual 271, 3) := by decide +kernel
theorem dX6_may_32 : decode cX6_may 32 = .ok (.ireturn, 1) := by decide +kernel
theorem dX6_laid_0 : decode cX6_laid 0 = .ok (.iload_n 1, 1) := by decide +kernel
theorem dX6_laid_1 : decode cX6_laid 1 = .ok (.iconst 0, 1) := by decide +kernel
theorem dX6_laid_2 : decode cX6_laid 2 = .ok (.iconst 1, 1) := by decide +kernel
theorem dX6_laid_3 : decode cX6_laid 3 = .ok (.invokestatic 74, 3) := by decide +kernel
theorem dX6_laid_6 : decode cX6_laid 6 = .ok (.ifCond .ne 10, 3) := by decide +kernel
theorem dX6_laid_9 : decode cX6_laid 9 = .ok (.aload_n 0, 1) := by decide +kernel
theorem dX6_laid_10 : decode cX6_laid 10 = .ok (.ldc 69, 2) := by decide +kernel
theorem dX6_laid_12 : decode cX6_laid 12 = .ok (.invokevirtual 86, 3) := by decide +kernel
theorem dX6_laid_15 : decode cX6_laid 15 = .ok (.ireturn, 1) := by decide +kernel
theorem dX6_laid_16 : decode cX6_laid 16 = .ok (.iconst 0, 1) := by decide +kernel
theorem dX6_laid_17 : decode cX6_laid 17 = .ok (.istore_n 2, 1) := by decide +kernel
theorem dX6_laid_18 : decode cX6_laid 18 = .ok (.iconst 0, 1) := by decide +kernel
theorem dX6_laid_19 : decode cX6_laid 19 = .ok (.istore_n 3, 1) := by decide +kernel
theorem dX6_laid_20 : decode cX6_laid 20 = .ok (.iload_n 3, 1) := by decide +kernel
theorem dX6_laid_21 : decode cX6_laid 21 = .ok (.aload_n 0, 1) := by decide +kernel
theorem dX6_laid_22 : decode cX6_laid 22 = .ok (.getfield 9, 3) := by decide +kernel
theorem dX6_laid_25 : decode cX6_laid 25 = .ok (.iconst 3, 1) := by decide +kernel
theorem dX6_laid_26 : decode cX6_laid 26 = .ok (.iaload, 1) := by decide +kernel
theorem dX6_laid_27 : decode cX6_laid 27 = .ok (.if_icmp .ge 38, 3) := by decide +kernel
theorem dX6_laid_30 : decode cX6_laid 30 = .ok (.iload_n 2, 1) := by decide +kernel
theorem dX6_laid_31 : decode cX6_laid 31 = .ok (.aload_n 0, 1) := by decide +kernel
theorem dX6_laid_32 : decode cX6_laid 32 = .ok (.iload_n 3, 1) := by decide +kernel
theorem dX6_laid_33 : decode cX6_laid 33 = .ok (.iconst 2, 1) := by decide +kernel
theorem dX6_laid_34 : decode cX6_laid 34 = .ok (.invokevirtual 125, 3) := by decide +kernel
theorem dX6_laid_37 : decode cX6_laid 37 = .ok (.ifCond .eq 19, 3) := by decide +kernel
theorem dX6_laid_40 : decode cX6_laid 40 = .ok (.aload_n 0, 1) := by decide +kernel
theorem dX6_laid_41 : decode cX6_laid 41 = .ok (.iload_n 3, 1) := by decide +kernel
theorem dX6_laid_42 : decode cX6_laid 42 = .ok (.iconst 3, 1) := by decide +kernel
theorem dX6_laid_43 : decode cX6_laid 43 = .ok (.invokevirtual 98, 3) := by decide +kernel
theorem dX6_laid_46 : decode cX6_laid 46 = .ok (.iload_n 1, 1) := by decide +kernel
theorem dX6_laid_47 : decode cX6_laid 47 = .ok (.if_icmp .ne 9, 3) := by decide +kernel
theorem dX6_laid_50 : decode cX6_laid 50 = .ok (.iconst 1, 1) := by decide +kernel
theorem dX6_laid_51 : decode cX6_laid 51 = .ok (.iload_n 3, 1) := by decide +kernel
theorem dX6_laid_52 : decode cX6_laid 52 = .ok (.ishl, 1) := by decide +kernel
theorem dX6_laid_53 : decode cX6_laid 53 = .ok (.goto 4, 3) := by decide +kernel
theorem dX6_laid_56 : decode cX6_laid 56 = .ok (.iconst 0, 1) := by decide +kernel
theorem dX6_laid_57 : decode cX6_laid 57 = .ok (.ior, 1) := by decide +kernel
theorem dX6_laid_58 : decode cX6_laid 58 = .ok (.istore_n 2, 1) := by decide +kernel
theorem dX6_laid_59 : decode cX6_laid 59 = .ok (.iinc 3 1, 3) := by decide +kernel
theorem dX6_laid_62 : decode cX6_laid 62 = .ok (.goto (-42), 3) := by decide +kernel
theorem dX6_laid_65 : decode cX6_laid 65 = .ok (.iload_n 2, 1) := by decide +kernel
theorem dX6_laid_66 : decode cX6_laid 66 = .ok (.ireturn, 1) := by decide +kernel
theorem dX6_areAllFed_0 : decode cX6_areAllFed 0 = .ok (.iconst 1, 1) := by decide +kernel
theorem dX6_areAllFed_1 : decode cX6_areAllFed 1 = .ok (.istore_n 1, 1) := by decide +kernel
theorem dX6_areAllFed_2 : decode cX6_areAllFed 2 = .ok (.iconst 0, 1) := by decide +kernel
theorem dX6_areAllFed_3 : decode cX6_areAllFed 3 = .ok (.istore_n 2, 1) := by decide +kernel
theorem dX6_areAllFed_4 : decode cX6_areAllFed 4 = .ok (.iload_n 2, 1) := by decide +kernel
theorem dX6_areAllFed_5 : decode cX6_areAllFed 5 = .ok (.aload_n 0, 1) := by decide +kernel
theorem dX6_areAllFed_6 : decode cX6_areAllFed 6 = .ok (.getfield 202, 3) := by decide +kernel
theorem dX6_areAllFed_9 : decode cX6_areAllFed 9 = .ok (.if_icmp .ge 76, 3) := by decide +kernel
theorem dX6_areAllFed_12 : decode cX6_areAllFed 12 = .ok (.aload_n 0, 1) := by decide +kernel
theorem dX6_areAllFed_13 : decode cX6_areAllFed 13 = .ok (.aload_n 0, 1) := by decide +kernel
theorem dX6_areAllFed_14 : decode cX6_areAllFed 14 = .ok (.getfield 22, 3) := by decide +kernel
theorem dX6_areAllFed_17 : decode cX6_areAllFed 17 = .ok (.iload_n 2, 1) := by decide +kernel
theorem dX6_areAllFed_18 : decode cX6_areAllFed 18 = .ok (.iaload, 1) := by decide +kernel
theorem dX6_areAllFed_19 : decode cX6_areAllFed 19 = .ok (.invokevirtual 137, 3) := by decide +kernel
theorem dX6_areAllFed_22 : decode cX6_areAllFed 22 = .ok (.istore_n 3, 1) := by decide +kernel
theorem dX6_areAllFed_23 : decode cX6_areAllFed 23 = .ok (.iload_n 1, 1) := by decide +kernel
theorem dX6_areAllFed_24 : decode cX6_areAllFed 24 = .ok (.ifCond .eq 11, 3) := by decide +kernel
theorem dX6_areAllFed_27 : decode cX6_areAllFed 27 = .ok (.iload_n 3, 1) := by decide +kernel
theorem dX6_areAllFed_28 : decode cX6_areAllFed 28 = .ok (.ifCond .eq 7, 3) := by decide +kernel
theorem dX6_areAllFed_31 : decode cX6_areAllFed 31 = .ok (.iconst 1, 1) := by decide +kernel
theorem dX6_areAllFed_32 : decode cX6_areAllFed 32 = .ok (.goto 4, 3) := by decide +kernel
theorem dX6_areAllFed_35 : decode cX6_areAllFed 35 = .ok (.iconst 0, 1) := by decide +kernel
theorem dX6_areAllFed_36 : decode cX6_areAllFed 36 = .ok (.istore_n 1, 1) := by decide +kernel
theorem dX6_areAllFed_37 : decode cX6_areAllFed 37 = .ok (.iload_n 3, 1) := by decide +kernel
theorem dX6_areAllFed_38 : decode cX6_areAllFed 38 = .ok (.ifCond .eq 16, 3) := by decide +kernel
theorem dX6_areAllFed_41 : decode cX6_areAllFed 41 = .ok (.aload_n 0, 1) := by decide +kernel
theorem dX6_areAllFed_42 : decode cX6_areAllFed 42 = .ok (.aload_n 0, 1) := by decide +kernel
theorem dX6_areAllFed_43 : decode cX6_areAllFed 43 = .ok (.getfield 22, 3) := by decide +kernel
theorem dX6_areAllFed_46 : decode cX6_areAllFed 46 = .ok (.iload_n 2, 1) := by decide +kernel
theorem dX6_areAllFed_47 : decode cX6_areAllFed 47 = .ok (.iaload, 1) := by decide +kernel
theorem dX6_areAllFed_48 : decode cX6_areAllFed 48 = .ok (.invokevirtual 140, 3) := by decide +kernel
theorem dX6_areAllFed_51 : decode cX6_areAllFed 51 = .ok (.goto 4, 3) := by decide +kernel
theorem dX6_areAllFed_54 : decode cX6_areAllFed 54 = .ok (.iconst 0, 1) := by decide +kernel
theorem dX6_areAllFed_55 : decode cX6_areAllFed 55 = .ok (.istore 4, 2) := by decide +kernel
theorem dX6_areAllFed_57 : decode cX6_areAllFed 57 = .ok (.iload_n 1, 1) := by decide +kernel
theorem dX6_areAllFed_58 : decode cX6_areAllFed 58 = .ok (.ifCond .eq 19, 3) := by decide +kernel
theorem dX6_areAllFed_61 : decode cX6_areAllFed 61 = .ok (.aload_n 0, 1) := by decide +kernel
theorem dX6_areAllFed_62 : decode cX6_areAllFed 62 = .ok (.invokevirtual 173, 3) := by decide +kernel
theorem dX6_areAllFed_65 : decode cX6_areAllFed 65 = .ok (.ifCond .lt 12, 3) := by decide +kernel
theorem dX6_areAllFed_68 : decode cX6_areAllFed 68 = .ok (.iload 4, 2) := by decide +kernel
theorem dX6_areAllFed_70 : decode cX6_areAllFed 70 = .ok (.ifCond .lt 7, 3) := by decide +kernel
theorem dX6_areAllFed_73 : decode cX6_areAllFed 73 = .ok (.iconst 1, 1) := by decide +kernel
theorem dX6_areAllFed_74 : decode cX6_areAllFed 74 = .ok (.goto 4, 3) := by decide +kernel
theorem dX6_areAllFed_77 : decode cX6_areAllFed 77 = .ok (.iconst 0, 1) := by decide +kernel
theorem dX6_areAllFed_78 : decode cX6_areAllFed 78 = .ok (.istore_n 1, 1) := by decide +kernel
theorem dX6_areAllFed_79 : decode cX6_areAllFed 79 = .ok (.iinc 2 1, 3) := by decide +kernel
theorem dX6_areAllFed_82 : decode cX6_areAllFed 82 = .ok (.goto (-78), 3) := by decide +kernel
theorem dX6_areAllFed_85 : decode cX6_areAllFed 85 = .ok (.aload_n 0, 1) := by decide +kernel
theorem dX6_areAllFed_86 : decode cX6_areAllFed 86 = .ok (.getfield 16, 3) := by decide +kernel
theorem dX6_areAllFed_89 : decode cX6_areAllFed 89 = .ok (.aload_n 0, 1) := by decide +kernel
theorem dX6_areAllFed_90 : decode cX6_areAllFed 90 = .ok (.getfield 9, 3) := by decide +kernel
theorem dX6_areAllFed_93 : decode cX6_areAllFed 93 = .ok (.invokestatic 70, 3) := by decide +kernel
theorem dX6_areAllFed_96 : decode cX6_areAllFed 96 = .ok (.iload_n 1, 1) := by decide +kernel
theorem dX6_areAllFed_97 : decode cX6_areAllFed 97 = .ok (.ireturn, 1) := by decide +kernel
theorem dX6_room_0 : decode cX6_room 0 = .ok (.aload_n 0, 1) := by decide +kernel
theorem dX6_room_1 : decode cX6_room 1 = .ok (.iload_n 1, 1) := by decide +kernel
theorem dX6_room_2 : decode cX6_room 2 = .ok (.invokevirtual 211, 3) := by decide +kernel
theorem dX6_room_5 : decode cX6_room 5 = .ok (.ifCond .ne 10, 3) := by decide +kernel
theorem dX6_room_8 : decode cX6_room 8 = .ok (.aload_n 0, 1) := by decide +kernel
theorem dX6_room_9 : decode cX6_room 9 = .ok (.ldc 69, 2) := by decide +kernel
theorem dX6_room_11 : decode cX6_room 11 = .ok (.invokevirtual 86, 3) := by decide +kernel
theorem dX6_room_14 : decode cX6_room 14 = .ok (.ireturn, 1) := by decide +kernel
theorem dX6_room_15 : decode cX6_room 15 = .ok (.iload_n 1, 1) := by decide +kernel
theorem dX6_room_16 : decode cX6_room 16 = .ok (.aload_n 0, 1) := by decide +kernel
theorem dX6_room_17 : decode cX6_room 17 = .ok (.iconst 0, 1) := by decide +kernel
theorem dX6_room_18 : decode cX6_room 18 = .ok (.invokevirtual 208, 3) := by decide +kernel
theorem dX6_room_21 : decode cX6_room 21 = .ok (.iconst (-1), 1) := by decide +kernel
theorem dX6_room_22 : decode cX6_room 22 = .ok (.ixor, 1) := by decide +kernel
theorem dX6_room_23 : decode cX6_room 23 = .ok (.iand, 1) := by decide +kernel
theorem dX6_room_24 : decode cX6_room 24 = .ok (.ifCond .ne 12, 3) := by decide +kernel
theorem dX6_room_27 : decode cX6_room 27 = .ok (.aload_n 0, 1) := by decide +kernel
theorem dX6_room_28 : decode cX6_room 28 = .ok (.bipush 10, 2) := by decide +kernel
theorem dX6_room_30 : decode cX6_room 30 = .ok (.invokevirtual 176, 3) := by decide +kernel
theorem dX6_room_33 : decode cX6_room 33 = .ok (.ifCond .eq 10, 3) := by decide +kernel
theorem dX6_room_36 : decode cX6_room 36 = .ok (.aload_n 0, 1) := by decide +kernel
theorem dX6_room_37 : decode cX6_room 37 = .ok (.ldc 136, 2) := by decide +kernel
theorem dX6_room_39 : decode cX6_room 39 = .ok (.invokevirtual 86, 3) := by decide +kernel
theorem dX6_room_42 : decode cX6_room 42 = .ok (.ireturn, 1) := by decide +kernel
theorem dX6_room_43 : decode cX6_room 43 = .ok (.aload_n 0, 1) := by decide +kernel
theorem dX6_room_44 : decode cX6_room 44 = .ok (.getfield 9, 3) := by decide +kernel
theorem dX6_room_47 : decode cX6_room 47 = .ok (.aload_n 0, 1) := by decide +kernel
theorem dX6_room_48 : decode cX6_room 48 = .ok (.getfield 16, 3) := by decide +kernel
theorem dX6_room_51 : decode cX6_room 51 = .ok (.invokestatic 70, 3) := by decide +kernel
theorem dX6_room_54 : decode cX6_room 54 = .ok (.aload_n 0, 1) := by decide +kernel
theorem dX6_room_55 : decode cX6_room 55 = .ok (.iload_n 1, 1) := by decide +kernel
theorem dX6_room_56 : decode cX6_room 56 = .ok (.invokevirtual 218, 3) := by decide +kernel
theorem dX6_room_59 : decode cX6_room 59 = .ok (.iconst (-1), 1) := by decide +kernel
theorem dX6_room_60 : decode cX6_room 60 = .ok (.istore_n 2, 1) := by decide +kernel
theorem dX6_room_61 : decode cX6_room 61 = .ok (.iconst 1, 1) := by decide +kernel
theorem dX6_room_62 : decode cX6_room 62 = .ok (.istore_n 3, 1) := by decide +kernel
theorem dX6_room_63 : decode cX6_room 63 = .ok (.iload_n 3, 1) := by decide +kernel
theorem dX6_room_64 : decode cX6_room 64 = .ok (.bipush 40, 2) := by decide +kernel
theorem dX6_room_66 : decode cX6_room 66 = .ok (.if_icmp .gt 33, 3) := by decide +kernel
theorem dX6_room_69 : decode cX6_room 69 = .ok (.iload_n 2, 1) := by decide +kernel
theorem dX6_room_70 : decode cX6_room 70 = .ok (.ifCond .ge 29, 3) := by decide +kernel
theorem dX6_room_73 : decode cX6_room 73 = .ok (.aload_n 0, 1) := by decide +kernel
theorem dX6_room_74 : decode cX6_room 74 = .ok (.getfield 9, 3) := by decide +kernel
theorem dX6_room_77 : decode cX6_room 77 = .ok (.iconst 1, 1) := by decide +kernel
theorem dX6_room_78 : decode cX6_room 78 = .ok (.iload_n 3, 1) := by decide +kernel
theorem dX6_room_79 : decode cX6_room 79 = .ok (.iastore, 1) := by decide +kernel
theorem dX6_room_80 : decode cX6_room 80 = .ok (.aload_n 0, 1) := by decide +kernel
theorem dX6_room_81 : decode cX6_room 81 = .ok (.invokevirtual 274, 3) := by decide +kernel
theorem dX6_room_84 : decode cX6_room 84 = .ok (.ifCond .eq 7, 3) := by decide +kernel
theorem dX6_room_87 : decode cX6_room 87 = .ok (.iload_n 3, 1) := by decide +kernel
theorem dX6_room_88 : decode cX6_room 88 = .ok (.goto 4, 3) := by decide +kernel
theorem dX6_room_91 : decode cX6_room 91 = .ok (.iconst (-1), 1) := by decide +kernel
theorem dX6_room_92 : decode cX6_room 92 = .ok (.istore_n 2, 1) := by decide +kernel
theorem dX6_room_93 : decode cX6_room 93 = .ok (.iinc 3 1, 3) := by decide +kernel
theorem dX6_room_96 : decode cX6_room 96 = .ok (.goto (-33), 3) := by decide +kernel
theorem dX6_room_99 : decode cX6_room 99 = .ok (.iload_n 2, 1) := by decide +kernel
theorem dX6_room_100 : decode cX6_room 100 = .ok (.ifCond .ge 12, 3) := by decide +kernel
theorem dX6_room_103 : decode cX6_room 103 = .ok (.aload_n 0, 1) := by decide +kernel
theorem dX6_room_104 : decode cX6_room 104 = .ok (.ldc 152, 2) := by decide +kernel
theorem dX6_room_106 : decode cX6_room 106 = .ok (.invokevirtual 86, 3) := by decide +kernel
theorem dX6_room_109 : decode cX6_room 109 = .ok (.goto 4, 3) := by decide +kernel
theorem dX6_room_112 : decode cX6_room 112 = .ok (.iload_n 2, 1) := by decide +kernel
theorem dX6_room_113 : decode cX6_room 113 = .ok (.ireturn, 1) := by decide +kernel
theorem dX6_starves_0 : decode cX6_starves 0 = .ok (.aload_n 0, 1) := by decide +kernel
theorem dX6_starves_1 : decode cX6_starves 1 = .ok (.iconst 1, 1) := by decide +kernel
theorem dX6_starves_2 : decode cX6_starves 2 = .ok (.iconst 0, 1) := by decide +kernel
theorem dX6_starves_3 : decode cX6_starves 3 = .ok (.iload_n 1, 1) := by decide +kernel
theorem dX6_starves_4 : decode cX6_starves 4 = .ok (.invokevirtual 214, 3) := by decide +kernel
theorem dX6_starves_7 : decode cX6_starves 7 = .ok (.istore_n 2, 1) := by decide +kernel
theorem dX6_starves_8 : decode cX6_starves 8 = .ok (.iload_n 2, 1) := by decide +kernel
theorem dX6_starves_9 : decode cX6_starves 9 = .ok (.ifCond .eq 9, 3) := by decide +kernel
theorem dX6_starves_12 : decode cX6_starves 12 = .ok (.aload_n 0, 1) := by decide +kernel
theorem dX6_starves_13 : decode cX6_starves 13 = .ok (.iload_n 2, 1) := by decide +kernel
theorem dX6_starves_14 : decode cX6_starves 14 = .ok (.invokevirtual 86, 3) := by decide +kernel
theorem dX6_starves_17 : decode cX6_starves 17 = .ok (.ireturn, 1) := by decide +kernel
theorem dX6_starves_18 : decode cX6_starves 18 = .ok (.aload_n 0, 1) := by decide +kernel
theorem dX6_starves_19 : decode cX6_starves 19 = .ok (.getfield 9, 3) := by decide +kernel
theorem dX6_starves_22 : decode cX6_starves 22 = .ok (.aload_n 0, 1) := by decide +kernel
theorem dX6_starves_23 : decode cX6_starves 23 = .ok (.getfield 16, 3) := by decide +kernel
theorem dX6_starves_26 : decode cX6_starves 26 = .ok (.invokestatic 70, 3) := by decide +kernel
theorem dX6_starves_29 : decode cX6_starves 29 = .ok (.iconst (-1), 1) := by decide +kernel
theorem dX6_starves_30 : decode cX6_starves 30 = .ok (.istore_n 3, 1) := by decide +kernel
theorem dX6_starves_31 : decode cX6_starves 31 = .ok (.bipush 9, 2) := by decide +kernel
theorem dX6_starves_33 : decode cX6_starves 33 = .ok (.istore 4, 2) := by decide +kernel
theorem dX6_starves_35 : decode cX6_starves 35 = .ok (.iload 4, 2) := by decide +kernel
theorem dX6_starves_37 : decode cX6_starves 37 = .ok (.ifCond .lt 72, 3) := by decide +kernel
theorem dX6_starves_40 : decode cX6_starves 40 = .ok (.iload_n 3, 1) := by decide +kernel
theorem dX6_starves_41 : decode cX6_starves 41 = .ok (.ifCond .ge 68, 3) := by decide +kernel
theorem dX6_starves_44 : decode cX6_starves 44 = .ok (.aload_n 0, 1) := by decide +kernel
theorem dX6_starves_45 : decode cX6_starves 45 = .ok (.getfield 9, 3) := by decide +kernel
theorem dX6_starves_48 : decode cX6_starves 48 = .ok (.iconst 2, 1) := by decide +kernel
theorem dX6_starves_49 : decode cX6_starves 49 = .ok (.iload 4, 2) := by decide +kernel
theorem dX6_starves_51 : decode cX6_starves 51 = .ok (.iastore, 1) := by decide +kernel
theorem dX6_starves_52 : decode cX6_starves 52 = .ok (.aload_n 0, 1) := by decide +kernel
theorem dX6_starves_53 : decode cX6_starves 53 = .ok (.getfield 9, 3) := by decide +kernel
theorem dX6_starves_56 : decode cX6_starves 56 = .ok (.bipush 6, 2) := by decide +kernel
theorem dX6_starves_58 : decode cX6_starves 58 = .ok (.iaload, 1) := by decide +kernel
theorem dX6_starves_59 : decode cX6_starves 59 = .ok (.istore 5, 2) := by decide +kernel
theorem dX6_starves_61 : decode cX6_starves 61 = .ok (.aload_n 0, 1) := by decide +kernel
theorem dX6_starves_62 : decode cX6_starves 62 = .ok (.iload_n 1, 1) := by decide +kernel
theorem dX6_starves_63 : decode cX6_starves 63 = .ok (.invokevirtual 179, 3) := by decide +kernel
theorem dX6_starves_66 : decode cX6_starves 66 = .ok (.istore 6, 2) := by decide +kernel
theorem dX6_starves_68 : decode cX6_starves 68 = .ok (.iload 6, 2) := by decide +kernel
theorem dX6_starves_70 : decode cX6_starves 70 = .ok (.ifCond .lt 20, 3) := by decide +kernel
theorem dX6_starves_73 : decode cX6_starves 73 = .ok (.aload_n 0, 1) := by decide +kernel
theorem dX6_starves_74 : decode cX6_starves 74 = .ok (.getfield 9, 3) := by decide +kernel
theorem dX6_starves_77 : decode cX6_starves 77 = .ok (.bipush 6, 2) := by decide +kernel
theorem dX6_starves_79 : decode cX6_starves 79 = .ok (.iaload, 1) := by decide +kernel
theorem dX6_starves_80 : decode cX6_starves 80 = .ok (.iload 5, 2) := by decide +kernel
theorem dX6_starves_82 : decode cX6_starves 82 = .ok (.if_icmp .ne 8, 3) := by decide +kernel
theorem dX6_starves_85 : decode cX6_starves 85 = .ok (.iload 4, 2) := by decide +kernel
theorem dX6_starves_87 : decode cX6_starves 87 = .ok (.goto 4, 3) := by decide +kernel
theorem dX6_starves_90 : decode cX6_starves 90 = .ok (.iconst (-1), 1) := by decide +kernel
theorem dX6_starves_91 : decode cX6_starves 91 = .ok (.istore_n 3, 1) := by decide +kernel
theorem dX6_starves_92 : decode cX6_starves 92 = .ok (.aload_n 0, 1) := by decide +kernel
theorem dX6_starves_93 : decode cX6_starves 93 = .ok (.getfield 16, 3) := by decide +kernel
theorem dX6_starves_96 : decode cX6_starves 96 = .ok (.aload_n 0, 1) := by decide +kernel
theorem dX6_starves_97 : decode cX6_starves 97 = .ok (.getfield 9, 3) := by decide +kernel
theorem dX6_starves_100 : decode cX6_starves 100 = .ok (.invokestatic 70, 3) := by decide +kernel
theorem dX6_starves_103 : decode cX6_starves 103 = .ok (.iinc 4 (-1), 3) := by decide +kernel
theorem dX6_starves_106 : decode cX6_starves 106 = .ok (.goto (-71), 3) := by decide +kernel
theorem dX6_starves_109 : decode cX6_starves 109 = .ok (.iload_n 3, 1) := by decide +kernel
theorem dX6_starves_110 : decode cX6_starves 110 = .ok (.ireturn, 1) := by decide +kernel
theorem dX6_drawn_0 : decode cX6_drawn 0 = .ok (.aload_n 0, 1) := by decide +kernel
theorem dX6_drawn_1 : decode cX6_drawn 1 = .ok (.getfield 9, 3) := by decide +kernel
theorem dX6_drawn_4 : decode cX6_drawn 4 = .ok (.bipush 7, 2) := by decide +kernel
theorem dX6_drawn_6 : decode cX6_drawn 6 = .ok (.aload_n 0, 1) := by decide +kernel
theorem dX6_drawn_7 : decode cX6_drawn 7 = .ok (.getfield 9, 3) := by decide +kernel
theorem dX6_drawn_10 : decode cX6_drawn 10 = .ok (.bipush 7, 2) := by decide +kernel
theorem dX6_drawn_12 : decode cX6_drawn 12 = .ok (.iaload, 1) := by decide +kernel
theorem dX6_drawn_13 : decode cX6_drawn 13 = .ok (.ldc_w 277, 3) := by decide +kernel
theorem dX6_drawn_16 : decode cX6_drawn 16 = .ok (.imul, 1) := by decide +kernel
theorem dX6_drawn_17 : decode cX6_drawn 17 = .ok (.sipush 12345, 3) := by decide +kernel
theorem dX6_drawn_20 : decode cX6_drawn 20 = .ok (.iadd, 1) := by decide +kernel
theorem dX6_drawn_21 : decode cX6_drawn 21 = .ok (.iastore, 1) := by decide +kernel
theorem dX6_drawn_22 : decode cX6_drawn 22 = .ok (.aload_n 0, 1) := by decide +kernel
theorem dX6_drawn_23 : decode cX6_drawn 23 = .ok (.getfield 9, 3) := by decide +kernel
theorem dX6_drawn_26 : decode cX6_drawn 26 = .ok (.bipush 7, 2) := by decide +kernel
theorem dX6_drawn_28 : decode cX6_drawn 28 = .ok (.iaload, 1) := by decide +kernel
theorem dX6_drawn_29 : decode cX6_drawn 29 = .ok (.bipush 8, 2) := by decide +kernel
theorem dX6_drawn_31 : decode cX6_drawn 31 = .ok (.iushr, 1) := by decide +kernel
theorem dX6_drawn_32 : decode cX6_drawn 32 = .ok (.iload_n 1, 1) := by decide +kernel
theorem dX6_drawn_33 : decode cX6_drawn 33 = .ok (.irem, 1) := by decide +kernel
theorem dX6_drawn_34 : decode cX6_drawn 34 = .ok (.ireturn, 1) := by decide +kernel
theorem dX6_lent_0 : decode cX6_lent 0 = .ok (.iload_n 1, 1) := by decide +kernel
theorem dX6_lent_1 : decode cX6_lent 1 = .ok (.iconst 1, 1) := by decide +kernel
theorem dX6_lent_2 : decode cX6_lent 2 = .ok (.bipush 12, 2) := by decide +kernel
theorem dX6_lent_4 : decode cX6_lent 4 = .ok (.invokestatic 74, 3) := by decide +kernel
theorem dX6_lent_7 : decode cX6_lent 7 = .ok (.ifCond .ne 10, 3) := by decide +kernel
theorem dX6_lent_10 : decode cX6_lent 10 = .ok (.aload_n 0, 1) := by decide +kernel
theorem dX6_lent_11 : decode cX6_lent 11 = .ok (.ldc 69, 2) := by decide +kernel
theorem dX6_lent_13 : decode cX6_lent 13 = .ok (.invokevirtual 86, 3) := by decide +kernel
theorem dX6_lent_16 : decode cX6_lent 16 = .ok (.ireturn, 1) := by decide +kernel
theorem dX6_lent_17 : decode cX6_lent 17 = .ok (.aload_n 0, 1) := by decide +kernel
theorem dX6_lent_18 : decode cX6_lent 18 = .ok (.iload_n 1, 1) := by decide +kernel
theorem dX6_lent_19 : decode cX6_lent 19 = .ok (.invokevirtual 176, 3) := by decide +kernel
theorem dX6_lent_22 : decode cX6_lent 22 = .ok (.ifCond .ne 12, 3) := by decide +kernel
theorem dX6_lent_25 : decode cX6_lent 25 = .ok (.aload_n 0, 1) := by decide +kernel
theorem dX6_lent_26 : decode cX6_lent 26 = .ok (.getfield 9, 3) := by decide +kernel
theorem dX6_lent_29 : decode cX6_lent 29 = .ok (.iconst 3, 1) := by decide +kernel
theorem dX6_lent_30 : decode cX6_lent 30 = .ok (.iaload, 1) := by decide +kernel
theorem dX6_lent_31 : decode cX6_lent 31 = .ok (.ifCond .ne 10, 3) := by decide +kernel
theorem dX6_lent_34 : decode cX6_lent 34 = .ok (.aload_n 0, 1) := by decide +kernel
theorem dX6_lent_35 : decode cX6_lent 35 = .ok (.ldc 136, 2) := by decide +kernel
theorem dX6_lent_37 : decode cX6_lent 37 = .ok (.invokevirtual 86, 3) := by decide +kernel
theorem dX6_lent_40 : decode cX6_lent 40 = .ok (.ireturn, 1) := by decide +kernel
theorem dX6_lent_41 : decode cX6_lent 41 = .ok (.iconst 0, 1) := by decide +kernel
theorem dX6_lent_42 : decode cX6_lent 42 = .ok (.istore_n 2, 1) := by decide +kernel
theorem dX6_lent_43 : decode cX6_lent 43 = .ok (.iconst 0, 1) := by decide +kernel
theorem dX6_lent_44 : decode cX6_lent 44 = .ok (.istore_n 3, 1) := by decide +kernel
theorem dX6_lent_45 : decode cX6_lent 45 = .ok (.iload_n 3, 1) := by decide +kernel
theorem dX6_lent_46 : decode cX6_lent 46 = .ok (.iload_n 1, 1) := by decide +kernel
theorem dX6_lent_47 : decode cX6_lent 47 = .ok (.if_icmp .ge 60, 3) := by decide +kernel
theorem dX6_lent_50 : decode cX6_lent 50 = .ok (.aload_n 0, 1) := by decide +kernel
theorem dX6_lent_51 : decode cX6_lent 51 = .ok (.aload_n 0, 1) := by decide +kernel
theorem dX6_lent_52 : decode cX6_lent 52 = .ok (.getfield 9, 3) := by decide +kernel
theorem dX6_lent_55 : decode cX6_lent 55 = .ok (.iconst 3, 1) := by decide +kernel
theorem dX6_lent_56 : decode cX6_lent 56 = .ok (.iaload, 1) := by decide +kernel
theorem dX6_lent_57 : decode cX6_lent 57 = .ok (.invokevirtual 278, 3) := by decide +kernel
theorem dX6_lent_60 : decode cX6_lent 60 = .ok (.istore 4, 2) := by decide +kernel
theorem dX6_lent_62 : decode cX6_lent 62 = .ok (.aload_n 0, 1) := by decide +kernel
theorem dX6_lent_63 : decode cX6_lent 63 = .ok (.iload 4, 2) := by decide +kernel
theorem dX6_lent_65 : decode cX6_lent 65 = .ok (.iconst 0, 1) := by decide +kernel
theorem dX6_lent_66 : decode cX6_lent 66 = .ok (.invokevirtual 125, 3) := by decide +kernel
theorem dX6_lent_69 : decode cX6_lent 69 = .ok (.ifCond .eq 25, 3) := by decide +kernel
theorem dX6_lent_72 : decode cX6_lent 72 = .ok (.aload_n 0, 1) := by decide +kernel
theorem dX6_lent_73 : decode cX6_lent 73 = .ok (.iload 4, 2) := by decide +kernel
theorem dX6_lent_75 : decode cX6_lent 75 = .ok (.invokevirtual 137, 3) := by decide +kernel
theorem dX6_lent_78 : decode cX6_lent 78 = .ok (.ifCond .eq 16, 3) := by decide +kernel
theorem dX6_lent_81 : decode cX6_lent 81 = .ok (.iload_n 2, 1) := by decide +kernel
theorem dX6_lent_82 : decode cX6_lent 82 = .ok (.iconst 0, 1) := by decide +kernel
theorem dX6_lent_83 : decode cX6_lent 83 = .ok (.aload_n 0, 1) := by decide +kernel
theorem dX6_lent_84 : decode cX6_lent 84 = .ok (.iload 4, 2) := by decide +kernel
theorem dX6_lent_86 : decode cX6_lent 86 = .ok (.invokevirtual 140, 3) := by decide +kernel
theorem dX6_lent_89 : decode cX6_lent 89 = .ok (.invokestatic 143, 3) := by decide +kernel
theorem dX6_lent_92 : decode cX6_lent 92 = .ok (.iadd, 1) := by decide +kernel
theorem dX6_lent_93 : decode cX6_lent 93 = .ok (.istore_n 2, 1) := by decide +kernel
theorem dX6_lent_94 : decode cX6_lent 94 = .ok (.iload_n 2, 1) := by decide +kernel
theorem dX6_lent_95 : decode cX6_lent 95 = .ok (.aload_n 0, 1) := by decide +kernel
theorem dX6_lent_96 : decode cX6_lent 96 = .ok (.invokevirtual 173, 3) := by decide +kernel
theorem dX6_lent_99 : decode cX6_lent 99 = .ok (.iadd, 1) := by decide +kernel
theorem dX6_lent_100 : decode cX6_lent 100 = .ok (.istore_n 2, 1) := by decide +kernel
theorem dX6_lent_101 : decode cX6_lent 101 = .ok (.iinc 3 1, 3) := by decide +kernel
theorem dX6_lent_104 : decode cX6_lent 104 = .ok (.goto (-59), 3) := by decide +kernel
theorem dX6_lent_107 : decode cX6_lent 107 = .ok (.iload_n 2, 1) := by decide +kernel
theorem dX6_lent_108 : decode cX6_lent 108 = .ok (.ireturn, 1) := by decide +kernel
theorem dX6_seed_0 : decode cX6_seed 0 = .ok (.aload_n 0, 1) := by decide +kernel
theorem dX6_seed_1 : decode cX6_seed 1 = .ok (.bipush 7, 2) := by decide +kernel
theorem dX6_seed_3 : decode cX6_seed 3 = .ok (.iload_n 1, 1) := by decide +kernel
theorem dX6_seed_4 : decode cX6_seed 4 = .ok (.invokevirtual 122, 3) := by decide +kernel
theorem dX6_seed_7 : decode cX6_seed 7 = .ok (.ireturn, 1) := by decide +kernel
theorem dX6_feed_0 : decode cX6_feed 0 = .ok (.iload_n 2, 1) := by decide +kernel
theorem dX6_feed_1 : decode cX6_feed 1 = .ok (.iconst 1, 1) := by decide +kernel
theorem dX6_feed_2 : decode cX6_feed 2 = .ok (.iconst 4, 1) := by decide +kernel
theorem dX6_feed_3 : decode cX6_feed 3 = .ok (.invokestatic 74, 3) := by decide +kernel
theorem dX6_feed_6 : decode cX6_feed 6 = .ok (.ifCond .ne 10, 3) := by decide +kernel
theorem dX6_feed_9 : decode cX6_feed 9 = .ok (.aload_n 0, 1) := by decide +kernel
theorem dX6_feed_10 : decode cX6_feed 10 = .ok (.ldc 69, 2) := by decide +kernel
theorem dX6_feed_12 : decode cX6_feed 12 = .ok (.invokevirtual 86, 3) := by decide +kernel
theorem dX6_feed_15 : decode cX6_feed 15 = .ok (.ireturn, 1) := by decide +kernel
theorem dX6_feed_16 : decode cX6_feed 16 = .ok (.aload_n 0, 1) := by decide +kernel
theorem dX6_feed_17 : decode cX6_feed 17 = .ok (.getfield 281, 3) := by decide +kernel
theorem dX6_feed_20 : decode cX6_feed 20 = .ok (.iload_n 2, 1) := by decide +kernel
theorem dX6_feed_21 : decode cX6_feed 21 = .ok (.iadd, 1) := by decide +kernel
theorem dX6_feed_22 : decode cX6_feed 22 = .ok (.bipush 120, 2) := by decide +kernel
theorem dX6_feed_24 : decode cX6_feed 24 = .ok (.if_icmp .le 10, 3) := by decide +kernel
theorem dX6_feed_27 : decode cX6_feed 27 = .ok (.aload_n 0, 1) := by decide +kernel
theorem dX6_feed_28 : decode cX6_feed 28 = .ok (.ldc 90, 2) := by decide +kernel
theorem dX6_feed_30 : decode cX6_feed 30 = .ok (.invokevirtual 86, 3) := by decide +kernel
theorem dX6_feed_33 : decode cX6_feed 33 = .ok (.ireturn, 1) := by decide +kernel
theorem dX6_feed_34 : decode cX6_feed 34 = .ok (.iload_n 2, 1) := by decide +kernel
theorem dX6_feed_35 : decode cX6_feed 35 = .ok (.iconst 1, 1) := by decide +kernel
theorem dX6_feed_36 : decode cX6_feed 36 = .ok (.isub, 1) := by decide +kernel
theorem dX6_feed_37 : decode cX6_feed 37 = .ok (.istore_n 3, 1) := by decide +kernel
theorem dX6_feed_38 : decode cX6_feed 38 = .ok (.iload_n 3, 1) := by decide +kernel
theorem dX6_feed_39 : decode cX6_feed 39 = .ok (.ifCond .lt 38, 3) := by decide +kernel
theorem dX6_feed_42 : decode cX6_feed 42 = .ok (.aload_n 0, 1) := by decide +kernel
theorem dX6_feed_43 : decode cX6_feed 43 = .ok (.getfield 31, 3) := by decide +kernel
theorem dX6_feed_46 : decode cX6_feed 46 = .ok (.aload_n 0, 1) := by decide +kernel
theorem dX6_feed_47 : decode cX6_feed 47 = .ok (.getfield 281, 3) := by decide +kernel
theorem dX6_feed_50 : decode cX6_feed 50 = .ok (.iload_n 1, 1) := by decide +kernel
theorem dX6_feed_51 : decode cX6_feed 51 = .ok (.bipush 8, 2) := by decide +kernel
theorem dX6_feed_53 : decode cX6_feed 53 = .ok (.iload_n 3, 1) := by decide +kernel
theorem dX6_feed_54 : decode cX6_feed 54 = .ok (.imul, 1) := by decide +kernel
theorem dX6_feed_55 : decode cX6_feed 55 = .ok (.ishr, 1) := by decide +kernel
theorem dX6_feed_56 : decode cX6_feed 56 = .ok (.sipush 255, 3) := by decide +kernel
theorem dX6_feed_59 : decode cX6_feed 59 = .ok (.iand, 1) := by decide +kernel
theorem dX6_feed_60 : decode cX6_feed 60 = .ok (.iastore, 1) := by decide +kernel
theorem dX6_feed_61 : decode cX6_feed 61 = .ok (.aload_n 0, 1) := by decide +kernel
theorem dX6_feed_62 : decode cX6_feed 62 = .ok (.dup, 1) := by decide +kernel
theorem dX6_feed_63 : decode cX6_feed 63 = .ok (.getfield 281, 3) := by decide +kernel
theorem dX6_feed_66 : decode cX6_feed 66 = .ok (.iconst 1, 1) := by decide +kernel
theorem dX6_feed_67 : decode cX6_feed 67 = .ok (.iadd, 1) := by decide +kernel
theorem dX6_feed_68 : decode cX6_feed 68 = .ok (.putfield 281, 3) := by decide +kernel
theorem dX6_feed_71 : decode cX6_feed 71 = .ok (.iinc 3 (-1), 3) := by decide +kernel
theorem dX6_feed_74 : decode cX6_feed 74 = .ok (.goto (-36), 3) := by decide +kernel
theorem dX6_feed_77 : decode cX6_feed 77 = .ok (.aload_n 0, 1) := by decide +kernel
theorem dX6_feed_78 : decode cX6_feed 78 = .ok (.getfield 281, 3) := by decide +kernel
theorem dX6_feed_81 : decode cX6_feed 81 = .ok (.ireturn, 1) := by decide +kernel
theorem dX6_wipe_0 : decode cX6_wipe 0 = .ok (.aload_n 0, 1) := by decide +kernel
theorem dX6_wipe_1 : decode cX6_wipe 1 = .ok (.getfield 281, 3) := by decide +kernel
theorem dX6_wipe_4 : decode cX6_wipe 4 = .ok (.istore_n 1, 1) := by decide +kernel
theorem dX6_wipe_5 : decode cX6_wipe 5 = .ok (.aload_n 0, 1) := by decide +kernel
theorem dX6_wipe_6 : decode cX6_wipe 6 = .ok (.iconst 0, 1) := by decide +kernel
theorem dX6_wipe_7 : decode cX6_wipe 7 = .ok (.putfield 281, 3) := by decide +kernel
theorem dX6_wipe_10 : decode cX6_wipe 10 = .ok (.iload_n 1, 1) := by decide +kernel
theorem dX6_wipe_11 : decode cX6_wipe 11 = .ok (.ireturn, 1) := by decide +kernel
theorem dX6_byteAt_0 : decode cX6_byteAt 0 = .ok (.iload_n 1, 1) := by decide +kernel
theorem dX6_byteAt_1 : decode cX6_byteAt 1 = .ok (.aload_n 0, 1) := by decide +kernel
theorem dX6_byteAt_2 : decode cX6_byteAt 2 = .ok (.getfield 281, 3) := by decide +kernel
theorem dX6_byteAt_5 : decode cX6_byteAt 5 = .ok (.if_icmp .ge 12, 3) := by decide +kernel
theorem dX6_byteAt_8 : decode cX6_byteAt 8 = .ok (.aload_n 0, 1) := by decide +kernel
theorem dX6_byteAt_9 : decode cX6_byteAt 9 = .ok (.getfield 31, 3) := by decide +kernel
theorem dX6_byteAt_12 : decode cX6_byteAt 12 = .ok (.iload_n 1, 1) := by decide +kernel
theorem dX6_byteAt_13 : decode cX6_byteAt 13 = .ok (.iaload, 1) := by decide +kernel
theorem dX6_byteAt_14 : decode cX6_byteAt 14 = .ok (.goto 4, 3) := by decide +kernel
theorem dX6_byteAt_17 : decode cX6_byteAt 17 = .ok (.iconst (-1), 1) := by decide +kernel
theorem dX6_byteAt_18 : decode cX6_byteAt 18 = .ok (.ireturn, 1) := by decide +kernel
theorem dX6_next__0 : decode cX6_next_ 0 = .ok (.aload_n 0, 1) := by decide +kernel
theorem dX6_next__1 : decode cX6_next_ 1 = .ok (.aload_n 0, 1) := by decide +kernel
theorem dX6_next__2 : decode cX6_next_ 2 = .ok (.getfield 284, 3) := by decide +kernel
theorem dX6_next__5 : decode cX6_next_ 5 = .ok (.putfield 287, 3) := by decide +kernel
theorem dX6_next__8 : decode cX6_next_ 8 = .ok (.aload_n 0, 1) := by decide +kernel
theorem dX6_next__9 : decode cX6_next_ 9 = .ok (.aload_n 0, 1) := by decide +kernel
theorem dX6_next__10 : decode cX6_next_ 10 = .ok (.getfield 287, 3) := by decide +kernel
theorem dX6_next__13 : decode cX6_next_ 13 = .ok (.invokevirtual 290, 3) := by decide +kernel
theorem dX6_next__16 : decode cX6_next_ 16 = .ok (.bipush 32, 2) := by decide +kernel
theorem dX6_next__18 : decode cX6_next_ 18 = .ok (.if_icmp .ne 16, 3) := by decide +kernel
theorem dX6_next__21 : decode cX6_next_ 21 = .ok (.aload_n 0, 1) := by decide +kernel
theorem dX6_next__22 : decode cX6_next_ 22 = .ok (.dup, 1) := by decide +kernel
theorem dX6_next__23 : decode cX6_next_ 23 = .ok (.getfield 287, 3) := by decide +kernel
theorem dX6_next__26 : decode cX6_next_ 26 = .ok (.iconst 1, 1) := by decide +kernel
theorem dX6_next__27 : decode cX6_next_ 27 = .ok (.iadd, 1) := by decide +kernel
theorem dX6_next__28 : decode cX6_next_ 28 = .ok (.putfield 287, 3) := by decide +kernel
theorem dX6_next__31 : decode cX6_next_ 31 = .ok (.goto (-23), 3) := by decide +kernel
theorem dX6_next__34 : decode cX6_next_ 34 = .ok (.aload_n 0, 1) := by decide +kernel
theorem dX6_next__35 : decode cX6_next_ 35 = .ok (.aload_n 0, 1) := by decide +kernel
theorem dX6_next__36 : decode cX6_next_ 36 = .ok (.getfield 287, 3) := by decide +kernel
theorem dX6_next__39 : decode cX6_next_ 39 = .ok (.invokevirtual 290, 3) := by decide +kernel
theorem dX6_next__42 : decode cX6_next_ 42 = .ok (.istore_n 1, 1) := by decide +kernel
theorem dX6_next__43 : decode cX6_next_ 43 = .ok (.aload_n 0, 1) := by decide +kernel
theorem dX6_next__44 : decode cX6_next_ 44 = .ok (.aload_n 0, 1) := by decide +kernel
theorem dX6_next__45 : decode cX6_next_ 45 = .ok (.getfield 287, 3) := by decide +kernel
theorem dX6_next__48 : decode cX6_next_ 48 = .ok (.putfield 284, 3) := by decide +kernel
theorem dX6_next__51 : decode cX6_next_ 51 = .ok (.aload_n 0, 1) := by decide +kernel
theorem dX6_next__52 : decode cX6_next_ 52 = .ok (.iconst 0, 1) := by decide +kernel
theorem dX6_next__53 : decode cX6_next_ 53 = .ok (.putfield 293, 3) := by decide +kernel
theorem dX6_next__56 : decode cX6_next_ 56 = .ok (.iload_n 1, 1) := by decide +kernel
theorem dX6_next__57 : decode cX6_next_ 57 = .ok (.ifCond .ge 11, 3) := by decide +kernel
theorem dX6_next__60 : decode cX6_next_ 60 = .ok (.aload_n 0, 1) := by decide +kernel
theorem dX6_next__61 : decode cX6_next_ 61 = .ok (.iconst 0, 1) := by decide +kernel
theorem dX6_next__62 : decode cX6_next_ 62 = .ok (.putfield 296, 3) := by decide +kernel
theorem dX6_next__65 : decode cX6_next_ 65 = .ok (.goto 141, 3) := by decide +kernel
theorem dX6_next__68 : decode cX6_next_ 68 = .ok (.iload_n 1, 1) := by decide +kernel
theorem dX6_next__69 : decode cX6_next_ 69 = .ok (.bipush 97, 2) := by decide +kernel
theorem dX6_next__71 : decode cX6_next_ 71 = .ok (.bipush 122, 2) := by decide +kernel
theorem dX6_next__73 : decode cX6_next_ 73 = .ok (.invokestatic 74, 3) := by decide +kernel
theorem dX6_next__76 : decode cX6_next_ 76 = .ok (.ifCond .eq 39, 3) := by decide +kernel
theorem dX6_next__79 : decode cX6_next_ 79 = .ok (.aload_n 0, 1) := by decide +kernel
theorem dX6_next__80 : decode cX6_next_ 80 = .ok (.iconst 1, 1) := by decide +kernel
theorem dX6_next__81 : decode cX6_next_ 81 = .ok (.putfield 296, 3) := by decide +kernel
theorem dX6_next__84 : decode cX6_next_ 84 = .ok (.aload_n 0, 1) := by decide +kernel
theorem dX6_next__85 : decode cX6_next_ 85 = .ok (.aload_n 0, 1) := by decide +kernel
theorem dX6_next__86 : decode cX6_next_ 86 = .ok (.getfield 284, 3) := by decide +kernel
theorem dX6_next__89 : decode cX6_next_ 89 = .ok (.invokevirtual 290, 3) := by decide +kernel
theorem dX6_next__92 : decode cX6_next_ 92 = .ok (.bipush 97, 2) := by decide +kernel
theorem dX6_next__94 : decode cX6_next_ 94 = .ok (.bipush 122, 2) := by decide +kernel
theorem dX6_next__96 : decode cX6_next_ 96 = .ok (.invokestatic 74, 3) := by decide +kernel
theorem dX6_next__99 : decode cX6_next_ 99 = .ok (.ifCond .eq 107, 3) := by decide +kernel
theorem dX6_next__102 : decode cX6_next_ 102 = .ok (.aload_n 0, 1) := by decide +kernel
theorem dX6_next__103 : decode cX6_next_ 103 = .ok (.dup, 1) := by decide +kernel
theorem dX6_next__104 : decode cX6_next_ 104 = .ok (.getfield 284, 3) := by decide +kernel
theorem dX6_next__107 : decode cX6_next_ 107 = .ok (.iconst 1, 1) := by decide +kernel
theorem dX6_next__108 : decode cX6_next_ 108 = .ok (.iadd, 1) := by decide +kernel
theorem dX6_next__109 : decode cX6_next_ 109 = .ok (.putfield 284, 3) := by decide +kernel
theorem dX6_next__112 : decode cX6_next_ 112 = .ok (.goto (-28), 3) := by decide +kernel
theorem dX6_next__115 : decode cX6_next_ 115 = .ok (.iload_n 1, 1) := by decide +kernel
theorem dX6_next__116 : decode cX6_next_ 116 = .ok (.bipush 48, 2) := by decide +kernel
theorem dX6_next__118 : decode cX6_next_ 118 = .ok (.bipush 57, 2) := by decide +kernel
theorem dX6_next__120 : decode cX6_next_ 120 = .ok (.invokestatic 74, 3) := by decide +kernel
theorem dX6_next__123 : decode cX6_next_ 123 = .ok (.ifCond .eq 68, 3) := by decide +kernel
theorem dX6_next__126 : decode cX6_next_ 126 = .ok (.aload_n 0, 1) := by decide +kernel
theorem dX6_next__127 : decode cX6_next_ 127 = .ok (.iconst 2, 1) := by decide +kernel
theorem dX6_next__128 : decode cX6_next_ 128 = .ok (.putfield 296, 3) := by decide +kernel
theorem dX6_next__131 : decode cX6_next_ 131 = .ok (.aload_n 0, 1) := by decide +kernel
theorem dX6_next__132 : decode cX6_next_ 132 = .ok (.aload_n 0, 1) := by decide +kernel
theorem dX6_next__133 : decode cX6_next_ 133 = .ok (.getfield 284, 3) := by decide +kernel
theorem dX6_next__136 : decode cX6_next_ 136 = .ok (.invokevirtual 290, 3) := by decide +kernel
theorem dX6_next__139 : decode cX6_next_ 139 = .ok (.bipush 48, 2) := by decide +kernel
theorem dX6_next__141 : decode cX6_next_ 141 = .ok (.bipush 57, 2) := by decide +kernel
theorem dX6_next__143 : decode cX6_next_ 143 = .ok (.invokestatic 74, 3) := by decide +kernel
theorem dX6_next__146 : decode cX6_next_ 146 = .ok (.ifCond .eq 60, 3) := by decide +kernel
theorem dX6_next__149 : decode cX6_next_ 149 = .ok (.aload_n 0, 1) := by decide +kernel
theorem dX6_next__150 : decode cX6_next_ 150 = .ok (.sipush 1000, 3) := by decide +kernel
theorem dX6_next__153 : decode cX6_next_ 153 = .ok (.bipush 10, 2) := by decide +kernel
theorem dX6_next__155 : decode cX6_next_ 155 = .ok (.aload_n 0, 1) := by decide +kernel
theorem dX6_next__156 : decode cX6_next_ 156 = .ok (.getfield 293, 3) := by decide +kernel
theorem dX6_next__159 : decode cX6_next_ 159 = .ok (.imul, 1) := by decide +kernel
theorem dX6_next__160 : decode cX6_next_ 160 = .ok (.aload_n 0, 1) := by decide +kernel
theorem dX6_next__161 : decode cX6_next_ 161 = .ok (.aload_n 0, 1) := by decide +kernel
theorem dX6_next__162 : decode cX6_next_ 162 = .ok (.getfield 284, 3) := by decide +kernel
theorem dX6_next__165 : decode cX6_next_ 165 = .ok (.invokevirtual 290, 3) := by decide +kernel
theorem dX6_next__168 : decode cX6_next_ 168 = .ok (.iadd, 1) := by decide +kernel
theorem dX6_next__169 : decode cX6_next_ 169 = .ok (.bipush 48, 2) := by decide +kernel
theorem dX6_next__171 : decode cX6_next_ 171 = .ok (.isub, 1) := by decide +kernel
theorem dX6_next__172 : decode cX6_next_ 172 = .ok (.invokestatic 143, 3) := by decide +kernel
theorem dX6_next__175 : decode cX6_next_ 175 = .ok (.putfield 293, 3) := by decide +kernel
theorem dX6_next__178 : decode cX6_next_ 178 = .ok (.aload_n 0, 1) := by decide +kernel
theorem dX6_next__179 : decode cX6_next_ 179 = .ok (.dup, 1) := by decide +kernel
theorem dX6_next__180 : decode cX6_next_ 180 = .ok (.getfield 284, 3) := by decide +kernel
theorem dX6_next__183 : decode cX6_next_ 183 = .ok (.iconst 1, 1) := by decide +kernel
theorem dX6_next__184 : decode cX6_next_ 184 = .ok (.iadd, 1) := by decide +kernel
theorem dX6_next__185 : decode cX6_next_ 185 = .ok (.putfield 284, 3) := by decide +kernel
theorem dX6_next__188 : decode cX6_next_ 188 = .ok (.goto (-57), 3) := by decide +kernel
theorem dX6_next__191 : decode cX6_next_ 191 = .ok (.aload_n 0, 1) := by decide +kernel
theorem dX6_next__192 : decode cX6_next_ 192 = .ok (.iconst 3, 1) := by decide +kernel
theorem dX6_next__193 : decode cX6_next_ 193 = .ok (.putfield 296, 3) := by decide +kernel
theorem dX6_next__196 : decode cX6_next_ 196 = .ok (.aload_n 0, 1) := by decide +kernel
theorem dX6_next__197 : decode cX6_next_ 197 = .ok (.dup, 1) := by decide +kernel
theorem dX6_next__198 : decode cX6_next_ 198 = .ok (.getfield 284, 3) := by decide +kernel
theorem dX6_next__201 : decode cX6_next_ 201 = .ok (.iconst 1, 1) := by decide +kernel
theorem dX6_next__202 : decode cX6_next_ 202 = .ok (.iadd, 1) := by decide +kernel
theorem dX6_next__203 : decode cX6_next_ 203 = .ok (.putfield 284, 3) := by decide +kernel
theorem dX6_next__206 : decode cX6_next_ 206 = .ok (.return_, 1) := by decide +kernel
theorem dX6_isWord_0 : decode cX6_isWord 0 = .ok (.aload_n 0, 1) := by decide +kernel
theorem dX6_isWord_1 : decode cX6_isWord 1 = .ok (.getfield 296, 3) := by decide +kernel
theorem dX6_isWord_4 : decode cX6_isWord 4 = .ok (.iconst 1, 1) := by decide +kernel
theorem dX6_isWord_5 : decode cX6_isWord 5 = .ok (.if_icmp .ne 23, 3) := by decide +kernel
theorem dX6_isWord_8 : decode cX6_isWord 8 = .ok (.aload_n 0, 1) := by decide +kernel
theorem dX6_isWord_9 : decode cX6_isWord 9 = .ok (.getfield 284, 3) := by decide +kernel
theorem dX6_isWord_12 : decode cX6_isWord 12 = .ok (.aload_n 0, 1) := by decide +kernel
theorem dX6_isWord_13 : decode cX6_isWord 13 = .ok (.getfield 287, 3) := by decide +kernel
theorem dX6_isWord_16 : decode cX6_isWord 16 = .ok (.isub, 1) := by decide +kernel
theorem dX6_isWord_17 : decode cX6_isWord 17 = .ok (.aload_n 1, 1) := by decide +kernel
theorem dX6_isWord_18 : decode cX6_isWord 18 = .ok (.invokevirtual 299, 3) := by decide +kernel
theorem dX6_isWord_21 : decode cX6_isWord 21 = .ok (.if_icmp .ne 7, 3) := by decide +kernel
theorem dX6_isWord_24 : decode cX6_isWord 24 = .ok (.iconst 1, 1) := by decide +kernel
theorem dX6_isWord_25 : decode cX6_isWord 25 = .ok (.goto 4, 3) := by decide +kernel
theorem dX6_isWord_28 : decode cX6_isWord 28 = .ok (.iconst 0, 1) := by decide +kernel
theorem dX6_isWord_29 : decode cX6_isWord 29 = .ok (.istore_n 2, 1) := by decide +kernel
theorem dX6_isWord_30 : decode cX6_isWord 30 = .ok (.iconst 0, 1) := by decide +kernel
theorem dX6_isWord_31 : decode cX6_isWord 31 = .ok (.istore_n 3, 1) := by decide +kernel
theorem dX6_isWord_32 : decode cX6_isWord 32 = .ok (.iload_n 3, 1) := by decide +kernel
theorem dX6_isWord_33 : decode cX6_isWord 33 = .ok (.aload_n 1, 1) := by decide +kernel
theorem dX6_isWord_34 : decode cX6_isWord 34 = .ok (.invokevirtual 299, 3) := by decide +kernel
theorem dX6_isWord_37 : decode cX6_isWord 37 = .ok (.if_icmp .ge 38, 3) := by decide +kernel
theorem dX6_isWord_40 : decode cX6_isWord 40 = .ok (.iload_n 2, 1) := by decide +kernel
theorem dX6_isWord_41 : decode cX6_isWord 41 = .ok (.ifCond .eq 34, 3) := by decide +kernel
theorem dX6_isWord_44 : decode cX6_isWord 44 = .ok (.aload_n 0, 1) := by decide +kernel
theorem dX6_isWord_45 : decode cX6_isWord 45 = .ok (.getfield 31, 3) := by decide +kernel
theorem dX6_isWord_48 : decode cX6_isWord 48 = .ok (.aload_n 0, 1) := by decide +kernel
theorem dX6_isWord_49 : decode cX6_isWord 49 = .ok (.getfield 287, 3) := by decide +kernel
theorem dX6_isWord_52 : decode cX6_isWord 52 = .ok (.iload_n 3, 1) := by decide +kernel
theorem dX6_isWord_53 : decode cX6_isWord 53 = .ok (.iadd, 1) := by decide +kernel
theorem dX6_isWord_54 : decode cX6_isWord 54 = .ok (.iaload, 1) := by decide +kernel
theorem dX6_isWord_55 : decode cX6_isWord 55 = .ok (.aload_n 1, 1) := by decide +kernel
theorem dX6_isWord_56 : decode cX6_isWord 56 = .ok (.iload_n 3, 1) := by decide +kernel
theorem dX6_isWord_57 : decode cX6_isWord 57 = .ok (.invokevirtual 302, 3) := by decide +kernel
theorem dX6_isWord_60 : decode cX6_isWord 60 = .ok (.if_icmp .ne 7, 3) := by decide +kernel
theorem dX6_isWord_63 : decode cX6_isWord 63 = .ok (.iconst 1, 1) := by decide +kernel
theorem dX6_isWord_64 : decode cX6_isWord 64 = .ok (.goto 4, 3) := by decide +kernel
theorem dX6_isWord_67 : decode cX6_isWord 67 = .ok (.iconst 0, 1) := by decide +kernel
theorem dX6_isWord_68 : decode cX6_isWord 68 = .ok (.istore_n 2, 1) := by decide +kernel
theorem dX6_isWord_69 : decode cX6_isWord 69 = .ok (.iinc 3 1, 3) := by decide +kernel
theorem dX6_isWord_72 : decode cX6_isWord 72 = .ok (.goto (-40), 3) := by decide +kernel
theorem dX6_isWord_75 : decode cX6_isWord 75 = .ok (.iload_n 2, 1) := by decide +kernel
theorem dX6_isWord_76 : decode cX6_isWord 76 = .ok (.ireturn, 1) := by decide +kernel
theorem dX6_must_0 : decode cX6_must 0 = .ok (.aload_n 0, 1) := by decide +kernel
theorem dX6_must_1 : decode cX6_must 1 = .ok (.aload_n 0, 1) := by decide +kernel
theorem dX6_must_2 : decode cX6_must 2 = .ok (.getfield 306, 3) := by decide +kernel
theorem dX6_must_5 : decode cX6_must 5 = .ok (.ifCond .ne 7, 3) := by decide +kernel
theorem dX6_must_8 : decode cX6_must 8 = .ok (.iload_n 1, 1) := by decide +kernel
theorem dX6_must_9 : decode cX6_must 9 = .ok (.ifCond .ne 7, 3) := by decide +kernel
theorem dX6_must_12 : decode cX6_must 12 = .ok (.iconst 1, 1) := by decide +kernel
theorem dX6_must_13 : decode cX6_must 13 = .ok (.goto 4, 3) := by decide +kernel
theorem dX6_must_16 : decode cX6_must 16 = .ok (.iconst 0, 1) := by decide +kernel
theorem dX6_must_17 : decode cX6_must 17 = .ok (.putfield 306, 3) := by decide +kernel
theorem dX6_must_20 : decode cX6_must 20 = .ok (.aload_n 0, 1) := by decide +kernel
theorem dX6_must_21 : decode cX6_must 21 = .ok (.getfield 306, 3) := by decide +kernel
theorem dX6_must_24 : decode cX6_must 24 = .ok (.ifCond .ne 7, 3) := by decide +kernel
theorem dX6_must_27 : decode cX6_must 27 = .ok (.aload_n 0, 1) := by decide +kernel
theorem dX6_must_28 : decode cX6_must 28 = .ok (.invokevirtual 309, 3) := by decide +kernel
theorem dX6_must_31 : decode cX6_must 31 = .ok (.return_, 1) := by decide +kernel
theorem dX6_number_0 : decode cX6_number 0 = .ok (.aload_n 0, 1) := by decide +kernel
theorem dX6_number_1 : decode cX6_number 1 = .ok (.getfield 293, 3) := by decide +kernel
theorem dX6_number_4 : decode cX6_number 4 = .ok (.istore_n 3, 1) := by decide +kernel
theorem dX6_number_5 : decode cX6_number 5 = .ok (.aload_n 0, 1) := by decide +kernel
theorem dX6_number_6 : decode cX6_number 6 = .ok (.aload_n 0, 1) := by decide +kernel
theorem dX6_number_7 : decode cX6_number 7 = .ok (.getfield 296, 3) := by decide +kernel
theorem dX6_number_10 : decode cX6_number 10 = .ok (.iconst 2, 1) := by decide +kernel
theorem dX6_number_11 : decode cX6_number 11 = .ok (.if_icmp .ne 16, 3) := by decide +kernel
theorem dX6_number_14 : decode cX6_number 14 = .ok (.iload_n 3, 1) := by decide +kernel
theorem dX6_number_15 : decode cX6_number 15 = .ok (.iload_n 1, 1) := by decide +kernel
theorem dX6_number_16 : decode cX6_number 16 = .ok (.iload_n 2, 1) := by decide +kernel
theorem dX6_number_17 : decode cX6_number 17 = .ok (.invokestatic 74, 3) := by decide +kernel
theorem dX6_number_20 : decode cX6_number 20 = .ok (.ifCond .eq 7, 3) := by decide +kernel
theorem dX6_number_23 : decode cX6_number 23 = .ok (.iconst 1, 1) := by decide +kernel
theorem dX6_number_24 : decode cX6_number 24 = .ok (.goto 4, 3) := by decide +kernel
theorem dX6_number_27 : decode cX6_number 27 = .ok (.iconst 0, 1) := by decide +kernel
theorem dX6_number_28 : decode cX6_number 28 = .ok (.invokevirtual 312, 3) := by decide +kernel
theorem dX6_number_31 : decode cX6_number 31 = .ok (.iload_n 3, 1) := by decide +kernel
theorem dX6_number_32 : decode cX6_number 32 = .ok (.ireturn, 1) := by decide +kernel
theorem dX6_item_0 : decode cX6_item 0 = .ok (.iconst 4, 1) := by decide +kernel
theorem dX6_item_1 : decode cX6_item 1 = .ok (.aload_n 0, 1) := by decide +kernel
theorem dX6_item_2 : decode cX6_item 2 = .ok (.getfield 316, 3) := by decide +kernel
theorem dX6_item_5 : decode cX6_item 5 = .ok (.imul, 1) := by decide +kernel
theorem dX6_item_6 : decode cX6_item 6 = .ok (.istore 5, 2) := by decide +kernel
theorem dX6_item_8 : decode cX6_item 8 = .ok (.aload_n 0, 1) := by decide +kernel
theorem dX6_item_9 : decode cX6_item 9 = .ok (.getfield 54, 3) := by decide +kernel
theorem dX6_item_12 : decode cX6_item 12 = .ok (.iload 5, 2) := by decide +kernel
theorem dX6_item_14 : decode cX6_item 14 = .ok (.iload_n 1, 1) := by decide +kernel
theorem dX6_item_15 : decode cX6_item 15 = .ok (.iastore, 1) := by decide +kernel
theorem dX6_item_16 : decode cX6_item 16 = .ok (.aload_n 0, 1) := by decide +kernel
theorem dX6_item_17 : decode cX6_item 17 = .ok (.getfield 54, 3) := by decide +kernel
theorem dX6_item_20 : decode cX6_item 20 = .ok (.iload 5, 2) := by decide +kernel
theorem dX6_item_22 : decode cX6_item 22 = .ok (.iconst 1, 1) := by decide +kernel
theorem dX6_item_23 : decode cX6_item 23 = .ok (.iadd, 1) := by decide +kernel
theorem dX6_item_24 : decode cX6_item 24 = .ok (.iload_n 2, 1) := by decide +kernel
theorem dX6_item_25 : decode cX6_item 25 = .ok (.iastore, 1) := by decide +kernel
theorem dX6_item_26 : decode cX6_item 26 = .ok (.aload_n 0, 1) := by decide +kernel
theorem dX6_item_27 : decode cX6_item 27 = .ok (.getfield 54, 3) := by decide +kernel
theorem dX6_item_30 : decode cX6_item 30 = .ok (.iload 5, 2) := by decide +kernel
theorem dX6_item_32 : decode cX6_item 32 = .ok (.iconst 2, 1) := by decide +kernel
theorem dX6_item_33 : decode cX6_item 33 = .ok (.iadd, 1) := by decide +kernel
theorem dX6_item_34 : decode cX6_item 34 = .ok (.iload_n 3, 1) := by decide +kernel
theorem dX6_item_35 : decode cX6_item 35 = .ok (.iastore, 1) := by decide +kernel
theorem dX6_item_36 : decode cX6_item 36 = .ok (.aload_n 0, 1) := by decide +kernel
theorem dX6_item_37 : decode cX6_item 37 = .ok (.getfield 54, 3) := by decide +kernel
theorem dX6_item_40 : decode cX6_item 40 = .ok (.iload 5, 2) := by decide +kernel
theorem dX6_item_42 : decode cX6_item 42 = .ok (.iconst 3, 1) := by decide +kernel
theorem dX6_item_43 : decode cX6_item 43 = .ok (.iadd, 1) := by decide +kernel
theorem dX6_item_44 : decode cX6_item 44 = .ok (.iload 4, 2) := by decide +kernel
theorem dX6_item_46 : decode cX6_item 46 = .ok (.iastore, 1) := by decide +kernel
theorem dX6_item_47 : decode cX6_item 47 = .ok (.aload_n 0, 1) := by decide +kernel
theorem dX6_item_48 : decode cX6_item 48 = .ok (.dup, 1) := by decide +kernel
theorem dX6_item_49 : decode cX6_item 49 = .ok (.getfield 316, 3) := by decide +kernel
theorem dX6_item_52 : decode cX6_item 52 = .ok (.iconst 1, 1) := by decide +kernel
theorem dX6_item_53 : decode cX6_item 53 = .ok (.iadd, 1) := by decide +kernel
theorem dX6_item_54 : decode cX6_item 54 = .ok (.putfield 316, 3) := by decide +kernel
theorem dX6_item_57 : decode cX6_item 57 = .ok (.return_, 1) := by decide +kernel
theorem dX6_kindTold_0 : decode cX6_kindTold 0 = .ok (.iconst (-1), 1) := by decide +kernel
theorem dX6_kindTold_1 : decode cX6_kindTold 1 = .ok (.istore_n 1, 1) := by decide +kernel
theorem dX6_kindTold_2 : decode cX6_kindTold 2 = .ok (.iconst 0, 1) := by decide +kernel
theorem dX6_kindTold_3 : decode cX6_kindTold 3 = .ok (.istore_n 2, 1) := by decide +kernel
theorem dX6_kindTold_4 : decode cX6_kindTold 4 = .ok (.iload_n 2, 1) := by decide +kernel
theorem dX6_kindTold_5 : decode cX6_kindTold 5 = .ok (.aload_n 0, 1) := by decide +kernel
theorem dX6_kindTold_6 : decode cX6_kindTold 6 = .ok (.getfield 50, 3) := by decide +kernel
theorem dX6_kindTold_9 : decode cX6_kindTold 9 = .ok (.arraylength, 1) := by decide +kernel
theorem dX6_kindTold_10 : decode cX6_kindTold 10 = .ok (.if_icmp .ge 28, 3) := by decide +kernel
theorem dX6_kindTold_13 : decode cX6_kindTold 13 = .ok (.aload_n 0, 1) := by decide +kernel
theorem dX6_kindTold_14 : decode cX6_kindTold 14 = .ok (.aload_n 0, 1) := by decide +kernel
theorem dX6_kindTold_15 : decode cX6_kindTold 15 = .ok (.getfield 50, 3) := by decide +kernel
theorem dX6_kindTold_18 : decode cX6_kindTold 18 = .ok (.iload_n 2, 1) := by decide +kernel
theorem dX6_kindTold_19 : decode cX6_kindTold 19 = .ok (.aaload, 1) := by decide +kernel
theorem dX6_kindTold_20 : decode cX6_kindTold 20 = .ok (.invokevirtual 319, 3) := by decide +kernel
theorem dX6_kindTold_23 : decode cX6_kindTold 23 = .ok (.ifCond .eq 7, 3) := by decide +kernel
theorem dX6_kindTold_26 : decode cX6_kindTold 26 = .ok (.iload_n 2, 1) := by decide +kernel
theorem dX6_kindTold_27 : decode cX6_kindTold 27 = .ok (.goto 4, 3) := by decide +kernel
theorem dX6_kindTold_30 : decode cX6_kindTold 30 = .ok (.iload_n 1, 1) := by decide +kernel
theorem dX6_kindTold_31 : decode cX6_kindTold 31 = .ok (.istore_n 1, 1) := by decide +kernel
theorem dX6_kindTold_32 : decode cX6_kindTold 32 = .ok (.iinc 2 1, 3) := by decide +kernel
theorem dX6_kindTold_35 : decode cX6_kindTold 35 = .ok (.goto (-31), 3) := by decide +kernel
theorem dX6_kindTold_38 : decode cX6_kindTold 38 = .ok (.iload_n 1, 1) := by decide +kernel
theorem dX6_kindTold_39 : decode cX6_kindTold 39 = .ok (.ireturn, 1) := by decide +kernel
theorem dX6_isNext_0 : decode cX6_isNext 0 = .ok (.aload_n 0, 1) := by decide +kernel
theorem dX6_isNext_1 : decode cX6_isNext 1 = .ok (.getfield 306, 3) := by decide +kernel
theorem dX6_isNext_4 : decode cX6_isNext 4 = .ok (.ifCond .ne 15, 3) := by decide +kernel
theorem dX6_isNext_7 : decode cX6_isNext 7 = .ok (.aload_n 0, 1) := by decide +kernel
theorem dX6_isNext_8 : decode cX6_isNext 8 = .ok (.aload_n 1, 1) := by decide +kernel
theorem dX6_isNext_9 : decode cX6_isNext 9 = .ok (.invokevirtual 319, 3) := by decide +kernel
theorem dX6_isNext_12 : decode cX6_isNext 12 = .ok (.ifCond .eq 7, 3) := by decide +kernel
theorem dX6_isNext_15 : decode cX6_isNext 15 = .ok (.iconst 1, 1) := by decide +kernel
theorem dX6_isNext_16 : decode cX6_isNext 16 = .ok (.goto 4, 3) := by decide +kernel
theorem dX6_isNext_19 : decode cX6_isNext 19 = .ok (.iconst 0, 1) := by decide +kernel
theorem dX6_isNext_20 : decode cX6_isNext 20 = .ok (.istore_n 2, 1) := by decide +kernel
theorem dX6_isNext_21 : decode cX6_isNext 21 = .ok (.iload_n 2, 1) := by decide +kernel
theorem dX6_isNext_22 : decode cX6_isNext 22 = .ok (.ifCond .eq 8, 3) := by decide +kernel
theorem dX6_isNext_25 : decode cX6_isNext 25 = .ok (.aload_n 0, 1) := by decide +kernel
theorem dX6_isNext_26 : decode cX6_isNext 26 = .ok (.iconst 1, 1) := by decide +kernel
theorem dX6_isNext_27 : decode cX6_isNext 27 = .ok (.invokevirtual 312, 3) := by decide +kernel
theorem dX6_isNext_30 : decode cX6_isNext 30 = .ok (.iload_n 2, 1) := by decide +kernel
theorem dX6_isNext_31 : decode cX6_isNext 31 = .ok (.ireturn, 1) := by decide +kernel
theorem dX6_readItem_0 : decode cX6_readItem 0 = .ok (.aload_n 0, 1) := by decide +kernel
theorem dX6_readItem_1 : decode cX6_readItem 1 = .ok (.invokevirtual 323, 3) := by decide +kernel
theorem dX6_readItem_4 : decode cX6_readItem 4 = .ok (.istore_n 1, 1) := by decide +kernel
theorem dX6_readItem_5 : decode cX6_readItem 5 = .ok (.iload_n 1, 1) := by decide +kernel
theorem dX6_readItem_6 : decode cX6_readItem 6 = .ok (.ifCond .lt 106, 3) := by decide +kernel
theorem dX6_readItem_9 : decode cX6_readItem 9 = .ok (.aload_n 0, 1) := by decide +kernel
theorem dX6_readItem_10 : decode cX6_readItem 10 = .ok (.aload_n 0, 1) := by decide +kernel
theorem dX6_readItem_11 : decode cX6_readItem 11 = .ok (.getfield 326, 3) := by decide +kernel
theorem dX6_readItem_14 : decode cX6_readItem 14 = .ok (.bipush 10, 2) := by decide +kernel
theorem dX6_readItem_16 : decode cX6_readItem 16 = .ok (.if_icmp .ge 7, 3) := by decide +kernel
theorem dX6_readItem_19 : decode cX6_readItem 19 = .ok (.iconst 1, 1) := by decide +kernel
theorem dX6_readItem_20 : decode cX6_readItem 20 = .ok (.goto 4, 3) := by decide +kernel
theorem dX6_readItem_23 : decode cX6_readItem 23 = .ok (.iconst 0, 1) := by decide +kernel
theorem dX6_readItem_24 : decode cX6_readItem 24 = .ok (.invokevirtual 312, 3) := by decide +kernel
theorem dX6_readItem_27 : decode cX6_readItem 27 = .ok (.aload_n 0, 1) := by decide +kernel
theorem dX6_readItem_28 : decode cX6_readItem 28 = .ok (.dup, 1) := by decide +kernel
theorem dX6_readItem_29 : decode cX6_readItem 29 = .ok (.getfield 326, 3) := by decide +kernel
theorem dX6_readItem_32 : decode cX6_readItem 32 = .ok (.iconst 1, 1) := by decide +kernel
theorem dX6_readItem_33 : decode cX6_readItem 33 = .ok (.iadd, 1) := by decide +kernel
theorem dX6_readItem_34 : decode cX6_readItem 34 = .ok (.putfield 326, 3) := by decide +kernel
theorem dX6_readItem_37 : decode cX6_readItem 37 = .ok (.aload_n 0, 1) := by decide +kernel
theorem dX6_readItem_38 : decode cX6_readItem 38 = .ok (.ldc_w 329, 3) := by decide +kernel
theorem dX6_readItem_41 : decode cX6_readItem 41 = .ok (.invokevirtual 331, 3) := by decide +kernel
theorem dX6_readItem_44 : decode cX6_readItem 44 = .ok (.ifCond .eq 13, 3) := by decide +kernel
theorem dX6_readItem_47 : decode cX6_readItem 47 = .ok (.aload_n 0, 1) := by decide +kernel
theorem dX6_readItem_48 : decode cX6_readItem 48 = .ok (.iconst 1, 1) := by decide +kernel
theorem dX6_readItem_49 : decode cX6_readItem 49 = .ok (.bipush 9, 2) := by decide +kernel
theorem dX6_readItem_51 : decode cX6_readItem 51 = .ok (.invokevirtual 334, 3) := by decide +kernel
theorem dX6_readItem_54 : decode cX6_readItem 54 = .ok (.goto 4, 3) := by decide +kernel
theorem dX6_readItem_57 : decode cX6_readItem 57 = .ok (.iconst 2, 1) := by decide +kernel
theorem dX6_readItem_58 : decode cX6_readItem 58 = .ok (.istore_n 2, 1) := by decide +kernel
theorem dX6_readItem_59 : decode cX6_readItem 59 = .ok (.aload_n 0, 1) := by decide +kernel
theorem dX6_readItem_60 : decode cX6_readItem 60 = .ok (.ldc_w 337, 3) := by decide +kernel
theorem dX6_readItem_63 : decode cX6_readItem 63 = .ok (.invokevirtual 331, 3) := by decide +kernel
theorem dX6_readItem_66 : decode cX6_readItem 66 = .ok (.ifCond .eq 13, 3) := by decide +kernel
theorem dX6_readItem_69 : decode cX6_readItem 69 = .ok (.aload_n 0, 1) := by decide +kernel
theorem dX6_readItem_70 : decode cX6_readItem 70 = .ok (.iconst 0, 1) := by decide +kernel
theorem dX6_readItem_71 : decode cX6_readItem 71 = .ok (.bipush 99, 2) := by decide +kernel
theorem dX6_readItem_73 : decode cX6_readItem 73 = .ok (.invokevirtual 334, 3) := by decide +kernel
theorem dX6_readItem_76 : decode cX6_readItem 76 = .ok (.goto 5, 3) := by decide +kernel
theorem dX6_readItem_79 : decode cX6_readItem 79 = .ok (.bipush 10, 2) := by decide +kernel
theorem dX6_readItem_81 : decode cX6_readItem 81 = .ok (.istore_n 3, 1) := by decide +kernel
theorem dX6_readItem_82 : decode cX6_readItem 82 = .ok (.aload_n 0, 1) := by decide +kernel
theorem dX6_readItem_83 : decode cX6_readItem 83 = .ok (.iload_n 1, 1) := by decide +kernel
theorem dX6_readItem_84 : decode cX6_readItem 84 = .ok (.iload_n 2, 1) := by decide +kernel
theorem dX6_readItem_85 : decode cX6_readItem 85 = .ok (.iload_n 3, 1) := by decide +kernel
theorem dX6_readItem_86 : decode cX6_readItem 86 = .ok (.aload_n 0, 1) := by decide +kernel
theorem dX6_readItem_87 : decode cX6_readItem 87 = .ok (.ldc_w 339, 3) := by decide +kernel
theorem dX6_readItem_90 : decode cX6_readItem 90 = .ok (.invokevirtual 331, 3) := by decide +kernel
theorem dX6_readItem_93 : decode cX6_readItem 93 = .ok (.ifCond .eq 12, 3) := by decide +kernel
theorem dX6_readItem_96 : decode cX6_readItem 96 = .ok (.aload_n 0, 1) := by decide +kernel
theorem dX6_readItem_97 : decode cX6_readItem 97 = .ok (.iconst 0, 1) := by decide +kernel
theorem dX6_readItem_98 : decode cX6_readItem 98 = .ok (.iconst 1, 1) := by decide +kernel
theorem dX6_readItem_99 : decode cX6_readItem 99 = .ok (.invokevirtual 334, 3) := by decide +kernel
theorem dX6_readItem_102 : decode cX6_readItem 102 = .ok (.goto 4, 3) := by decide +kernel
theorem dX6_readItem_105 : decode cX6_readItem 105 = .ok (.iconst 0, 1) := by decide +kernel
theorem dX6_readItem_106 : decode cX6_readItem 106 = .ok (.invokevirtual 341, 3) := by decide +kernel
theorem dX6_readItem_109 : decode cX6_readItem 109 = .ok (.goto 57, 3) := by decide +kernel
theorem dX6_readItem_112 : decode cX6_readItem 112 = .ok (.aload_n 0, 1) := by decide +kernel
theorem dX6_readItem_113 : decode cX6_readItem 113 = .ok (.ldc_w 345, 3) := by decide +kernel
theorem dX6_readItem_116 : decode cX6_readItem 116 = .ok (.invokevirtual 331, 3) := by decide +kernel
theorem dX6_readItem_119 : decode cX6_readItem 119 = .ok (.ifCond .eq 21, 3) := by decide +kernel
theorem dX6_readItem_122 : decode cX6_readItem 122 = .ok (.aload_n 0, 1) := by decide +kernel
theorem dX6_readItem_123 : decode cX6_readItem 123 = .ok (.bipush 10, 2) := by decide +kernel
theorem dX6_readItem_125 : decode cX6_readItem 125 = .ok (.aload_n 0, 1) := by decide +kernel
theorem dX6_readItem_126 : decode cX6_readItem 126 = .ok (.iconst 1, 1) := by decide +kernel
theorem dX6_readItem_127 : decode cX6_readItem 127 = .ok (.bipush 40, 2) := by decide +kernel
theorem dX6_readItem_129 : decode cX6_readItem 129 = .ok (.invokevirtual 334, 3) := by decide +kernel
theorem dX6_readItem_132 : decode cX6_readItem 132 = .ok (.iconst 0, 1) := by decide +kernel
theorem dX6_readItem_133 : decode cX6_readItem 133 = .ok (.iconst 0, 1) := by decide +kernel
theorem dX6_readItem_134 : decode cX6_readItem 134 = .ok (.invokevirtual 341, 3) := by decide +kernel
theorem dX6_readItem_137 : decode cX6_readItem 137 = .ok (.goto 29, 3) := by decide +kernel
theorem dX6_readItem_140 : decode cX6_readItem 140 = .ok (.aload_n 0, 1) := by decide +kernel
theorem dX6_readItem_141 : decode cX6_readItem 141 = .ok (.aload_n 0, 1) := by decide +kernel
theorem dX6_readItem_142 : decode cX6_readItem 142 = .ok (.ldc_w 347, 3) := by decide +kernel
theorem dX6_readItem_145 : decode cX6_readItem 145 = .ok (.invokevirtual 319, 3) := by decide +kernel
theorem dX6_readItem_148 : decode cX6_readItem 148 = .ok (.invokevirtual 312, 3) := by decide +kernel
theorem dX6_readItem_151 : decode cX6_readItem 151 = .ok (.aload_n 0, 1) := by decide +kernel
theorem dX6_readItem_152 : decode cX6_readItem 152 = .ok (.bipush 11, 2) := by decide +kernel
theorem dX6_readItem_154 : decode cX6_readItem 154 = .ok (.aload_n 0, 1) := by decide +kernel
theorem dX6_readItem_155 : decode cX6_readItem 155 = .ok (.iconst 0, 1) := by decide +kernel
theorem dX6_readItem_156 : decode cX6_readItem 156 = .ok (.bipush 9, 2) := by decide +kernel
theorem dX6_readItem_158 : decode cX6_readItem 158 = .ok (.invokevirtual 334, 3) := by decide +kernel
theorem dX6_readItem_161 : decode cX6_readItem 161 = .ok (.iconst 0, 1) := by decide +kernel
theorem dX6_readItem_162 : decode cX6_readItem 162 = .ok (.iconst 0, 1) := by decide +kernel
theorem dX6_readItem_163 : decode cX6_readItem 163 = .ok (.invokevirtual 341, 3) := by decide +kernel
theorem dX6_readItem_166 : decode cX6_readItem 166 = .ok (.return_, 1) := by decide +kernel
theorem dX6_isSo_0 : decode cX6_isSo 0 = .ok (.aload_n 0, 1) := by decide +kernel
theorem dX6_isSo_1 : decode cX6_isSo 1 = .ok (.getfield 54, 3) := by decide +kernel
theorem dX6_isSo_4 : decode cX6_isSo 4 = .ok (.iload_n 1, 1) := by decide +kernel
theorem dX6_isSo_5 : decode cX6_isSo 5 = .ok (.iconst 1, 1) := by decide +kernel
theorem dX6_isSo_6 : decode cX6_isSo 6 = .ok (.iadd, 1) := by decide +kernel
theorem dX6_isSo_7 : decode cX6_isSo 7 = .ok (.iaload, 1) := by decide +kernel
theorem dX6_isSo_8 : decode cX6_isSo 8 = .ok (.istore_n 2, 1) := by decide +kernel
theorem dX6_isSo_9 : decode cX6_isSo 9 = .ok (.aload_n 0, 1) := by decide +kernel
theorem dX6_isSo_10 : decode cX6_isSo 10 = .ok (.getfield 54, 3) := by decide +kernel
theorem dX6_isSo_13 : decode cX6_isSo 13 = .ok (.iload_n 1, 1) := by decide +kernel
theorem dX6_isSo_14 : decode cX6_isSo 14 = .ok (.iaload, 1) := by decide +kernel
theorem dX6_isSo_15 : decode cX6_isSo 15 = .ok (.lookupswitch 39 #[(10, 25), (11, 32)], 25) := by decide +kernel
theorem dX6_isSo_40 : decode cX6_isSo 40 = .ok (.aload_n 0, 1) := by decide +kernel
theorem dX6_isSo_41 : decode cX6_isSo 41 = .ok (.iconst 1, 1) := by decide +kernel
theorem dX6_isSo_42 : decode cX6_isSo 42 = .ok (.iload_n 2, 1) := by decide +kernel
theorem dX6_isSo_43 : decode cX6_isSo 43 = .ok (.invokevirtual 122, 3) := by decide +kernel
theorem dX6_isSo_46 : decode cX6_isSo 46 = .ok (.ireturn, 1) := by decide +kernel
theorem dX6_isSo_47 : decode cX6_isSo 47 = .ok (.aload_n 0, 1) := by decide +kernel
theorem dX6_isSo_48 : decode cX6_isSo 48 = .ok (.iconst 2, 1) := by decide +kernel
theorem dX6_isSo_49 : decode cX6_isSo 49 = .ok (.iload_n 2, 1) := by decide +kernel
theorem dX6_isSo_50 : decode cX6_isSo 50 = .ok (.invokevirtual 122, 3) := by decide +kernel
theorem dX6_isSo_53 : decode cX6_isSo 53 = .ok (.ireturn, 1) := by decide +kernel
theorem dX6_isSo_54 : decode cX6_isSo 54 = .ok (.aload_n 0, 1) := by decide +kernel
theorem dX6_isSo_55 : decode cX6_isSo 55 = .ok (.aload_n 0, 1) := by decide +kernel
theorem dX6_isSo_56 : decode cX6_isSo 56 = .ok (.getfield 54, 3) := by decide +kernel
theorem dX6_isSo_59 : decode cX6_isSo 59 = .ok (.iload_n 1, 1) := by decide +kernel
theorem dX6_isSo_60 : decode cX6_isSo 60 = .ok (.iaload, 1) := by decide +kernel
theorem dX6_isSo_61 : decode cX6_isSo 61 = .ok (.iload_n 2, 1) := by decide +kernel
theorem dX6_isSo_62 : decode cX6_isSo 62 = .ok (.aload_n 0, 1) := by decide +kernel
theorem dX6_isSo_63 : decode cX6_isSo 63 = .ok (.getfield 54, 3) := by decide +kernel
theorem dX6_isSo_66 : decode cX6_isSo 66 = .ok (.iload_n 1, 1) := by decide +kernel
theorem dX6_isSo_67 : decode cX6_isSo 67 = .ok (.iconst 2, 1) := by decide +kernel
theorem dX6_isSo_68 : decode cX6_isSo 68 = .ok (.iadd, 1) := by decide +kernel
theorem dX6_isSo_69 : decode cX6_isSo 69 = .ok (.iaload, 1) := by decide +kernel
theorem dX6_isSo_70 : decode cX6_isSo 70 = .ok (.aload_n 0, 1) := by decide +kernel
theorem dX6_isSo_71 : decode cX6_isSo 71 = .ok (.getfield 54, 3) := by decide +kernel
theorem dX6_isSo_74 : decode cX6_isSo 74 = .ok (.iload_n 1, 1) := by decide +kernel
theorem dX6_isSo_75 : decode cX6_isSo 75 = .ok (.iconst 3, 1) := by decide +kernel
theorem dX6_isSo_76 : decode cX6_isSo 76 = .ok (.iadd, 1) := by decide +kernel
theorem dX6_isSo_77 : decode cX6_isSo 77 = .ok (.iaload, 1) := by decide +kernel
theorem dX6_isSo_78 : decode cX6_isSo 78 = .ok (.invokevirtual 91, 3) := by decide +kernel
theorem dX6_isSo_81 : decode cX6_isSo 81 = .ok (.ireturn, 1) := by decide +kernel
theorem dX6_text_0 : decode cX6_text 0 = .ok (.aload_n 0, 1) := by decide +kernel
theorem dX6_text_1 : decode cX6_text 1 = .ok (.iconst 0, 1) := by decide +kernel
theorem dX6_text_2 : decode cX6_text 2 = .ok (.putfield 284, 3) := by decide +kernel
theorem dX6_text_5 : decode cX6_text 5 = .ok (.aload_n 0, 1) := by decide +kernel
theorem dX6_text_6 : decode cX6_text 6 = .ok (.iconst 0, 1) := by decide +kernel
theorem dX6_text_7 : decode cX6_text 7 = .ok (.putfield 306, 3) := by decide +kernel
theorem dX6_text_10 : decode cX6_text 10 = .ok (.aload_n 0, 1) := by decide +kernel
theorem dX6_text_11 : decode cX6_text 11 = .ok (.iconst 0, 1) := by decide +kernel
theorem dX6_text_12 : decode cX6_text 12 = .ok (.putfield 316, 3) := by decide +kernel
theorem dX6_text_15 : decode cX6_text 15 = .ok (.aload_n 0, 1) := by decide +kernel
theorem dX6_text_16 : decode cX6_text 16 = .ok (.aload_n 0, 1) := by decide +kernel
theorem dX6_text_17 : decode cX6_text 17 = .ok (.getfield 9, 3) := by decide +kernel
theorem dX6_text_20 : decode cX6_text 20 = .ok (.iconst 3, 1) := by decide +kernel
theorem dX6_text_21 : decode cX6_text 21 = .ok (.iaload, 1) := by decide +kernel
theorem dX6_text_22 : decode cX6_text 22 = .ok (.putfield 326, 3) := by decide +kernel
theorem dX6_text_25 : decode cX6_text 25 = .ok (.aload_n 0, 1) := by decide +kernel
theorem dX6_text_26 : decode cX6_text 26 = .ok (.invokevirtual 309, 3) := by decide +kernel
theorem dX6_text_29 : decode cX6_text 29 = .ok (.aload_n 0, 1) := by decide +kernel
theorem dX6_text_30 : decode cX6_text 30 = .ok (.invokevirtual 349, 3) := by decide +kernel
theorem dX6_text_33 : decode cX6_text 33 = .ok (.aload_n 0, 1) := by decide +kernel
theorem dX6_text_34 : decode cX6_text 34 = .ok (.getfield 306, 3) := by decide +kernel
theorem dX6_text_37 : decode cX6_text 37 = .ok (.ifCond .ne 37, 3) := by decide +kernel
theorem dX6_text_40 : decode cX6_text 40 = .ok (.aload_n 0, 1) := by decide +kernel
theorem dX6_text_41 : decode cX6_text 41 = .ok (.getfield 296, 3) := by decide +kernel
theorem dX6_text_44 : decode cX6_text 44 = .ok (.iconst 3, 1) := by decide +kernel
theorem dX6_text_45 : decode cX6_text 45 = .ok (.if_icmp .ne 29, 3) := by decide +kernel
theorem dX6_text_48 : decode cX6_text 48 = .ok (.aload_n 0, 1) := by decide +kernel
theorem dX6_text_49 : decode cX6_text 49 = .ok (.getfield 31, 3) := by decide +kernel
theorem dX6_text_52 : decode cX6_text 52 = .ok (.aload_n 0, 1) := by decide +kernel
theorem dX6_text_53 : decode cX6_text 53 = .ok (.getfield 287, 3) := by decide +kernel
theorem dX6_text_56 : decode cX6_text 56 = .ok (.iaload, 1) := by decide +kernel
theorem dX6_text_57 : decode cX6_text 57 = .ok (.bipush 59, 2) := by decide +kernel
theorem dX6_text_59 : decode cX6_text 59 = .ok (.if_icmp .ne 15, 3) := by decide +kernel
theorem dX6_text_62 : decode cX6_text 62 = .ok (.aload_n 0, 1) := by decide +kernel
theorem dX6_text_63 : decode cX6_text 63 = .ok (.iconst 1, 1) := by decide +kernel
theorem dX6_text_64 : decode cX6_text 64 = .ok (.invokevirtual 312, 3) := by decide +kernel
theorem dX6_text_67 : decode cX6_text 67 = .ok (.aload_n 0, 1) := by decide +kernel
theorem dX6_text_68 : decode cX6_text 68 = .ok (.invokevirtual 349, 3) := by decide +kernel
theorem dX6_text_71 : decode cX6_text 71 = .ok (.goto (-38), 3) := by decide +kernel
theorem dX6_text_74 : decode cX6_text 74 = .ok (.aload_n 0, 1) := by decide +kernel
theorem dX6_text_75 : decode cX6_text 75 = .ok (.aload_n 0, 1) := by decide +kernel
theorem dX6_text_76 : decode cX6_text 76 = .ok (.getfield 296, 3) := by decide +kernel
theorem dX6_text_79 : decode cX6_text 79 = .ok (.ifCond .ne 7, 3) := by decide +kernel
theorem dX6_text_82 : decode cX6_text 82 = .ok (.iconst 1, 1) := by decide +kernel
theorem dX6_text_83 : decode cX6_text 83 = .ok (.goto 4, 3) := by decide +kernel
theorem dX6_text_86 : decode cX6_text 86 = .ok (.iconst 0, 1) := by decide +kernel
theorem dX6_text_87 : decode cX6_text 87 = .ok (.invokevirtual 312, 3) := by decide +kernel
theorem dX6_text_90 : decode cX6_text 90 = .ok (.aload_n 0, 1) := by decide +kernel
theorem dX6_text_91 : decode cX6_text 91 = .ok (.iconst 0, 1) := by decide +kernel
theorem dX6_text_92 : decode cX6_text 92 = .ok (.putfield 281, 3) := by decide +kernel
theorem dX6_text_95 : decode cX6_text 95 = .ok (.aload_n 0, 1) := by decide +kernel
theorem dX6_text_96 : decode cX6_text 96 = .ok (.getfield 306, 3) := by decide +kernel
theorem dX6_text_99 : decode cX6_text 99 = .ok (.ifCond .eq 10, 3) := by decide +kernel
theorem dX6_text_102 : decode cX6_text 102 = .ok (.iconst (-1), 1) := by decide +kernel
theorem dX6_text_103 : decode cX6_text 103 = .ok (.aload_n 0, 1) := by decide +kernel
theorem dX6_text_104 : decode cX6_text 104 = .ok (.getfield 287, 3) := by decide +kernel
theorem dX6_text_107 : decode cX6_text 107 = .ok (.isub, 1) := by decide +kernel
theorem dX6_text_108 : decode cX6_text 108 = .ok (.ireturn, 1) := by decide +kernel
theorem dX6_text_109 : decode cX6_text 109 = .ok (.iconst 0, 1) := by decide +kernel
theorem dX6_text_110 : decode cX6_text 110 = .ok (.istore_n 1, 1) := by decide +kernel
theorem dX6_text_111 : decode cX6_text 111 = .ok (.iconst 0, 1) := by decide +kernel
theorem dX6_text_112 : decode cX6_text 112 = .ok (.istore_n 2, 1) := by decide +kernel
theorem dX6_text_113 : decode cX6_text 113 = .ok (.iload_n 2, 1) := by decide +kernel
theorem dX6_text_114 : decode cX6_text 114 = .ok (.aload_n 0, 1) := by decide +kernel
theorem dX6_text_115 : decode cX6_text 115 = .ok (.getfield 316, 3) := by decide +kernel
theorem dX6_text_118 : decode cX6_text 118 = .ok (.if_icmp .ge 27, 3) := by decide +kernel
theorem dX6_text_121 : decode cX6_text 121 = .ok (.iload_n 1, 1) := by decide +kernel
theorem dX6_text_122 : decode cX6_text 122 = .ok (.aload_n 0, 1) := by decide +kernel
theorem dX6_text_123 : decode cX6_text 123 = .ok (.iconst 4, 1) := by decide +kernel
theorem dX6_text_124 : decode cX6_text 124 = .ok (.iload_n 2, 1) := by decide +kernel
theorem dX6_text_125 : decode cX6_text 125 = .ok (.imul, 1) := by decide +kernel
theorem dX6_text_126 : decode cX6_text 126 = .ok (.invokevirtual 352, 3) := by decide +kernel
theorem dX6_text_129 : decode cX6_text 129 = .ok (.ifCond .ge 7, 3) := by decide +kernel
theorem dX6_text_132 : decode cX6_text 132 = .ok (.iconst 0, 1) := by decide +kernel
theorem dX6_text_133 : decode cX6_text 133 = .ok (.goto 4, 3) := by decide +kernel
theorem dX6_text_136 : decode cX6_text 136 = .ok (.iconst 1, 1) := by decide +kernel
theorem dX6_text_137 : decode cX6_text 137 = .ok (.iadd, 1) := by decide +kernel
theorem dX6_text_138 : decode cX6_text 138 = .ok (.istore_n 1, 1) := by decide +kernel
theorem dX6_text_139 : decode cX6_text 139 = .ok (.iinc 2 1, 3) := by decide +kernel
theorem dX6_text_142 : decode cX6_text 142 = .ok (.goto (-29), 3) := by decide +kernel
theorem dX6_text_145 : decode cX6_text 145 = .ok (.iload_n 1, 1) := by decide +kernel
theorem dX6_text_146 : decode cX6_text 146 = .ok (.ireturn, 1) := by decide +kernel
theorem dX6_isSpot_0 : decode cX6_isSpot 0 = .ok (.iload_n 0, 1) := by decide +kernel
theorem dX6_isSpot_1 : decode cX6_isSpot 1 = .ok (.iconst 0, 1) := by decide +kernel
theorem dX6_isSpot_2 : decode cX6_isSpot 2 = .ok (.bipush 9, 2) := by decide +kernel
theorem dX6_isSpot_4 : decode cX6_isSpot 4 = .ok (.invokestatic 74, 3) := by decide +kernel
theorem dX6_isSpot_7 : decode cX6_isSpot 7 = .ok (.ireturn, 1) := by decide +kernel
theorem dX6_hold_0 : decode cX6_hold 0 = .ok (.iload_n 1, 1) := by decide +kernel
theorem dX6_hold_1 : decode cX6_hold 1 = .ok (.invokestatic 355, 3) := by decide +kernel
theorem dX6_hold_4 : decode cX6_hold 4 = .ok (.ifCond .eq 16, 3) := by decide +kernel
theorem dX6_hold_7 : decode cX6_hold 7 = .ok (.iload_n 2, 1) := by decide +kernel
theorem dX6_hold_8 : decode cX6_hold 8 = .ok (.iconst (-1), 1) := by decide +kernel
theorem dX6_hold_9 : decode cX6_hold 9 = .ok (.if_icmp .eq 18, 3) := by decide +kernel
theorem dX6_hold_12 : decode cX6_hold 12 = .ok (.aload_n 0, 1) := by decide +kernel
theorem dX6_hold_13 : decode cX6_hold 13 = .ok (.iload_n 2, 1) := by decide +kernel
theorem dX6_hold_14 : decode cX6_hold 14 = .ok (.invokevirtual 110, 3) := by decide +kernel
theorem dX6_hold_17 : decode cX6_hold 17 = .ok (.ifCond .ne 10, 3) := by decide +kernel
theorem dX6_hold_20 : decode cX6_hold 20 = .ok (.aload_n 0, 1) := by decide +kernel
theorem dX6_hold_21 : decode cX6_hold 21 = .ok (.ldc 69, 2) := by decide +kernel
theorem dX6_hold_23 : decode cX6_hold 23 = .ok (.invokevirtual 86, 3) := by decide +kernel
theorem dX6_hold_26 : decode cX6_hold 26 = .ok (.ireturn, 1) := by decide +kernel
theorem dX6_hold_27 : decode cX6_hold 27 = .ok (.aload_n 0, 1) := by decide +kernel
theorem dX6_hold_28 : decode cX6_hold 28 = .ok (.getfield 9, 3) := by decide +kernel
theorem dX6_hold_31 : decode cX6_hold 31 = .ok (.bipush 8, 2) := by decide +kernel
theorem dX6_hold_33 : decode cX6_hold 33 = .ok (.iload_n 1, 1) := by decide +kernel
theorem dX6_hold_34 : decode cX6_hold 34 = .ok (.iadd, 1) := by decide +kernel
theorem dX6_hold_35 : decode cX6_hold 35 = .ok (.iload_n 2, 1) := by decide +kernel
theorem dX6_hold_36 : decode cX6_hold 36 = .ok (.iastore, 1) := by decide +kernel
theorem dX6_hold_37 : decode cX6_hold 37 = .ok (.iconst 1, 1) := by decide +kernel
theorem dX6_hold_38 : decode cX6_hold 38 = .ok (.ireturn, 1) := by decide +kernel
theorem dX6_as_0 : decode cX6_as 0 = .ok (.iload_n 1, 1) := by decide +kernel
theorem dX6_as_1 : decode cX6_as 1 = .ok (.invokestatic 355, 3) := by decide +kernel
theorem dX6_as_4 : decode cX6_as 4 = .ok (.ifCond .eq 10, 3) := by decide +kernel
theorem dX6_as_7 : decode cX6_as 7 = .ok (.iload_n 2, 1) := by decide +kernel
theorem dX6_as_8 : decode cX6_as 8 = .ok (.invokestatic 82, 3) := by decide +kernel
theorem dX6_as_11 : decode cX6_as 11 = .ok (.ifCond .ne 10, 3) := by decide +kernel
theorem dX6_as_14 : decode cX6_as 14 = .ok (.aload_n 0, 1) := by decide +kernel
theorem dX6_as_15 : decode cX6_as 15 = .ok (.ldc 69, 2) := by decide +kernel
theorem dX6_as_17 : decode cX6_as 17 = .ok (.invokevirtual 86, 3) := by decide +kernel
theorem dX6_as_20 : decode cX6_as 20 = .ok (.ireturn, 1) := by decide +kernel
theorem dX6_as_21 : decode cX6_as 21 = .ok (.aload_n 0, 1) := by decide +kernel
theorem dX6_as_22 : decode cX6_as 22 = .ok (.getfield 9, 3) := by decide +kernel
theorem dX6_as_25 : decode cX6_as 25 = .ok (.bipush 8, 2) := by decide +kernel
theorem dX6_as_27 : decode cX6_as 27 = .ok (.iload_n 1, 1) := by decide +kernel
theorem dX6_as_28 : decode cX6_as 28 = .ok (.iadd, 1) := by decide +kernel
theorem dX6_as_29 : decode cX6_as 29 = .ok (.iaload, 1) := by decide +kernel
theorem dX6_as_30 : decode cX6_as 30 = .ok (.istore_n 3, 1) := by decide +kernel
theorem dX6_as_31 : decode cX6_as 31 = .ok (.iload_n 3, 1) := by decide +kernel
theorem dX6_as_32 : decode cX6_as 32 = .ok (.ifCond .ge 11, 3) := by decide +kernel
theorem dX6_as_35 : decode cX6_as 35 = .ok (.aload_n 0, 1) := by decide +kernel
theorem dX6_as_36 : decode cX6_as 36 = .ok (.ldc_w 358, 3) := by decide +kernel
theorem dX6_as_39 : decode cX6_as 39 = .ok (.invokevirtual 86, 3) := by decide +kernel
theorem dX6_as_42 : decode cX6_as 42 = .ok (.ireturn, 1) := by decide +kernel
theorem dX6_as_43 : decode cX6_as 43 = .ok (.aload_n 0, 1) := by decide +kernel
theorem dX6_as_44 : decode cX6_as 44 = .ok (.iload_n 3, 1) := by decide +kernel
theorem dX6_as_45 : decode cX6_as 45 = .ok (.iconst 0, 1) := by decide +kernel
theorem dX6_as_46 : decode cX6_as 46 = .ok (.invokevirtual 98, 3) := by decide +kernel
theorem dX6_as_49 : decode cX6_as 49 = .ok (.iload_n 2, 1) := by decide +kernel
theorem dX6_as_50 : decode cX6_as 50 = .ok (.invokestatic 101, 3) := by decide +kernel
theorem dX6_as_53 : decode cX6_as 53 = .ok (.ifCond .eq 7, 3) := by decide +kernel
theorem dX6_as_56 : decode cX6_as 56 = .ok (.iload_n 3, 1) := by decide +kernel
theorem dX6_as_57 : decode cX6_as 57 = .ok (.goto 10, 3) := by decide +kernel
theorem dX6_as_60 : decode cX6_as 60 = .ok (.aload_n 0, 1) := by decide +kernel
theorem dX6_as_61 : decode cX6_as 61 = .ok (.ldc_w 359, 3) := by decide +kernel
theorem dX6_as_64 : decode cX6_as 64 = .ok (.invokevirtual 86, 3) := by decide +kernel
theorem dX6_as_67 : decode cX6_as 67 = .ok (.ireturn, 1) := by decide +kernel
theorem dX6_isSheet_0 : decode cX6_isSheet 0 = .ok (.iload_n 0, 1) := by decide +kernel
theorem dX6_isSheet_1 : decode cX6_isSheet 1 = .ok (.iconst 0, 1) := by decide +kernel
theorem dX6_isSheet_2 : decode cX6_isSheet 2 = .ok (.iconst 3, 1) := by decide +kernel
theorem dX6_isSheet_3 : decode cX6_isSheet 3 = .ok (.invokestatic 74, 3) := by decide +kernel
theorem dX6_isSheet_6 : decode cX6_isSheet 6 = .ok (.ireturn, 1) := by decide +kernel
theorem dX6_cutTo_0 : decode cX6_cutTo 0 = .ok (.iload_n 1, 1) := by decide +kernel
theorem dX6_cutTo_1 : decode cX6_cutTo 1 = .ok (.bipush 8, 2) := by decide +kernel
theorem dX6_cutTo_3 : decode cX6_cutTo 3 = .ok (.if_icmp .ne 8, 3) := by decide +kernel
theorem dX6_cutTo_6 : decode cX6_cutTo 6 = .ok (.iload_n 0, 1) := by decide +kernel
theorem dX6_cutTo_7 : decode cX6_cutTo 7 = .ok (.i2b, 1) := by decide +kernel
theorem dX6_cutTo_8 : decode cX6_cutTo 8 = .ok (.goto 15, 3) := by decide +kernel
theorem dX6_cutTo_11 : decode cX6_cutTo 11 = .ok (.iload_n 1, 1) := by decide +kernel
theorem dX6_cutTo_12 : decode cX6_cutTo 12 = .ok (.bipush 16, 2) := by decide +kernel
theorem dX6_cutTo_14 : decode cX6_cutTo 14 = .ok (.if_icmp .ne 8, 3) := by decide +kernel
theorem dX6_cutTo_17 : decode cX6_cutTo 17 = .ok (.iload_n 0, 1) := by decide +kernel
theorem dX6_cutTo_18 : decode cX6_cutTo 18 = .ok (.i2s, 1) := by decide +kernel
theorem dX6_cutTo_19 : decode cX6_cutTo 19 = .ok (.goto 4, 3) := by decide +kernel
theorem dX6_cutTo_22 : decode cX6_cutTo 22 = .ok (.iload_n 0, 1) := by decide +kernel
theorem dX6_cutTo_23 : decode cX6_cutTo 23 = .ok (.ireturn, 1) := by decide +kernel
theorem dX6_sheet_0 : decode cX6_sheet 0 = .ok (.iload_n 1, 1) := by decide +kernel
theorem dX6_sheet_1 : decode cX6_sheet 1 = .ok (.invokestatic 360, 3) := by decide +kernel
theorem dX6_sheet_4 : decode cX6_sheet 4 = .ok (.ifCond .eq 25, 3) := by decide +kernel
theorem dX6_sheet_7 : decode cX6_sheet 7 = .ok (.iload_n 2, 1) := by decide +kernel
theorem dX6_sheet_8 : decode cX6_sheet 8 = .ok (.ifCond .eq 28, 3) := by decide +kernel
theorem dX6_sheet_11 : decode cX6_sheet 11 = .ok (.iload_n 2, 1) := by decide +kernel
theorem dX6_sheet_12 : decode cX6_sheet 12 = .ok (.bipush 8, 2) := by decide +kernel
theorem dX6_sheet_14 : decode cX6_sheet 14 = .ok (.if_icmp .eq 22, 3) := by decide +kernel
theorem dX6_sheet_17 : decode cX6_sheet 17 = .ok (.iload_n 2, 1) := by decide +kernel
theorem dX6_sheet_18 : decode cX6_sheet 18 = .ok (.bipush 16, 2) := by decide +kernel
theorem dX6_sheet_20 : decode cX6_sheet 20 = .ok (.if_icmp .eq 16, 3) := by decide +kernel
theorem dX6_sheet_23 : decode cX6_sheet 23 = .ok (.iload_n 2, 1) := by decide +kernel
theorem dX6_sheet_24 : decode cX6_sheet 24 = .ok (.bipush 32, 2) := by decide +kernel
theorem dX6_sheet_26 : decode cX6_sheet 26 = .ok (.if_icmp .eq 10, 3) := by decide +kernel
theorem dX6_sheet_29 : decode cX6_sheet 29 = .ok (.aload_n 0, 1) := by decide +kernel
theorem dX6_sheet_30 : decode cX6_sheet 30 = .ok (.ldc 69, 2) := by decide +kernel
theorem dX6_sheet_32 : decode cX6_sheet 32 = .ok (.invokevirtual 86, 3) := by decide +kernel
theorem dX6_sheet_35 : decode cX6_sheet 35 = .ok (.ireturn, 1) := by decide +kernel
theorem dX6_sheet_36 : decode cX6_sheet 36 = .ok (.iload_n 3, 1) := by decide +kernel
theorem dX6_sheet_37 : decode cX6_sheet 37 = .ok (.ifCond .ge 11, 3) := by decide +kernel
theorem dX6_sheet_40 : decode cX6_sheet 40 = .ok (.aload_n 0, 1) := by decide +kernel
theorem dX6_sheet_41 : decode cX6_sheet 41 = .ok (.ldc_w 363, 3) := by decide +kernel
theorem dX6_sheet_44 : decode cX6_sheet 44 = .ok (.invokevirtual 86, 3) := by decide +kernel
theorem dX6_sheet_47 : decode cX6_sheet 47 = .ok (.ireturn, 1) := by decide +kernel
theorem dX6_sheet_48 : decode cX6_sheet 48 = .ok (.iload_n 3, 1) := by decide +kernel
theorem dX6_sheet_49 : decode cX6_sheet 49 = .ok (.bipush 40, 2) := by decide +kernel
theorem dX6_sheet_51 : decode cX6_sheet 51 = .ok (.if_icmp .le 10, 3) := by decide +kernel
theorem dX6_sheet_54 : decode cX6_sheet 54 = .ok (.aload_n 0, 1) := by decide +kernel
theorem dX6_sheet_55 : decode cX6_sheet 55 = .ok (.ldc 69, 2) := by decide +kernel
theorem dX6_sheet_57 : decode cX6_sheet 57 = .ok (.invokevirtual 86, 3) := by decide +kernel
theorem dX6_sheet_60 : decode cX6_sheet 60 = .ok (.ireturn, 1) := by decide +kernel
theorem dX6_sheet_61 : decode cX6_sheet 61 = .ok (.aload_n 0, 1) := by decide +kernel
theorem dX6_sheet_62 : decode cX6_sheet 62 = .ok (.getfield 57, 3) := by decide +kernel
theorem dX6_sheet_65 : decode cX6_sheet 65 = .ok (.iload_n 1, 1) := by decide +kernel
theorem dX6_sheet_66 : decode cX6_sheet 66 = .ok (.iload_n 2, 1) := by decide +kernel
theorem dX6_sheet_67 : decode cX6_sheet 67 = .ok (.iastore, 1) := by decide +kernel
theorem dX6_sheet_68 : decode cX6_sheet 68 = .ok (.aload_n 0, 1) := by decide +kernel
theorem dX6_sheet_69 : decode cX6_sheet 69 = .ok (.getfield 60, 3) := by decide +kernel
theorem dX6_sheet_72 : decode cX6_sheet 72 = .ok (.iload_n 1, 1) := by decide +kernel
theorem dX6_sheet_73 : decode cX6_sheet 73 = .ok (.iload_n 2, 1) := by decide +kernel
theorem dX6_sheet_74 : decode cX6_sheet 74 = .ok (.ifCond .ne 7, 3) := by decide +kernel
theorem dX6_sheet_77 : decode cX6_sheet 77 = .ok (.iconst 0, 1) := by decide +kernel
theorem dX6_sheet_78 : decode cX6_sheet 78 = .ok (.goto 4, 3) := by decide +kernel
theorem dX6_sheet_81 : decode cX6_sheet 81 = .ok (.iload_n 3, 1) := by decide +kernel
theorem dX6_sheet_82 : decode cX6_sheet 82 = .ok (.iastore, 1) := by decide +kernel
theorem dX6_sheet_83 : decode cX6_sheet 83 = .ok (.iconst 0, 1) := by decide +kernel
theorem dX6_sheet_84 : decode cX6_sheet 84 = .ok (.istore 4, 2) := by decide +kernel
theorem dX6_sheet_86 : decode cX6_sheet 86 = .ok (.iload 4, 2) := by decide +kernel
theorem dX6_sheet_88 : decode cX6_sheet 88 = .ok (.bipush 40, 2) := by decide +kernel
theorem dX6_sheet_90 : decode cX6_sheet 90 = .ok (.if_icmp .ge 22, 3) := by decide +kernel
theorem dX6_sheet_93 : decode cX6_sheet 93 = .ok (.aload_n 0, 1) := by decide +kernel
theorem dX6_sheet_94 : decode cX6_sheet 94 = .ok (.getfield 63, 3) := by decide +kernel
theorem dX6_sheet_97 : decode cX6_sheet 97 = .ok (.bipush 40, 2) := by decide +kernel
theorem dX6_sheet_99 : decode cX6_sheet 99 = .ok (.iload_n 1, 1) := by decide +kernel
theorem dX6_sheet_100 : decode cX6_sheet 100 = .ok (.imul, 1) := by decide +kernel
theorem dX6_sheet_101 : decode cX6_sheet 101 = .ok (.iload 4, 2) := by decide +kernel
theorem dX6_sheet_103 : decode cX6_sheet 103 = .ok (.iadd, 1) := by decide +kernel
theorem dX6_sheet_104 : decode cX6_sheet 104 = .ok (.iconst 0, 1) := by decide +kernel
theorem dX6_sheet_105 : decode cX6_sheet 105 = .ok (.iastore, 1) := by decide +kernel
theorem dX6_sheet_106 : decode cX6_sheet 106 = .ok (.iinc 4 1, 3) := by decide +kernel
theorem dX6_sheet_109 : decode cX6_sheet 109 = .ok (.goto (-23), 3) := by decide +kernel
theorem dX6_sheet_112 : decode cX6_sheet 112 = .ok (.aload_n 0, 1) := by decide +kernel
theorem dX6_sheet_113 : decode cX6_sheet 113 = .ok (.getfield 60, 3) := by decide +kernel
theorem dX6_sheet_116 : decode cX6_sheet 116 = .ok (.iload_n 1, 1) := by decide +kernel
theorem dX6_sheet_117 : decode cX6_sheet 117 = .ok (.iaload, 1) := by decide +kernel
theorem dX6_sheet_118 : decode cX6_sheet 118 = .ok (.ireturn, 1) := by decide +kernel
theorem dX6_write_0 : decode cX6_write 0 = .ok (.iload_n 1, 1) := by decide +kernel
theorem dX6_write_1 : decode cX6_write 1 = .ok (.invokestatic 360, 3) := by decide +kernel
theorem dX6_write_4 : decode cX6_write 4 = .ok (.ifCond .ne 10, 3) := by decide +kernel
theorem dX6_write_7 : decode cX6_write 7 = .ok (.aload_n 0, 1) := by decide +kernel
theorem dX6_write_8 : decode cX6_write 8 = .ok (.ldc 69, 2) := by decide +kernel
theorem dX6_write_10 : decode cX6_write 10 = .ok (.invokevirtual 86, 3) := by decide +kernel
theorem dX6_write_13 : decode cX6_write 13 = .ok (.ireturn, 1) := by decide +kernel
theorem dX6_write_14 : decode cX6_write 14 = .ok (.aload_n 0, 1) := by decide +kernel
theorem dX6_write_15 : decode cX6_write 15 = .ok (.getfield 57, 3) := by decide +kernel
theorem dX6_write_18 : decode cX6_write 18 = .ok (.iload_n 1, 1) := by decide +kernel
theorem dX6_write_19 : decode cX6_write 19 = .ok (.iaload, 1) := by decide +kernel
theorem dX6_write_20 : decode cX6_write 20 = .ok (.ifCond .ne 11, 3) := by decide +kernel
theorem dX6_write_23 : decode cX6_write 23 = .ok (.aload_n 0, 1) := by decide +kernel
theorem dX6_write_24 : decode cX6_write 24 = .ok (.ldc_w 358, 3) := by decide +kernel
theorem dX6_write_27 : decode cX6_write 27 = .ok (.invokevirtual 86, 3) := by decide +kernel
theorem dX6_write_30 : decode cX6_write 30 = .ok (.ireturn, 1) := by decide +kernel
theorem dX6_write_31 : decode cX6_write 31 = .ok (.iload_n 2, 1) := by decide +kernel
theorem dX6_write_32 : decode cX6_write 32 = .ok (.iconst 0, 1) := by decide +kernel
theorem dX6_write_33 : decode cX6_write 33 = .ok (.aload_n 0, 1) := by decide +kernel
theorem dX6_write_34 : decode cX6_write 34 = .ok (.getfield 60, 3) := by decide +kernel
theorem dX6_write_37 : decode cX6_write 37 = .ok (.iload_n 1, 1) := by decide +kernel
theorem dX6_write_38 : decode cX6_write 38 = .ok (.iaload, 1) := by decide +kernel
theorem dX6_write_39 : decode cX6_write 39 = .ok (.iconst 1, 1) := by decide +kernel
theorem dX6_write_40 : decode cX6_write 40 = .ok (.isub, 1) := by decide +kernel
theorem dX6_write_41 : decode cX6_write 41 = .ok (.invokestatic 74, 3) := by decide +kernel
theorem dX6_write_44 : decode cX6_write 44 = .ok (.ifCond .ne 10, 3) := by decide +kernel
theorem dX6_write_47 : decode cX6_write 47 = .ok (.aload_n 0, 1) := by decide +kernel
theorem dX6_write_48 : decode cX6_write 48 = .ok (.ldc 69, 2) := by decide +kernel
theorem dX6_write_50 : decode cX6_write 50 = .ok (.invokevirtual 86, 3) := by decide +kernel
theorem dX6_write_53 : decode cX6_write 53 = .ok (.ireturn, 1) := by decide +kernel
theorem dX6_write_54 : decode cX6_write 54 = .ok (.aload_n 0, 1) := by decide +kernel
theorem dX6_write_55 : decode cX6_write 55 = .ok (.getfield 63, 3) := by decide +kernel
theorem dX6_write_58 : decode cX6_write 58 = .ok (.bipush 40, 2) := by decide +kernel
theorem dX6_write_60 : decode cX6_write 60 = .ok (.iload_n 1, 1) := by decide +kernel
theorem dX6_write_61 : decode cX6_write 61 = .ok (.imul, 1) := by decide +kernel
theorem dX6_write_62 : decode cX6_write 62 = .ok (.iload_n 2, 1) := by decide +kernel
theorem dX6_write_63 : decode cX6_write 63 = .ok (.iadd, 1) := by decide +kernel
theorem dX6_write_64 : decode cX6_write 64 = .ok (.iload_n 3, 1) := by decide +kernel
theorem dX6_write_65 : decode cX6_write 65 = .ok (.aload_n 0, 1) := by decide +kernel
theorem dX6_write_66 : decode cX6_write 66 = .ok (.getfield 57, 3) := by decide +kernel
theorem dX6_write_69 : decode cX6_write 69 = .ok (.iload_n 1, 1) := by decide +kernel
theorem dX6_write_70 : decode cX6_write 70 = .ok (.iaload, 1) := by decide +kernel
theorem dX6_write_71 : decode cX6_write 71 = .ok (.invokestatic 364, 3) := by decide +kernel
theorem dX6_write_74 : decode cX6_write 74 = .ok (.iastore, 1) := by decide +kernel
theorem dX6_write_75 : decode cX6_write 75 = .ok (.iconst 1, 1) := by decide +kernel
theorem dX6_write_76 : decode cX6_write 76 = .ok (.ireturn, 1) := by decide +kernel
theorem dX6_copy_0 : decode cX6_copy 0 = .ok (.iload_n 1, 1) := by decide +kernel
theorem dX6_copy_1 : decode cX6_copy 1 = .ok (.invokestatic 360, 3) := by decide +kernel
theorem dX6_copy_4 : decode cX6_copy 4 = .ok (.ifCond .eq 10, 3) := by decide +kernel
theorem dX6_copy_7 : decode cX6_copy 7 = .ok (.iload_n 3, 1) := by decide +kernel
theorem dX6_copy_8 : decode cX6_copy 8 = .ok (.invokestatic 360, 3) := by decide +kernel
theorem dX6_copy_11 : decode cX6_copy 11 = .ok (.ifCond .ne 10, 3) := by decide +kernel
theorem dX6_copy_14 : decode cX6_copy 14 = .ok (.aload_n 0, 1) := by decide +kernel
theorem dX6_copy_15 : decode cX6_copy 15 = .ok (.ldc 69, 2) := by decide +kernel
theorem dX6_copy_17 : decode cX6_copy 17 = .ok (.invokevirtual 86, 3) := by decide +kernel
theorem dX6_copy_20 : decode cX6_copy 20 = .ok (.ireturn, 1) := by decide +kernel
theorem dX6_copy_21 : decode cX6_copy 21 = .ok (.aload_n 0, 1) := by decide +kernel
theorem dX6_copy_22 : decode cX6_copy 22 = .ok (.getfield 57, 3) := by decide +kernel
theorem dX6_copy_25 : decode cX6_copy 25 = .ok (.iload_n 1, 1) := by decide +kernel
theorem dX6_copy_26 : decode cX6_copy 26 = .ok (.iaload, 1) := by decide +kernel
theorem dX6_copy_27 : decode cX6_copy 27 = .ok (.ifCond .eq 12, 3) := by decide +kernel
theorem dX6_copy_30 : decode cX6_copy 30 = .ok (.aload_n 0, 1) := by decide +kernel
theorem dX6_copy_31 : decode cX6_copy 31 = .ok (.getfield 57, 3) := by decide +kernel
theorem dX6_copy_34 : decode cX6_copy 34 = .ok (.iload_n 3, 1) := by decide +kernel
theorem dX6_copy_35 : decode cX6_copy 35 = .ok (.iaload, 1) := by decide +kernel
theorem dX6_copy_36 : decode cX6_copy 36 = .ok (.ifCond .ne 11, 3) := by decide +kernel
theorem dX6_copy_39 : decode cX6_copy 39 = .ok (.aload_n 0, 1) := by decide +kernel
theorem dX6_copy_40 : decode cX6_copy 40 = .ok (.ldc_w 358, 3) := by decide +kernel
theorem dX6_copy_43 : decode cX6_copy 43 = .ok (.invokevirtual 86, 3) := by decide +kernel
theorem dX6_copy_46 : decode cX6_copy 46 = .ok (.ireturn, 1) := by decide +kernel
theorem dX6_copy_47 : decode cX6_copy 47 = .ok (.aload_n 0, 1) := by decide +kernel
theorem dX6_copy_48 : decode cX6_copy 48 = .ok (.getfield 57, 3) := by decide +kernel
theorem dX6_copy_51 : decode cX6_copy 51 = .ok (.iload_n 1, 1) := by decide +kernel
theorem dX6_copy_52 : decode cX6_copy 52 = .ok (.iaload, 1) := by decide +kernel
theorem dX6_copy_53 : decode cX6_copy 53 = .ok (.aload_n 0, 1) := by decide +kernel
theorem dX6_copy_54 : decode cX6_copy 54 = .ok (.getfield 57, 3) := by decide +kernel
theorem dX6_copy_57 : decode cX6_copy 57 = .ok (.iload_n 3, 1) := by decide +kernel
theorem dX6_copy_58 : decode cX6_copy 58 = .ok (.iaload, 1) := by decide +kernel
theorem dX6_copy_59 : decode cX6_copy 59 = .ok (.if_icmp .eq 11, 3) := by decide +kernel
theorem dX6_copy_62 : decode cX6_copy 62 = .ok (.aload_n 0, 1) := by decide +kernel
theorem dX6_copy_63 : decode cX6_copy 63 = .ok (.ldc_w 359, 3) := by decide +kernel
theorem dX6_copy_66 : decode cX6_copy 66 = .ok (.invokevirtual 86, 3) := by decide +kernel
theorem dX6_copy_69 : decode cX6_copy 69 = .ok (.ireturn, 1) := by decide +kernel
theorem dX6_copy_70 : decode cX6_copy 70 = .ok (.iload_n 2, 1) := by decide +kernel
theorem dX6_copy_71 : decode cX6_copy 71 = .ok (.ifCond .lt 48, 3) := by decide +kernel
theorem dX6_copy_74 : decode cX6_copy 74 = .ok (.iload 4, 2) := by decide +kernel
theorem dX6_copy_76 : decode cX6_copy 76 = .ok (.ifCond .lt 43, 3) := by decide +kernel
theorem dX6_copy_79 : decode cX6_copy 79 = .ok (.iload 5, 2) := by decide +kernel
theorem dX6_copy_81 : decode cX6_copy 81 = .ok (.ifCond .lt 38, 3) := by decide +kernel
theorem dX6_copy_84 : decode cX6_copy 84 = .ok (.iload_n 2, 1) := by decide +kernel
theorem dX6_copy_85 : decode cX6_copy 85 = .ok (.i2l, 1) := by decide +kernel
theorem dX6_copy_86 : decode cX6_copy 86 = .ok (.iload 5, 2) := by decide +kernel
theorem dX6_copy_88 : decode cX6_copy 88 = .ok (.i2l, 1) := by decide +kernel
theorem dX6_copy_89 : decode cX6_copy 89 = .ok (.ladd, 1) := by decide +kernel
theorem dX6_copy_90 : decode cX6_copy 90 = .ok (.aload_n 0, 1) := by decide +kernel
theorem dX6_copy_91 : decode cX6_copy 91 = .ok (.getfield 60, 3) := by decide +kernel
theorem dX6_copy_94 : decode cX6_copy 94 = .ok (.iload_n 1, 1) := by decide +kernel
theorem dX6_copy_95 : decode cX6_copy 95 = .ok (.iaload, 1) := by decide +kernel
theorem dX6_copy_96 : decode cX6_copy 96 = .ok (.i2l, 1) := by decide +kernel
theorem dX6_copy_97 : decode cX6_copy 97 = .ok (.lcmp, 1) := by decide +kernel
theorem dX6_copy_98 : decode cX6_copy 98 = .ok (.ifCond .gt 21, 3) := by decide +kernel
theorem dX6_copy_101 : decode cX6_copy 101 = .ok (.iload 4, 2) := by decide +kernel
theorem dX6_copy_103 : decode cX6_copy 103 = .ok (.i2l, 1) := by decide +kernel
theorem dX6_copy_104 : decode cX6_copy 104 = .ok (.iload 5, 2) := by decide +kernel
theorem dX6_copy_106 : decode cX6_copy 106 = .ok (.i2l, 1) := by decide +kernel
theorem dX6_copy_107 : decode cX6_copy 107 = .ok (.ladd, 1) := by decide +kernel
theorem dX6_copy_108 : decode cX6_copy 108 = .ok (.aload_n 0, 1) := by decide +kernel
theorem dX6_copy_109 : decode cX6_copy 109 = .ok (.getfield 60, 3) := by decide +kernel
theorem dX6_copy_112 : decode cX6_copy 112 = .ok (.iload_n 3, 1) := by decide +kernel
theorem dX6_copy_113 : decode cX6_copy 113 = .ok (.iaload, 1) := by decide +kernel
theorem dX6_copy_114 : decode cX6_copy 114 = .ok (.i2l, 1) := by decide +kernel
theorem dX6_copy_115 : decode cX6_copy 115 = .ok (.lcmp, 1) := by decide +kernel
theorem dX6_copy_116 : decode cX6_copy 116 = .ok (.ifCond .le 10, 3) := by decide +kernel
theorem dX6_copy_119 : decode cX6_copy 119 = .ok (.aload_n 0, 1) := by decide +kernel
theorem dX6_copy_120 : decode cX6_copy 120 = .ok (.ldc 69, 2) := by decide +kernel
theorem dX6_copy_122 : decode cX6_copy 122 = .ok (.invokevirtual 86, 3) := by decide +kernel
theorem dX6_copy_125 : decode cX6_copy 125 = .ok (.ireturn, 1) := by decide +kernel
theorem dX6_copy_126 : decode cX6_copy 126 = .ok (.iconst 0, 1) := by decide +kernel
theorem dX6_copy_127 : decode cX6_copy 127 = .ok (.istore 6, 2) := by decide +kernel
theorem dX6_copy_129 : decode cX6_copy 129 = .ok (.iload 6, 2) := by decide +kernel
theorem dX6_copy_131 : decode cX6_copy 131 = .ok (.iload 5, 2) := by decide +kernel
theorem dX6_copy_133 : decode cX6_copy 133 = .ok (.if_icmp .ge 30, 3) := by decide +kernel
theorem dX6_copy_136 : decode cX6_copy 136 = .ok (.aload_n 0, 1) := by decide +kernel
theorem dX6_copy_137 : decode cX6_copy 137 = .ok (.getfield 66, 3) := by decide +kernel
theorem dX6_copy_140 : decode cX6_copy 140 = .ok (.iload 6, 2) := by decide +kernel
theorem dX6_copy_142 : decode cX6_copy 142 = .ok (.aload_n 0, 1) := by decide +kernel
theorem dX6_copy_143 : decode cX6_copy 143 = .ok (.getfield 63, 3) := by decide +kernel
theorem dX6_copy_146 : decode cX6_copy 146 = .ok (.bipush 40, 2) := by decide +kernel
theorem dX6_copy_148 : decode cX6_copy 148 = .ok (.iload_n 1, 1) := by decide +kernel
theorem dX6_copy_149 : decode cX6_copy 149 = .ok (.imul, 1) := by decide +kernel
theorem dX6_copy_150 : decode cX6_copy 150 = .ok (.iload_n 2, 1) := by decide +kernel
theorem dX6_copy_151 : decode cX6_copy 151 = .ok (.iadd, 1) := by decide +kernel
theorem dX6_copy_152 : decode cX6_copy 152 = .ok (.iload 6, 2) := by decide +kernel
theorem dX6_copy_154 : decode cX6_copy 154 = .ok (.iadd, 1) := by decide +kernel
theorem dX6_copy_155 : decode cX6_copy 155 = .ok (.iaload, 1) := by decide +kernel
theorem dX6_copy_156 : decode cX6_copy 156 = .ok (.iastore, 1) := by decide +kernel
theorem dX6_copy_157 : decode cX6_copy 157 = .ok (.iinc 6 1, 3) := by decide +kernel
theorem dX6_copy_160 : decode cX6_copy 160 = .ok (.goto (-31), 3) := by decide +kernel
theorem dX6_copy_163 : decode cX6_copy 163 = .ok (.iconst 0, 1) := by decide +kernel
theorem dX6_copy_164 : decode cX6_copy 164 = .ok (.istore 6, 2) := by decide +kernel
theorem dX6_copy_166 : decode cX6_copy 166 = .ok (.iload 6, 2) := by decide +kernel
theorem dX6_copy_168 : decode cX6_copy 168 = .ok (.iload 5, 2) := by decide +kernel
theorem dX6_copy_170 : decode cX6_copy 170 = .ok (.if_icmp .ge 31, 3) := by decide +kernel
theorem dX6_copy_173 : decode cX6_copy 173 = .ok (.aload_n 0, 1) := by decide +kernel
theorem dX6_copy_174 : decode cX6_copy 174 = .ok (.getfield 63, 3) := by decide +kernel
theorem dX6_copy_177 : decode cX6_copy 177 = .ok (.bipush 40, 2) := by decide +kernel
theorem dX6_copy_179 : decode cX6_copy 179 = .ok (.iload_n 3, 1) := by decide +kernel
theorem dX6_copy_180 : decode cX6_copy 180 = .ok (.imul, 1) := by decide +kernel
theorem dX6_copy_181 : decode cX6_copy 181 = .ok (.iload 4, 2) := by decide +kernel
theorem dX6_copy_183 : decode cX6_copy 183 = .ok (.iadd, 1) := by decide +kernel
theorem dX6_copy_184 : decode cX6_copy 184 = .ok (.iload 6, 2) := by decide +kernel
theorem dX6_copy_186 : decode cX6_copy 186 = .ok (.iadd, 1) := by decide +kernel
theorem dX6_copy_187 : decode cX6_copy 187 = .ok (.aload_n 0, 1) := by decide +kernel
theorem dX6_copy_188 : decode cX6_copy 188 = .ok (.getfield 66, 3) := by decide +kernel
theorem dX6_copy_191 : decode cX6_copy 191 = .ok (.iload 6, 2) := by decide +kernel
theorem dX6_copy_193 : decode cX6_copy 193 = .ok (.iaload, 1) := by decide +kernel
theorem dX6_copy_194 : decode cX6_copy 194 = .ok (.iastore, 1) := by decide +kernel
theorem dX6_copy_195 : decode cX6_copy 195 = .ok (.iinc 6 1, 3) := by decide +kernel
theorem dX6_copy_198 : decode cX6_copy 198 = .ok (.goto (-32), 3) := by decide +kernel
theorem dX6_copy_201 : decode cX6_copy 201 = .ok (.iload 5, 2) := by decide +kernel
theorem dX6_copy_203 : decode cX6_copy 203 = .ok (.ireturn, 1) := by decide +kernel
theorem dX6_load_0 : decode cX6_load 0 = .ok (.iload_n 1, 1) := by decide +kernel
theorem dX6_load_1 : decode cX6_load 1 = .ok (.invokestatic 360, 3) := by decide +kernel
theorem dX6_load_4 : decode cX6_load 4 = .ok (.ifCond .ne 10, 3) := by decide +kernel
theorem dX6_load_7 : decode cX6_load 7 = .ok (.aload_n 0, 1) := by decide +kernel
theorem dX6_load_8 : decode cX6_load 8 = .ok (.ldc 69, 2) := by decide +kernel
theorem dX6_load_10 : decode cX6_load 10 = .ok (.invokevirtual 86, 3) := by decide +kernel
theorem dX6_load_13 : decode cX6_load 13 = .ok (.ireturn, 1) := by decide +kernel
theorem dX6_load_14 : decode cX6_load 14 = .ok (.aload_n 0, 1) := by decide +kernel
theorem dX6_load_15 : decode cX6_load 15 = .ok (.getfield 57, 3) := by decide +kernel
theorem dX6_load_18 : decode cX6_load 18 = .ok (.iload_n 1, 1) := by decide +kernel
theorem dX6_load_19 : decode cX6_load 19 = .ok (.iaload, 1) := by decide +kernel
theorem dX6_load_20 : decode cX6_load 20 = .ok (.ifCond .ne 11, 3) := by decide +kernel
theorem dX6_load_23 : decode cX6_load 23 = .ok (.aload_n 0, 1) := by decide +kernel
theorem dX6_load_24 : decode cX6_load 24 = .ok (.ldc_w 358, 3) := by decide +kernel
theorem dX6_load_27 : decode cX6_load 27 = .ok (.invokevirtual 86, 3) := by decide +kernel
theorem dX6_load_30 : decode cX6_load 30 = .ok (.ireturn, 1) := by decide +kernel
theorem dX6_load_31 : decode cX6_load 31 = .ok (.iconst 0, 1) := by decide +kernel
theorem dX6_load_32 : decode cX6_load 32 = .ok (.istore_n 2, 1) := by decide +kernel
theorem dX6_load_33 : decode cX6_load 33 = .ok (.iload_n 2, 1) := by decide +kernel
theorem dX6_load_34 : decode cX6_load 34 = .ok (.aload_n 0, 1) := by decide +kernel
theorem dX6_load_35 : decode cX6_load 35 = .ok (.getfield 60, 3) := by decide +kernel
theorem dX6_load_38 : decode cX6_load 38 = .ok (.iload_n 1, 1) := by decide +kernel
theorem dX6_load_39 : decode cX6_load 39 = .ok (.iaload, 1) := by decide +kernel
theorem dX6_load_40 : decode cX6_load 40 = .ok (.if_icmp .ge 58, 3) := by decide +kernel
theorem dX6_load_43 : decode cX6_load 43 = .ok (.aload_n 0, 1) := by decide +kernel
theorem dX6_load_44 : decode cX6_load 44 = .ok (.iload_n 2, 1) := by decide +kernel
theorem dX6_load_45 : decode cX6_load 45 = .ok (.invokevirtual 110, 3) := by decide +kernel
theorem dX6_load_48 : decode cX6_load 48 = .ok (.ifCond .eq 50, 3) := by decide +kernel
theorem dX6_load_51 : decode cX6_load 51 = .ok (.aload_n 0, 1) := by decide +kernel
theorem dX6_load_52 : decode cX6_load 52 = .ok (.getfield 63, 3) := by decide +kernel
theorem dX6_load_55 : decode cX6_load 55 = .ok (.bipush 40, 2) := by decide +kernel
theorem dX6_load_57 : decode cX6_load 57 = .ok (.iload_n 1, 1) := by decide +kernel
theorem dX6_load_58 : decode cX6_load 58 = .ok (.imul, 1) := by decide +kernel
theorem dX6_load_59 : decode cX6_load 59 = .ok (.iload_n 2, 1) := by decide +kernel
theorem dX6_load_60 : decode cX6_load 60 = .ok (.iadd, 1) := by decide +kernel
theorem dX6_load_61 : decode cX6_load 61 = .ok (.iaload, 1) := by decide +kernel
theorem dX6_load_62 : decode cX6_load 62 = .ok (.iconst 0, 1) := by decide +kernel
theorem dX6_load_63 : decode cX6_load 63 = .ok (.bipush 99, 2) := by decide +kernel
theorem dX6_load_65 : decode cX6_load 65 = .ok (.invokestatic 74, 3) := by decide +kernel
theorem dX6_load_68 : decode cX6_load 68 = .ok (.ifCond .eq 30, 3) := by decide +kernel
theorem dX6_load_71 : decode cX6_load 71 = .ok (.aload_n 0, 1) := by decide +kernel
theorem dX6_load_72 : decode cX6_load 72 = .ok (.getfield 9, 3) := by decide +kernel
theorem dX6_load_75 : decode cX6_load 75 = .ok (.iload_n 2, 1) := by decide +kernel
theorem dX6_load_76 : decode cX6_load 76 = .ok (.iconst 2, 1) := by decide +kernel
theorem dX6_load_77 : decode cX6_load 77 = .ok (.invokestatic 78, 3) := by decide +kernel
theorem dX6_load_80 : decode cX6_load 80 = .ok (.aload_n 0, 1) := by decide +kernel
theorem dX6_load_81 : decode cX6_load 81 = .ok (.getfield 63, 3) := by decide +kernel
theorem dX6_load_84 : decode cX6_load 84 = .ok (.bipush 40, 2) := by decide +kernel
theorem dX6_load_86 : decode cX6_load 86 = .ok (.iload_n 1, 1) := by decide +kernel
theorem dX6_load_87 : decode cX6_load 87 = .ok (.imul, 1) := by decide +kernel
theorem dX6_load_88 : decode cX6_load 88 = .ok (.iload_n 2, 1) := by decide +kernel
theorem dX6_load_89 : decode cX6_load 89 = .ok (.iadd, 1) := by decide +kernel
theorem dX6_load_90 : decode cX6_load 90 = .ok (.iaload, 1) := by decide +kernel
theorem dX6_load_91 : decode cX6_load 91 = .ok (.iastore, 1) := by decide +kernel
theorem dX6_load_92 : decode cX6_load 92 = .ok (.iinc 2 1, 3) := by decide +kernel
theorem dX6_load_95 : decode cX6_load 95 = .ok (.goto (-62), 3) := by decide +kernel
theorem dX6_load_98 : decode cX6_load 98 = .ok (.iload_n 2, 1) := by decide +kernel
theorem dX6_load_99 : decode cX6_load 99 = .ok (.ireturn, 1) := by decide +kernel
theorem dX6_judge_0 : decode cX6_judge 0 = .ok (.iload_n 1, 1) := by decide +kernel
theorem dX6_judge_1 : decode cX6_judge 1 = .ok (.invokestatic 360, 3) := by decide +kernel
theorem dX6_judge_4 : decode cX6_judge 4 = .ok (.ifCond .ne 10, 3) := by decide +kernel
theorem dX6_judge_7 : decode cX6_judge 7 = .ok (.aload_n 0, 1) := by decide +kernel
theorem dX6_judge_8 : decode cX6_judge 8 = .ok (.ldc 69, 2) := by decide +kernel
theorem dX6_judge_10 : decode cX6_judge 10 = .ok (.invokevirtual 86, 3) := by decide +kernel
theorem dX6_judge_13 : decode cX6_judge 13 = .ok (.ireturn, 1) := by decide +kernel
theorem dX6_judge_14 : decode cX6_judge 14 = .ok (.aload_n 0, 1) := by decide +kernel
theorem dX6_judge_15 : decode cX6_judge 15 = .ok (.getfield 57, 3) := by decide +kernel
theorem dX6_judge_18 : decode cX6_judge 18 = .ok (.iload_n 1, 1) := by decide +kernel
theorem dX6_judge_19 : decode cX6_judge 19 = .ok (.iaload, 1) := by decide +kernel
theorem dX6_judge_20 : decode cX6_judge 20 = .ok (.ifCond .ne 11, 3) := by decide +kernel
theorem dX6_judge_23 : decode cX6_judge 23 = .ok (.aload_n 0, 1) := by decide +kernel
theorem dX6_judge_24 : decode cX6_judge 24 = .ok (.ldc_w 358, 3) := by decide +kernel
theorem dX6_judge_27 : decode cX6_judge 27 = .ok (.invokevirtual 86, 3) := by decide +kernel
theorem dX6_judge_30 : decode cX6_judge 30 = .ok (.ireturn, 1) := by decide +kernel
theorem dX6_judge_31 : decode cX6_judge 31 = .ok (.aload_n 0, 1) := by decide +kernel
theorem dX6_judge_32 : decode cX6_judge 32 = .ok (.aload_n 0, 1) := by decide +kernel
theorem dX6_judge_33 : decode cX6_judge 33 = .ok (.getfield 60, 3) := by decide +kernel
theorem dX6_judge_36 : decode cX6_judge 36 = .ok (.iload_n 1, 1) := by decide +kernel
theorem dX6_judge_37 : decode cX6_judge 37 = .ok (.iaload, 1) := by decide +kernel
theorem dX6_judge_38 : decode cX6_judge 38 = .ok (.invokevirtual 176, 3) := by decide +kernel
theorem dX6_judge_41 : decode cX6_judge 41 = .ok (.ifCond .eq 10, 3) := by decide +kernel
theorem dX6_judge_44 : decode cX6_judge 44 = .ok (.aload_n 0, 1) := by decide +kernel
theorem dX6_judge_45 : decode cX6_judge 45 = .ok (.ldc 136, 2) := by decide +kernel
theorem dX6_judge_47 : decode cX6_judge 47 = .ok (.invokevirtual 86, 3) := by decide +kernel
theorem dX6_judge_50 : decode cX6_judge 50 = .ok (.ireturn, 1) := by decide +kernel
theorem dX6_judge_51 : decode cX6_judge 51 = .ok (.aload_n 0, 1) := by decide +kernel
theorem dX6_judge_52 : decode cX6_judge 52 = .ok (.getfield 9, 3) := by decide +kernel
theorem dX6_judge_55 : decode cX6_judge 55 = .ok (.aload_n 0, 1) := by decide +kernel
theorem dX6_judge_56 : decode cX6_judge 56 = .ok (.getfield 16, 3) := by decide +kernel
theorem dX6_judge_59 : decode cX6_judge 59 = .ok (.invokestatic 70, 3) := by decide +kernel
theorem dX6_judge_62 : decode cX6_judge 62 = .ok (.iconst 0, 1) := by decide +kernel
theorem dX6_judge_63 : decode cX6_judge 63 = .ok (.istore_n 2, 1) := by decide +kernel
theorem dX6_judge_64 : decode cX6_judge 64 = .ok (.iconst 1, 1) := by decide +kernel
theorem dX6_judge_65 : decode cX6_judge 65 = .ok (.istore_n 3, 1) := by decide +kernel
theorem dX6_judge_66 : decode cX6_judge 66 = .ok (.iload_n 2, 1) := by decide +kernel
theorem dX6_judge_67 : decode cX6_judge 67 = .ok (.aload_n 0, 1) := by decide +kernel
theorem dX6_judge_68 : decode cX6_judge 68 = .ok (.getfield 60, 3) := by decide +kernel
theorem dX6_judge_71 : decode cX6_judge 71 = .ok (.iload_n 1, 1) := by decide +kernel
theorem dX6_judge_72 : decode cX6_judge 72 = .ok (.iaload, 1) := by decide +kernel
theorem dX6_judge_73 : decode cX6_judge 73 = .ok (.if_icmp .ge 61, 3) := by decide +kernel
theorem dX6_judge_76 : decode cX6_judge 76 = .ok (.iload_n 3, 1) := by decide +kernel
theorem dX6_judge_77 : decode cX6_judge 77 = .ok (.ifCond .eq 57, 3) := by decide +kernel
theorem dX6_judge_80 : decode cX6_judge 80 = .ok (.aload_n 0, 1) := by decide +kernel
theorem dX6_judge_81 : decode cX6_judge 81 = .ok (.invokevirtual 173, 3) := by decide +kernel
theorem dX6_judge_84 : decode cX6_judge 84 = .ok (.istore 4, 2) := by decide +kernel
theorem dX6_judge_86 : decode cX6_judge 86 = .ok (.aload_n 0, 1) := by decide +kernel
theorem dX6_judge_87 : decode cX6_judge 87 = .ok (.getfield 63, 3) := by decide +kernel
theorem dX6_judge_90 : decode cX6_judge 90 = .ok (.bipush 40, 2) := by decide +kernel
theorem dX6_judge_92 : decode cX6_judge 92 = .ok (.iload_n 1, 1) := by decide +kernel
theorem dX6_judge_93 : decode cX6_judge 93 = .ok (.imul, 1) := by decide +kernel
theorem dX6_judge_94 : decode cX6_judge 94 = .ok (.iload_n 2, 1) := by decide +kernel
theorem dX6_judge_95 : decode cX6_judge 95 = .ok (.iadd, 1) := by decide +kernel
theorem dX6_judge_96 : decode cX6_judge 96 = .ok (.iaload, 1) := by decide +kernel
theorem dX6_judge_97 : decode cX6_judge 97 = .ok (.aload_n 0, 1) := by decide +kernel
theorem dX6_judge_98 : decode cX6_judge 98 = .ok (.getfield 157, 3) := by decide +kernel
theorem dX6_judge_101 : decode cX6_judge 101 = .ok (.ifCond .ge 7, 3) := by decide +kernel
theorem dX6_judge_104 : decode cX6_judge 104 = .ok (.iconst (-1), 1) := by decide +kernel
theorem dX6_judge_105 : decode cX6_judge 105 = .ok (.goto 5, 3) := by decide +kernel
theorem dX6_judge_108 : decode cX6_judge 108 = .ok (.iload 4, 2) := by decide +kernel
theorem dX6_judge_110 : decode cX6_judge 110 = .ok (.if_icmp .ne 7, 3) := by decide +kernel
theorem dX6_judge_113 : decode cX6_judge 113 = .ok (.iconst 1, 1) := by decide +kernel
theorem dX6_judge_114 : decode cX6_judge 114 = .ok (.goto 4, 3) := by decide +kernel
theorem dX6_judge_117 : decode cX6_judge 117 = .ok (.iconst 0, 1) := by decide +kernel
theorem dX6_judge_118 : decode cX6_judge 118 = .ok (.istore_n 3, 1) := by decide +kernel
theorem dX6_judge_119 : decode cX6_judge 119 = .ok (.iload_n 2, 1) := by decide +kernel
theorem dX6_judge_120 : decode cX6_judge 120 = .ok (.iload_n 3, 1) := by decide +kernel
theorem dX6_judge_121 : decode cX6_judge 121 = .ok (.ifCond .eq 7, 3) := by decide +kernel
theorem dX6_judge_124 : decode cX6_judge 124 = .ok (.iconst 1, 1) := by decide +kernel
theorem dX6_judge_125 : decode cX6_judge 125 = .ok (.goto 4, 3) := by decide +kernel
theorem dX6_judge_128 : decode cX6_judge 128 = .ok (.iconst 0, 1) := by decide +kernel
theorem dX6_judge_129 : decode cX6_judge 129 = .ok (.iadd, 1) := by decide +kernel
theorem dX6_judge_130 : decode cX6_judge 130 = .ok (.istore_n 2, 1) := by decide +kernel
theorem dX6_judge_131 : decode cX6_judge 131 = .ok (.goto (-65), 3) := by decide +kernel
theorem dX6_judge_134 : decode cX6_judge 134 = .ok (.aload_n 0, 1) := by decide +kernel
theorem dX6_judge_135 : decode cX6_judge 135 = .ok (.iload_n 3, 1) := by decide +kernel
theorem dX6_judge_136 : decode cX6_judge 136 = .ok (.ifCond .eq 7, 3) := by decide +kernel
theorem dX6_judge_139 : decode cX6_judge 139 = .ok (.iconst 0, 1) := by decide +kernel
theorem dX6_judge_140 : decode cX6_judge 140 = .ok (.goto 6, 3) := by decide +kernel
theorem dX6_judge_143 : decode cX6_judge 143 = .ok (.iconst 1, 1) := by decide +kernel
theorem dX6_judge_144 : decode cX6_judge 144 = .ok (.iload_n 2, 1) := by decide +kernel
theorem dX6_judge_145 : decode cX6_judge 145 = .ok (.iadd, 1) := by decide +kernel
theorem dX6_judge_146 : decode cX6_judge 146 = .ok (.invokevirtual 182, 3) := by decide +kernel
theorem dX6_judge_149 : decode cX6_judge 149 = .ok (.ireturn, 1) := by decide +kernel
theorem dX6_image_0 : decode cX6_image 0 = .ok (.aload_n 0, 1) := by decide +kernel
theorem dX6_image_1 : decode cX6_image 1 = .ok (.getfield 9, 3) := by decide +kernel
theorem dX6_image_4 : decode cX6_image 4 = .ok (.aload_n 0, 1) := by decide +kernel
theorem dX6_image_5 : decode cX6_image 5 = .ok (.getfield 13, 3) := by decide +kernel
theorem dX6_image_8 : decode cX6_image 8 = .ok (.invokestatic 70, 3) := by decide +kernel
theorem dX6_image_11 : decode cX6_image 11 = .ok (.aload_n 0, 1) := by decide +kernel
theorem dX6_image_12 : decode cX6_image 12 = .ok (.iconst 1, 1) := by decide +kernel
theorem dX6_image_13 : decode cX6_image 13 = .ok (.putfield 367, 3) := by decide +kernel
theorem dX6_image_16 : decode cX6_image 16 = .ok (.iconst 1, 1) := by decide +kernel
theorem dX6_image_17 : decode cX6_image 17 = .ok (.ireturn, 1) := by decide +kernel
theorem dX6_undo_0 : decode cX6_undo 0 = .ok (.aload_n 0, 1) := by decide +kernel
theorem dX6_undo_1 : decode cX6_undo 1 = .ok (.getfield 367, 3) := by decide +kernel
theorem dX6_undo_4 : decode cX6_undo 4 = .ok (.ifCond .ne 10, 3) := by decide +kernel
theorem dX6_undo_7 : decode cX6_undo 7 = .ok (.aload_n 0, 1) := by decide +kernel
theorem dX6_undo_8 : decode cX6_undo 8 = .ok (.ldc 152, 2) := by decide +kernel
theorem dX6_undo_10 : decode cX6_undo 10 = .ok (.invokevirtual 86, 3) := by decide +kernel
theorem dX6_undo_13 : decode cX6_undo 13 = .ok (.ireturn, 1) := by decide +kernel
theorem dX6_undo_14 : decode cX6_undo 14 = .ok (.aload_n 0, 1) := by decide +kernel
theorem dX6_undo_15 : decode cX6_undo 15 = .ok (.getfield 13, 3) := by decide +kernel
theorem dX6_undo_18 : decode cX6_undo 18 = .ok (.aload_n 0, 1) := by decide +kernel
theorem dX6_undo_19 : decode cX6_undo 19 = .ok (.getfield 9, 3) := by decide +kernel
theorem dX6_undo_22 : decode cX6_undo 22 = .ok (.invokestatic 70, 3) := by decide +kernel
theorem dX6_undo_25 : decode cX6_undo 25 = .ok (.aload_n 0, 1) := by decide +kernel
theorem dX6_undo_26 : decode cX6_undo 26 = .ok (.getfield 9, 3) := by decide +kernel
theorem dX6_undo_29 : decode cX6_undo 29 = .ok (.iconst 0, 1) := by decide +kernel
theorem dX6_undo_30 : decode cX6_undo 30 = .ok (.iaload, 1) := by decide +kernel
theorem dX6_undo_31 : decode cX6_undo 31 = .ok (.ireturn, 1) := by decide +kernel
theorem dX6_tear_0 : decode cX6_tear 0 = .ok (.aload_n 0, 1) := by decide +kernel
theorem dX6_tear_1 : decode cX6_tear 1 = .ok (.getfield 367, 3) := by decide +kernel
theorem dX6_tear_4 : decode cX6_tear 4 = .ok (.ifCond .eq 7, 3) := by decide +kernel
theorem dX6_tear_7 : decode cX6_tear 7 = .ok (.iconst 1, 1) := by decide +kernel
theorem dX6_tear_8 : decode cX6_tear 8 = .ok (.goto 4, 3) := by decide +kernel
theorem dX6_tear_11 : decode cX6_tear 11 = .ok (.iconst 0, 1) := by decide +kernel
theorem dX6_tear_12 : decode cX6_tear 12 = .ok (.istore_n 1, 1) := by decide +kernel
theorem dX6_tear_13 : decode cX6_tear 13 = .ok (.aload_n 0, 1) := by decide +kernel
theorem dX6_tear_14 : decode cX6_tear 14 = .ok (.iconst 0, 1) := by decide +kernel
theorem dX6_tear_15 : decode cX6_tear 15 = .ok (.putfield 367, 3) := by decide +kernel
theorem dX6_tear_18 : decode cX6_tear 18 = .ok (.iload_n 1, 1) := by decide +kernel
theorem dX6_tear_19 : decode cX6_tear 19 = .ok (.ireturn, 1) := by decide +kernel
theorem dX6_count_0 : decode cX6_count 0 = .ok (.iconst 0, 1) := by decide +kernel
theorem dX6_count_1 : decode cX6_count 1 = .ok (.istore_n 2, 1) := by decide +kernel
theorem dX6_count_2 : decode cX6_count 2 = .ok (.iload_n 1, 1) := by decide +kernel
theorem dX6_count_3 : decode cX6_count 3 = .ok (.tableswitch 151 0 7 #[45, 52, 59, 66, 73, 102, 107, 115], 45) := by decide +kernel
theorem dX6_count_48 : decode cX6_count 48 = .ok (.aload_n 0, 1) := by decide +kernel
theorem dX6_count_49 : decode cX6_count 49 = .ok (.getfield 9, 3) := by decide +kernel
theorem dX6_count_52 : decode cX6_count 52 = .ok (.iconst 0, 1) := by decide +kernel
theorem dX6_count_53 : decode cX6_count 53 = .ok (.iaload, 1) := by decide +kernel
theorem dX6_count_54 : decode cX6_count 54 = .ok (.ireturn, 1) := by decide +kernel
theorem dX6_count_55 : decode cX6_count 55 = .ok (.aload_n 0, 1) := by decide +kernel
theorem dX6_count_56 : decode cX6_count 56 = .ok (.getfield 9, 3) := by decide +kernel
theorem dX6_count_59 : decode cX6_count 59 = .ok (.iconst 3, 1) := by decide +kernel
theorem dX6_count_60 : decode cX6_count 60 = .ok (.iaload, 1) := by decide +kernel
theorem dX6_count_61 : decode cX6_count 61 = .ok (.ireturn, 1) := by decide +kernel
theorem dX6_count_62 : decode cX6_count 62 = .ok (.aload_n 0, 1) := by decide +kernel
theorem dX6_count_63 : decode cX6_count 63 = .ok (.getfield 9, 3) := by decide +kernel
theorem dX6_count_66 : decode cX6_count 66 = .ok (.iconst 4, 1) := by decide +kernel
theorem dX6_count_67 : decode cX6_count 67 = .ok (.iaload, 1) := by decide +kernel
theorem dX6_count_68 : decode cX6_count 68 = .ok (.ireturn, 1) := by decide +kernel
theorem dX6_count_69 : decode cX6_count 69 = .ok (.aload_n 0, 1) := by decide +kernel
theorem dX6_count_70 : decode cX6_count 70 = .ok (.getfield 9, 3) := by decide +kernel
theorem dX6_count_73 : decode cX6_count 73 = .ok (.iconst 5, 1) := by decide +kernel
theorem dX6_count_74 : decode cX6_count 74 = .ok (.iaload, 1) := by decide +kernel
theorem dX6_count_75 : decode cX6_count 75 = .ok (.ireturn, 1) := by decide +kernel
theorem dX6_count_76 : decode cX6_count 76 = .ok (.iconst 0, 1) := by decide +kernel
theorem dX6_count_77 : decode cX6_count 77 = .ok (.istore_n 3, 1) := by decide +kernel
theorem dX6_count_78 : decode cX6_count 78 = .ok (.iload_n 3, 1) := by decide +kernel
theorem dX6_count_79 : decode cX6_count 79 = .ok (.aload_n 0, 1) := by decide +kernel
theorem dX6_count_80 : decode cX6_count 80 = .ok (.getfield 9, 3) := by decide +kernel
theorem dX6_count_83 : decode cX6_count 83 = .ok (.iconst 3, 1) := by decide +kernel
theorem dX6_count_84 : decode cX6_count 84 = .ok (.iaload, 1) := by decide +kernel
theorem dX6_count_85 : decode cX6_count 85 = .ok (.if_icmp .ge 18, 3) := by decide +kernel
theorem dX6_count_88 : decode cX6_count 88 = .ok (.iload_n 2, 1) := by decide +kernel
theorem dX6_count_89 : decode cX6_count 89 = .ok (.aload_n 0, 1) := by decide +kernel
theorem dX6_count_90 : decode cX6_count 90 = .ok (.iload_n 3, 1) := by decide +kernel
theorem dX6_count_91 : decode cX6_count 91 = .ok (.iconst 2, 1) := by decide +kernel
theorem dX6_count_92 : decode cX6_count 92 = .ok (.invokevirtual 98, 3) := by decide +kernel
theorem dX6_count_95 : decode cX6_count 95 = .ok (.iadd, 1) := by decide +kernel
theorem dX6_count_96 : decode cX6_count 96 = .ok (.istore_n 2, 1) := by decide +kernel
theorem dX6_count_97 : decode cX6_count 97 = .ok (.iinc 3 1, 3) := by decide +kernel
theorem dX6_count_100 : decode cX6_count 100 = .ok (.goto (-22), 3) := by decide +kernel
theorem dX6_count_103 : decode cX6_count 103 = .ok (.iload_n 2, 1) := by decide +kernel
theorem dX6_count_104 : decode cX6_count 104 = .ok (.ireturn, 1) := by decide +kernel
theorem dX6_count_105 : decode cX6_count 105 = .ok (.aload_n 0, 1) := by decide +kernel
theorem dX6_count_106 : decode cX6_count 106 = .ok (.getfield 281, 3) := by decide +kernel
theorem dX6_count_109 : decode cX6_count 109 = .ok (.ireturn, 1) := by decide +kernel
theorem dX6_count_110 : decode cX6_count 110 = .ok (.aload_n 0, 1) := by decide +kernel
theorem dX6_count_111 : decode cX6_count 111 = .ok (.getfield 9, 3) := by decide +kernel
theorem dX6_count_114 : decode cX6_count 114 = .ok (.bipush 7, 2) := by decide +kernel
theorem dX6_count_116 : decode cX6_count 116 = .ok (.iaload, 1) := by decide +kernel
theorem dX6_count_117 : decode cX6_count 117 = .ok (.ireturn, 1) := by decide +kernel
theorem dX6_count_118 : decode cX6_count 118 = .ok (.iconst 0, 1) := by decide +kernel
theorem dX6_count_119 : decode cX6_count 119 = .ok (.istore_n 3, 1) := by decide +kernel
theorem dX6_count_120 : decode cX6_count 120 = .ok (.iload_n 3, 1) := by decide +kernel
theorem dX6_count_121 : decode cX6_count 121 = .ok (.bipush 10, 2) := by decide +kernel
theorem dX6_count_123 : decode cX6_count 123 = .ok (.if_icmp .ge 29, 3) := by decide +kernel
theorem dX6_count_126 : decode cX6_count 126 = .ok (.iload_n 2, 1) := by decide +kernel
theorem dX6_count_127 : decode cX6_count 127 = .ok (.aload_n 0, 1) := by decide +kernel
theorem dX6_count_128 : decode cX6_count 128 = .ok (.getfield 9, 3) := by decide +kernel
theorem dX6_count_131 : decode cX6_count 131 = .ok (.bipush 8, 2) := by decide +kernel
theorem dX6_count_133 : decode cX6_count 133 = .ok (.iload_n 3, 1) := by decide +kernel
theorem dX6_count_134 : decode cX6_count 134 = .ok (.iadd, 1) := by decide +kernel
theorem dX6_count_135 : decode cX6_count 135 = .ok (.iaload, 1) := by decide +kernel
theorem dX6_count_136 : decode cX6_count 136 = .ok (.ifCond .ge 7, 3) := by decide +kernel
theorem dX6_count_139 : decode cX6_count 139 = .ok (.iconst 0, 1) := by decide +kernel
theorem dX6_count_140 : decode cX6_count 140 = .ok (.goto 4, 3) := by decide +kernel
theorem dX6_count_143 : decode cX6_count 143 = .ok (.iconst 1, 1) := by decide +kernel
theorem dX6_count_144 : decode cX6_count 144 = .ok (.iadd, 1) := by decide +kernel
theorem dX6_count_145 : decode cX6_count 145 = .ok (.istore_n 2, 1) := by decide +kernel
theorem dX6_count_146 : decode cX6_count 146 = .ok (.iinc 3 1, 3) := by decide +kernel
theorem dX6_count_149 : decode cX6_count 149 = .ok (.goto (-29), 3) := by decide +kernel
theorem dX6_count_152 : decode cX6_count 152 = .ok (.iload_n 2, 1) := by decide +kernel
theorem dX6_count_153 : decode cX6_count 153 = .ok (.ireturn, 1) := by decide +kernel
theorem dX6_count_154 : decode cX6_count 154 = .ok (.aload_n 0, 1) := by decide +kernel
theorem dX6_count_155 : decode cX6_count 155 = .ok (.ldc 69, 2) := by decide +kernel
theorem dX6_count_157 : decode cX6_count 157 = .ok (.invokevirtual 86, 3) := by decide +kernel
theorem dX6_count_160 : decode cX6_count 160 = .ok (.ireturn, 1) := by decide +kernel
theorem dX6_status_0 : decode cX6_status 0 = .ok (.iload_n 1, 1) := by decide +kernel
theorem dX6_status_1 : decode cX6_status 1 = .ok (.iconst (-1), 1) := by decide +kernel
theorem dX6_status_2 : decode cX6_status 2 = .ok (.bipush 6, 2) := by decide +kernel
theorem dX6_status_4 : decode cX6_status 4 = .ok (.invokestatic 74, 3) := by decide +kernel
theorem dX6_status_7 : decode cX6_status 7 = .ok (.ifCond .eq 14, 3) := by decide +kernel
theorem dX6_status_10 : decode cX6_status 10 = .ok (.aload_n 0, 1) := by decide +kernel
theorem dX6_status_11 : decode cX6_status 11 = .ok (.getfield 19, 3) := by decide +kernel
theorem dX6_status_14 : decode cX6_status 14 = .ok (.iload_n 1, 1) := by decide +kernel
theorem dX6_status_15 : decode cX6_status 15 = .ok (.iconst 1, 1) := by decide +kernel
theorem dX6_status_16 : decode cX6_status 16 = .ok (.iadd, 1) := by decide +kernel
theorem dX6_status_17 : decode cX6_status 17 = .ok (.iaload, 1) := by decide +kernel
theorem dX6_status_18 : decode cX6_status 18 = .ok (.goto 9, 3) := by decide +kernel
theorem dX6_status_21 : decode cX6_status 21 = .ok (.aload_n 0, 1) := by decide +kernel
theorem dX6_status_22 : decode cX6_status 22 = .ok (.ldc 69, 2) := by decide +kernel
theorem dX6_status_24 : decode cX6_status 24 = .ok (.invokevirtual 86, 3) := by decide +kernel
theorem dX6_status_27 : decode cX6_status 27 = .ok (.ireturn, 1) := by decide +kernel
theorem dJ6_bitCount_0f7a4_0 : decode cJ6_bitCount_0f7a4 0 = .ok (.iload_n 0, 1) := by decide +kernel
theorem dJ6_bitCount_0f7a4_1 : decode cJ6_bitCount_0f7a4 1 = .ok (.iload_n 0, 1) := by decide +kernel
theorem dJ6_bitCount_0f7a4_2 : decode cJ6_bitCount_0f7a4 2 = .ok (.iconst 1, 1) := by decide +kernel
theorem dJ6_bitCount_0f7a4_3 : decode cJ6_bitCount_0f7a4 3 = .ok (.iushr, 1) := by decide +kernel
theorem dJ6_bitCount_0f7a4_4 : decode cJ6_bitCount_0f7a4 4 = .ok (.ldc_w 265, 3) := by decide +kernel
theorem dJ6_bitCount_0f7a4_7 : decode cJ6_bitCount_0f7a4 7 = .ok (.iand, 1) := by decide +kernel
theorem dJ6_bitCount_0f7a4_8 : decode cJ6_bitCount_0f7a4 8 = .ok (.isub, 1) := by decide +kernel
theorem dJ6_bitCount_0f7a4_9 : decode cJ6_bitCount_0f7a4 9 = .ok (.istore_n 0, 1) := by decide +kernel
theorem dJ6_bitCount_0f7a4_10 : decode cJ6_bitCount_0f7a4 10 = .ok (.iload_n 0, 1) := by decide +kernel
theorem dJ6_bitCount_0f7a4_11 : decode cJ6_bitCount_0f7a4 11 = .ok (.ldc_w 266, 3) := by decide +kernel
theorem dJ6_bitCount_0f7a4_14 : decode cJ6_bitCount_0f7a4 14 = .ok (.iand, 1) := by decide +kernel
theorem dJ6_bitCount_0f7a4_15 : decode cJ6_bitCount_0f7a4 15 = .ok (.iload_n 0, 1) := by decide +kernel
theorem dJ6_bitCount_0f7a4_16 : decode cJ6_bitCount_0f7a4 16 = .ok (.iconst 2, 1) := by decide +kernel
theorem dJ6_bitCount_0f7a4_17 : decode cJ6_bitCount_0f7a4 17 = .ok (.iushr, 1) := by decide +kernel
theorem dJ6_bitCount_0f7a4_18 : decode cJ6_bitCount_0f7a4 18 = .ok (.ldc_w 266, 3) := by decide +kernel
theorem dJ6_bitCount_0f7a4_21 : decode cJ6_bitCount_0f7a4 21 = .ok (.iand, 1) := by decide +kernel
theorem dJ6_bitCount_0f7a4_22 : decode cJ6_bitCount_0f7a4 22 = .ok (.iadd, 1) := by decide +kernel
theorem dJ6_bitCount_0f7a4_23 : decode cJ6_bitCount_0f7a4 23 = .ok (.istore_n 0, 1) := by decide +kernel
theorem dJ6_bitCount_0f7a4_24 : decode cJ6_bitCount_0f7a4 24 = .ok (.iload_n 0, 1) := by decide +kernel
theorem dJ6_bitCount_0f7a4_25 : decode cJ6_bitCount_0f7a4 25 = .ok (.iload_n 0, 1) := by decide +kernel
theorem dJ6_bitCount_0f7a4_26 : decode cJ6_bitCount_0f7a4 26 = .ok (.iconst 4, 1) := by decide +kernel
theorem dJ6_bitCount_0f7a4_27 : decode cJ6_bitCount_0f7a4 27 = .ok (.iushr, 1) := by decide +kernel
theorem dJ6_bitCount_0f7a4_28 : decode cJ6_bitCount_0f7a4 28 = .ok (.iadd, 1) := by decide +kernel
theorem dJ6_bitCount_0f7a4_29 : decode cJ6_bitCount_0f7a4 29 = .ok (.ldc_w 267, 3) := by decide +kernel
theorem dJ6_bitCount_0f7a4_32 : decode cJ6_bitCount_0f7a4 32 = .ok (.iand, 1) := by decide +kernel
theorem dJ6_bitCount_0f7a4_33 : decode cJ6_bitCount_0f7a4 33 = .ok (.istore_n 0, 1) := by decide +kernel
theorem dJ6_bitCount_0f7a4_34 : decode cJ6_bitCount_0f7a4 34 = .ok (.iload_n 0, 1) := by decide +kernel
theorem dJ6_bitCount_0f7a4_35 : decode cJ6_bitCount_0f7a4 35 = .ok (.iload_n 0, 1) := by decide +kernel
theorem dJ6_bitCount_0f7a4_36 : decode cJ6_bitCount_0f7a4 36 = .ok (.bipush 8, 2) := by decide +kernel
theorem dJ6_bitCount_0f7a4_38 : decode cJ6_bitCount_0f7a4 38 = .ok (.iushr, 1) := by decide +kernel
theorem dJ6_bitCount_0f7a4_39 : decode cJ6_bitCount_0f7a4 39 = .ok (.iadd, 1) := by decide +kernel
theorem dJ6_bitCount_0f7a4_40 : decode cJ6_bitCount_0f7a4 40 = .ok (.istore_n 0, 1) := by decide +kernel
theorem dJ6_bitCount_0f7a4_41 : decode cJ6_bitCount_0f7a4 41 = .ok (.iload_n 0, 1) := by decide +kernel
theorem dJ6_bitCount_0f7a4_42 : decode cJ6_bitCount_0f7a4 42 = .ok (.iload_n 0, 1) := by decide +kernel
theorem dJ6_bitCount_0f7a4_43 : decode cJ6_bitCount_0f7a4 43 = .ok (.bipush 16, 2) := by decide +kernel
theorem dJ6_bitCount_0f7a4_45 : decode cJ6_bitCount_0f7a4 45 = .ok (.iushr, 1) := by decide +kernel
theorem dJ6_bitCount_0f7a4_46 : decode cJ6_bitCount_0f7a4 46 = .ok (.iadd, 1) := by decide +kernel
theorem dJ6_bitCount_0f7a4_47 : decode cJ6_bitCount_0f7a4 47 = .ok (.istore_n 0, 1) := by decide +kernel
theorem dJ6_bitCount_0f7a4_48 : decode cJ6_bitCount_0f7a4 48 = .ok (.iload_n 0, 1) := by decide +kernel
theorem dJ6_bitCount_0f7a4_49 : decode cJ6_bitCount_0f7a4 49 = .ok (.bipush 63, 2) := by decide +kernel
theorem dJ6_bitCount_0f7a4_51 : decode cJ6_bitCount_0f7a4 51 = .ok (.iand, 1) := by decide +kernel
theorem dJ6_bitCount_0f7a4_52 : decode cJ6_bitCount_0f7a4 52 = .ok (.ireturn, 1) := by decide +kernel
theorem dJ9_max_7cf53_0 : decode cJ9_max_7cf53 0 = .ok (.iload_n 0, 1) := by decide +kernel
theorem dJ9_max_7cf53_1 : decode cJ9_max_7cf53 1 = .ok (.iload_n 1, 1) := by decide +kernel
theorem dJ9_max_7cf53_2 : decode cJ9_max_7cf53 2 = .ok (.if_icmp .lt 7, 3) := by decide +kernel
theorem dJ9_max_7cf53_5 : decode cJ9_max_7cf53 5 = .ok (.iload_n 0, 1) := by decide +kernel
theorem dJ9_max_7cf53_6 : decode cJ9_max_7cf53 6 = .ok (.goto 4, 3) := by decide +kernel
theorem dJ9_max_7cf53_9 : decode cJ9_max_7cf53 9 = .ok (.iload_n 1, 1) := by decide +kernel
theorem dJ9_max_7cf53_10 : decode cJ9_max_7cf53 10 = .ok (.ireturn, 1) := by decide +kernel
theorem dJ9_min_7cf53_0 : decode cJ9_min_7cf53 0 = .ok (.iload_n 0, 1) := by decide +kernel
theorem dJ9_min_7cf53_1 : decode cJ9_min_7cf53 1 = .ok (.iload_n 1, 1) := by decide +kernel
theorem dJ9_min_7cf53_2 : decode cJ9_min_7cf53 2 = .ok (.if_icmp .gt 7, 3) := by decide +kernel
theorem dJ9_min_7cf53_5 : decode cJ9_min_7cf53 5 = .ok (.iload_n 0, 1) := by decide +kernel
theorem dJ9_min_7cf53_6 : decode cJ9_min_7cf53 6 = .ok (.goto 4, 3) := by decide +kernel
theorem dJ9_min_7cf53_9 : decode cJ9_min_7cf53 9 = .ok (.iload_n 1, 1) := by decide +kernel
theorem dJ9_min_7cf53_10 : decode cJ9_min_7cf53 10 = .ok (.ireturn, 1) := by decide +kernel
theorem dJ0_length_8abf5_0 : decode cJ0_length_8abf5 0 = .ok (.aload_n 0, 1) := by decide +kernel
theorem dJ0_length_8abf5_1 : decode cJ0_length_8abf5 1 = .ok (.getfield 9, 3) := by decide +kernel
theorem dJ0_length_8abf5_4 : decode cJ0_length_8abf5 4 = .ok (.arraylength, 1) := by decide +kernel
theorem dJ0_length_8abf5_5 : decode cJ0_length_8abf5 5 = .ok (.aload_n 0, 1) := by decide +kernel
theorem dJ0_length_8abf5_6 : decode cJ0_length_8abf5 6 = .ok (.invokevirtual 335, 3) := by decide +kernel
theorem dJ0_length_8abf5_9 : decode cJ0_length_8abf5 9 = .ok (.ishr, 1) := by decide +kernel
theorem dJ0_length_8abf5_10 : decode cJ0_length_8abf5 10 = .ok (.ireturn, 1) := by decide +kernel
theorem dJ0_charAt_5068e_0 : decode cJ0_charAt_5068e 0 = .ok (.aload_n 0, 1) := by decide +kernel
theorem dJ0_charAt_5068e_1 : decode cJ0_charAt_5068e 1 = .ok (.invokevirtual 492, 3) := by decide +kernel
theorem dJ0_charAt_5068e_4 : decode cJ0_charAt_5068e 4 = .ok (.ifCond .eq 12, 3) := by decide +kernel
theorem dJ0_charAt_5068e_7 : decode cJ0_charAt_5068e 7 = .ok (.aload_n 0, 1) := by decide +kernel
theorem dJ0_charAt_5068e_8 : decode cJ0_charAt_5068e 8 = .ok (.getfield 9, 3) := by decide +kernel
theorem dJ0_charAt_5068e_11 : decode cJ0_charAt_5068e 11 = .ok (.iload_n 1, 1) := by decide +kernel
theorem dJ0_charAt_5068e_12 : decode cJ0_charAt_5068e 12 = .ok (.invokestatic 495, 3) := by decide +kernel
theorem dJ0_charAt_5068e_15 : decode cJ0_charAt_5068e 15 = .ok (.ireturn, 1) := by decide +kernel
theorem dJ0_charAt_5068e_16 : decode cJ0_charAt_5068e 16 = .ok (.aload_n 0, 1) := by decide +kernel
theorem dJ0_charAt_5068e_17 : decode cJ0_charAt_5068e 17 = .ok (.getfield 9, 3) := by decide +kernel
theorem dJ0_charAt_5068e_20 : decode cJ0_charAt_5068e 20 = .ok (.iload_n 1, 1) := by decide +kernel
theorem dJ0_charAt_5068e_21 : decode cJ0_charAt_5068e 21 = .ok (.invokestatic 498, 3) := by decide +kernel
theorem dJ0_charAt_5068e_24 : decode cJ0_charAt_5068e 24 = .ok (.ireturn, 1) := by decide +kernel
theorem dJ0_coder_7d493_0 : decode cJ0_coder_7d493 0 = .ok (.getstatic 38, 3) := by decide +kernel
theorem dJ0_coder_7d493_3 : decode cJ0_coder_7d493 3 = .ok (.ifCond .eq 10, 3) := by decide +kernel
theorem dJ0_coder_7d493_6 : decode cJ0_coder_7d493 6 = .ok (.aload_n 0, 1) := by decide +kernel
theorem dJ0_coder_7d493_7 : decode cJ0_coder_7d493 7 = .ok (.getfield 15, 3) := by decide +kernel
theorem dJ0_coder_7d493_10 : decode cJ0_coder_7d493 10 = .ok (.goto 4, 3) := by decide +kernel
theorem dJ0_coder_7d493_13 : decode cJ0_coder_7d493 13 = .ok (.iconst 1, 1) := by decide +kernel
theorem dJ0_coder_7d493_14 : decode cJ0_coder_7d493 14 = .ok (.ireturn, 1) := by decide +kernel
theorem dJ0_isLatin1_aae02_0 : decode cJ0_isLatin1_aae02 0 = .ok (.getstatic 38, 3) := by decide +kernel
theorem dJ0_isLatin1_aae02_3 : decode cJ0_isLatin1_aae02 3 = .ok (.ifCond .eq 14, 3) := by decide +kernel
theorem dJ0_isLatin1_aae02_6 : decode cJ0_isLatin1_aae02 6 = .ok (.aload_n 0, 1) := by decide +kernel
theorem dJ0_isLatin1_aae02_7 : decode cJ0_isLatin1_aae02 7 = .ok (.getfield 15, 3) := by decide +kernel
theorem dJ0_isLatin1_aae02_10 : decode cJ0_isLatin1_aae02 10 = .ok (.ifCond .ne 7, 3) := by decide +kernel
theorem dJ0_isLatin1_aae02_13 : decode cJ0_isLatin1_aae02 13 = .ok (.iconst 1, 1) := by decide +kernel
theorem dJ0_isLatin1_aae02_14 : decode cJ0_isLatin1_aae02 14 = .ok (.goto 4, 3) := by decide +kernel
theorem dJ0_isLatin1_aae02_17 : decode cJ0_isLatin1_aae02 17 = .ok (.iconst 0, 1) := by decide +kernel
theorem dJ0_isLatin1_aae02_18 : decode cJ0_isLatin1_aae02 18 = .ok (.ireturn, 1) := by decide +kernel
theorem dJ0_checkIndex_df160_0 : decode cJ0_checkIndex_df160 0 = .ok (.iload_n 0, 1) := by decide +kernel
theorem dJ0_checkIndex_df160_1 : decode cJ0_checkIndex_df160 1 = .ok (.iload_n 1, 1) := by decide +kernel
theorem dJ0_checkIndex_df160_2 : decode cJ0_checkIndex_df160 2 = .ok (.getstatic 1053, 3) := by decide +kernel
theorem dJ0_checkIndex_df160_5 : decode cJ0_checkIndex_df160 5 = .ok (.invokestatic 1059, 3) := by decide +kernel
theorem dJ0_checkIndex_df160_8 : decode cJ0_checkIndex_df160 8 = .ok (.pop, 1) := by decide +kernel
theorem dJ0_checkIndex_df160_9 : decode cJ0_checkIndex_df160 9 = .ok (.return_, 1) := by decide +kernel
theorem dJ1_charAt_3b067_0 : decode cJ1_charAt_3b067 0 = .ok (.iload_n 1, 1) := by decide +kernel
theorem dJ1_charAt_3b067_1 : decode cJ1_charAt_3b067 1 = .ok (.aload_n 0, 1) := by decide +kernel
theorem dJ1_charAt_3b067_2 : decode cJ1_charAt_3b067 2 = .ok (.arraylength, 1) := by decide +kernel
theorem dJ1_charAt_3b067_3 : decode cJ1_charAt_3b067 3 = .ok (.invokestatic 9, 3) := by decide +kernel
theorem dJ1_charAt_3b067_6 : decode cJ1_charAt_3b067 6 = .ok (.aload_n 0, 1) := by decide +kernel
theorem dJ1_charAt_3b067_7 : decode cJ1_charAt_3b067 7 = .ok (.iload_n 1, 1) := by decide +kernel
theorem dJ1_charAt_3b067_8 : decode cJ1_charAt_3b067 8 = .ok (.baload, 1) := by decide +kernel
theorem dJ1_charAt_3b067_9 : decode cJ1_charAt_3b067 9 = .ok (.sipush 255, 3) := by decide +kernel
theorem dJ1_charAt_3b067_12 : decode cJ1_charAt_3b067 12 = .ok (.iand, 1) := by decide +kernel
theorem dJ1_charAt_3b067_13 : decode cJ1_charAt_3b067 13 = .ok (.i2c, 1) := by decide +kernel
theorem dJ1_charAt_3b067_14 : decode cJ1_charAt_3b067 14 = .ok (.ireturn, 1) := by decide +kernel
theorem dJ2_getChar_3b067_0 : decode cJ2_getChar_3b067 0 = .ok (.getstatic 44, 3) := by decide +kernel
theorem dJ2_getChar_3b067_3 : decode cJ2_getChar_3b067 3 = .ok (.ifCond .ne 25, 3) := by decide +kernel
theorem dJ2_getChar_3b067_6 : decode cJ2_getChar_3b067 6 = .ok (.iload_n 1, 1) := by decide +kernel
theorem dJ2_getChar_3b067_7 : decode cJ2_getChar_3b067 7 = .ok (.ifCond .lt 11, 3) := by decide +kernel
theorem dJ2_getChar_3b067_10 : decode cJ2_getChar_3b067 10 = .ok (.iload_n 1, 1) := by decide +kernel
theorem dJ2_getChar_3b067_11 : decode cJ2_getChar_3b067 11 = .ok (.aload_n 0, 1) := by decide +kernel
theorem dJ2_getChar_3b067_12 : decode cJ2_getChar_3b067 12 = .ok (.invokestatic 48, 3) := by decide +kernel
theorem dJ2_getChar_3b067_15 : decode cJ2_getChar_3b067 15 = .ok (.if_icmp .lt 13, 3) := by decide +kernel
theorem dJ2_getChar_3b067_18 : decode cJ2_getChar_3b067 18 = .ok (.new 52, 3) := by decide +kernel
theorem dJ2_getChar_3b067_21 : decode cJ2_getChar_3b067 21 = .ok (.dup, 1) := by decide +kernel
theorem dJ2_getChar_3b067_22 : decode cJ2_getChar_3b067 22 = .ok (.ldc 54, 2) := by decide +kernel
theorem dJ2_getChar_3b067_24 : decode cJ2_getChar_3b067 24 = .ok (.invokespecial 56, 3) := by decide +kernel
theorem dJ2_getChar_3b067_27 : decode cJ2_getChar_3b067 27 = .ok (.athrow, 1) := by decide +kernel
theorem dJ2_getChar_3b067_28 : decode cJ2_getChar_3b067 28 = .ok (.iload_n 1, 1) := by decide +kernel
theorem dJ2_getChar_3b067_29 : decode cJ2_getChar_3b067 29 = .ok (.iconst 1, 1) := by decide +kernel
theorem dJ2_getChar_3b067_30 : decode cJ2_getChar_3b067 30 = .ok (.ishl, 1) := by decide +kernel
theorem dJ2_getChar_3b067_31 : decode cJ2_getChar_3b067 31 = .ok (.istore_n 1, 1) := by decide +kernel
theorem dJ2_getChar_3b067_32 : decode cJ2_getChar_3b067 32 = .ok (.aload_n 0, 1) := by decide +kernel
theorem dJ2_getChar_3b067_33 : decode cJ2_getChar_3b067 33 = .ok (.iload_n 1, 1) := by decide +kernel
theorem dJ2_getChar_3b067_34 : decode cJ2_getChar_3b067 34 = .ok (.iinc 1 1, 3) := by decide +kernel
theorem dJ2_getChar_3b067_37 : decode cJ2_getChar_3b067 37 = .ok (.baload, 1) := by decide +kernel
theorem dJ2_getChar_3b067_38 : decode cJ2_getChar_3b067 38 = .ok (.sipush 255, 3) := by decide +kernel
theorem dJ2_getChar_3b067_41 : decode cJ2_getChar_3b067 41 = .ok (.iand, 1) := by decide +kernel
theorem dJ2_getChar_3b067_42 : decode cJ2_getChar_3b067 42 = .ok (.getstatic 59, 3) := by decide +kernel
theorem dJ2_getChar_3b067_45 : decode cJ2_getChar_3b067 45 = .ok (.ishl, 1) := by decide +kernel
theorem dJ2_getChar_3b067_46 : decode cJ2_getChar_3b067 46 = .ok (.aload_n 0, 1) := by decide +kernel
theorem dJ2_getChar_3b067_47 : decode cJ2_getChar_3b067 47 = .ok (.iload_n 1, 1) := by decide +kernel
theorem dJ2_getChar_3b067_48 : decode cJ2_getChar_3b067 48 = .ok (.baload, 1) := by decide +kernel
theorem dJ2_getChar_3b067_49 : decode cJ2_getChar_3b067 49 = .ok (.sipush 255, 3) := by decide +kernel
theorem dJ2_getChar_3b067_52 : decode cJ2_getChar_3b067 52 = .ok (.iand, 1) := by decide +kernel
theorem dJ2_getChar_3b067_53 : decode cJ2_getChar_3b067 53 = .ok (.getstatic 63, 3) := by decide +kernel
theorem dJ2_getChar_3b067_56 : decode cJ2_getChar_3b067 56 = .ok (.ishl, 1) := by decide +kernel
theorem dJ2_getChar_3b067_57 : decode cJ2_getChar_3b067 57 = .ok (.ior, 1) := by decide +kernel
theorem dJ2_getChar_3b067_58 : decode cJ2_getChar_3b067 58 = .ok (.i2c, 1) := by decide +kernel
theorem dJ2_getChar_3b067_59 : decode cJ2_getChar_3b067 59 = .ok (.ireturn, 1) := by decide +kernel
theorem dJ2_length_9d52b_0 : decode cJ2_length_9d52b 0 = .ok (.aload_n 0, 1) := by decide +kernel
theorem dJ2_length_9d52b_1 : decode cJ2_length_9d52b 1 = .ok (.arraylength, 1) := by decide +kernel
theorem dJ2_length_9d52b_2 : decode cJ2_length_9d52b 2 = .ok (.iconst 1, 1) := by decide +kernel
theorem dJ2_length_9d52b_3 : decode cJ2_length_9d52b 3 = .ok (.ishr, 1) := by decide +kernel
theorem dJ2_length_9d52b_4 : decode cJ2_length_9d52b 4 = .ok (.ireturn, 1) := by decide +kernel
theorem dJ2_charAt_3b067_0 : decode cJ2_charAt_3b067 0 = .ok (.iload_n 1, 1) := by decide +kernel
theorem dJ2_charAt_3b067_1 : decode cJ2_charAt_3b067 1 = .ok (.aload_n 0, 1) := by decide +kernel
theorem dJ2_charAt_3b067_2 : decode cJ2_charAt_3b067 2 = .ok (.invokestatic 67, 3) := by decide +kernel
theorem dJ2_charAt_3b067_5 : decode cJ2_charAt_3b067 5 = .ok (.aload_n 0, 1) := by decide +kernel
theorem dJ2_charAt_3b067_6 : decode cJ2_charAt_3b067 6 = .ok (.iload_n 1, 1) := by decide +kernel
theorem dJ2_charAt_3b067_7 : decode cJ2_charAt_3b067 7 = .ok (.invokestatic 71, 3) := by decide +kernel
theorem dJ2_charAt_3b067_10 : decode cJ2_charAt_3b067 10 = .ok (.ireturn, 1) := by decide +kernel
theorem dJ2_checkIndex_2214a_0 : decode cJ2_checkIndex_2214a 0 = .ok (.iload_n 0, 1) := by decide +kernel
theorem dJ2_checkIndex_2214a_1 : decode cJ2_checkIndex_2214a 1 = .ok (.aload_n 1, 1) := by decide +kernel
theorem dJ2_checkIndex_2214a_2 : decode cJ2_checkIndex_2214a 2 = .ok (.invokestatic 48, 3) := by decide +kernel
theorem dJ2_checkIndex_2214a_5 : decode cJ2_checkIndex_2214a 5 = .ok (.invokestatic 414, 3) := by decide +kernel
theorem dJ2_checkIndex_2214a_8 : decode cJ2_checkIndex_2214a 8 = .ok (.return_, 1) := by decide +kernel
theorem dJ3_checkIndex_8e157_0 : decode cJ3_checkIndex_8e157 0 = .ok (.iload_n 0, 1) := by decide +kernel
theorem dJ3_checkIndex_8e157_1 : decode cJ3_checkIndex_8e157 1 = .ok (.ifCond .lt 8, 3) := by decide +kernel
theorem dJ3_checkIndex_8e157_4 : decode cJ3_checkIndex_8e157 4 = .ok (.iload_n 0, 1) := by decide +kernel
theorem dJ3_checkIndex_8e157_5 : decode cJ3_checkIndex_8e157 5 = .ok (.iload_n 1, 1) := by decide +kernel
theorem dJ3_checkIndex_8e157_6 : decode cJ3_checkIndex_8e157 6 = .ok (.if_icmp .lt 10, 3) := by decide +kernel
theorem dJ3_checkIndex_8e157_9 : decode cJ3_checkIndex_8e157 9 = .ok (.aload_n 2, 1) := by decide +kernel
theorem dJ3_checkIndex_8e157_10 : decode cJ3_checkIndex_8e157 10 = .ok (.iload_n 0, 1) := by decide +kernel
theorem dJ3_checkIndex_8e157_11 : decode cJ3_checkIndex_8e157 11 = .ok (.iload_n 1, 1) := by decide +kernel
theorem dJ3_checkIndex_8e157_12 : decode cJ3_checkIndex_8e157 12 = .ok (.invokestatic 95, 3) := by decide +kernel
theorem dJ3_checkIndex_8e157_15 : decode cJ3_checkIndex_8e157 15 = .ok (.athrow, 1) := by decide +kernel
theorem dJ3_checkIndex_8e157_16 : decode cJ3_checkIndex_8e157 16 = .ok (.iload_n 0, 1) := by decide +kernel
theorem dJ3_checkIndex_8e157_17 : decode cJ3_checkIndex_8e157 17 = .ok (.ireturn, 1) := by decide +kernel
theorem dL_law_0 : decode cL_law 0 = .ok (.new 7, 3) := by decide +kernel
theorem dL_law_3 : decode cL_law 3 = .ok (.dup, 1) := by decide +kernel
theorem dL_law_4 : decode cL_law 4 = .ok (.invokespecial 9, 3) := by decide +kernel
theorem dL_law_7 : decode cL_law 7 = .ok (.astore_n 1, 1) := by decide +kernel
theorem dL_law_8 : decode cL_law 8 = .ok (.new 10, 3) := by decide +kernel
theorem dL_law_11 : decode cL_law 11 = .ok (.dup, 1) := by decide +kernel
theorem dL_law_12 : decode cL_law 12 = .ok (.invokespecial 12, 3) := by decide +kernel
theorem dL_law_15 : decode cL_law 15 = .ok (.astore_n 2, 1) := by decide +kernel
theorem dL_law_16 : decode cL_law 16 = .ok (.iconst 0, 1) := by decide +kernel
theorem dL_law_17 : decode cL_law 17 = .ok (.istore_n 3, 1) := by decide +kernel
theorem dL_law_18 : decode cL_law 18 = .ok (.iload_n 3, 1) := by decide +kernel
theorem dL_law_19 : decode cL_law 19 = .ok (.aload_n 0, 1) := by decide +kernel
theorem dL_law_20 : decode cL_law 20 = .ok (.arraylength, 1) := by decide +kernel
theorem dL_law_21 : decode cL_law 21 = .ok (.bipush 6, 2) := by decide +kernel
theorem dL_law_23 : decode cL_law 23 = .ok (.isub, 1) := by decide +kernel
theorem dL_law_24 : decode cL_law 24 = .ok (.if_icmp .gt 1482, 3) := by decide +kernel
theorem dL_law_27 : decode cL_law 27 = .ok (.aload_n 0, 1) := by decide +kernel
theorem dL_law_28 : decode cL_law 28 = .ok (.iload_n 3, 1) := by decide +kernel
theorem dL_law_29 : decode cL_law 29 = .ok (.iaload, 1) := by decide +kernel
theorem dL_law_30 : decode cL_law 30 = .ok (.bipush 63, 2) := by decide +kernel
theorem dL_law_32 : decode cL_law 32 = .ok (.iand, 1) := by decide +kernel
theorem dL_law_33 : decode cL_law 33 = .ok (.tableswitch 1467 0 45 #[199, 222, 255, 298, 331, 354, 377, 400, 433, 456, 479, 512, 535, 558, 571, 604, 637, 680, 703, 726, 759, 782, 815, 848, 881, 914, 947, 970, 993, 1016, 1039, 1062, 1095, 1108, 1121, 1154, 1187, 1230, 1273, 1336, 1359, 1382, 1395, 1408, 1421, 1444], 199) := by decide +kernel
theorem dL_law_232 : decode cL_law 232 = .ok (.aload_n 1, 1) := by decide +kernel
theorem dL_law_233 : decode cL_law 233 = .ok (.aload_n 0, 1) := by decide +kernel
theorem dL_law_234 : decode cL_law 234 = .ok (.iload_n 3, 1) := by decide +kernel
theorem dL_law_235 : decode cL_law 235 = .ok (.iconst 1, 1) := by decide +kernel
theorem dL_law_236 : decode cL_law 236 = .ok (.iadd, 1) := by decide +kernel
theorem dL_law_237 : decode cL_law 237 = .ok (.iaload, 1) := by decide +kernel
theorem dL_law_238 : decode cL_law 238 = .ok (.invokevirtual 13, 3) := by decide +kernel
theorem dL_law_241 : decode cL_law 241 = .ok (.aload_n 2, 1) := by decide +kernel
theorem dL_law_242 : decode cL_law 242 = .ok (.aload_n 0, 1) := by decide +kernel
theorem dL_law_243 : decode cL_law 243 = .ok (.iload_n 3, 1) := by decide +kernel
theorem dL_law_244 : decode cL_law 244 = .ok (.iconst 1, 1) := by decide +kernel
theorem dL_law_245 : decode cL_law 245 = .ok (.iadd, 1) := by decide +kernel
theorem dL_law_246 : decode cL_law 246 = .ok (.iaload, 1) := by decide +kernel
theorem dL_law_247 : decode cL_law 247 = .ok (.invokevirtual 17, 3) := by decide +kernel
theorem dL_law_250 : decode cL_law 250 = .ok (.if_icmp .eq 1250, 3) := by decide +kernel
theorem dL_law_253 : decode cL_law 253 = .ok (.iconst 0, 1) := by decide +kernel
theorem dL_law_254 : decode cL_law 254 = .ok (.ireturn, 1) := by decide +kernel
theorem dL_law_255 : decode cL_law 255 = .ok (.aload_n 1, 1) := by decide +kernel
theorem dL_law_256 : decode cL_law 256 = .ok (.aload_n 0, 1) := by decide +kernel
theorem dL_law_257 : decode cL_law 257 = .ok (.iload_n 3, 1) := by decide +kernel
theorem dL_law_258 : decode cL_law 258 = .ok (.iconst 1, 1) := by decide +kernel
theorem dL_law_259 : decode cL_law 259 = .ok (.iadd, 1) := by decide +kernel
theorem dL_law_260 : decode cL_law 260 = .ok (.iaload, 1) := by decide +kernel
theorem dL_law_261 : decode cL_law 261 = .ok (.aload_n 0, 1) := by decide +kernel
theorem dL_law_262 : decode cL_law 262 = .ok (.iload_n 3, 1) := by decide +kernel
theorem dL_law_263 : decode cL_law 263 = .ok (.iconst 2, 1) := by decide +kernel
theorem dL_law_264 : decode cL_law 264 = .ok (.iadd, 1) := by decide +kernel
theorem dL_law_265 : decode cL_law 265 = .ok (.iaload, 1) := by decide +kernel
theorem dL_law_266 : decode cL_law 266 = .ok (.invokevirtual 18, 3) := by decide +kernel
theorem dL_law_269 : decode cL_law 269 = .ok (.aload_n 2, 1) := by decide +kernel
theorem dL_law_270 : decode cL_law 270 = .ok (.aload_n 0, 1) := by decide +kernel
theorem dL_law_271 : decode cL_law 271 = .ok (.iload_n 3, 1) := by decide +kernel
theorem dL_law_272 : decode cL_law 272 = .ok (.iconst 1, 1) := by decide +kernel
theorem dL_law_273 : decode cL_law 273 = .ok (.iadd, 1) := by decide +kernel
theorem dL_law_274 : decode cL_law 274 = .ok (.iaload, 1) := by decide +kernel
theorem dL_law_275 : decode cL_law 275 = .ok (.aload_n 0, 1) := by decide +kernel
theorem dL_law_276 : decode cL_law 276 = .ok (.iload_n 3, 1) := by decide +kernel
theorem dL_law_277 : decode cL_law 277 = .ok (.iconst 2, 1) := by decide +kernel
theorem dL_law_278 : decode cL_law 278 = .ok (.iadd, 1) := by decide +kernel
theorem dL_law_279 : decode cL_law 279 = .ok (.iaload, 1) := by decide +kernel
theorem dL_law_280 : decode cL_law 280 = .ok (.invokevirtual 22, 3) := by decide +kernel
theorem dL_law_283 : decode cL_law 283 = .ok (.if_icmp .eq 1217, 3) := by decide +kernel
theorem dL_law_286 : decode cL_law 286 = .ok (.iconst 0, 1) := by decide +kernel
theorem dL_law_287 : decode cL_law 287 = .ok (.ireturn, 1) := by decide +kernel
theorem dL_law_288 : decode cL_law 288 = .ok (.aload_n 1, 1) := by decide +kernel
theorem dL_law_289 : decode cL_law 289 = .ok (.aload_n 0, 1) := by decide +kernel
theorem dL_law_290 : decode cL_law 290 = .ok (.iload_n 3, 1) := by decide +kernel
theorem dL_law_291 : decode cL_law 291 = .ok (.iconst 1, 1) := by decide +kernel
theorem dL_law_292 : decode cL_law 292 = .ok (.iadd, 1) := by decide +kernel
theorem dL_law_293 : decode cL_law 293 = .ok (.iaload, 1) := by decide +kernel
theorem dL_law_294 : decode cL_law 294 = .ok (.aload_n 0, 1) := by decide +kernel
theorem dL_law_295 : decode cL_law 295 = .ok (.iload_n 3, 1) := by decide +kernel
theorem dL_law_296 : decode cL_law 296 = .ok (.iconst 2, 1) := by decide +kernel
theorem dL_law_297 : decode cL_law 297 = .ok (.iadd, 1) := by decide +kernel
theorem dL_law_298 : decode cL_law 298 = .ok (.iaload, 1) := by decide +kernel
theorem dL_law_299 : decode cL_law 299 = .ok (.aload_n 0, 1) := by decide +kernel
theorem dL_law_300 : decode cL_law 300 = .ok (.iload_n 3, 1) := by decide +kernel
theorem dL_law_301 : decode cL_law 301 = .ok (.iconst 3, 1) := by decide +kernel
theorem dL_law_302 : decode cL_law 302 = .ok (.iadd, 1) := by decide +kernel
theorem dL_law_303 : decode cL_law 303 = .ok (.iaload, 1) := by decide +kernel
theorem dL_law_304 : decode cL_law 304 = .ok (.invokevirtual 23, 3) := by decide +kernel
theorem dL_law_307 : decode cL_law 307 = .ok (.aload_n 2, 1) := by decide +kernel
theorem dL_law_308 : decode cL_law 308 = .ok (.aload_n 0, 1) := by decide +kernel
theorem dL_law_309 : decode cL_law 309 = .ok (.iload_n 3, 1) := by decide +kernel
theorem dL_law_310 : decode cL_law 310 = .ok (.iconst 1, 1) := by decide +kernel
theorem dL_law_311 : decode cL_law 311 = .ok (.iadd, 1) := by decide +kernel
theorem dL_law_312 : decode cL_law 312 = .ok (.iaload, 1) := by decide +kernel
theorem dL_law_313 : decode cL_law 313 = .ok (.aload_n 0, 1) := by decide +kernel
theorem dL_law_314 : decode cL_law 314 = .ok (.iload_n 3, 1) := by decide +kernel
theorem dL_law_315 : decode cL_law 315 = .ok (.iconst 2, 1) := by decide +kernel
theorem dL_law_316 : decode cL_law 316 = .ok (.iadd, 1) := by decide +kernel
theorem dL_law_317 : decode cL_law 317 = .ok (.iaload, 1) := by decide +kernel
theorem dL_law_318 : decode cL_law 318 = .ok (.aload_n 0, 1) := by decide +kernel
theorem dL_law_319 : decode cL_law 319 = .ok (.iload_n 3, 1) := by decide +kernel
theorem dL_law_320 : decode cL_law 320 = .ok (.iconst 3, 1) := by decide +kernel
theorem dL_law_321 : decode cL_law 321 = .ok (.iadd, 1) := by decide +kernel
theorem dL_law_322 : decode cL_law 322 = .ok (.iaload, 1) := by decide +kernel
theorem dL_law_323 : decode cL_law 323 = .ok (.invokevirtual 27, 3) := by decide +kernel
theorem dL_law_326 : decode cL_law 326 = .ok (.if_icmp .eq 1174, 3) := by decide +kernel
theorem dL_law_329 : decode cL_law 329 = .ok (.iconst 0, 1) := by decide +kernel
theorem dL_law_330 : decode cL_law 330 = .ok (.ireturn, 1) := by decide +kernel
theorem dL_law_331 : decode cL_law 331 = .ok (.aload_n 1, 1) := by decide +kernel
theorem dL_law_332 : decode cL_law 332 = .ok (.aload_n 0, 1) := by decide +kernel
theorem dL_law_333 : decode cL_law 333 = .ok (.iload_n 3, 1) := by decide +kernel
theorem dL_law_334 : decode cL_law 334 = .ok (.iconst 1, 1) := by decide +kernel
theorem dL_law_335 : decode cL_law 335 = .ok (.iadd, 1) := by decide +kernel
theorem dL_law_336 : decode cL_law 336 = .ok (.iaload, 1) := by decide +kernel
theorem dL_law_337 : decode cL_law 337 = .ok (.aload_n 0, 1) := by decide +kernel
theorem dL_law_338 : decode cL_law 338 = .ok (.iload_n 3, 1) := by decide +kernel
theorem dL_law_339 : decode cL_law 339 = .ok (.iconst 2, 1) := by decide +kernel
theorem dL_law_340 : decode cL_law 340 = .ok (.iadd, 1) := by decide +kernel
theorem dL_law_341 : decode cL_law 341 = .ok (.iaload, 1) := by decide +kernel
theorem dL_law_342 : decode cL_law 342 = .ok (.invokevirtual 28, 3) := by decide +kernel
theorem dL_law_345 : decode cL_law 345 = .ok (.aload_n 2, 1) := by decide +kernel
theorem dL_law_346 : decode cL_law 346 = .ok (.aload_n 0, 1) := by decide +kernel
theorem dL_law_347 : decode cL_law 347 = .ok (.iload_n 3, 1) := by decide +kernel
theorem dL_law_348 : decode cL_law 348 = .ok (.iconst 1, 1) := by decide +kernel
theorem dL_law_349 : decode cL_law 349 = .ok (.iadd, 1) := by decide +kernel
theorem dL_law_350 : decode cL_law 350 = .ok (.iaload, 1) := by decide +kernel
theorem dL_law_351 : decode cL_law 351 = .ok (.aload_n 0, 1) := by decide +kernel
theorem dL_law_352 : decode cL_law 352 = .ok (.iload_n 3, 1) := by decide +kernel
theorem dL_law_353 : decode cL_law 353 = .ok (.iconst 2, 1) := by decide +kernel
theorem dL_law_354 : decode cL_law 354 = .ok (.iadd, 1) := by decide +kernel
theorem dL_law_355 : decode cL_law 355 = .ok (.iaload, 1) := by decide +kernel
theorem dL_law_356 : decode cL_law 356 = .ok (.invokevirtual 31, 3) := by decide +kernel
theorem dL_law_359 : decode cL_law 359 = .ok (.if_icmp .eq 1141, 3) := by decide +kernel
theorem dL_law_362 : decode cL_law 362 = .ok (.iconst 0, 1) := by decide +kernel
theorem dL_law_363 : decode cL_law 363 = .ok (.ireturn, 1) := by decide +kernel
theorem dL_law_364 : decode cL_law 364 = .ok (.aload_n 1, 1) := by decide +kernel
theorem dL_law_365 : decode cL_law 365 = .ok (.aload_n 0, 1) := by decide +kernel
theorem dL_law_366 : decode cL_law 366 = .ok (.iload_n 3, 1) := by decide +kernel
theorem dL_law_367 : decode cL_law 367 = .ok (.iconst 1, 1) := by decide +kernel
theorem dL_law_368 : decode cL_law 368 = .ok (.iadd, 1) := by decide +kernel
theorem dL_law_369 : decode cL_law 369 = .ok (.iaload, 1) := by decide +kernel
theorem dL_law_370 : decode cL_law 370 = .ok (.invokevirtual 32, 3) := by decide +kernel
theorem dL_law_373 : decode cL_law 373 = .ok (.aload_n 2, 1) := by decide +kernel
theorem dL_law_374 : decode cL_law 374 = .ok (.aload_n 0, 1) := by decide +kernel
theorem dL_law_375 : decode cL_law 375 = .ok (.iload_n 3, 1) := by decide +kernel
theorem dL_law_376 : decode cL_law 376 = .ok (.iconst 1, 1) := by decide +kernel
theorem dL_law_377 : decode cL_law 377 = .ok (.iadd, 1) := by decide +kernel
theorem dL_law_378 : decode cL_law 378 = .ok (.iaload, 1) := by decide +kernel
theorem dL_law_379 : decode cL_law 379 = .ok (.invokevirtual 35, 3) := by decide +kernel
theorem dL_law_382 : decode cL_law 382 = .ok (.if_icmp .eq 1118, 3) := by decide +kernel
theorem dL_law_385 : decode cL_law 385 = .ok (.iconst 0, 1) := by decide +kernel
theorem dL_law_386 : decode cL_law 386 = .ok (.ireturn, 1) := by decide +kernel
theorem dL_law_387 : decode cL_law 387 = .ok (.aload_n 1, 1) := by decide +kernel
theorem dL_law_388 : decode cL_law 388 = .ok (.aload_n 0, 1) := by decide +kernel
theorem dL_law_389 : decode cL_law 389 = .ok (.iload_n 3, 1) := by decide +kernel
theorem dL_law_390 : decode cL_law 390 = .ok (.iconst 1, 1) := by decide +kernel
theorem dL_law_391 : decode cL_law 391 = .ok (.iadd, 1) := by decide +kernel
theorem dL_law_392 : decode cL_law 392 = .ok (.iaload, 1) := by decide +kernel
theorem dL_law_393 : decode cL_law 393 = .ok (.invokevirtual 36, 3) := by decide +kernel
theorem dL_law_396 : decode cL_law 396 = .ok (.aload_n 2, 1) := by decide +kernel
theorem dL_law_397 : decode cL_law 397 = .ok (.aload_n 0, 1) := by decide +kernel
theorem dL_law_398 : decode cL_law 398 = .ok (.iload_n 3, 1) := by decide +kernel
theorem dL_law_399 : decode cL_law 399 = .ok (.iconst 1, 1) := by decide +kernel
theorem dL_law_400 : decode cL_law 400 = .ok (.iadd, 1) := by decide +kernel
theorem dL_law_401 : decode cL_law 401 = .ok (.iaload, 1) := by decide +kernel
theorem dL_law_402 : decode cL_law 402 = .ok (.invokevirtual 39, 3) := by decide +kernel
theorem dL_law_405 : decode cL_law 405 = .ok (.if_icmp .eq 1095, 3) := by decide +kernel
theorem dL_law_408 : decode cL_law 408 = .ok (.iconst 0, 1) := by decide +kernel
theorem dL_law_409 : decode cL_law 409 = .ok (.ireturn, 1) := by decide +kernel
theorem dL_law_410 : decode cL_law 410 = .ok (.aload_n 1, 1) := by decide +kernel
theorem dL_law_411 : decode cL_law 411 = .ok (.aload_n 0, 1) := by decide +kernel
theorem dL_law_412 : decode cL_law 412 = .ok (.iload_n 3, 1) := by decide +kernel
theorem dL_law_413 : decode cL_law 413 = .ok (.iconst 1, 1) := by decide +kernel
theorem dL_law_414 : decode cL_law 414 = .ok (.iadd, 1) := by decide +kernel
theorem dL_law_415 : decode cL_law 415 = .ok (.iaload, 1) := by decide +kernel
theorem dL_law_416 : decode cL_law 416 = .ok (.invokevirtual 40, 3) := by decide +kernel
theorem dL_law_419 : decode cL_law 419 = .ok (.aload_n 2, 1) := by decide +kernel
theorem dL_law_420 : decode cL_law 420 = .ok (.aload_n 0, 1) := by decide +kernel
theorem dL_law_421 : decode cL_law 421 = .ok (.iload_n 3, 1) := by decide +kernel
theorem dL_law_422 : decode cL_law 422 = .ok (.iconst 1, 1) := by decide +kernel
theorem dL_law_423 : decode cL_law 423 = .ok (.iadd, 1) := by decide +kernel
theorem dL_law_424 : decode cL_law 424 = .ok (.iaload, 1) := by decide +kernel
theorem dL_law_425 : decode cL_law 425 = .ok (.invokevirtual 43, 3) := by decide +kernel
theorem dL_law_428 : decode cL_law 428 = .ok (.if_icmp .eq 1072, 3) := by decide +kernel
theorem dL_law_431 : decode cL_law 431 = .ok (.iconst 0, 1) := by decide +kernel
theorem dL_law_432 : decode cL_law 432 = .ok (.ireturn, 1) := by decide +kernel
theorem dL_law_433 : decode cL_law 433 = .ok (.aload_n 1, 1) := by decide +kernel
theorem dL_law_434 : decode cL_law 434 = .ok (.aload_n 0, 1) := by decide +kernel
theorem dL_law_435 : decode cL_law 435 = .ok (.iload_n 3, 1) := by decide +kernel
theorem dL_law_436 : decode cL_law 436 = .ok (.iconst 1, 1) := by decide +kernel
theorem dL_law_437 : decode cL_law 437 = .ok (.iadd, 1) := by decide +kernel
theorem dL_law_438 : decode cL_law 438 = .ok (.iaload, 1) := by decide +kernel
theorem dL_law_439 : decode cL_law 439 = .ok (.aload_n 0, 1) := by decide +kernel
theorem dL_law_440 : decode cL_law 440 = .ok (.iload_n 3, 1) := by decide +kernel
theorem dL_law_441 : decode cL_law 441 = .ok (.iconst 2, 1) := by decide +kernel
theorem dL_law_442 : decode cL_law 442 = .ok (.iadd, 1) := by decide +kernel
theorem dL_law_443 : decode cL_law 443 = .ok (.iaload, 1) := by decide +kernel
theorem dL_law_444 : decode cL_law 444 = .ok (.invokevirtual 44, 3) := by decide +kernel
theorem dL_law_447 : decode cL_law 447 = .ok (.aload_n 2, 1) := by decide +kernel
theorem dL_law_448 : decode cL_law 448 = .ok (.aload_n 0, 1) := by decide +kernel
theorem dL_law_449 : decode cL_law 449 = .ok (.iload_n 3, 1) := by decide +kernel
theorem dL_law_450 : decode cL_law 450 = .ok (.iconst 1, 1) := by decide +kernel
theorem dL_law_451 : decode cL_law 451 = .ok (.iadd, 1) := by decide +kernel
theorem dL_law_452 : decode cL_law 452 = .ok (.iaload, 1) := by decide +kernel
theorem dL_law_453 : decode cL_law 453 = .ok (.aload_n 0, 1) := by decide +kernel
theorem dL_law_454 : decode cL_law 454 = .ok (.iload_n 3, 1) := by decide +kernel
theorem dL_law_455 : decode cL_law 455 = .ok (.iconst 2, 1) := by decide +kernel
theorem dL_law_456 : decode cL_law 456 = .ok (.iadd, 1) := by decide +kernel
theorem dL_law_457 : decode cL_law 457 = .ok (.iaload, 1) := by decide +kernel
theorem dL_law_458 : decode cL_law 458 = .ok (.invokevirtual 47, 3) := by decide +kernel
theorem dL_law_461 : decode cL_law 461 = .ok (.if_icmp .eq 1039, 3) := by decide +kernel
theorem dL_law_464 : decode cL_law 464 = .ok (.iconst 0, 1) := by decide +kernel
theorem dL_law_465 : decode cL_law 465 = .ok (.ireturn, 1) := by decide +kernel
theorem dL_law_466 : decode cL_law 466 = .ok (.aload_n 1, 1) := by decide +kernel
theorem dL_law_467 : decode cL_law 467 = .ok (.aload_n 0, 1) := by decide +kernel
theorem dL_law_468 : decode cL_law 468 = .ok (.iload_n 3, 1) := by decide +kernel
theorem dL_law_469 : decode cL_law 469 = .ok (.iconst 1, 1) := by decide +kernel
theorem dL_law_470 : decode cL_law 470 = .ok (.iadd, 1) := by decide +kernel
theorem dL_law_471 : decode cL_law 471 = .ok (.iaload, 1) := by decide +kernel
theorem dL_law_472 : decode cL_law 472 = .ok (.invokevirtual 48, 3) := by decide +kernel
theorem dL_law_475 : decode cL_law 475 = .ok (.aload_n 2, 1) := by decide +kernel
theorem dL_law_476 : decode cL_law 476 = .ok (.aload_n 0, 1) := by decide +kernel
theorem dL_law_477 : decode cL_law 477 = .ok (.iload_n 3, 1) := by decide +kernel
theorem dL_law_478 : decode cL_law 478 = .ok (.iconst 1, 1) := by decide +kernel
theorem dL_law_479 : decode cL_law 479 = .ok (.iadd, 1) := by decide +kernel
theorem dL_law_480 : decode cL_law 480 = .ok (.iaload, 1) := by decide +kernel
theorem dL_law_481 : decode cL_law 481 = .ok (.invokevirtual 51, 3) := by decide +kernel
theorem dL_law_484 : decode cL_law 484 = .ok (.if_icmp .eq 1016, 3) := by decide +kernel
theorem dL_law_487 : decode cL_law 487 = .ok (.iconst 0, 1) := by decide +kernel
theorem dL_law_488 : decode cL_law 488 = .ok (.ireturn, 1) := by decide +kernel
theorem dL_law_489 : decode cL_law 489 = .ok (.aload_n 1, 1) := by decide +kernel
theorem dL_law_490 : decode cL_law 490 = .ok (.aload_n 0, 1) := by decide +kernel
theorem dL_law_491 : decode cL_law 491 = .ok (.iload_n 3, 1) := by decide +kernel
theorem dL_law_492 : decode cL_law 492 = .ok (.iconst 1, 1) := by decide +kernel
theorem dL_law_493 : decode cL_law 493 = .ok (.iadd, 1) := by decide +kernel
theorem dL_law_494 : decode cL_law 494 = .ok (.iaload, 1) := by decide +kernel
theorem dL_law_495 : decode cL_law 495 = .ok (.invokevirtual 52, 3) := by decide +kernel
theorem dL_law_498 : decode cL_law 498 = .ok (.aload_n 2, 1) := by decide +kernel
theorem dL_law_499 : decode cL_law 499 = .ok (.aload_n 0, 1) := by decide +kernel
theorem dL_law_500 : decode cL_law 500 = .ok (.iload_n 3, 1) := by decide +kernel
theorem dL_law_501 : decode cL_law 501 = .ok (.iconst 1, 1) := by decide +kernel
theorem dL_law_502 : decode cL_law 502 = .ok (.iadd, 1) := by decide +kernel
theorem dL_law_503 : decode cL_law 503 = .ok (.iaload, 1) := by decide +kernel
theorem dL_law_504 : decode cL_law 504 = .ok (.invokevirtual 55, 3) := by decide +kernel
theorem dL_law_507 : decode cL_law 507 = .ok (.if_icmp .eq 993, 3) := by decide +kernel
theorem dL_law_510 : decode cL_law 510 = .ok (.iconst 0, 1) := by decide +kernel
theorem dL_law_511 : decode cL_law 511 = .ok (.ireturn, 1) := by decide +kernel
theorem dL_law_512 : decode cL_law 512 = .ok (.aload_n 1, 1) := by decide +kernel
theorem dL_law_513 : decode cL_law 513 = .ok (.aload_n 0, 1) := by decide +kernel
theorem dL_law_514 : decode cL_law 514 = .ok (.iload_n 3, 1) := by decide +kernel
theorem dL_law_515 : decode cL_law 515 = .ok (.iconst 1, 1) := by decide +kernel
theorem dL_law_516 : decode cL_law 516 = .ok (.iadd, 1) := by decide +kernel
theorem dL_law_517 : decode cL_law 517 = .ok (.iaload, 1) := by decide +kernel
theorem dL_law_518 : decode cL_law 518 = .ok (.aload_n 0, 1) := by decide +kernel
theorem dL_law_519 : decode cL_law 519 = .ok (.iload_n 3, 1) := by decide +kernel
theorem dL_law_520 : decode cL_law 520 = .ok (.iconst 2, 1) := by decide +kernel
theorem dL_law_521 : decode cL_law 521 = .ok (.iadd, 1) := by decide +kernel
theorem dL_law_522 : decode cL_law 522 = .ok (.iaload, 1) := by decide +kernel
theorem dL_law_523 : decode cL_law 523 = .ok (.invokevirtual 56, 3) := by decide +kernel
theorem dL_law_526 : decode cL_law 526 = .ok (.aload_n 2, 1) := by decide +kernel
theorem dL_law_527 : decode cL_law 527 = .ok (.aload_n 0, 1) := by decide +kernel
theorem dL_law_528 : decode cL_law 528 = .ok (.iload_n 3, 1) := by decide +kernel
theorem dL_law_529 : decode cL_law 529 = .ok (.iconst 1, 1) := by decide +kernel
theorem dL_law_530 : decode cL_law 530 = .ok (.iadd, 1) := by decide +kernel
theorem dL_law_531 : decode cL_law 531 = .ok (.iaload, 1) := by decide +kernel
theorem dL_law_532 : decode cL_law 532 = .ok (.aload_n 0, 1) := by decide +kernel
theorem dL_law_533 : decode cL_law 533 = .ok (.iload_n 3, 1) := by decide +kernel
theorem dL_law_534 : decode cL_law 534 = .ok (.iconst 2, 1) := by decide +kernel
theorem dL_law_535 : decode cL_law 535 = .ok (.iadd, 1) := by decide +kernel
theorem dL_law_536 : decode cL_law 536 = .ok (.iaload, 1) := by decide +kernel
theorem dL_law_537 : decode cL_law 537 = .ok (.invokevirtual 59, 3) := by decide +kernel
theorem dL_law_540 : decode cL_law 540 = .ok (.if_icmp .eq 960, 3) := by decide +kernel
theorem dL_law_543 : decode cL_law 543 = .ok (.iconst 0, 1) := by decide +kernel
theorem dL_law_544 : decode cL_law 544 = .ok (.ireturn, 1) := by decide +kernel
theorem dL_law_545 : decode cL_law 545 = .ok (.aload_n 1, 1) := by decide +kernel
theorem dL_law_546 : decode cL_law 546 = .ok (.aload_n 0, 1) := by decide +kernel
theorem dL_law_547 : decode cL_law 547 = .ok (.iload_n 3, 1) := by decide +kernel
theorem dL_law_548 : decode cL_law 548 = .ok (.iconst 1, 1) := by decide +kernel
theorem dL_law_549 : decode cL_law 549 = .ok (.iadd, 1) := by decide +kernel
theorem dL_law_550 : decode cL_law 550 = .ok (.iaload, 1) := by decide +kernel
theorem dL_law_551 : decode cL_law 551 = .ok (.invokevirtual 60, 3) := by decide +kernel
theorem dL_law_554 : decode cL_law 554 = .ok (.aload_n 2, 1) := by decide +kernel
theorem dL_law_555 : decode cL_law 555 = .ok (.aload_n 0, 1) := by decide +kernel
theorem dL_law_556 : decode cL_law 556 = .ok (.iload_n 3, 1) := by decide +kernel
theorem dL_law_557 : decode cL_law 557 = .ok (.iconst 1, 1) := by decide +kernel
theorem dL_law_558 : decode cL_law 558 = .ok (.iadd, 1) := by decide +kernel
theorem dL_law_559 : decode cL_law 559 = .ok (.iaload, 1) := by decide +kernel
theorem dL_law_560 : decode cL_law 560 = .ok (.invokevirtual 63, 3) := by decide +kernel
theorem dL_law_563 : decode cL_law 563 = .ok (.if_icmp .eq 937, 3) := by decide +kernel
theorem dL_law_566 : decode cL_law 566 = .ok (.iconst 0, 1) := by decide +kernel
theorem dL_law_567 : decode cL_law 567 = .ok (.ireturn, 1) := by decide +kernel
theorem dL_law_568 : decode cL_law 568 = .ok (.aload_n 1, 1) := by decide +kernel
theorem dL_law_569 : decode cL_law 569 = .ok (.aload_n 0, 1) := by decide +kernel
theorem dL_law_570 : decode cL_law 570 = .ok (.iload_n 3, 1) := by decide +kernel
theorem dL_law_571 : decode cL_law 571 = .ok (.iconst 1, 1) := by decide +kernel
theorem dL_law_572 : decode cL_law 572 = .ok (.iadd, 1) := by decide +kernel
theorem dL_law_573 : decode cL_law 573 = .ok (.iaload, 1) := by decide +kernel
theorem dL_law_574 : decode cL_law 574 = .ok (.invokevirtual 64, 3) := by decide +kernel
theorem dL_law_577 : decode cL_law 577 = .ok (.aload_n 2, 1) := by decide +kernel
theorem dL_law_578 : decode cL_law 578 = .ok (.aload_n 0, 1) := by decide +kernel
theorem dL_law_579 : decode cL_law 579 = .ok (.iload_n 3, 1) := by decide +kernel
theorem dL_law_580 : decode cL_law 580 = .ok (.iconst 1, 1) := by decide +kernel
theorem dL_law_581 : decode cL_law 581 = .ok (.iadd, 1) := by decide +kernel
theorem dL_law_582 : decode cL_law 582 = .ok (.iaload, 1) := by decide +kernel
theorem dL_law_583 : decode cL_law 583 = .ok (.invokevirtual 67, 3) := by decide +kernel
theorem dL_law_586 : decode cL_law 586 = .ok (.if_icmp .eq 914, 3) := by decide +kernel
theorem dL_law_589 : decode cL_law 589 = .ok (.iconst 0, 1) := by decide +kernel
theorem dL_law_590 : decode cL_law 590 = .ok (.ireturn, 1) := by decide +kernel
theorem dL_law_591 : decode cL_law 591 = .ok (.aload_n 1, 1) := by decide +kernel
theorem dL_law_592 : decode cL_law 592 = .ok (.invokevirtual 68, 3) := by decide +kernel
theorem dL_law_595 : decode cL_law 595 = .ok (.aload_n 2, 1) := by decide +kernel
theorem dL_law_596 : decode cL_law 596 = .ok (.invokevirtual 72, 3) := by decide +kernel
theorem dL_law_599 : decode cL_law 599 = .ok (.if_icmp .eq 901, 3) := by decide +kernel
theorem dL_law_602 : decode cL_law 602 = .ok (.iconst 0, 1) := by decide +kernel
theorem dL_law_603 : decode cL_law 603 = .ok (.ireturn, 1) := by decide +kernel
theorem dL_law_604 : decode cL_law 604 = .ok (.aload_n 1, 1) := by decide +kernel
theorem dL_law_605 : decode cL_law 605 = .ok (.aload_n 0, 1) := by decide +kernel
theorem dL_law_606 : decode cL_law 606 = .ok (.iload_n 3, 1) := by decide +kernel
theorem dL_law_607 : decode cL_law 607 = .ok (.iconst 1, 1) := by decide +kernel
theorem dL_law_608 : decode cL_law 608 = .ok (.iadd, 1) := by decide +kernel
theorem dL_law_609 : decode cL_law 609 = .ok (.iaload, 1) := by decide +kernel
theorem dL_law_610 : decode cL_law 610 = .ok (.aload_n 0, 1) := by decide +kernel
theorem dL_law_611 : decode cL_law 611 = .ok (.iload_n 3, 1) := by decide +kernel
theorem dL_law_612 : decode cL_law 612 = .ok (.iconst 2, 1) := by decide +kernel
theorem dL_law_613 : decode cL_law 613 = .ok (.iadd, 1) := by decide +kernel
theorem dL_law_614 : decode cL_law 614 = .ok (.iaload, 1) := by decide +kernel
theorem dL_law_615 : decode cL_law 615 = .ok (.invokevirtual 73, 3) := by decide +kernel
theorem dL_law_618 : decode cL_law 618 = .ok (.aload_n 2, 1) := by decide +kernel
theorem dL_law_619 : decode cL_law 619 = .ok (.aload_n 0, 1) := by decide +kernel
theorem dL_law_620 : decode cL_law 620 = .ok (.iload_n 3, 1) := by decide +kernel
theorem dL_law_621 : decode cL_law 621 = .ok (.iconst 1, 1) := by decide +kernel
theorem dL_law_622 : decode cL_law 622 = .ok (.iadd, 1) := by decide +kernel
theorem dL_law_623 : decode cL_law 623 = .ok (.iaload, 1) := by decide +kernel
theorem dL_law_624 : decode cL_law 624 = .ok (.aload_n 0, 1) := by decide +kernel
theorem dL_law_625 : decode cL_law 625 = .ok (.iload_n 3, 1) := by decide +kernel
theorem dL_law_626 : decode cL_law 626 = .ok (.iconst 2, 1) := by decide +kernel
theorem dL_law_627 : decode cL_law 627 = .ok (.iadd, 1) := by decide +kernel
theorem dL_law_628 : decode cL_law 628 = .ok (.iaload, 1) := by decide +kernel
theorem dL_law_629 : decode cL_law 629 = .ok (.invokevirtual 76, 3) := by decide +kernel
theorem dL_law_632 : decode cL_law 632 = .ok (.if_icmp .eq 868, 3) := by decide +kernel
theorem dL_law_635 : decode cL_law 635 = .ok (.iconst 0, 1) := by decide +kernel
theorem dL_law_636 : decode cL_law 636 = .ok (.ireturn, 1) := by decide +kernel
theorem dL_law_637 : decode cL_law 637 = .ok (.aload_n 1, 1) := by decide +kernel
theorem dL_law_638 : decode cL_law 638 = .ok (.aload_n 0, 1) := by decide +kernel
theorem dL_law_639 : decode cL_law 639 = .ok (.iload_n 3, 1) := by decide +kernel
theorem dL_law_640 : decode cL_law 640 = .ok (.iconst 1, 1) := by decide +kernel
theorem dL_law_641 : decode cL_law 641 = .ok (.iadd, 1) := by decide +kernel
theorem dL_law_642 : decode cL_law 642 = .ok (.iaload, 1) := by decide +kernel
theorem dL_law_643 : decode cL_law 643 = .ok (.aload_n 0, 1) := by decide +kernel
theorem dL_law_644 : decode cL_law 644 = .ok (.iload_n 3, 1) := by decide +kernel
theorem dL_law_645 : decode cL_law 645 = .ok (.iconst 2, 1) := by decide +kernel
theorem dL_law_646 : decode cL_law 646 = .ok (.iadd, 1) := by decide +kernel
theorem dL_law_647 : decode cL_law 647 = .ok (.iaload, 1) := by decide +kernel
theorem dL_law_648 : decode cL_law 648 = .ok (.invokevirtual 77, 3) := by decide +kernel
theorem dL_law_651 : decode cL_law 651 = .ok (.aload_n 2, 1) := by decide +kernel
theorem dL_law_652 : decode cL_law 652 = .ok (.aload_n 0, 1) := by decide +kernel
theorem dL_law_653 : decode cL_law 653 = .ok (.iload_n 3, 1) := by decide +kernel
theorem dL_law_654 : decode cL_law 654 = .ok (.iconst 1, 1) := by decide +kernel
theorem dL_law_655 : decode cL_law 655 = .ok (.iadd, 1) := by decide +kernel
theorem dL_law_656 : decode cL_law 656 = .ok (.iaload, 1) := by decide +kernel
theorem dL_law_657 : decode cL_law 657 = .ok (.aload_n 0, 1) := by decide +kernel
theorem dL_law_658 : decode cL_law 658 = .ok (.iload_n 3, 1) := by decide +kernel
theorem dL_law_659 : decode cL_law 659 = .ok (.iconst 2, 1) := by decide +kernel
theorem dL_law_660 : decode cL_law 660 = .ok (.iadd, 1) := by decide +kernel
theorem dL_law_661 : decode cL_law 661 = .ok (.iaload, 1) := by decide +kernel
theorem dL_law_662 : decode cL_law 662 = .ok (.invokevirtual 80, 3) := by decide +kernel
theorem dL_law_665 : decode cL_law 665 = .ok (.if_icmp .eq 835, 3) := by decide +kernel
theorem dL_law_668 : decode cL_law 668 = .ok (.iconst 0, 1) := by decide +kernel
theorem dL_law_669 : decode cL_law 669 = .ok (.ireturn, 1) := by decide +kernel
theorem dL_law_670 : decode cL_law 670 = .ok (.aload_n 1, 1) := by decide +kernel
theorem dL_law_671 : decode cL_law 671 = .ok (.aload_n 0, 1) := by decide +kernel
theorem dL_law_672 : decode cL_law 672 = .ok (.iload_n 3, 1) := by decide +kernel
theorem dL_law_673 : decode cL_law 673 = .ok (.iconst 1, 1) := by decide +kernel
theorem dL_law_674 : decode cL_law 674 = .ok (.iadd, 1) := by decide +kernel
theorem dL_law_675 : decode cL_law 675 = .ok (.iaload, 1) := by decide +kernel
theorem dL_law_676 : decode cL_law 676 = .ok (.aload_n 0, 1) := by decide +kernel
theorem dL_law_677 : decode cL_law 677 = .ok (.iload_n 3, 1) := by decide +kernel
theorem dL_law_678 : decode cL_law 678 = .ok (.iconst 2, 1) := by decide +kernel
theorem dL_law_679 : decode cL_law 679 = .ok (.iadd, 1) := by decide +kernel
theorem dL_law_680 : decode cL_law 680 = .ok (.iaload, 1) := by decide +kernel
theorem dL_law_681 : decode cL_law 681 = .ok (.aload_n 0, 1) := by decide +kernel
theorem dL_law_682 : decode cL_law 682 = .ok (.iload_n 3, 1) := by decide +kernel
theorem dL_law_683 : decode cL_law 683 = .ok (.iconst 3, 1) := by decide +kernel
theorem dL_law_684 : decode cL_law 684 = .ok (.iadd, 1) := by decide +kernel
theorem dL_law_685 : decode cL_law 685 = .ok (.iaload, 1) := by decide +kernel
theorem dL_law_686 : decode cL_law 686 = .ok (.invokevirtual 81, 3) := by decide +kernel
theorem dL_law_689 : decode cL_law 689 = .ok (.aload_n 2, 1) := by decide +kernel
theorem dL_law_690 : decode cL_law 690 = .ok (.aload_n 0, 1) := by decide +kernel
theorem dL_law_691 : decode cL_law 691 = .ok (.iload_n 3, 1) := by decide +kernel
theorem dL_law_692 : decode cL_law 692 = .ok (.iconst 1, 1) := by decide +kernel
theorem dL_law_693 : decode cL_law 693 = .ok (.iadd, 1) := by decide +kernel
theorem dL_law_694 : decode cL_law 694 = .ok (.iaload, 1) := by decide +kernel
theorem dL_law_695 : decode cL_law 695 = .ok (.aload_n 0, 1) := by decide +kernel
theorem dL_law_696 : decode cL_law 696 = .ok (.iload_n 3, 1) := by decide +kernel
theorem dL_law_697 : decode cL_law 697 = .ok (.iconst 2, 1) := by decide +kernel
theorem dL_law_698 : decode cL_law 698 = .ok (.iadd, 1) := by decide +kernel
theorem dL_law_699 : decode cL_law 699 = .ok (.iaload, 1) := by decide +kernel
theorem dL_law_700 : decode cL_law 700 = .ok (.aload_n 0, 1) := by decide +kernel
theorem dL_law_701 : decode cL_law 701 = .ok (.iload_n 3, 1) := by decide +kernel
theorem dL_law_702 : decode cL_law 702 = .ok (.iconst 3, 1) := by decide +kernel
theorem dL_law_703 : decode cL_law 703 = .ok (.iadd, 1) := by decide +kernel
theorem dL_law_704 : decode cL_law 704 = .ok (.iaload, 1) := by decide +kernel
theorem dL_law_705 : decode cL_law 705 = .ok (.invokevirtual 84, 3) := by decide +kernel
theorem dL_law_708 : decode cL_law 708 = .ok (.if_icmp .eq 792, 3) := by decide +kernel
theorem dL_law_711 : decode cL_law 711 = .ok (.iconst 0, 1) := by decide +kernel
theorem dL_law_712 : decode cL_law 712 = .ok (.ireturn, 1) := by decide +kernel
theorem dL_law_713 : decode cL_law 713 = .ok (.aload_n 1, 1) := by decide +kernel
theorem dL_law_714 : decode cL_law 714 = .ok (.aload_n 0, 1) := by decide +kernel
theorem dL_law_715 : decode cL_law 715 = .ok (.iload_n 3, 1) := by decide +kernel
theorem dL_law_716 : decode cL_law 716 = .ok (.iconst 1, 1) := by decide +kernel
theorem dL_law_717 : decode cL_law 717 = .ok (.iadd, 1) := by decide +kernel
theorem dL_law_718 : decode cL_law 718 = .ok (.iaload, 1) := by decide +kernel
theorem dL_law_719 : decode cL_law 719 = .ok (.invokevirtual 85, 3) := by decide +kernel
theorem dL_law_722 : decode cL_law 722 = .ok (.aload_n 2, 1) := by decide +kernel
theorem dL_law_723 : decode cL_law 723 = .ok (.aload_n 0, 1) := by decide +kernel
theorem dL_law_724 : decode cL_law 724 = .ok (.iload_n 3, 1) := by decide +kernel
theorem dL_law_725 : decode cL_law 725 = .ok (.iconst 1, 1) := by decide +kernel
theorem dL_law_726 : decode cL_law 726 = .ok (.iadd, 1) := by decide +kernel
theorem dL_law_727 : decode cL_law 727 = .ok (.iaload, 1) := by decide +kernel
theorem dL_law_728 : decode cL_law 728 = .ok (.invokevirtual 88, 3) := by decide +kernel
theorem dL_law_731 : decode cL_law 731 = .ok (.if_icmp .eq 769, 3) := by decide +kernel
theorem dL_law_734 : decode cL_law 734 = .ok (.iconst 0, 1) := by decide +kernel
theorem dL_law_735 : decode cL_law 735 = .ok (.ireturn, 1) := by decide +kernel
theorem dL_law_736 : decode cL_law 736 = .ok (.aload_n 1, 1) := by decide +kernel
theorem dL_law_737 : decode cL_law 737 = .ok (.aload_n 0, 1) := by decide +kernel
theorem dL_law_738 : decode cL_law 738 = .ok (.iload_n 3, 1) := by decide +kernel
theorem dL_law_739 : decode cL_law 739 = .ok (.iconst 1, 1) := by decide +kernel
theorem dL_law_740 : decode cL_law 740 = .ok (.iadd, 1) := by decide +kernel
theorem dL_law_741 : decode cL_law 741 = .ok (.iaload, 1) := by decide +kernel
theorem dL_law_742 : decode cL_law 742 = .ok (.invokevirtual 89, 3) := by decide +kernel
theorem dL_law_745 : decode cL_law 745 = .ok (.aload_n 2, 1) := by decide +kernel
theorem dL_law_746 : decode cL_law 746 = .ok (.aload_n 0, 1) := by decide +kernel
theorem dL_law_747 : decode cL_law 747 = .ok (.iload_n 3, 1) := by decide +kernel
theorem dL_law_748 : decode cL_law 748 = .ok (.iconst 1, 1) := by decide +kernel
theorem dL_law_749 : decode cL_law 749 = .ok (.iadd, 1) := by decide +kernel
theorem dL_law_750 : decode cL_law 750 = .ok (.iaload, 1) := by decide +kernel
theorem dL_law_751 : decode cL_law 751 = .ok (.invokevirtual 92, 3) := by decide +kernel
theorem dL_law_754 : decode cL_law 754 = .ok (.if_icmp .eq 746, 3) := by decide +kernel
theorem dL_law_757 : decode cL_law 757 = .ok (.iconst 0, 1) := by decide +kernel
theorem dL_law_758 : decode cL_law 758 = .ok (.ireturn, 1) := by decide +kernel
theorem dL_law_759 : decode cL_law 759 = .ok (.aload_n 1, 1) := by decide +kernel
theorem dL_law_760 : decode cL_law 760 = .ok (.aload_n 0, 1) := by decide +kernel
theorem dL_law_761 : decode cL_law 761 = .ok (.iload_n 3, 1) := by decide +kernel
theorem dL_law_762 : decode cL_law 762 = .ok (.iconst 1, 1) := by decide +kernel
theorem dL_law_763 : decode cL_law 763 = .ok (.iadd, 1) := by decide +kernel
theorem dL_law_764 : decode cL_law 764 = .ok (.iaload, 1) := by decide +kernel
theorem dL_law_765 : decode cL_law 765 = .ok (.aload_n 0, 1) := by decide +kernel
theorem dL_law_766 : decode cL_law 766 = .ok (.iload_n 3, 1) := by decide +kernel
theorem dL_law_767 : decode cL_law 767 = .ok (.iconst 2, 1) := by decide +kernel
theorem dL_law_768 : decode cL_law 768 = .ok (.iadd, 1) := by decide +kernel
theorem dL_law_769 : decode cL_law 769 = .ok (.iaload, 1) := by decide +kernel
theorem dL_law_770 : decode cL_law 770 = .ok (.invokevirtual 93, 3) := by decide +kernel
theorem dL_law_773 : decode cL_law 773 = .ok (.aload_n 2, 1) := by decide +kernel
theorem dL_law_774 : decode cL_law 774 = .ok (.aload_n 0, 1) := by decide +kernel
theorem dL_law_775 : decode cL_law 775 = .ok (.iload_n 3, 1) := by decide +kernel
theorem dL_law_776 : decode cL_law 776 = .ok (.iconst 1, 1) := by decide +kernel
theorem dL_law_777 : decode cL_law 777 = .ok (.iadd, 1) := by decide +kernel
theorem dL_law_778 : decode cL_law 778 = .ok (.iaload, 1) := by decide +kernel
theorem dL_law_779 : decode cL_law 779 = .ok (.aload_n 0, 1) := by decide +kernel
theorem dL_law_780 : decode cL_law 780 = .ok (.iload_n 3, 1) := by decide +kernel
theorem dL_law_781 : decode cL_law 781 = .ok (.iconst 2, 1) := by decide +kernel
theorem dL_law_782 : decode cL_law 782 = .ok (.iadd, 1) := by decide +kernel
theorem dL_law_783 : decode cL_law 783 = .ok (.iaload, 1) := by decide +kernel
theorem dL_law_784 : decode cL_law 784 = .ok (.invokevirtual 96, 3) := by decide +kernel
theorem dL_law_787 : decode cL_law 787 = .ok (.if_icmp .eq 713, 3) := by decide +kernel
theorem dL_law_790 : decode cL_law 790 = .ok (.iconst 0, 1) := by decide +kernel
theorem dL_law_791 : decode cL_law 791 = .ok (.ireturn, 1) := by decide +kernel
theorem dL_law_792 : decode cL_law 792 = .ok (.aload_n 1, 1) := by decide +kernel
theorem dL_law_793 : decode cL_law 793 = .ok (.aload_n 0, 1) := by decide +kernel
theorem dL_law_794 : decode cL_law 794 = .ok (.iload_n 3, 1) := by decide +kernel
theorem dL_law_795 : decode cL_law 795 = .ok (.iconst 1, 1) := by decide +kernel
theorem dL_law_796 : decode cL_law 796 = .ok (.iadd, 1) := by decide +kernel
theorem dL_law_797 : decode cL_law 797 = .ok (.iaload, 1) := by decide +kernel
theorem dL_law_798 : decode cL_law 798 = .ok (.invokevirtual 97, 3) := by decide +kernel
theorem dL_law_801 : decode cL_law 801 = .ok (.aload_n 2, 1) := by decide +kernel
theorem dL_law_802 : decode cL_law 802 = .ok (.aload_n 0, 1) := by decide +kernel
theorem dL_law_803 : decode cL_law 803 = .ok (.iload_n 3, 1) := by decide +kernel
theorem dL_law_804 : decode cL_law 804 = .ok (.iconst 1, 1) := by decide +kernel
theorem dL_law_805 : decode cL_law 805 = .ok (.iadd, 1) := by decide +kernel
theorem dL_law_806 : decode cL_law 806 = .ok (.iaload, 1) := by decide +kernel
theorem dL_law_807 : decode cL_law 807 = .ok (.invokevirtual 100, 3) := by decide +kernel
theorem dL_law_810 : decode cL_law 810 = .ok (.if_icmp .eq 690, 3) := by decide +kernel
theorem dL_law_813 : decode cL_law 813 = .ok (.iconst 0, 1) := by decide +kernel
theorem dL_law_814 : decode cL_law 814 = .ok (.ireturn, 1) := by decide +kernel
theorem dL_law_815 : decode cL_law 815 = .ok (.aload_n 1, 1) := by decide +kernel
theorem dL_law_816 : decode cL_law 816 = .ok (.aload_n 0, 1) := by decide +kernel
theorem dL_law_817 : decode cL_law 817 = .ok (.iload_n 3, 1) := by decide +kernel
theorem dL_law_818 : decode cL_law 818 = .ok (.iconst 1, 1) := by decide +kernel
theorem dL_law_819 : decode cL_law 819 = .ok (.iadd, 1) := by decide +kernel
theorem dL_law_820 : decode cL_law 820 = .ok (.iaload, 1) := by decide +kernel
theorem dL_law_821 : decode cL_law 821 = .ok (.aload_n 0, 1) := by decide +kernel
theorem dL_law_822 : decode cL_law 822 = .ok (.iload_n 3, 1) := by decide +kernel
theorem dL_law_823 : decode cL_law 823 = .ok (.iconst 2, 1) := by decide +kernel
theorem dL_law_824 : decode cL_law 824 = .ok (.iadd, 1) := by decide +kernel
theorem dL_law_825 : decode cL_law 825 = .ok (.iaload, 1) := by decide +kernel
theorem dL_law_826 : decode cL_law 826 = .ok (.invokevirtual 101, 3) := by decide +kernel
theorem dL_law_829 : decode cL_law 829 = .ok (.aload_n 2, 1) := by decide +kernel
theorem dL_law_830 : decode cL_law 830 = .ok (.aload_n 0, 1) := by decide +kernel
theorem dL_law_831 : decode cL_law 831 = .ok (.iload_n 3, 1) := by decide +kernel
theorem dL_law_832 : decode cL_law 832 = .ok (.iconst 1, 1) := by decide +kernel
theorem dL_law_833 : decode cL_law 833 = .ok (.iadd, 1) := by decide +kernel
theorem dL_law_834 : decode cL_law 834 = .ok (.iaload, 1) := by decide +kernel
theorem dL_law_835 : decode cL_law 835 = .ok (.aload_n 0, 1) := by decide +kernel
theorem dL_law_836 : decode cL_law 836 = .ok (.iload_n 3, 1) := by decide +kernel
theorem dL_law_837 : decode cL_law 837 = .ok (.iconst 2, 1) := by decide +kernel
theorem dL_law_838 : decode cL_law 838 = .ok (.iadd, 1) := by decide +kernel
theorem dL_law_839 : decode cL_law 839 = .ok (.iaload, 1) := by decide +kernel
theorem dL_law_840 : decode cL_law 840 = .ok (.invokevirtual 104, 3) := by decide +kernel
theorem dL_law_843 : decode cL_law 843 = .ok (.if_icmp .eq 657, 3) := by decide +kernel
theorem dL_law_846 : decode cL_law 846 = .ok (.iconst 0, 1) := by decide +kernel
theorem dL_law_847 : decode cL_law 847 = .ok (.ireturn, 1) := by decide +kernel
theorem dL_law_848 : decode cL_law 848 = .ok (.aload_n 1, 1) := by decide +kernel
theorem dL_law_849 : decode cL_law 849 = .ok (.aload_n 0, 1) := by decide +kernel
theorem dL_law_850 : decode cL_law 850 = .ok (.iload_n 3, 1) := by decide +kernel
theorem dL_law_851 : decode cL_law 851 = .ok (.iconst 1, 1) := by decide +kernel
theorem dL_law_852 : decode cL_law 852 = .ok (.iadd, 1) := by decide +kernel
theorem dL_law_853 : decode cL_law 853 = .ok (.iaload, 1) := by decide +kernel
theorem dL_law_854 : decode cL_law 854 = .ok (.aload_n 0, 1) := by decide +kernel
theorem dL_law_855 : decode cL_law 855 = .ok (.iload_n 3, 1) := by decide +kernel
theorem dL_law_856 : decode cL_law 856 = .ok (.iconst 2, 1) := by decide +kernel
theorem dL_law_857 : decode cL_law 857 = .ok (.iadd, 1) := by decide +kernel
theorem dL_law_858 : decode cL_law 858 = .ok (.iaload, 1) := by decide +kernel
theorem dL_law_859 : decode cL_law 859 = .ok (.invokevirtual 105, 3) := by decide +kernel
theorem dL_law_862 : decode cL_law 862 = .ok (.aload_n 2, 1) := by decide +kernel
theorem dL_law_863 : decode cL_law 863 = .ok (.aload_n 0, 1) := by decide +kernel
theorem dL_law_864 : decode cL_law 864 = .ok (.iload_n 3, 1) := by decide +kernel
theorem dL_law_865 : decode cL_law 865 = .ok (.iconst 1, 1) := by decide +kernel
theorem dL_law_866 : decode cL_law 866 = .ok (.iadd, 1) := by decide +kernel
theorem dL_law_867 : decode cL_law 867 = .ok (.iaload, 1) := by decide +kernel
theorem dL_law_868 : decode cL_law 868 = .ok (.aload_n 0, 1) := by decide +kernel
theorem dL_law_869 : decode cL_law 869 = .ok (.iload_n 3, 1) := by decide +kernel
theorem dL_law_870 : decode cL_law 870 = .ok (.iconst 2, 1) := by decide +kernel
theorem dL_law_871 : decode cL_law 871 = .ok (.iadd, 1) := by decide +kernel
theorem dL_law_872 : decode cL_law 872 = .ok (.iaload, 1) := by decide +kernel
theorem dL_law_873 : decode cL_law 873 = .ok (.invokevirtual 108, 3) := by decide +kernel
theorem dL_law_876 : decode cL_law 876 = .ok (.if_icmp .eq 624, 3) := by decide +kernel
theorem dL_law_879 : decode cL_law 879 = .ok (.iconst 0, 1) := by decide +kernel
theorem dL_law_880 : decode cL_law 880 = .ok (.ireturn, 1) := by decide +kernel
theorem dL_law_881 : decode cL_law 881 = .ok (.aload_n 1, 1) := by decide +kernel
theorem dL_law_882 : decode cL_law 882 = .ok (.aload_n 0, 1) := by decide +kernel
theorem dL_law_883 : decode cL_law 883 = .ok (.iload_n 3, 1) := by decide +kernel
theorem dL_law_884 : decode cL_law 884 = .ok (.iconst 1, 1) := by decide +kernel
theorem dL_law_885 : decode cL_law 885 = .ok (.iadd, 1) := by decide +kernel
theorem dL_law_886 : decode cL_law 886 = .ok (.iaload, 1) := by decide +kernel
theorem dL_law_887 : decode cL_law 887 = .ok (.aload_n 0, 1) := by decide +kernel
theorem dL_law_888 : decode cL_law 888 = .ok (.iload_n 3, 1) := by decide +kernel
theorem dL_law_889 : decode cL_law 889 = .ok (.iconst 2, 1) := by decide +kernel
theorem dL_law_890 : decode cL_law 890 = .ok (.iadd, 1) := by decide +kernel
theorem dL_law_891 : decode cL_law 891 = .ok (.iaload, 1) := by decide +kernel
theorem dL_law_892 : decode cL_law 892 = .ok (.invokevirtual 109, 3) := by decide +kernel
theorem dL_law_895 : decode cL_law 895 = .ok (.aload_n 2, 1) := by decide +kernel
theorem dL_law_896 : decode cL_law 896 = .ok (.aload_n 0, 1) := by decide +kernel
theorem dL_law_897 : decode cL_law 897 = .ok (.iload_n 3, 1) := by decide +kernel
theorem dL_law_898 : decode cL_law 898 = .ok (.iconst 1, 1) := by decide +kernel
theorem dL_law_899 : decode cL_law 899 = .ok (.iadd, 1) := by decide +kernel
theorem dL_law_900 : decode cL_law 900 = .ok (.iaload, 1) := by decide +kernel
theorem dL_law_901 : decode cL_law 901 = .ok (.aload_n 0, 1) := by decide +kernel
theorem dL_law_902 : decode cL_law 902 = .ok (.iload_n 3, 1) := by decide +kernel
theorem dL_law_903 : decode cL_law 903 = .ok (.iconst 2, 1) := by decide +kernel
theorem dL_law_904 : decode cL_law 904 = .ok (.iadd, 1) := by decide +kernel
theorem dL_law_905 : decode cL_law 905 = .ok (.iaload, 1) := by decide +kernel
theorem dL_law_906 : decode cL_law 906 = .ok (.invokevirtual 112, 3) := by decide +kernel
theorem dL_law_909 : decode cL_law 909 = .ok (.if_icmp .eq 591, 3) := by decide +kernel
theorem dL_law_912 : decode cL_law 912 = .ok (.iconst 0, 1) := by decide +kernel
theorem dL_law_913 : decode cL_law 913 = .ok (.ireturn, 1) := by decide +kernel
theorem dL_law_914 : decode cL_law 914 = .ok (.aload_n 1, 1) := by decide +kernel
theorem dL_law_915 : decode cL_law 915 = .ok (.aload_n 0, 1) := by decide +kernel
theorem dL_law_916 : decode cL_law 916 = .ok (.iload_n 3, 1) := by decide +kernel
theorem dL_law_917 : decode cL_law 917 = .ok (.iconst 1, 1) := by decide +kernel
theorem dL_law_918 : decode cL_law 918 = .ok (.iadd, 1) := by decide +kernel
theorem dL_law_919 : decode cL_law 919 = .ok (.iaload, 1) := by decide +kernel
theorem dL_law_920 : decode cL_law 920 = .ok (.aload_n 0, 1) := by decide +kernel
theorem dL_law_921 : decode cL_law 921 = .ok (.iload_n 3, 1) := by decide +kernel
theorem dL_law_922 : decode cL_law 922 = .ok (.iconst 2, 1) := by decide +kernel
theorem dL_law_923 : decode cL_law 923 = .ok (.iadd, 1) := by decide +kernel
theorem dL_law_924 : decode cL_law 924 = .ok (.iaload, 1) := by decide +kernel
theorem dL_law_925 : decode cL_law 925 = .ok (.invokevirtual 113, 3) := by decide +kernel
theorem dL_law_928 : decode cL_law 928 = .ok (.aload_n 2, 1) := by decide +kernel
theorem dL_law_929 : decode cL_law 929 = .ok (.aload_n 0, 1) := by decide +kernel
theorem dL_law_930 : decode cL_law 930 = .ok (.iload_n 3, 1) := by decide +kernel
theorem dL_law_931 : decode cL_law 931 = .ok (.iconst 1, 1) := by decide +kernel
theorem dL_law_932 : decode cL_law 932 = .ok (.iadd, 1) := by decide +kernel
theorem dL_law_933 : decode cL_law 933 = .ok (.iaload, 1) := by decide +kernel
theorem dL_law_934 : decode cL_law 934 = .ok (.aload_n 0, 1) := by decide +kernel
theorem dL_law_935 : decode cL_law 935 = .ok (.iload_n 3, 1) := by decide +kernel
theorem dL_law_936 : decode cL_law 936 = .ok (.iconst 2, 1) := by decide +kernel
theorem dL_law_937 : decode cL_law 937 = .ok (.iadd, 1) := by decide +kernel
theorem dL_law_938 : decode cL_law 938 = .ok (.iaload, 1) := by decide +kernel
theorem dL_law_939 : decode cL_law 939 = .ok (.invokevirtual 116, 3) := by decide +kernel
theorem dL_law_942 : decode cL_law 942 = .ok (.if_icmp .eq 558, 3) := by decide +kernel
theorem dL_law_945 : decode cL_law 945 = .ok (.iconst 0, 1) := by decide +kernel
theorem dL_law_946 : decode cL_law 946 = .ok (.ireturn, 1) := by decide +kernel
theorem dL_law_947 : decode cL_law 947 = .ok (.aload_n 1, 1) := by decide +kernel
theorem dL_law_948 : decode cL_law 948 = .ok (.aload_n 0, 1) := by decide +kernel
theorem dL_law_949 : decode cL_law 949 = .ok (.iload_n 3, 1) := by decide +kernel
theorem dL_law_950 : decode cL_law 950 = .ok (.iconst 1, 1) := by decide +kernel
theorem dL_law_951 : decode cL_law 951 = .ok (.iadd, 1) := by decide +kernel
theorem dL_law_952 : decode cL_law 952 = .ok (.iaload, 1) := by decide +kernel
theorem dL_law_953 : decode cL_law 953 = .ok (.aload_n 0, 1) := by decide +kernel
theorem dL_law_954 : decode cL_law 954 = .ok (.iload_n 3, 1) := by decide +kernel
theorem dL_law_955 : decode cL_law 955 = .ok (.iconst 2, 1) := by decide +kernel
theorem dL_law_956 : decode cL_law 956 = .ok (.iadd, 1) := by decide +kernel
theorem dL_law_957 : decode cL_law 957 = .ok (.iaload, 1) := by decide +kernel
theorem dL_law_958 : decode cL_law 958 = .ok (.invokevirtual 117, 3) := by decide +kernel
theorem dL_law_961 : decode cL_law 961 = .ok (.aload_n 2, 1) := by decide +kernel
theorem dL_law_962 : decode cL_law 962 = .ok (.aload_n 0, 1) := by decide +kernel
theorem dL_law_963 : decode cL_law 963 = .ok (.iload_n 3, 1) := by decide +kernel
theorem dL_law_964 : decode cL_law 964 = .ok (.iconst 1, 1) := by decide +kernel
theorem dL_law_965 : decode cL_law 965 = .ok (.iadd, 1) := by decide +kernel
theorem dL_law_966 : decode cL_law 966 = .ok (.iaload, 1) := by decide +kernel
theorem dL_law_967 : decode cL_law 967 = .ok (.aload_n 0, 1) := by decide +kernel
theorem dL_law_968 : decode cL_law 968 = .ok (.iload_n 3, 1) := by decide +kernel
theorem dL_law_969 : decode cL_law 969 = .ok (.iconst 2, 1) := by decide +kernel
theorem dL_law_970 : decode cL_law 970 = .ok (.iadd, 1) := by decide +kernel
theorem dL_law_971 : decode cL_law 971 = .ok (.iaload, 1) := by decide +kernel
theorem dL_law_972 : decode cL_law 972 = .ok (.invokevirtual 120, 3) := by decide +kernel
theorem dL_law_975 : decode cL_law 975 = .ok (.if_icmp .eq 525, 3) := by decide +kernel
theorem dL_law_978 : decode cL_law 978 = .ok (.iconst 0, 1) := by decide +kernel
theorem dL_law_979 : decode cL_law 979 = .ok (.ireturn, 1) := by decide +kernel
theorem dL_law_980 : decode cL_law 980 = .ok (.aload_n 1, 1) := by decide +kernel
theorem dL_law_981 : decode cL_law 981 = .ok (.aload_n 0, 1) := by decide +kernel
theorem dL_law_982 : decode cL_law 982 = .ok (.iload_n 3, 1) := by decide +kernel
theorem dL_law_983 : decode cL_law 983 = .ok (.iconst 1, 1) := by decide +kernel
theorem dL_law_984 : decode cL_law 984 = .ok (.iadd, 1) := by decide +kernel
theorem dL_law_985 : decode cL_law 985 = .ok (.iaload, 1) := by decide +kernel
theorem dL_law_986 : decode cL_law 986 = .ok (.invokevirtual 121, 3) := by decide +kernel
theorem dL_law_989 : decode cL_law 989 = .ok (.aload_n 2, 1) := by decide +kernel
theorem dL_law_990 : decode cL_law 990 = .ok (.aload_n 0, 1) := by decide +kernel
theorem dL_law_991 : decode cL_law 991 = .ok (.iload_n 3, 1) := by decide +kernel
theorem dL_law_992 : decode cL_law 992 = .ok (.iconst 1, 1) := by decide +kernel
theorem dL_law_993 : decode cL_law 993 = .ok (.iadd, 1) := by decide +kernel
theorem dL_law_994 : decode cL_law 994 = .ok (.iaload, 1) := by decide +kernel
theorem dL_law_995 : decode cL_law 995 = .ok (.invokevirtual 124, 3) := by decide +kernel
theorem dL_law_998 : decode cL_law 998 = .ok (.if_icmp .eq 502, 3) := by decide +kernel
theorem dL_law_1001 : decode cL_law 1001 = .ok (.iconst 0, 1) := by decide +kernel
theorem dL_law_1002 : decode cL_law 1002 = .ok (.ireturn, 1) := by decide +kernel
theorem dL_law_1003 : decode cL_law 1003 = .ok (.aload_n 1, 1) := by decide +kernel
theorem dL_law_1004 : decode cL_law 1004 = .ok (.aload_n 0, 1) := by decide +kernel
theorem dL_law_1005 : decode cL_law 1005 = .ok (.iload_n 3, 1) := by decide +kernel
theorem dL_law_1006 : decode cL_law 1006 = .ok (.iconst 1, 1) := by decide +kernel
theorem dL_law_1007 : decode cL_law 1007 = .ok (.iadd, 1) := by decide +kernel
theorem dL_law_1008 : decode cL_law 1008 = .ok (.iaload, 1) := by decide +kernel
theorem dL_law_1009 : decode cL_law 1009 = .ok (.invokevirtual 125, 3) := by decide +kernel
theorem dL_law_1012 : decode cL_law 1012 = .ok (.aload_n 2, 1) := by decide +kernel
theorem dL_law_1013 : decode cL_law 1013 = .ok (.aload_n 0, 1) := by decide +kernel
theorem dL_law_1014 : decode cL_law 1014 = .ok (.iload_n 3, 1) := by decide +kernel
theorem dL_law_1015 : decode cL_law 1015 = .ok (.iconst 1, 1) := by decide +kernel
theorem dL_law_1016 : decode cL_law 1016 = .ok (.iadd, 1) := by decide +kernel
theorem dL_law_1017 : decode cL_law 1017 = .ok (.iaload, 1) := by decide +kernel
theorem dL_law_1018 : decode cL_law 1018 = .ok (.invokevirtual 128, 3) := by decide +kernel
theorem dL_law_1021 : decode cL_law 1021 = .ok (.if_icmp .eq 479, 3) := by decide +kernel
theorem dL_law_1024 : decode cL_law 1024 = .ok (.iconst 0, 1) := by decide +kernel
theorem dL_law_1025 : decode cL_law 1025 = .ok (.ireturn, 1) := by decide +kernel
theorem dL_law_1026 : decode cL_law 1026 = .ok (.aload_n 1, 1) := by decide +kernel
theorem dL_law_1027 : decode cL_law 1027 = .ok (.aload_n 0, 1) := by decide +kernel
theorem dL_law_1028 : decode cL_law 1028 = .ok (.iload_n 3, 1) := by decide +kernel
theorem dL_law_1029 : decode cL_law 1029 = .ok (.iconst 1, 1) := by decide +kernel
theorem dL_law_1030 : decode cL_law 1030 = .ok (.iadd, 1) := by decide +kernel
theorem dL_law_1031 : decode cL_law 1031 = .ok (.iaload, 1) := by decide +kernel
theorem dL_law_1032 : decode cL_law 1032 = .ok (.invokevirtual 129, 3) := by decide +kernel
theorem dL_law_1035 : decode cL_law 1035 = .ok (.aload_n 2, 1) := by decide +kernel
theorem dL_law_1036 : decode cL_law 1036 = .ok (.aload_n 0, 1) := by decide +kernel
theorem dL_law_1037 : decode cL_law 1037 = .ok (.iload_n 3, 1) := by decide +kernel
theorem dL_law_1038 : decode cL_law 1038 = .ok (.iconst 1, 1) := by decide +kernel
theorem dL_law_1039 : decode cL_law 1039 = .ok (.iadd, 1) := by decide +kernel
theorem dL_law_1040 : decode cL_law 1040 = .ok (.iaload, 1) := by decide +kernel
theorem dL_law_1041 : decode cL_law 1041 = .ok (.invokevirtual 132, 3) := by decide +kernel
theorem dL_law_1044 : decode cL_law 1044 = .ok (.if_icmp .eq 456, 3) := by decide +kernel
theorem dL_law_1047 : decode cL_law 1047 = .ok (.iconst 0, 1) := by decide +kernel
theorem dL_law_1048 : decode cL_law 1048 = .ok (.ireturn, 1) := by decide +kernel
theorem dL_law_1049 : decode cL_law 1049 = .ok (.aload_n 1, 1) := by decide +kernel
theorem dL_law_1050 : decode cL_law 1050 = .ok (.aload_n 0, 1) := by decide +kernel
theorem dL_law_1051 : decode cL_law 1051 = .ok (.iload_n 3, 1) := by decide +kernel
theorem dL_law_1052 : decode cL_law 1052 = .ok (.iconst 1, 1) := by decide +kernel
theorem dL_law_1053 : decode cL_law 1053 = .ok (.iadd, 1) := by decide +kernel
theorem dL_law_1054 : decode cL_law 1054 = .ok (.iaload, 1) := by decide +kernel
theorem dL_law_1055 : decode cL_law 1055 = .ok (.invokevirtual 133, 3) := by decide +kernel
theorem dL_law_1058 : decode cL_law 1058 = .ok (.aload_n 2, 1) := by decide +kernel
theorem dL_law_1059 : decode cL_law 1059 = .ok (.aload_n 0, 1) := by decide +kernel
theorem dL_law_1060 : decode cL_law 1060 = .ok (.iload_n 3, 1) := by decide +kernel
theorem dL_law_1061 : decode cL_law 1061 = .ok (.iconst 1, 1) := by decide +kernel
theorem dL_law_1062 : decode cL_law 1062 = .ok (.iadd, 1) := by decide +kernel
theorem dL_law_1063 : decode cL_law 1063 = .ok (.iaload, 1) := by decide +kernel
theorem dL_law_1064 : decode cL_law 1064 = .ok (.invokevirtual 136, 3) := by decide +kernel
theorem dL_law_1067 : decode cL_law 1067 = .ok (.if_icmp .eq 433, 3) := by decide +kernel
theorem dL_law_1070 : decode cL_law 1070 = .ok (.iconst 0, 1) := by decide +kernel
theorem dL_law_1071 : decode cL_law 1071 = .ok (.ireturn, 1) := by decide +kernel
theorem dL_law_1072 : decode cL_law 1072 = .ok (.aload_n 1, 1) := by decide +kernel
theorem dL_law_1073 : decode cL_law 1073 = .ok (.aload_n 0, 1) := by decide +kernel
theorem dL_law_1074 : decode cL_law 1074 = .ok (.iload_n 3, 1) := by decide +kernel
theorem dL_law_1075 : decode cL_law 1075 = .ok (.iconst 1, 1) := by decide +kernel
theorem dL_law_1076 : decode cL_law 1076 = .ok (.iadd, 1) := by decide +kernel
theorem dL_law_1077 : decode cL_law 1077 = .ok (.iaload, 1) := by decide +kernel
theorem dL_law_1078 : decode cL_law 1078 = .ok (.invokevirtual 137, 3) := by decide +kernel
theorem dL_law_1081 : decode cL_law 1081 = .ok (.aload_n 2, 1) := by decide +kernel
theorem dL_law_1082 : decode cL_law 1082 = .ok (.aload_n 0, 1) := by decide +kernel
theorem dL_law_1083 : decode cL_law 1083 = .ok (.iload_n 3, 1) := by decide +kernel
theorem dL_law_1084 : decode cL_law 1084 = .ok (.iconst 1, 1) := by decide +kernel
theorem dL_law_1085 : decode cL_law 1085 = .ok (.iadd, 1) := by decide +kernel
theorem dL_law_1086 : decode cL_law 1086 = .ok (.iaload, 1) := by decide +kernel
theorem dL_law_1087 : decode cL_law 1087 = .ok (.invokevirtual 140, 3) := by decide +kernel
theorem dL_law_1090 : decode cL_law 1090 = .ok (.if_icmp .eq 410, 3) := by decide +kernel
theorem dL_law_1093 : decode cL_law 1093 = .ok (.iconst 0, 1) := by decide +kernel
theorem dL_law_1094 : decode cL_law 1094 = .ok (.ireturn, 1) := by decide +kernel
theorem dL_law_1095 : decode cL_law 1095 = .ok (.aload_n 1, 1) := by decide +kernel
theorem dL_law_1096 : decode cL_law 1096 = .ok (.aload_n 0, 1) := by decide +kernel
theorem dL_law_1097 : decode cL_law 1097 = .ok (.iload_n 3, 1) := by decide +kernel
theorem dL_law_1098 : decode cL_law 1098 = .ok (.iconst 1, 1) := by decide +kernel
theorem dL_law_1099 : decode cL_law 1099 = .ok (.iadd, 1) := by decide +kernel
theorem dL_law_1100 : decode cL_law 1100 = .ok (.iaload, 1) := by decide +kernel
theorem dL_law_1101 : decode cL_law 1101 = .ok (.aload_n 0, 1) := by decide +kernel
theorem dL_law_1102 : decode cL_law 1102 = .ok (.iload_n 3, 1) := by decide +kernel
theorem dL_law_1103 : decode cL_law 1103 = .ok (.iconst 2, 1) := by decide +kernel
theorem dL_law_1104 : decode cL_law 1104 = .ok (.iadd, 1) := by decide +kernel
theorem dL_law_1105 : decode cL_law 1105 = .ok (.iaload, 1) := by decide +kernel
theorem dL_law_1106 : decode cL_law 1106 = .ok (.invokevirtual 141, 3) := by decide +kernel
theorem dL_law_1109 : decode cL_law 1109 = .ok (.aload_n 2, 1) := by decide +kernel
theorem dL_law_1110 : decode cL_law 1110 = .ok (.aload_n 0, 1) := by decide +kernel
theorem dL_law_1111 : decode cL_law 1111 = .ok (.iload_n 3, 1) := by decide +kernel
theorem dL_law_1112 : decode cL_law 1112 = .ok (.iconst 1, 1) := by decide +kernel
theorem dL_law_1113 : decode cL_law 1113 = .ok (.iadd, 1) := by decide +kernel
theorem dL_law_1114 : decode cL_law 1114 = .ok (.iaload, 1) := by decide +kernel
theorem dL_law_1115 : decode cL_law 1115 = .ok (.aload_n 0, 1) := by decide +kernel
theorem dL_law_1116 : decode cL_law 1116 = .ok (.iload_n 3, 1) := by decide +kernel
theorem dL_law_1117 : decode cL_law 1117 = .ok (.iconst 2, 1) := by decide +kernel
theorem dL_law_1118 : decode cL_law 1118 = .ok (.iadd, 1) := by decide +kernel
theorem dL_law_1119 : decode cL_law 1119 = .ok (.iaload, 1) := by decide +kernel
theorem dL_law_1120 : decode cL_law 1120 = .ok (.invokevirtual 144, 3) := by decide +kernel
theorem dL_law_1123 : decode cL_law 1123 = .ok (.if_icmp .eq 377, 3) := by decide +kernel
theorem dL_law_1126 : decode cL_law 1126 = .ok (.iconst 0, 1) := by decide +kernel
theorem dL_law_1127 : decode cL_law 1127 = .ok (.ireturn, 1) := by decide +kernel
theorem dL_law_1128 : decode cL_law 1128 = .ok (.aload_n 1, 1) := by decide +kernel
theorem dL_law_1129 : decode cL_law 1129 = .ok (.invokevirtual 145, 3) := by decide +kernel
theorem dL_law_1132 : decode cL_law 1132 = .ok (.aload_n 2, 1) := by decide +kernel
theorem dL_law_1133 : decode cL_law 1133 = .ok (.invokevirtual 148, 3) := by decide +kernel
theorem dL_law_1136 : decode cL_law 1136 = .ok (.if_icmp .eq 364, 3) := by decide +kernel
theorem dL_law_1139 : decode cL_law 1139 = .ok (.iconst 0, 1) := by decide +kernel
theorem dL_law_1140 : decode cL_law 1140 = .ok (.ireturn, 1) := by decide +kernel
theorem dL_law_1141 : decode cL_law 1141 = .ok (.aload_n 1, 1) := by decide +kernel
theorem dL_law_1142 : decode cL_law 1142 = .ok (.invokevirtual 149, 3) := by decide +kernel
theorem dL_law_1145 : decode cL_law 1145 = .ok (.aload_n 2, 1) := by decide +kernel
theorem dL_law_1146 : decode cL_law 1146 = .ok (.invokevirtual 152, 3) := by decide +kernel
theorem dL_law_1149 : decode cL_law 1149 = .ok (.if_icmp .eq 351, 3) := by decide +kernel
theorem dL_law_1152 : decode cL_law 1152 = .ok (.iconst 0, 1) := by decide +kernel
theorem dL_law_1153 : decode cL_law 1153 = .ok (.ireturn, 1) := by decide +kernel
theorem dL_law_1154 : decode cL_law 1154 = .ok (.aload_n 1, 1) := by decide +kernel
theorem dL_law_1155 : decode cL_law 1155 = .ok (.aload_n 0, 1) := by decide +kernel
theorem dL_law_1156 : decode cL_law 1156 = .ok (.iload_n 3, 1) := by decide +kernel
theorem dL_law_1157 : decode cL_law 1157 = .ok (.iconst 1, 1) := by decide +kernel
theorem dL_law_1158 : decode cL_law 1158 = .ok (.iadd, 1) := by decide +kernel
theorem dL_law_1159 : decode cL_law 1159 = .ok (.iaload, 1) := by decide +kernel
theorem dL_law_1160 : decode cL_law 1160 = .ok (.aload_n 0, 1) := by decide +kernel
theorem dL_law_1161 : decode cL_law 1161 = .ok (.iload_n 3, 1) := by decide +kernel
theorem dL_law_1162 : decode cL_law 1162 = .ok (.iconst 2, 1) := by decide +kernel
theorem dL_law_1163 : decode cL_law 1163 = .ok (.iadd, 1) := by decide +kernel
theorem dL_law_1164 : decode cL_law 1164 = .ok (.iaload, 1) := by decide +kernel
theorem dL_law_1165 : decode cL_law 1165 = .ok (.invokevirtual 153, 3) := by decide +kernel
theorem dL_law_1168 : decode cL_law 1168 = .ok (.aload_n 2, 1) := by decide +kernel
theorem dL_law_1169 : decode cL_law 1169 = .ok (.aload_n 0, 1) := by decide +kernel
theorem dL_law_1170 : decode cL_law 1170 = .ok (.iload_n 3, 1) := by decide +kernel
theorem dL_law_1171 : decode cL_law 1171 = .ok (.iconst 1, 1) := by decide +kernel
theorem dL_law_1172 : decode cL_law 1172 = .ok (.iadd, 1) := by decide +kernel
theorem dL_law_1173 : decode cL_law 1173 = .ok (.iaload, 1) := by decide +kernel
theorem dL_law_1174 : decode cL_law 1174 = .ok (.aload_n 0, 1) := by decide +kernel
theorem dL_law_1175 : decode cL_law 1175 = .ok (.iload_n 3, 1) := by decide +kernel
theorem dL_law_1176 : decode cL_law 1176 = .ok (.iconst 2, 1) := by decide +kernel
theorem dL_law_1177 : decode cL_law 1177 = .ok (.iadd, 1) := by decide +kernel
theorem dL_law_1178 : decode cL_law 1178 = .ok (.iaload, 1) := by decide +kernel
theorem dL_law_1179 : decode cL_law 1179 = .ok (.invokevirtual 156, 3) := by decide +kernel
theorem dL_law_1182 : decode cL_law 1182 = .ok (.if_icmp .eq 318, 3) := by decide +kernel
theorem dL_law_1185 : decode cL_law 1185 = .ok (.iconst 0, 1) := by decide +kernel
theorem dL_law_1186 : decode cL_law 1186 = .ok (.ireturn, 1) := by decide +kernel
theorem dL_law_1187 : decode cL_law 1187 = .ok (.aload_n 1, 1) := by decide +kernel
theorem dL_law_1188 : decode cL_law 1188 = .ok (.aload_n 0, 1) := by decide +kernel
theorem dL_law_1189 : decode cL_law 1189 = .ok (.iload_n 3, 1) := by decide +kernel
theorem dL_law_1190 : decode cL_law 1190 = .ok (.iconst 1, 1) := by decide +kernel
theorem dL_law_1191 : decode cL_law 1191 = .ok (.iadd, 1) := by decide +kernel
theorem dL_law_1192 : decode cL_law 1192 = .ok (.iaload, 1) := by decide +kernel
theorem dL_law_1193 : decode cL_law 1193 = .ok (.aload_n 0, 1) := by decide +kernel
theorem dL_law_1194 : decode cL_law 1194 = .ok (.iload_n 3, 1) := by decide +kernel
theorem dL_law_1195 : decode cL_law 1195 = .ok (.iconst 2, 1) := by decide +kernel
theorem dL_law_1196 : decode cL_law 1196 = .ok (.iadd, 1) := by decide +kernel
theorem dL_law_1197 : decode cL_law 1197 = .ok (.iaload, 1) := by decide +kernel
theorem dL_law_1198 : decode cL_law 1198 = .ok (.invokevirtual 157, 3) := by decide +kernel
theorem dL_law_1201 : decode cL_law 1201 = .ok (.aload_n 2, 1) := by decide +kernel
theorem dL_law_1202 : decode cL_law 1202 = .ok (.aload_n 0, 1) := by decide +kernel
theorem dL_law_1203 : decode cL_law 1203 = .ok (.iload_n 3, 1) := by decide +kernel
theorem dL_law_1204 : decode cL_law 1204 = .ok (.iconst 1, 1) := by decide +kernel
theorem dL_law_1205 : decode cL_law 1205 = .ok (.iadd, 1) := by decide +kernel
theorem dL_law_1206 : decode cL_law 1206 = .ok (.iaload, 1) := by decide +kernel
theorem dL_law_1207 : decode cL_law 1207 = .ok (.aload_n 0, 1) := by decide +kernel
theorem dL_law_1208 : decode cL_law 1208 = .ok (.iload_n 3, 1) := by decide +kernel
theorem dL_law_1209 : decode cL_law 1209 = .ok (.iconst 2, 1) := by decide +kernel
theorem dL_law_1210 : decode cL_law 1210 = .ok (.iadd, 1) := by decide +kernel
theorem dL_law_1211 : decode cL_law 1211 = .ok (.iaload, 1) := by decide +kernel
theorem dL_law_1212 : decode cL_law 1212 = .ok (.invokevirtual 160, 3) := by decide +kernel
theorem dL_law_1215 : decode cL_law 1215 = .ok (.if_icmp .eq 285, 3) := by decide +kernel
theorem dL_law_1218 : decode cL_law 1218 = .ok (.iconst 0, 1) := by decide +kernel
theorem dL_law_1219 : decode cL_law 1219 = .ok (.ireturn, 1) := by decide +kernel
theorem dL_law_1220 : decode cL_law 1220 = .ok (.aload_n 1, 1) := by decide +kernel
theorem dL_law_1221 : decode cL_law 1221 = .ok (.aload_n 0, 1) := by decide +kernel
theorem dL_law_1222 : decode cL_law 1222 = .ok (.iload_n 3, 1) := by decide +kernel
theorem dL_law_1223 : decode cL_law 1223 = .ok (.iconst 1, 1) := by decide +kernel
theorem dL_law_1224 : decode cL_law 1224 = .ok (.iadd, 1) := by decide +kernel
theorem dL_law_1225 : decode cL_law 1225 = .ok (.iaload, 1) := by decide +kernel
theorem dL_law_1226 : decode cL_law 1226 = .ok (.aload_n 0, 1) := by decide +kernel
theorem dL_law_1227 : decode cL_law 1227 = .ok (.iload_n 3, 1) := by decide +kernel
theorem dL_law_1228 : decode cL_law 1228 = .ok (.iconst 2, 1) := by decide +kernel
theorem dL_law_1229 : decode cL_law 1229 = .ok (.iadd, 1) := by decide +kernel
theorem dL_law_1230 : decode cL_law 1230 = .ok (.iaload, 1) := by decide +kernel
theorem dL_law_1231 : decode cL_law 1231 = .ok (.aload_n 0, 1) := by decide +kernel
theorem dL_law_1232 : decode cL_law 1232 = .ok (.iload_n 3, 1) := by decide +kernel
theorem dL_law_1233 : decode cL_law 1233 = .ok (.iconst 3, 1) := by decide +kernel
theorem dL_law_1234 : decode cL_law 1234 = .ok (.iadd, 1) := by decide +kernel
theorem dL_law_1235 : decode cL_law 1235 = .ok (.iaload, 1) := by decide +kernel
theorem dL_law_1236 : decode cL_law 1236 = .ok (.invokevirtual 161, 3) := by decide +kernel
theorem dL_law_1239 : decode cL_law 1239 = .ok (.aload_n 2, 1) := by decide +kernel
theorem dL_law_1240 : decode cL_law 1240 = .ok (.aload_n 0, 1) := by decide +kernel
theorem dL_law_1241 : decode cL_law 1241 = .ok (.iload_n 3, 1) := by decide +kernel
theorem dL_law_1242 : decode cL_law 1242 = .ok (.iconst 1, 1) := by decide +kernel
theorem dL_law_1243 : decode cL_law 1243 = .ok (.iadd, 1) := by decide +kernel
theorem dL_law_1244 : decode cL_law 1244 = .ok (.iaload, 1) := by decide +kernel
theorem dL_law_1245 : decode cL_law 1245 = .ok (.aload_n 0, 1) := by decide +kernel
theorem dL_law_1246 : decode cL_law 1246 = .ok (.iload_n 3, 1) := by decide +kernel
theorem dL_law_1247 : decode cL_law 1247 = .ok (.iconst 2, 1) := by decide +kernel
theorem dL_law_1248 : decode cL_law 1248 = .ok (.iadd, 1) := by decide +kernel
theorem dL_law_1249 : decode cL_law 1249 = .ok (.iaload, 1) := by decide +kernel
theorem dL_law_1250 : decode cL_law 1250 = .ok (.aload_n 0, 1) := by decide +kernel
theorem dL_law_1251 : decode cL_law 1251 = .ok (.iload_n 3, 1) := by decide +kernel
theorem dL_law_1252 : decode cL_law 1252 = .ok (.iconst 3, 1) := by decide +kernel
theorem dL_law_1253 : decode cL_law 1253 = .ok (.iadd, 1) := by decide +kernel
theorem dL_law_1254 : decode cL_law 1254 = .ok (.iaload, 1) := by decide +kernel
theorem dL_law_1255 : decode cL_law 1255 = .ok (.invokevirtual 164, 3) := by decide +kernel
theorem dL_law_1258 : decode cL_law 1258 = .ok (.if_icmp .eq 242, 3) := by decide +kernel
theorem dL_law_1261 : decode cL_law 1261 = .ok (.iconst 0, 1) := by decide +kernel
theorem dL_law_1262 : decode cL_law 1262 = .ok (.ireturn, 1) := by decide +kernel
theorem dL_law_1263 : decode cL_law 1263 = .ok (.aload_n 1, 1) := by decide +kernel
theorem dL_law_1264 : decode cL_law 1264 = .ok (.aload_n 0, 1) := by decide +kernel
theorem dL_law_1265 : decode cL_law 1265 = .ok (.iload_n 3, 1) := by decide +kernel
theorem dL_law_1266 : decode cL_law 1266 = .ok (.iconst 1, 1) := by decide +kernel
theorem dL_law_1267 : decode cL_law 1267 = .ok (.iadd, 1) := by decide +kernel
theorem dL_law_1268 : decode cL_law 1268 = .ok (.iaload, 1) := by decide +kernel
theorem dL_law_1269 : decode cL_law 1269 = .ok (.aload_n 0, 1) := by decide +kernel
theorem dL_law_1270 : decode cL_law 1270 = .ok (.iload_n 3, 1) := by decide +kernel
theorem dL_law_1271 : decode cL_law 1271 = .ok (.iconst 2, 1) := by decide +kernel
theorem dL_law_1272 : decode cL_law 1272 = .ok (.iadd, 1) := by decide +kernel
theorem dL_law_1273 : decode cL_law 1273 = .ok (.iaload, 1) := by decide +kernel
theorem dL_law_1274 : decode cL_law 1274 = .ok (.aload_n 0, 1) := by decide +kernel
theorem dL_law_1275 : decode cL_law 1275 = .ok (.iload_n 3, 1) := by decide +kernel
theorem dL_law_1276 : decode cL_law 1276 = .ok (.iconst 3, 1) := by decide +kernel
theorem dL_law_1277 : decode cL_law 1277 = .ok (.iadd, 1) := by decide +kernel
theorem dL_law_1278 : decode cL_law 1278 = .ok (.iaload, 1) := by decide +kernel
theorem dL_law_1279 : decode cL_law 1279 = .ok (.invokevirtual 165, 3) := by decide +kernel
theorem dL_law_1282 : decode cL_law 1282 = .ok (.aload_n 2, 1) := by decide +kernel
theorem dL_law_1283 : decode cL_law 1283 = .ok (.aload_n 0, 1) := by decide +kernel
theorem dL_law_1284 : decode cL_law 1284 = .ok (.iload_n 3, 1) := by decide +kernel
theorem dL_law_1285 : decode cL_law 1285 = .ok (.iconst 1, 1) := by decide +kernel
theorem dL_law_1286 : decode cL_law 1286 = .ok (.iadd, 1) := by decide +kernel
theorem dL_law_1287 : decode cL_law 1287 = .ok (.iaload, 1) := by decide +kernel
theorem dL_law_1288 : decode cL_law 1288 = .ok (.aload_n 0, 1) := by decide +kernel
theorem dL_law_1289 : decode cL_law 1289 = .ok (.iload_n 3, 1) := by decide +kernel
theorem dL_law_1290 : decode cL_law 1290 = .ok (.iconst 2, 1) := by decide +kernel
theorem dL_law_1291 : decode cL_law 1291 = .ok (.iadd, 1) := by decide +kernel
theorem dL_law_1292 : decode cL_law 1292 = .ok (.iaload, 1) := by decide +kernel
theorem dL_law_1293 : decode cL_law 1293 = .ok (.aload_n 0, 1) := by decide +kernel
theorem dL_law_1294 : decode cL_law 1294 = .ok (.iload_n 3, 1) := by decide +kernel
theorem dL_law_1295 : decode cL_law 1295 = .ok (.iconst 3, 1) := by decide +kernel
theorem dL_law_1296 : decode cL_law 1296 = .ok (.iadd, 1) := by decide +kernel
theorem dL_law_1297 : decode cL_law 1297 = .ok (.iaload, 1) := by decide +kernel
theorem dL_law_1298 : decode cL_law 1298 = .ok (.invokevirtual 168, 3) := by decide +kernel
theorem dL_law_1301 : decode cL_law 1301 = .ok (.if_icmp .eq 199, 3) := by decide +kernel
theorem dL_law_1304 : decode cL_law 1304 = .ok (.iconst 0, 1) := by decide +kernel
theorem dL_law_1305 : decode cL_law 1305 = .ok (.ireturn, 1) := by decide +kernel
theorem dL_law_1306 : decode cL_law 1306 = .ok (.aload_n 1, 1) := by decide +kernel
theorem dL_law_1307 : decode cL_law 1307 = .ok (.aload_n 0, 1) := by decide +kernel
theorem dL_law_1308 : decode cL_law 1308 = .ok (.iload_n 3, 1) := by decide +kernel
theorem dL_law_1309 : decode cL_law 1309 = .ok (.iconst 1, 1) := by decide +kernel
theorem dL_law_1310 : decode cL_law 1310 = .ok (.iadd, 1) := by decide +kernel
theorem dL_law_1311 : decode cL_law 1311 = .ok (.iaload, 1) := by decide +kernel
theorem dL_law_1312 : decode cL_law 1312 = .ok (.aload_n 0, 1) := by decide +kernel
theorem dL_law_1313 : decode cL_law 1313 = .ok (.iload_n 3, 1) := by decide +kernel
theorem dL_law_1314 : decode cL_law 1314 = .ok (.iconst 2, 1) := by decide +kernel
theorem dL_law_1315 : decode cL_law 1315 = .ok (.iadd, 1) := by decide +kernel
theorem dL_law_1316 : decode cL_law 1316 = .ok (.iaload, 1) := by decide +kernel
theorem dL_law_1317 : decode cL_law 1317 = .ok (.aload_n 0, 1) := by decide +kernel
theorem dL_law_1318 : decode cL_law 1318 = .ok (.iload_n 3, 1) := by decide +kernel
theorem dL_law_1319 : decode cL_law 1319 = .ok (.iconst 3, 1) := by decide +kernel
theorem dL_law_1320 : decode cL_law 1320 = .ok (.iadd, 1) := by decide +kernel
theorem dL_law_1321 : decode cL_law 1321 = .ok (.iaload, 1) := by decide +kernel
theorem dL_law_1322 : decode cL_law 1322 = .ok (.aload_n 0, 1) := by decide +kernel
theorem dL_law_1323 : decode cL_law 1323 = .ok (.iload_n 3, 1) := by decide +kernel
theorem dL_law_1324 : decode cL_law 1324 = .ok (.iconst 4, 1) := by decide +kernel
theorem dL_law_1325 : decode cL_law 1325 = .ok (.iadd, 1) := by decide +kernel
theorem dL_law_1326 : decode cL_law 1326 = .ok (.iaload, 1) := by decide +kernel
theorem dL_law_1327 : decode cL_law 1327 = .ok (.aload_n 0, 1) := by decide +kernel
theorem dL_law_1328 : decode cL_law 1328 = .ok (.iload_n 3, 1) := by decide +kernel
theorem dL_law_1329 : decode cL_law 1329 = .ok (.iconst 5, 1) := by decide +kernel
theorem dL_law_1330 : decode cL_law 1330 = .ok (.iadd, 1) := by decide +kernel
theorem dL_law_1331 : decode cL_law 1331 = .ok (.iaload, 1) := by decide +kernel
theorem dL_law_1332 : decode cL_law 1332 = .ok (.invokevirtual 169, 3) := by decide +kernel
theorem dL_law_1335 : decode cL_law 1335 = .ok (.aload_n 2, 1) := by decide +kernel
theorem dL_law_1336 : decode cL_law 1336 = .ok (.aload_n 0, 1) := by decide +kernel
theorem dL_law_1337 : decode cL_law 1337 = .ok (.iload_n 3, 1) := by decide +kernel
theorem dL_law_1338 : decode cL_law 1338 = .ok (.iconst 1, 1) := by decide +kernel
theorem dL_law_1339 : decode cL_law 1339 = .ok (.iadd, 1) := by decide +kernel
theorem dL_law_1340 : decode cL_law 1340 = .ok (.iaload, 1) := by decide +kernel
theorem dL_law_1341 : decode cL_law 1341 = .ok (.aload_n 0, 1) := by decide +kernel
theorem dL_law_1342 : decode cL_law 1342 = .ok (.iload_n 3, 1) := by decide +kernel
theorem dL_law_1343 : decode cL_law 1343 = .ok (.iconst 2, 1) := by decide +kernel
theorem dL_law_1344 : decode cL_law 1344 = .ok (.iadd, 1) := by decide +kernel
theorem dL_law_1345 : decode cL_law 1345 = .ok (.iaload, 1) := by decide +kernel
theorem dL_law_1346 : decode cL_law 1346 = .ok (.aload_n 0, 1) := by decide +kernel
theorem dL_law_1347 : decode cL_law 1347 = .ok (.iload_n 3, 1) := by decide +kernel
theorem dL_law_1348 : decode cL_law 1348 = .ok (.iconst 3, 1) := by decide +kernel
theorem dL_law_1349 : decode cL_law 1349 = .ok (.iadd, 1) := by decide +kernel
theorem dL_law_1350 : decode cL_law 1350 = .ok (.iaload, 1) := by decide +kernel
theorem dL_law_1351 : decode cL_law 1351 = .ok (.aload_n 0, 1) := by decide +kernel
theorem dL_law_1352 : decode cL_law 1352 = .ok (.iload_n 3, 1) := by decide +kernel
theorem dL_law_1353 : decode cL_law 1353 = .ok (.iconst 4, 1) := by decide +kernel
theorem dL_law_1354 : decode cL_law 1354 = .ok (.iadd, 1) := by decide +kernel
theorem dL_law_1355 : decode cL_law 1355 = .ok (.iaload, 1) := by decide +kernel
theorem dL_law_1356 : decode cL_law 1356 = .ok (.aload_n 0, 1) := by decide +kernel
theorem dL_law_1357 : decode cL_law 1357 = .ok (.iload_n 3, 1) := by decide +kernel
theorem dL_law_1358 : decode cL_law 1358 = .ok (.iconst 5, 1) := by decide +kernel
theorem dL_law_1359 : decode cL_law 1359 = .ok (.iadd, 1) := by decide +kernel
theorem dL_law_1360 : decode cL_law 1360 = .ok (.iaload, 1) := by decide +kernel
theorem dL_law_1361 : decode cL_law 1361 = .ok (.invokevirtual 173, 3) := by decide +kernel
theorem dL_law_1364 : decode cL_law 1364 = .ok (.if_icmp .eq 136, 3) := by decide +kernel
theorem dL_law_1367 : decode cL_law 1367 = .ok (.iconst 0, 1) := by decide +kernel
theorem dL_law_1368 : decode cL_law 1368 = .ok (.ireturn, 1) := by decide +kernel
theorem dL_law_1369 : decode cL_law 1369 = .ok (.aload_n 1, 1) := by decide +kernel
theorem dL_law_1370 : decode cL_law 1370 = .ok (.aload_n 0, 1) := by decide +kernel
theorem dL_law_1371 : decode cL_law 1371 = .ok (.iload_n 3, 1) := by decide +kernel
theorem dL_law_1372 : decode cL_law 1372 = .ok (.iconst 1, 1) := by decide +kernel
theorem dL_law_1373 : decode cL_law 1373 = .ok (.iadd, 1) := by decide +kernel
theorem dL_law_1374 : decode cL_law 1374 = .ok (.iaload, 1) := by decide +kernel
theorem dL_law_1375 : decode cL_law 1375 = .ok (.invokevirtual 174, 3) := by decide +kernel
theorem dL_law_1378 : decode cL_law 1378 = .ok (.aload_n 2, 1) := by decide +kernel
theorem dL_law_1379 : decode cL_law 1379 = .ok (.aload_n 0, 1) := by decide +kernel
theorem dL_law_1380 : decode cL_law 1380 = .ok (.iload_n 3, 1) := by decide +kernel
theorem dL_law_1381 : decode cL_law 1381 = .ok (.iconst 1, 1) := by decide +kernel
theorem dL_law_1382 : decode cL_law 1382 = .ok (.iadd, 1) := by decide +kernel
theorem dL_law_1383 : decode cL_law 1383 = .ok (.iaload, 1) := by decide +kernel
theorem dL_law_1384 : decode cL_law 1384 = .ok (.invokevirtual 177, 3) := by decide +kernel
theorem dL_law_1387 : decode cL_law 1387 = .ok (.if_icmp .eq 113, 3) := by decide +kernel
theorem dL_law_1390 : decode cL_law 1390 = .ok (.iconst 0, 1) := by decide +kernel
theorem dL_law_1391 : decode cL_law 1391 = .ok (.ireturn, 1) := by decide +kernel
theorem dL_law_1392 : decode cL_law 1392 = .ok (.aload_n 1, 1) := by decide +kernel
theorem dL_law_1393 : decode cL_law 1393 = .ok (.aload_n 0, 1) := by decide +kernel
theorem dL_law_1394 : decode cL_law 1394 = .ok (.iload_n 3, 1) := by decide +kernel
theorem dL_law_1395 : decode cL_law 1395 = .ok (.iconst 1, 1) := by decide +kernel
theorem dL_law_1396 : decode cL_law 1396 = .ok (.iadd, 1) := by decide +kernel
theorem dL_law_1397 : decode cL_law 1397 = .ok (.iaload, 1) := by decide +kernel
theorem dL_law_1398 : decode cL_law 1398 = .ok (.invokevirtual 178, 3) := by decide +kernel
theorem dL_law_1401 : decode cL_law 1401 = .ok (.aload_n 2, 1) := by decide +kernel
theorem dL_law_1402 : decode cL_law 1402 = .ok (.aload_n 0, 1) := by decide +kernel
theorem dL_law_1403 : decode cL_law 1403 = .ok (.iload_n 3, 1) := by decide +kernel
theorem dL_law_1404 : decode cL_law 1404 = .ok (.iconst 1, 1) := by decide +kernel
theorem dL_law_1405 : decode cL_law 1405 = .ok (.iadd, 1) := by decide +kernel
theorem dL_law_1406 : decode cL_law 1406 = .ok (.iaload, 1) := by decide +kernel
theorem dL_law_1407 : decode cL_law 1407 = .ok (.invokevirtual 181, 3) := by decide +kernel
theorem dL_law_1410 : decode cL_law 1410 = .ok (.if_icmp .eq 90, 3) := by decide +kernel
theorem dL_law_1413 : decode cL_law 1413 = .ok (.iconst 0, 1) := by decide +kernel
theorem dL_law_1414 : decode cL_law 1414 = .ok (.ireturn, 1) := by decide +kernel
theorem dL_law_1415 : decode cL_law 1415 = .ok (.aload_n 1, 1) := by decide +kernel
theorem dL_law_1416 : decode cL_law 1416 = .ok (.invokevirtual 182, 3) := by decide +kernel
theorem dL_law_1419 : decode cL_law 1419 = .ok (.aload_n 2, 1) := by decide +kernel
theorem dL_law_1420 : decode cL_law 1420 = .ok (.invokevirtual 185, 3) := by decide +kernel
theorem dL_law_1423 : decode cL_law 1423 = .ok (.if_icmp .eq 77, 3) := by decide +kernel
theorem dL_law_1426 : decode cL_law 1426 = .ok (.iconst 0, 1) := by decide +kernel
theorem dL_law_1427 : decode cL_law 1427 = .ok (.ireturn, 1) := by decide +kernel
theorem dL_law_1428 : decode cL_law 1428 = .ok (.aload_n 1, 1) := by decide +kernel
theorem dL_law_1429 : decode cL_law 1429 = .ok (.invokevirtual 186, 3) := by decide +kernel
theorem dL_law_1432 : decode cL_law 1432 = .ok (.aload_n 2, 1) := by decide +kernel
theorem dL_law_1433 : decode cL_law 1433 = .ok (.invokevirtual 189, 3) := by decide +kernel
theorem dL_law_1436 : decode cL_law 1436 = .ok (.if_icmp .eq 64, 3) := by decide +kernel
theorem dL_law_1439 : decode cL_law 1439 = .ok (.iconst 0, 1) := by decide +kernel
theorem dL_law_1440 : decode cL_law 1440 = .ok (.ireturn, 1) := by decide +kernel
theorem dL_law_1441 : decode cL_law 1441 = .ok (.aload_n 1, 1) := by decide +kernel
theorem dL_law_1442 : decode cL_law 1442 = .ok (.invokevirtual 190, 3) := by decide +kernel
theorem dL_law_1445 : decode cL_law 1445 = .ok (.aload_n 2, 1) := by decide +kernel
theorem dL_law_1446 : decode cL_law 1446 = .ok (.invokevirtual 193, 3) := by decide +kernel
theorem dL_law_1449 : decode cL_law 1449 = .ok (.if_icmp .eq 51, 3) := by decide +kernel
theorem dL_law_1452 : decode cL_law 1452 = .ok (.iconst 0, 1) := by decide +kernel
theorem dL_law_1453 : decode cL_law 1453 = .ok (.ireturn, 1) := by decide +kernel
theorem dL_law_1454 : decode cL_law 1454 = .ok (.aload_n 1, 1) := by decide +kernel
theorem dL_law_1455 : decode cL_law 1455 = .ok (.aload_n 0, 1) := by decide +kernel
theorem dL_law_1456 : decode cL_law 1456 = .ok (.iload_n 3, 1) := by decide +kernel
theorem dL_law_1457 : decode cL_law 1457 = .ok (.iconst 1, 1) := by decide +kernel
theorem dL_law_1458 : decode cL_law 1458 = .ok (.iadd, 1) := by decide +kernel
theorem dL_law_1459 : decode cL_law 1459 = .ok (.iaload, 1) := by decide +kernel
theorem dL_law_1460 : decode cL_law 1460 = .ok (.invokevirtual 194, 3) := by decide +kernel
theorem dL_law_1463 : decode cL_law 1463 = .ok (.aload_n 2, 1) := by decide +kernel
theorem dL_law_1464 : decode cL_law 1464 = .ok (.aload_n 0, 1) := by decide +kernel
theorem dL_law_1465 : decode cL_law 1465 = .ok (.iload_n 3, 1) := by decide +kernel
theorem dL_law_1466 : decode cL_law 1466 = .ok (.iconst 1, 1) := by decide +kernel
theorem dL_law_1467 : decode cL_law 1467 = .ok (.iadd, 1) := by decide +kernel
theorem dL_law_1468 : decode cL_law 1468 = .ok (.iaload, 1) := by decide +kernel
theorem dL_law_1469 : decode cL_law 1469 = .ok (.invokevirtual 197, 3) := by decide +kernel
theorem dL_law_1472 : decode cL_law 1472 = .ok (.if_icmp .eq 28, 3) := by decide +kernel
theorem dL_law_1475 : decode cL_law 1475 = .ok (.iconst 0, 1) := by decide +kernel
theorem dL_law_1476 : decode cL_law 1476 = .ok (.ireturn, 1) := by decide +kernel
theorem dL_law_1477 : decode cL_law 1477 = .ok (.aload_n 1, 1) := by decide +kernel
theorem dL_law_1478 : decode cL_law 1478 = .ok (.aload_n 0, 1) := by decide +kernel
theorem dL_law_1479 : decode cL_law 1479 = .ok (.iload_n 3, 1) := by decide +kernel
theorem dL_law_1480 : decode cL_law 1480 = .ok (.iconst 1, 1) := by decide +kernel
theorem dL_law_1481 : decode cL_law 1481 = .ok (.iadd, 1) := by decide +kernel
theorem dL_law_1482 : decode cL_law 1482 = .ok (.iaload, 1) := by decide +kernel
theorem dL_law_1483 : decode cL_law 1483 = .ok (.invokevirtual 198, 3) := by decide +kernel
theorem dL_law_1486 : decode cL_law 1486 = .ok (.aload_n 2, 1) := by decide +kernel
theorem dL_law_1487 : decode cL_law 1487 = .ok (.aload_n 0, 1) := by decide +kernel
theorem dL_law_1488 : decode cL_law 1488 = .ok (.iload_n 3, 1) := by decide +kernel
theorem dL_law_1489 : decode cL_law 1489 = .ok (.iconst 1, 1) := by decide +kernel
theorem dL_law_1490 : decode cL_law 1490 = .ok (.iadd, 1) := by decide +kernel
theorem dL_law_1491 : decode cL_law 1491 = .ok (.iaload, 1) := by decide +kernel
theorem dL_law_1492 : decode cL_law 1492 = .ok (.invokevirtual 201, 3) := by decide +kernel
theorem dL_law_1495 : decode cL_law 1495 = .ok (.if_icmp .eq 5, 3) := by decide +kernel
theorem dL_law_1498 : decode cL_law 1498 = .ok (.iconst 0, 1) := by decide +kernel
theorem dL_law_1499 : decode cL_law 1499 = .ok (.ireturn, 1) := by decide +kernel
theorem dL_law_1500 : decode cL_law 1500 = .ok (.iinc 3 6, 3) := by decide +kernel
theorem dL_law_1503 : decode cL_law 1503 = .ok (.goto (-1485), 3) := by decide +kernel
theorem dL_law_1506 : decode cL_law 1506 = .ok (.iconst 1, 1) := by decide +kernel
theorem dL_law_1507 : decode cL_law 1507 = .ok (.ireturn, 1) := by decide +kernel
