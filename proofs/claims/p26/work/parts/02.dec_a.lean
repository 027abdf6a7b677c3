theorem dX0_init_0 : decode cX0_init 0 = .ok (.aload_n 0, 1) := by decide +kernel
theorem dX0_init_1 : decode cX0_init 1 = .ok (.invokespecial 3, 3) := by decide +kernel
theorem dX0_init_4 : decode cX0_init 4 = .ok (.aload_n 0, 1) := by decide +kernel
theorem dX0_init_5 : decode cX0_init 5 = .ok (.bipush 100, 2) := by decide +kernel
theorem dX0_init_7 : decode cX0_init 7 = .ok (.putfield 9, 3) := by decide +kernel
theorem dX0_init_10 : decode cX0_init 10 = .ok (.aload_n 0, 1) := by decide +kernel
theorem dX0_init_11 : decode cX0_init 11 = .ok (.bipush 10, 2) := by decide +kernel
theorem dX0_init_13 : decode cX0_init 13 = .ok (.putfield 15, 3) := by decide +kernel
theorem dX0_init_16 : decode cX0_init 16 = .ok (.aload_n 0, 1) := by decide +kernel
theorem dX0_init_17 : decode cX0_init 17 = .ok (.iconst 1, 1) := by decide +kernel
theorem dX0_init_18 : decode cX0_init 18 = .ok (.putfield 18, 3) := by decide +kernel
theorem dX0_init_21 : decode cX0_init 21 = .ok (.aload_n 0, 1) := by decide +kernel
theorem dX0_init_22 : decode cX0_init 22 = .ok (.bipush 50, 2) := by decide +kernel
theorem dX0_init_24 : decode cX0_init 24 = .ok (.putfield 21, 3) := by decide +kernel
theorem dX0_init_27 : decode cX0_init 27 = .ok (.aload_n 0, 1) := by decide +kernel
theorem dX0_init_28 : decode cX0_init 28 = .ok (.iconst 2, 1) := by decide +kernel
theorem dX0_init_29 : decode cX0_init 29 = .ok (.newarray .int, 2) := by decide +kernel
theorem dX0_init_31 : decode cX0_init 31 = .ok (.putfield 24, 3) := by decide +kernel
theorem dX0_init_34 : decode cX0_init 34 = .ok (.aload_n 0, 1) := by decide +kernel
theorem dX0_init_35 : decode cX0_init 35 = .ok (.iconst 2, 1) := by decide +kernel
theorem dX0_init_36 : decode cX0_init 36 = .ok (.newarray .int, 2) := by decide +kernel
theorem dX0_init_38 : decode cX0_init 38 = .ok (.putfield 28, 3) := by decide +kernel
theorem dX0_init_41 : decode cX0_init 41 = .ok (.aload_n 0, 1) := by decide +kernel
theorem dX0_init_42 : decode cX0_init 42 = .ok (.iconst 2, 1) := by decide +kernel
theorem dX0_init_43 : decode cX0_init 43 = .ok (.newarray .int, 2) := by decide +kernel
theorem dX0_init_45 : decode cX0_init 45 = .ok (.putfield 31, 3) := by decide +kernel
theorem dX0_init_48 : decode cX0_init 48 = .ok (.aload_n 0, 1) := by decide +kernel
theorem dX0_init_49 : decode cX0_init 49 = .ok (.iconst 2, 1) := by decide +kernel
theorem dX0_init_50 : decode cX0_init 50 = .ok (.bipush 6, 2) := by decide +kernel
theorem dX0_init_52 : decode cX0_init 52 = .ok (.multianewarray 34 2, 4) := by decide +kernel
theorem dX0_init_56 : decode cX0_init 56 = .ok (.putfield 36, 3) := by decide +kernel
theorem dX0_init_59 : decode cX0_init 59 = .ok (.aload_n 0, 1) := by decide +kernel
theorem dX0_init_60 : decode cX0_init 60 = .ok (.iconst 2, 1) := by decide +kernel
theorem dX0_init_61 : decode cX0_init 61 = .ok (.bipush 9, 2) := by decide +kernel
theorem dX0_init_63 : decode cX0_init 63 = .ok (.multianewarray 34 2, 4) := by decide +kernel
theorem dX0_init_67 : decode cX0_init 67 = .ok (.putfield 39, 3) := by decide +kernel
theorem dX0_init_70 : decode cX0_init 70 = .ok (.aload_n 0, 1) := by decide +kernel
theorem dX0_init_71 : decode cX0_init 71 = .ok (.bipush 17, 2) := by decide +kernel
theorem dX0_init_73 : decode cX0_init 73 = .ok (.newarray .int, 2) := by decide +kernel
theorem dX0_init_75 : decode cX0_init 75 = .ok (.putfield 42, 3) := by decide +kernel
theorem dX0_init_78 : decode cX0_init 78 = .ok (.iconst 0, 1) := by decide +kernel
theorem dX0_init_79 : decode cX0_init 79 = .ok (.istore_n 1, 1) := by decide +kernel
theorem dX0_init_80 : decode cX0_init 80 = .ok (.iload_n 1, 1) := by decide +kernel
theorem dX0_init_81 : decode cX0_init 81 = .ok (.bipush 8, 2) := by decide +kernel
theorem dX0_init_83 : decode cX0_init 83 = .ok (.if_icmp .gt 33, 3) := by decide +kernel
theorem dX0_init_86 : decode cX0_init 86 = .ok (.aload_n 0, 1) := by decide +kernel
theorem dX0_init_87 : decode cX0_init 87 = .ok (.getfield 39, 3) := by decide +kernel
theorem dX0_init_90 : decode cX0_init 90 = .ok (.iconst 0, 1) := by decide +kernel
theorem dX0_init_91 : decode cX0_init 91 = .ok (.aaload, 1) := by decide +kernel
theorem dX0_init_92 : decode cX0_init 92 = .ok (.iload_n 1, 1) := by decide +kernel
theorem dX0_init_93 : decode cX0_init 93 = .ok (.bipush 10, 2) := by decide +kernel
theorem dX0_init_95 : decode cX0_init 95 = .ok (.iload_n 1, 1) := by decide +kernel
theorem dX0_init_96 : decode cX0_init 96 = .ok (.imul, 1) := by decide +kernel
theorem dX0_init_97 : decode cX0_init 97 = .ok (.iastore, 1) := by decide +kernel
theorem dX0_init_98 : decode cX0_init 98 = .ok (.aload_n 0, 1) := by decide +kernel
theorem dX0_init_99 : decode cX0_init 99 = .ok (.getfield 39, 3) := by decide +kernel
theorem dX0_init_102 : decode cX0_init 102 = .ok (.iconst 1, 1) := by decide +kernel
theorem dX0_init_103 : decode cX0_init 103 = .ok (.aaload, 1) := by decide +kernel
theorem dX0_init_104 : decode cX0_init 104 = .ok (.iload_n 1, 1) := by decide +kernel
theorem dX0_init_105 : decode cX0_init 105 = .ok (.bipush 10, 2) := by decide +kernel
theorem dX0_init_107 : decode cX0_init 107 = .ok (.iload_n 1, 1) := by decide +kernel
theorem dX0_init_108 : decode cX0_init 108 = .ok (.imul, 1) := by decide +kernel
theorem dX0_init_109 : decode cX0_init 109 = .ok (.iastore, 1) := by decide +kernel
theorem dX0_init_110 : decode cX0_init 110 = .ok (.iinc 1 1, 3) := by decide +kernel
theorem dX0_init_113 : decode cX0_init 113 = .ok (.goto (-33), 3) := by decide +kernel
theorem dX0_init_116 : decode cX0_init 116 = .ok (.aload_n 0, 1) := by decide +kernel
theorem dX0_init_117 : decode cX0_init 117 = .ok (.invokevirtual 45, 3) := by decide +kernel
theorem dX0_init_120 : decode cX0_init 120 = .ok (.return_, 1) := by decide +kernel
theorem dX0_findMixes_0 : decode cX0_findMixes 0 = .ok (.iconst 0, 1) := by decide +kernel
theorem dX0_findMixes_1 : decode cX0_findMixes 1 = .ok (.istore_n 1, 1) := by decide +kernel
theorem dX0_findMixes_2 : decode cX0_findMixes 2 = .ok (.iload_n 1, 1) := by decide +kernel
theorem dX0_findMixes_3 : decode cX0_findMixes 3 = .ok (.bipush 16, 2) := by decide +kernel
theorem dX0_findMixes_5 : decode cX0_findMixes 5 = .ok (.if_icmp .gt 16, 3) := by decide +kernel
theorem dX0_findMixes_8 : decode cX0_findMixes 8 = .ok (.aload_n 0, 1) := by decide +kernel
theorem dX0_findMixes_9 : decode cX0_findMixes 9 = .ok (.getfield 42, 3) := by decide +kernel
theorem dX0_findMixes_12 : decode cX0_findMixes 12 = .ok (.iload_n 1, 1) := by decide +kernel
theorem dX0_findMixes_13 : decode cX0_findMixes 13 = .ok (.iconst 0, 1) := by decide +kernel
theorem dX0_findMixes_14 : decode cX0_findMixes 14 = .ok (.iastore, 1) := by decide +kernel
theorem dX0_findMixes_15 : decode cX0_findMixes 15 = .ok (.iinc 1 1, 3) := by decide +kernel
theorem dX0_findMixes_18 : decode cX0_findMixes 18 = .ok (.goto (-16), 3) := by decide +kernel
theorem dX0_findMixes_21 : decode cX0_findMixes 21 = .ok (.iconst 0, 1) := by decide +kernel
theorem dX0_findMixes_22 : decode cX0_findMixes 22 = .ok (.istore_n 1, 1) := by decide +kernel
theorem dX0_findMixes_23 : decode cX0_findMixes 23 = .ok (.iload_n 1, 1) := by decide +kernel
theorem dX0_findMixes_24 : decode cX0_findMixes 24 = .ok (.bipush 8, 2) := by decide +kernel
theorem dX0_findMixes_26 : decode cX0_findMixes 26 = .ok (.if_icmp .gt 61, 3) := by decide +kernel
theorem dX0_findMixes_29 : decode cX0_findMixes 29 = .ok (.iconst 0, 1) := by decide +kernel
theorem dX0_findMixes_30 : decode cX0_findMixes 30 = .ok (.istore_n 2, 1) := by decide +kernel
theorem dX0_findMixes_31 : decode cX0_findMixes 31 = .ok (.iload_n 2, 1) := by decide +kernel
theorem dX0_findMixes_32 : decode cX0_findMixes 32 = .ok (.bipush 8, 2) := by decide +kernel
theorem dX0_findMixes_34 : decode cX0_findMixes 34 = .ok (.if_icmp .gt 47, 3) := by decide +kernel
theorem dX0_findMixes_37 : decode cX0_findMixes 37 = .ok (.aload_n 0, 1) := by decide +kernel
theorem dX0_findMixes_38 : decode cX0_findMixes 38 = .ok (.getfield 39, 3) := by decide +kernel
theorem dX0_findMixes_41 : decode cX0_findMixes 41 = .ok (.iconst 0, 1) := by decide +kernel
theorem dX0_findMixes_42 : decode cX0_findMixes 42 = .ok (.aaload, 1) := by decide +kernel
theorem dX0_findMixes_43 : decode cX0_findMixes 43 = .ok (.iload_n 1, 1) := by decide +kernel
theorem dX0_findMixes_44 : decode cX0_findMixes 44 = .ok (.iaload, 1) := by decide +kernel
theorem dX0_findMixes_45 : decode cX0_findMixes 45 = .ok (.aload_n 0, 1) := by decide +kernel
theorem dX0_findMixes_46 : decode cX0_findMixes 46 = .ok (.getfield 39, 3) := by decide +kernel
theorem dX0_findMixes_49 : decode cX0_findMixes 49 = .ok (.iconst 1, 1) := by decide +kernel
theorem dX0_findMixes_50 : decode cX0_findMixes 50 = .ok (.aaload, 1) := by decide +kernel
theorem dX0_findMixes_51 : decode cX0_findMixes 51 = .ok (.iload_n 2, 1) := by decide +kernel
theorem dX0_findMixes_52 : decode cX0_findMixes 52 = .ok (.iaload, 1) := by decide +kernel
theorem dX0_findMixes_53 : decode cX0_findMixes 53 = .ok (.iadd, 1) := by decide +kernel
theorem dX0_findMixes_54 : decode cX0_findMixes 54 = .ok (.istore_n 3, 1) := by decide +kernel
theorem dX0_findMixes_55 : decode cX0_findMixes 55 = .ok (.aload_n 0, 1) := by decide +kernel
theorem dX0_findMixes_56 : decode cX0_findMixes 56 = .ok (.getfield 42, 3) := by decide +kernel
theorem dX0_findMixes_59 : decode cX0_findMixes 59 = .ok (.iload_n 1, 1) := by decide +kernel
theorem dX0_findMixes_60 : decode cX0_findMixes 60 = .ok (.iload_n 2, 1) := by decide +kernel
theorem dX0_findMixes_61 : decode cX0_findMixes 61 = .ok (.iadd, 1) := by decide +kernel
theorem dX0_findMixes_62 : decode cX0_findMixes 62 = .ok (.aload_n 0, 1) := by decide +kernel
theorem dX0_findMixes_63 : decode cX0_findMixes 63 = .ok (.getfield 42, 3) := by decide +kernel
theorem dX0_findMixes_66 : decode cX0_findMixes 66 = .ok (.iload_n 1, 1) := by decide +kernel
theorem dX0_findMixes_67 : decode cX0_findMixes 67 = .ok (.iload_n 2, 1) := by decide +kernel
theorem dX0_findMixes_68 : decode cX0_findMixes 68 = .ok (.iadd, 1) := by decide +kernel
theorem dX0_findMixes_69 : decode cX0_findMixes 69 = .ok (.iaload, 1) := by decide +kernel
theorem dX0_findMixes_70 : decode cX0_findMixes 70 = .ok (.iload_n 3, 1) := by decide +kernel
theorem dX0_findMixes_71 : decode cX0_findMixes 71 = .ok (.invokestatic 48, 3) := by decide +kernel
theorem dX0_findMixes_74 : decode cX0_findMixes 74 = .ok (.iastore, 1) := by decide +kernel
theorem dX0_findMixes_75 : decode cX0_findMixes 75 = .ok (.iinc 2 1, 3) := by decide +kernel
theorem dX0_findMixes_78 : decode cX0_findMixes 78 = .ok (.goto (-47), 3) := by decide +kernel
theorem dX0_findMixes_81 : decode cX0_findMixes 81 = .ok (.iinc 1 1, 3) := by decide +kernel
theorem dX0_findMixes_84 : decode cX0_findMixes 84 = .ok (.goto (-61), 3) := by decide +kernel
theorem dX0_findMixes_87 : decode cX0_findMixes 87 = .ok (.iconst 1, 1) := by decide +kernel
theorem dX0_findMixes_88 : decode cX0_findMixes 88 = .ok (.istore_n 1, 1) := by decide +kernel
theorem dX0_findMixes_89 : decode cX0_findMixes 89 = .ok (.iload_n 1, 1) := by decide +kernel
theorem dX0_findMixes_90 : decode cX0_findMixes 90 = .ok (.bipush 16, 2) := by decide +kernel
theorem dX0_findMixes_92 : decode cX0_findMixes 92 = .ok (.if_icmp .gt 32, 3) := by decide +kernel
theorem dX0_findMixes_95 : decode cX0_findMixes 95 = .ok (.aload_n 0, 1) := by decide +kernel
theorem dX0_findMixes_96 : decode cX0_findMixes 96 = .ok (.getfield 42, 3) := by decide +kernel
theorem dX0_findMixes_99 : decode cX0_findMixes 99 = .ok (.iload_n 1, 1) := by decide +kernel
theorem dX0_findMixes_100 : decode cX0_findMixes 100 = .ok (.aload_n 0, 1) := by decide +kernel
theorem dX0_findMixes_101 : decode cX0_findMixes 101 = .ok (.getfield 42, 3) := by decide +kernel
theorem dX0_findMixes_104 : decode cX0_findMixes 104 = .ok (.iload_n 1, 1) := by decide +kernel
theorem dX0_findMixes_105 : decode cX0_findMixes 105 = .ok (.iaload, 1) := by decide +kernel
theorem dX0_findMixes_106 : decode cX0_findMixes 106 = .ok (.aload_n 0, 1) := by decide +kernel
theorem dX0_findMixes_107 : decode cX0_findMixes 107 = .ok (.getfield 42, 3) := by decide +kernel
theorem dX0_findMixes_110 : decode cX0_findMixes 110 = .ok (.iload_n 1, 1) := by decide +kernel
theorem dX0_findMixes_111 : decode cX0_findMixes 111 = .ok (.iconst 1, 1) := by decide +kernel
theorem dX0_findMixes_112 : decode cX0_findMixes 112 = .ok (.isub, 1) := by decide +kernel
theorem dX0_findMixes_113 : decode cX0_findMixes 113 = .ok (.iaload, 1) := by decide +kernel
theorem dX0_findMixes_114 : decode cX0_findMixes 114 = .ok (.invokestatic 48, 3) := by decide +kernel
theorem dX0_findMixes_117 : decode cX0_findMixes 117 = .ok (.iastore, 1) := by decide +kernel
theorem dX0_findMixes_118 : decode cX0_findMixes 118 = .ok (.iinc 1 1, 3) := by decide +kernel
theorem dX0_findMixes_121 : decode cX0_findMixes 121 = .ok (.goto (-32), 3) := by decide +kernel
theorem dX0_findMixes_124 : decode cX0_findMixes 124 = .ok (.return_, 1) := by decide +kernel
theorem dX0_mixFor_0 : decode cX0_mixFor 0 = .ok (.iload_n 1, 1) := by decide +kernel
theorem dX0_mixFor_1 : decode cX0_mixFor 1 = .ok (.ifCond .lt 9, 3) := by decide +kernel
theorem dX0_mixFor_4 : decode cX0_mixFor 4 = .ok (.iload_n 1, 1) := by decide +kernel
theorem dX0_mixFor_5 : decode cX0_mixFor 5 = .ok (.bipush 16, 2) := by decide +kernel
theorem dX0_mixFor_7 : decode cX0_mixFor 7 = .ok (.if_icmp .le 7, 3) := by decide +kernel
theorem dX0_mixFor_10 : decode cX0_mixFor 10 = .ok (.iconst 0, 1) := by decide +kernel
theorem dX0_mixFor_11 : decode cX0_mixFor 11 = .ok (.goto 9, 3) := by decide +kernel
theorem dX0_mixFor_14 : decode cX0_mixFor 14 = .ok (.aload_n 0, 1) := by decide +kernel
theorem dX0_mixFor_15 : decode cX0_mixFor 15 = .ok (.getfield 42, 3) := by decide +kernel
theorem dX0_mixFor_18 : decode cX0_mixFor 18 = .ok (.iload_n 1, 1) := by decide +kernel
theorem dX0_mixFor_19 : decode cX0_mixFor 19 = .ok (.iaload, 1) := by decide +kernel
theorem dX0_mixFor_20 : decode cX0_mixFor 20 = .ok (.ireturn, 1) := by decide +kernel
theorem dX0_waterInPond_0 : decode cX0_waterInPond 0 = .ok (.aload_n 0, 1) := by decide +kernel
theorem dX0_waterInPond_1 : decode cX0_waterInPond 1 = .ok (.getfield 28, 3) := by decide +kernel
theorem dX0_waterInPond_4 : decode cX0_waterInPond 4 = .ok (.iconst 0, 1) := by decide +kernel
theorem dX0_waterInPond_5 : decode cX0_waterInPond 5 = .ok (.iaload, 1) := by decide +kernel
theorem dX0_waterInPond_6 : decode cX0_waterInPond 6 = .ok (.aload_n 0, 1) := by decide +kernel
theorem dX0_waterInPond_7 : decode cX0_waterInPond 7 = .ok (.getfield 28, 3) := by decide +kernel
theorem dX0_waterInPond_10 : decode cX0_waterInPond 10 = .ok (.iconst 1, 1) := by decide +kernel
theorem dX0_waterInPond_11 : decode cX0_waterInPond 11 = .ok (.iaload, 1) := by decide +kernel
theorem dX0_waterInPond_12 : decode cX0_waterInPond 12 = .ok (.iadd, 1) := by decide +kernel
theorem dX0_waterInPond_13 : decode cX0_waterInPond 13 = .ok (.ireturn, 1) := by decide +kernel
theorem dX0_energyAt_0 : decode cX0_energyAt 0 = .ok (.aload_n 0, 1) := by decide +kernel
theorem dX0_energyAt_1 : decode cX0_energyAt 1 = .ok (.iload_n 2, 1) := by decide +kernel
theorem dX0_energyAt_2 : decode cX0_energyAt 2 = .ok (.invokevirtual 54, 3) := by decide +kernel
theorem dX0_energyAt_5 : decode cX0_energyAt 5 = .ok (.aload_n 0, 1) := by decide +kernel
theorem dX0_energyAt_6 : decode cX0_energyAt 6 = .ok (.getfield 15, 3) := by decide +kernel
theorem dX0_energyAt_9 : decode cX0_energyAt 9 = .ok (.iload_n 1, 1) := by decide +kernel
theorem dX0_energyAt_10 : decode cX0_energyAt 10 = .ok (.iconst 5, 1) := by decide +kernel
theorem dX0_energyAt_11 : decode cX0_energyAt 11 = .ok (.idiv, 1) := by decide +kernel
theorem dX0_energyAt_12 : decode cX0_energyAt 12 = .ok (.iadd, 1) := by decide +kernel
theorem dX0_energyAt_13 : decode cX0_energyAt 13 = .ok (.imul, 1) := by decide +kernel
theorem dX0_energyAt_14 : decode cX0_energyAt 14 = .ok (.bipush 10, 2) := by decide +kernel
theorem dX0_energyAt_16 : decode cX0_energyAt 16 = .ok (.idiv, 1) := by decide +kernel
theorem dX0_energyAt_17 : decode cX0_energyAt 17 = .ok (.ireturn, 1) := by decide +kernel
theorem dX0_inflowOf_0 : decode cX0_inflowOf 0 = .ok (.aload_n 0, 1) := by decide +kernel
theorem dX0_inflowOf_1 : decode cX0_inflowOf 1 = .ok (.getfield 58, 3) := by decide +kernel
theorem dX0_inflowOf_4 : decode cX0_inflowOf 4 = .ok (.aload_n 0, 1) := by decide +kernel
theorem dX0_inflowOf_5 : decode cX0_inflowOf 5 = .ok (.getfield 21, 3) := by decide +kernel
theorem dX0_inflowOf_8 : decode cX0_inflowOf 8 = .ok (.imul, 1) := by decide +kernel
theorem dX0_inflowOf_9 : decode cX0_inflowOf 9 = .ok (.bipush 100, 2) := by decide +kernel
theorem dX0_inflowOf_11 : decode cX0_inflowOf 11 = .ok (.idiv, 1) := by decide +kernel
theorem dX0_inflowOf_12 : decode cX0_inflowOf 12 = .ok (.istore_n 2, 1) := by decide +kernel
theorem dX0_inflowOf_13 : decode cX0_inflowOf 13 = .ok (.iload_n 1, 1) := by decide +kernel
theorem dX0_inflowOf_14 : decode cX0_inflowOf 14 = .ok (.ifCond .ne 7, 3) := by decide +kernel
theorem dX0_inflowOf_17 : decode cX0_inflowOf 17 = .ok (.iload_n 2, 1) := by decide +kernel
theorem dX0_inflowOf_18 : decode cX0_inflowOf 18 = .ok (.goto 9, 3) := by decide +kernel
theorem dX0_inflowOf_21 : decode cX0_inflowOf 21 = .ok (.aload_n 0, 1) := by decide +kernel
theorem dX0_inflowOf_22 : decode cX0_inflowOf 22 = .ok (.getfield 58, 3) := by decide +kernel
theorem dX0_inflowOf_25 : decode cX0_inflowOf 25 = .ok (.iload_n 2, 1) := by decide +kernel
theorem dX0_inflowOf_26 : decode cX0_inflowOf 26 = .ok (.isub, 1) := by decide +kernel
theorem dX0_inflowOf_27 : decode cX0_inflowOf 27 = .ok (.ireturn, 1) := by decide +kernel
theorem dX0_takeArrived_0 : decode cX0_takeArrived 0 = .ok (.aload_n 0, 1) := by decide +kernel
theorem dX0_takeArrived_1 : decode cX0_takeArrived 1 = .ok (.getfield 36, 3) := by decide +kernel
theorem dX0_takeArrived_4 : decode cX0_takeArrived 4 = .ok (.iload_n 1, 1) := by decide +kernel
theorem dX0_takeArrived_5 : decode cX0_takeArrived 5 = .ok (.aaload, 1) := by decide +kernel
theorem dX0_takeArrived_6 : decode cX0_takeArrived 6 = .ok (.iload_n 2, 1) := by decide +kernel
theorem dX0_takeArrived_7 : decode cX0_takeArrived 7 = .ok (.iaload, 1) := by decide +kernel
theorem dX0_takeArrived_8 : decode cX0_takeArrived 8 = .ok (.istore_n 3, 1) := by decide +kernel
theorem dX0_takeArrived_9 : decode cX0_takeArrived 9 = .ok (.aload_n 0, 1) := by decide +kernel
theorem dX0_takeArrived_10 : decode cX0_takeArrived 10 = .ok (.getfield 36, 3) := by decide +kernel
theorem dX0_takeArrived_13 : decode cX0_takeArrived 13 = .ok (.iload_n 1, 1) := by decide +kernel
theorem dX0_takeArrived_14 : decode cX0_takeArrived 14 = .ok (.aaload, 1) := by decide +kernel
theorem dX0_takeArrived_15 : decode cX0_takeArrived 15 = .ok (.iload_n 2, 1) := by decide +kernel
theorem dX0_takeArrived_16 : decode cX0_takeArrived 16 = .ok (.iconst 0, 1) := by decide +kernel
theorem dX0_takeArrived_17 : decode cX0_takeArrived 17 = .ok (.iastore, 1) := by decide +kernel
theorem dX0_takeArrived_18 : decode cX0_takeArrived 18 = .ok (.iload_n 3, 1) := by decide +kernel
theorem dX0_takeArrived_19 : decode cX0_takeArrived 19 = .ok (.ireturn, 1) := by decide +kernel
theorem dX0_allUnderWay_0 : decode cX0_allUnderWay 0 = .ok (.iconst 0, 1) := by decide +kernel
theorem dX0_allUnderWay_1 : decode cX0_allUnderWay 1 = .ok (.istore_n 2, 1) := by decide +kernel
theorem dX0_allUnderWay_2 : decode cX0_allUnderWay 2 = .ok (.iconst 0, 1) := by decide +kernel
theorem dX0_allUnderWay_3 : decode cX0_allUnderWay 3 = .ok (.istore_n 3, 1) := by decide +kernel
theorem dX0_allUnderWay_4 : decode cX0_allUnderWay 4 = .ok (.iload_n 3, 1) := by decide +kernel
theorem dX0_allUnderWay_5 : decode cX0_allUnderWay 5 = .ok (.bipush 6, 2) := by decide +kernel
theorem dX0_allUnderWay_7 : decode cX0_allUnderWay 7 = .ok (.if_icmp .ge 20, 3) := by decide +kernel
theorem dX0_allUnderWay_10 : decode cX0_allUnderWay 10 = .ok (.iload_n 2, 1) := by decide +kernel
theorem dX0_allUnderWay_11 : decode cX0_allUnderWay 11 = .ok (.aload_n 0, 1) := by decide +kernel
theorem dX0_allUnderWay_12 : decode cX0_allUnderWay 12 = .ok (.getfield 36, 3) := by decide +kernel
theorem dX0_allUnderWay_15 : decode cX0_allUnderWay 15 = .ok (.iload_n 1, 1) := by decide +kernel
theorem dX0_allUnderWay_16 : decode cX0_allUnderWay 16 = .ok (.aaload, 1) := by decide +kernel
theorem dX0_allUnderWay_17 : decode cX0_allUnderWay 17 = .ok (.iload_n 3, 1) := by decide +kernel
theorem dX0_allUnderWay_18 : decode cX0_allUnderWay 18 = .ok (.iaload, 1) := by decide +kernel
theorem dX0_allUnderWay_19 : decode cX0_allUnderWay 19 = .ok (.iadd, 1) := by decide +kernel
theorem dX0_allUnderWay_20 : decode cX0_allUnderWay 20 = .ok (.istore_n 2, 1) := by decide +kernel
theorem dX0_allUnderWay_21 : decode cX0_allUnderWay 21 = .ok (.iinc 3 1, 3) := by decide +kernel
theorem dX0_allUnderWay_24 : decode cX0_allUnderWay 24 = .ok (.goto (-20), 3) := by decide +kernel
theorem dX0_allUnderWay_27 : decode cX0_allUnderWay 27 = .ok (.iload_n 2, 1) := by decide +kernel
theorem dX0_allUnderWay_28 : decode cX0_allUnderWay 28 = .ok (.ireturn, 1) := by decide +kernel
theorem dX0_letGo_0 : decode cX0_letGo 0 = .ok (.aload_n 0, 1) := by decide +kernel
theorem dX0_letGo_1 : decode cX0_letGo 1 = .ok (.invokevirtual 61, 3) := by decide +kernel
theorem dX0_letGo_4 : decode cX0_letGo 4 = .ok (.istore_n 1, 1) := by decide +kernel
theorem dX0_letGo_5 : decode cX0_letGo 5 = .ok (.aload_n 0, 1) := by decide +kernel
theorem dX0_letGo_6 : decode cX0_letGo 6 = .ok (.iload_n 1, 1) := by decide +kernel
theorem dX0_letGo_7 : decode cX0_letGo 7 = .ok (.invokevirtual 65, 3) := by decide +kernel
theorem dX0_letGo_10 : decode cX0_letGo 10 = .ok (.aload_n 0, 1) := by decide +kernel
theorem dX0_letGo_11 : decode cX0_letGo 11 = .ok (.getfield 31, 3) := by decide +kernel
theorem dX0_letGo_14 : decode cX0_letGo 14 = .ok (.iconst 0, 1) := by decide +kernel
theorem dX0_letGo_15 : decode cX0_letGo 15 = .ok (.iaload, 1) := by decide +kernel
theorem dX0_letGo_16 : decode cX0_letGo 16 = .ok (.aload_n 0, 1) := by decide +kernel
theorem dX0_letGo_17 : decode cX0_letGo 17 = .ok (.getfield 31, 3) := by decide +kernel
theorem dX0_letGo_20 : decode cX0_letGo 20 = .ok (.iconst 1, 1) := by decide +kernel
theorem dX0_letGo_21 : decode cX0_letGo 21 = .ok (.iaload, 1) := by decide +kernel
theorem dX0_letGo_22 : decode cX0_letGo 22 = .ok (.iadd, 1) := by decide +kernel
theorem dX0_letGo_23 : decode cX0_letGo 23 = .ok (.istore_n 2, 1) := by decide +kernel
theorem dX0_letGo_24 : decode cX0_letGo 24 = .ok (.iload_n 2, 1) := by decide +kernel
theorem dX0_letGo_25 : decode cX0_letGo 25 = .ok (.aload_n 0, 1) := by decide +kernel
theorem dX0_letGo_26 : decode cX0_letGo 26 = .ok (.getfield 69, 3) := by decide +kernel
theorem dX0_letGo_29 : decode cX0_letGo 29 = .ok (.if_icmp .ge 13, 3) := by decide +kernel
theorem dX0_letGo_32 : decode cX0_letGo 32 = .ok (.aload_n 0, 1) := by decide +kernel
theorem dX0_letGo_33 : decode cX0_letGo 33 = .ok (.dup, 1) := by decide +kernel
theorem dX0_letGo_34 : decode cX0_letGo 34 = .ok (.getfield 72, 3) := by decide +kernel
theorem dX0_letGo_37 : decode cX0_letGo 37 = .ok (.iconst 1, 1) := by decide +kernel
theorem dX0_letGo_38 : decode cX0_letGo 38 = .ok (.iadd, 1) := by decide +kernel
theorem dX0_letGo_39 : decode cX0_letGo 39 = .ok (.putfield 72, 3) := by decide +kernel
theorem dX0_letGo_42 : decode cX0_letGo 42 = .ok (.aload_n 0, 1) := by decide +kernel
theorem dX0_letGo_43 : decode cX0_letGo 43 = .ok (.iload_n 2, 1) := by decide +kernel
theorem dX0_letGo_44 : decode cX0_letGo 44 = .ok (.bipush 16, 2) := by decide +kernel
theorem dX0_letGo_46 : decode cX0_letGo 46 = .ok (.invokestatic 75, 3) := by decide +kernel
theorem dX0_letGo_49 : decode cX0_letGo 49 = .ok (.putfield 78, 3) := by decide +kernel
theorem dX0_letGo_52 : decode cX0_letGo 52 = .ok (.aload_n 0, 1) := by decide +kernel
theorem dX0_letGo_53 : decode cX0_letGo 53 = .ok (.dup, 1) := by decide +kernel
theorem dX0_letGo_54 : decode cX0_letGo 54 = .ok (.getfield 81, 3) := by decide +kernel
theorem dX0_letGo_57 : decode cX0_letGo 57 = .ok (.aload_n 0, 1) := by decide +kernel
theorem dX0_letGo_58 : decode cX0_letGo 58 = .ok (.iload_n 1, 1) := by decide +kernel
theorem dX0_letGo_59 : decode cX0_letGo 59 = .ok (.aload_n 0, 1) := by decide +kernel
theorem dX0_letGo_60 : decode cX0_letGo 60 = .ok (.getfield 78, 3) := by decide +kernel
theorem dX0_letGo_63 : decode cX0_letGo 63 = .ok (.invokevirtual 84, 3) := by decide +kernel
theorem dX0_letGo_66 : decode cX0_letGo 66 = .ok (.iadd, 1) := by decide +kernel
theorem dX0_letGo_67 : decode cX0_letGo 67 = .ok (.putfield 81, 3) := by decide +kernel
theorem dX0_letGo_70 : decode cX0_letGo 70 = .ok (.aload_n 0, 1) := by decide +kernel
theorem dX0_letGo_71 : decode cX0_letGo 71 = .ok (.getfield 28, 3) := by decide +kernel
theorem dX0_letGo_74 : decode cX0_letGo 74 = .ok (.iconst 0, 1) := by decide +kernel
theorem dX0_letGo_75 : decode cX0_letGo 75 = .ok (.dup2, 1) := by decide +kernel
theorem dX0_letGo_76 : decode cX0_letGo 76 = .ok (.iaload, 1) := by decide +kernel
theorem dX0_letGo_77 : decode cX0_letGo 77 = .ok (.aload_n 0, 1) := by decide +kernel
theorem dX0_letGo_78 : decode cX0_letGo 78 = .ok (.getfield 31, 3) := by decide +kernel
theorem dX0_letGo_81 : decode cX0_letGo 81 = .ok (.iconst 0, 1) := by decide +kernel
theorem dX0_letGo_82 : decode cX0_letGo 82 = .ok (.iaload, 1) := by decide +kernel
theorem dX0_letGo_83 : decode cX0_letGo 83 = .ok (.isub, 1) := by decide +kernel
theorem dX0_letGo_84 : decode cX0_letGo 84 = .ok (.iastore, 1) := by decide +kernel
theorem dX0_letGo_85 : decode cX0_letGo 85 = .ok (.aload_n 0, 1) := by decide +kernel
theorem dX0_letGo_86 : decode cX0_letGo 86 = .ok (.getfield 28, 3) := by decide +kernel
theorem dX0_letGo_89 : decode cX0_letGo 89 = .ok (.iconst 1, 1) := by decide +kernel
theorem dX0_letGo_90 : decode cX0_letGo 90 = .ok (.dup2, 1) := by decide +kernel
theorem dX0_letGo_91 : decode cX0_letGo 91 = .ok (.iaload, 1) := by decide +kernel
theorem dX0_letGo_92 : decode cX0_letGo 92 = .ok (.aload_n 0, 1) := by decide +kernel
theorem dX0_letGo_93 : decode cX0_letGo 93 = .ok (.getfield 31, 3) := by decide +kernel
theorem dX0_letGo_96 : decode cX0_letGo 96 = .ok (.iconst 1, 1) := by decide +kernel
theorem dX0_letGo_97 : decode cX0_letGo 97 = .ok (.iaload, 1) := by decide +kernel
theorem dX0_letGo_98 : decode cX0_letGo 98 = .ok (.isub, 1) := by decide +kernel
theorem dX0_letGo_99 : decode cX0_letGo 99 = .ok (.iastore, 1) := by decide +kernel
theorem dX0_letGo_100 : decode cX0_letGo 100 = .ok (.return_, 1) := by decide +kernel
theorem dX0_setParts_0 : decode cX0_setParts 0 = .ok (.aload_n 0, 1) := by decide +kernel
theorem dX0_setParts_1 : decode cX0_setParts 1 = .ok (.getfield 31, 3) := by decide +kernel
theorem dX0_setParts_4 : decode cX0_setParts 4 = .ok (.iconst 0, 1) := by decide +kernel
theorem dX0_setParts_5 : decode cX0_setParts 5 = .ok (.aload_n 0, 1) := by decide +kernel
theorem dX0_setParts_6 : decode cX0_setParts 6 = .ok (.getfield 24, 3) := by decide +kernel
theorem dX0_setParts_9 : decode cX0_setParts 9 = .ok (.iconst 0, 1) := by decide +kernel
theorem dX0_setParts_10 : decode cX0_setParts 10 = .ok (.iaload, 1) := by decide +kernel
theorem dX0_setParts_11 : decode cX0_setParts 11 = .ok (.iastore, 1) := by decide +kernel
theorem dX0_setParts_12 : decode cX0_setParts 12 = .ok (.aload_n 0, 1) := by decide +kernel
theorem dX0_setParts_13 : decode cX0_setParts 13 = .ok (.getfield 31, 3) := by decide +kernel
theorem dX0_setParts_16 : decode cX0_setParts 16 = .ok (.iconst 1, 1) := by decide +kernel
theorem dX0_setParts_17 : decode cX0_setParts 17 = .ok (.aload_n 0, 1) := by decide +kernel
theorem dX0_setParts_18 : decode cX0_setParts 18 = .ok (.getfield 24, 3) := by decide +kernel
theorem dX0_setParts_21 : decode cX0_setParts 21 = .ok (.iconst 1, 1) := by decide +kernel
theorem dX0_setParts_22 : decode cX0_setParts 22 = .ok (.iaload, 1) := by decide +kernel
theorem dX0_setParts_23 : decode cX0_setParts 23 = .ok (.iastore, 1) := by decide +kernel
theorem dX0_setParts_24 : decode cX0_setParts 24 = .ok (.aload_n 0, 1) := by decide +kernel
theorem dX0_setParts_25 : decode cX0_setParts 25 = .ok (.getfield 69, 3) := by decide +kernel
theorem dX0_setParts_28 : decode cX0_setParts 28 = .ok (.aload_n 0, 1) := by decide +kernel
theorem dX0_setParts_29 : decode cX0_setParts 29 = .ok (.getfield 31, 3) := by decide +kernel
theorem dX0_setParts_32 : decode cX0_setParts 32 = .ok (.iconst 0, 1) := by decide +kernel
theorem dX0_setParts_33 : decode cX0_setParts 33 = .ok (.iaload, 1) := by decide +kernel
theorem dX0_setParts_34 : decode cX0_setParts 34 = .ok (.isub, 1) := by decide +kernel
theorem dX0_setParts_35 : decode cX0_setParts 35 = .ok (.aload_n 0, 1) := by decide +kernel
theorem dX0_setParts_36 : decode cX0_setParts 36 = .ok (.getfield 31, 3) := by decide +kernel
theorem dX0_setParts_39 : decode cX0_setParts 39 = .ok (.iconst 1, 1) := by decide +kernel
theorem dX0_setParts_40 : decode cX0_setParts 40 = .ok (.iaload, 1) := by decide +kernel
theorem dX0_setParts_41 : decode cX0_setParts 41 = .ok (.isub, 1) := by decide +kernel
theorem dX0_setParts_42 : decode cX0_setParts 42 = .ok (.istore_n 2, 1) := by decide +kernel
theorem dX0_setParts_43 : decode cX0_setParts 43 = .ok (.iload_n 2, 1) := by decide +kernel
theorem dX0_setParts_44 : decode cX0_setParts 44 = .ok (.ifCond .le 16, 3) := by decide +kernel
theorem dX0_setParts_47 : decode cX0_setParts 47 = .ok (.aload_n 0, 1) := by decide +kernel
theorem dX0_setParts_48 : decode cX0_setParts 48 = .ok (.getfield 31, 3) := by decide +kernel
theorem dX0_setParts_51 : decode cX0_setParts 51 = .ok (.aload_n 0, 1) := by decide +kernel
theorem dX0_setParts_52 : decode cX0_setParts 52 = .ok (.invokevirtual 87, 3) := by decide +kernel
theorem dX0_setParts_55 : decode cX0_setParts 55 = .ok (.dup2, 1) := by decide +kernel
theorem dX0_setParts_56 : decode cX0_setParts 56 = .ok (.iaload, 1) := by decide +kernel
theorem dX0_setParts_57 : decode cX0_setParts 57 = .ok (.iload_n 2, 1) := by decide +kernel
theorem dX0_setParts_58 : decode cX0_setParts 58 = .ok (.iadd, 1) := by decide +kernel
theorem dX0_setParts_59 : decode cX0_setParts 59 = .ok (.iastore, 1) := by decide +kernel
theorem dX0_setParts_60 : decode cX0_setParts 60 = .ok (.aload_n 0, 1) := by decide +kernel
theorem dX0_setParts_61 : decode cX0_setParts 61 = .ok (.getfield 31, 3) := by decide +kernel
theorem dX0_setParts_64 : decode cX0_setParts 64 = .ok (.iconst 0, 1) := by decide +kernel
theorem dX0_setParts_65 : decode cX0_setParts 65 = .ok (.iaload, 1) := by decide +kernel
theorem dX0_setParts_66 : decode cX0_setParts 66 = .ok (.aload_n 0, 1) := by decide +kernel
theorem dX0_setParts_67 : decode cX0_setParts 67 = .ok (.getfield 31, 3) := by decide +kernel
theorem dX0_setParts_70 : decode cX0_setParts 70 = .ok (.iconst 1, 1) := by decide +kernel
theorem dX0_setParts_71 : decode cX0_setParts 71 = .ok (.iaload, 1) := by decide +kernel
theorem dX0_setParts_72 : decode cX0_setParts 72 = .ok (.iadd, 1) := by decide +kernel
theorem dX0_setParts_73 : decode cX0_setParts 73 = .ok (.iload_n 1, 1) := by decide +kernel
theorem dX0_setParts_74 : decode cX0_setParts 74 = .ok (.isub, 1) := by decide +kernel
theorem dX0_setParts_75 : decode cX0_setParts 75 = .ok (.istore_n 3, 1) := by decide +kernel
theorem dX0_setParts_76 : decode cX0_setParts 76 = .ok (.iload_n 3, 1) := by decide +kernel
theorem dX0_setParts_77 : decode cX0_setParts 77 = .ok (.ifCond .le 8, 3) := by decide +kernel
theorem dX0_setParts_80 : decode cX0_setParts 80 = .ok (.aload_n 0, 1) := by decide +kernel
theorem dX0_setParts_81 : decode cX0_setParts 81 = .ok (.iload_n 3, 1) := by decide +kernel
theorem dX0_setParts_82 : decode cX0_setParts 82 = .ok (.invokevirtual 90, 3) := by decide +kernel
theorem dX0_setParts_85 : decode cX0_setParts 85 = .ok (.return_, 1) := by decide +kernel
theorem dX0_cutParts_0 : decode cX0_cutParts 0 = .ok (.aload_n 0, 1) := by decide +kernel
theorem dX0_cutParts_1 : decode cX0_cutParts 1 = .ok (.getfield 28, 3) := by decide +kernel
theorem dX0_cutParts_4 : decode cX0_cutParts 4 = .ok (.iconst 0, 1) := by decide +kernel
theorem dX0_cutParts_5 : decode cX0_cutParts 5 = .ok (.iaload, 1) := by decide +kernel
theorem dX0_cutParts_6 : decode cX0_cutParts 6 = .ok (.aload_n 0, 1) := by decide +kernel
theorem dX0_cutParts_7 : decode cX0_cutParts 7 = .ok (.getfield 31, 3) := by decide +kernel
theorem dX0_cutParts_10 : decode cX0_cutParts 10 = .ok (.iconst 0, 1) := by decide +kernel
theorem dX0_cutParts_11 : decode cX0_cutParts 11 = .ok (.iaload, 1) := by decide +kernel
theorem dX0_cutParts_12 : decode cX0_cutParts 12 = .ok (.isub, 1) := by decide +kernel
theorem dX0_cutParts_13 : decode cX0_cutParts 13 = .ok (.aload_n 0, 1) := by decide +kernel
theorem dX0_cutParts_14 : decode cX0_cutParts 14 = .ok (.getfield 28, 3) := by decide +kernel
theorem dX0_cutParts_17 : decode cX0_cutParts 17 = .ok (.iconst 1, 1) := by decide +kernel
theorem dX0_cutParts_18 : decode cX0_cutParts 18 = .ok (.iaload, 1) := by decide +kernel
theorem dX0_cutParts_19 : decode cX0_cutParts 19 = .ok (.aload_n 0, 1) := by decide +kernel
theorem dX0_cutParts_20 : decode cX0_cutParts 20 = .ok (.getfield 31, 3) := by decide +kernel
theorem dX0_cutParts_23 : decode cX0_cutParts 23 = .ok (.iconst 1, 1) := by decide +kernel
theorem dX0_cutParts_24 : decode cX0_cutParts 24 = .ok (.iaload, 1) := by decide +kernel
theorem dX0_cutParts_25 : decode cX0_cutParts 25 = .ok (.isub, 1) := by decide +kernel
theorem dX0_cutParts_26 : decode cX0_cutParts 26 = .ok (.if_icmp .ge 7, 3) := by decide +kernel
theorem dX0_cutParts_29 : decode cX0_cutParts 29 = .ok (.iconst 0, 1) := by decide +kernel
theorem dX0_cutParts_30 : decode cX0_cutParts 30 = .ok (.goto 4, 3) := by decide +kernel
theorem dX0_cutParts_33 : decode cX0_cutParts 33 = .ok (.iconst 1, 1) := by decide +kernel
theorem dX0_cutParts_34 : decode cX0_cutParts 34 = .ok (.istore_n 2, 1) := by decide +kernel
theorem dX0_cutParts_35 : decode cX0_cutParts 35 = .ok (.iload_n 1, 1) := by decide +kernel
theorem dX0_cutParts_36 : decode cX0_cutParts 36 = .ok (.aload_n 0, 1) := by decide +kernel
theorem dX0_cutParts_37 : decode cX0_cutParts 37 = .ok (.getfield 31, 3) := by decide +kernel
theorem dX0_cutParts_40 : decode cX0_cutParts 40 = .ok (.iload_n 2, 1) := by decide +kernel
theorem dX0_cutParts_41 : decode cX0_cutParts 41 = .ok (.iaload, 1) := by decide +kernel
theorem dX0_cutParts_42 : decode cX0_cutParts 42 = .ok (.invokestatic 75, 3) := by decide +kernel
theorem dX0_cutParts_45 : decode cX0_cutParts 45 = .ok (.istore_n 3, 1) := by decide +kernel
theorem dX0_cutParts_46 : decode cX0_cutParts 46 = .ok (.aload_n 0, 1) := by decide +kernel
theorem dX0_cutParts_47 : decode cX0_cutParts 47 = .ok (.getfield 31, 3) := by decide +kernel
theorem dX0_cutParts_50 : decode cX0_cutParts 50 = .ok (.iload_n 2, 1) := by decide +kernel
theorem dX0_cutParts_51 : decode cX0_cutParts 51 = .ok (.dup2, 1) := by decide +kernel
theorem dX0_cutParts_52 : decode cX0_cutParts 52 = .ok (.iaload, 1) := by decide +kernel
theorem dX0_cutParts_53 : decode cX0_cutParts 53 = .ok (.iload_n 3, 1) := by decide +kernel
theorem dX0_cutParts_54 : decode cX0_cutParts 54 = .ok (.isub, 1) := by decide +kernel
theorem dX0_cutParts_55 : decode cX0_cutParts 55 = .ok (.iastore, 1) := by decide +kernel
theorem dX0_cutParts_56 : decode cX0_cutParts 56 = .ok (.aload_n 0, 1) := by decide +kernel
theorem dX0_cutParts_57 : decode cX0_cutParts 57 = .ok (.getfield 31, 3) := by decide +kernel
theorem dX0_cutParts_60 : decode cX0_cutParts 60 = .ok (.iconst 1, 1) := by decide +kernel
theorem dX0_cutParts_61 : decode cX0_cutParts 61 = .ok (.iload_n 2, 1) := by decide +kernel
theorem dX0_cutParts_62 : decode cX0_cutParts 62 = .ok (.isub, 1) := by decide +kernel
theorem dX0_cutParts_63 : decode cX0_cutParts 63 = .ok (.dup2, 1) := by decide +kernel
theorem dX0_cutParts_64 : decode cX0_cutParts 64 = .ok (.iaload, 1) := by decide +kernel
theorem dX0_cutParts_65 : decode cX0_cutParts 65 = .ok (.iload_n 1, 1) := by decide +kernel
theorem dX0_cutParts_66 : decode cX0_cutParts 66 = .ok (.iload_n 3, 1) := by decide +kernel
theorem dX0_cutParts_67 : decode cX0_cutParts 67 = .ok (.isub, 1) := by decide +kernel
theorem dX0_cutParts_68 : decode cX0_cutParts 68 = .ok (.isub, 1) := by decide +kernel
theorem dX0_cutParts_69 : decode cX0_cutParts 69 = .ok (.iastore, 1) := by decide +kernel
theorem dX0_cutParts_70 : decode cX0_cutParts 70 = .ok (.return_, 1) := by decide +kernel
theorem dX0_ownerWithMore_0 : decode cX0_ownerWithMore 0 = .ok (.aload_n 0, 1) := by decide +kernel
theorem dX0_ownerWithMore_1 : decode cX0_ownerWithMore 1 = .ok (.getfield 28, 3) := by decide +kernel
theorem dX0_ownerWithMore_4 : decode cX0_ownerWithMore 4 = .ok (.iconst 0, 1) := by decide +kernel
theorem dX0_ownerWithMore_5 : decode cX0_ownerWithMore 5 = .ok (.iaload, 1) := by decide +kernel
theorem dX0_ownerWithMore_6 : decode cX0_ownerWithMore 6 = .ok (.aload_n 0, 1) := by decide +kernel
theorem dX0_ownerWithMore_7 : decode cX0_ownerWithMore 7 = .ok (.getfield 28, 3) := by decide +kernel
theorem dX0_ownerWithMore_10 : decode cX0_ownerWithMore 10 = .ok (.iconst 1, 1) := by decide +kernel
theorem dX0_ownerWithMore_11 : decode cX0_ownerWithMore 11 = .ok (.iaload, 1) := by decide +kernel
theorem dX0_ownerWithMore_12 : decode cX0_ownerWithMore 12 = .ok (.if_icmp .lt 7, 3) := by decide +kernel
theorem dX0_ownerWithMore_15 : decode cX0_ownerWithMore 15 = .ok (.iconst 0, 1) := by decide +kernel
theorem dX0_ownerWithMore_16 : decode cX0_ownerWithMore 16 = .ok (.goto 4, 3) := by decide +kernel
theorem dX0_ownerWithMore_19 : decode cX0_ownerWithMore 19 = .ok (.iconst 1, 1) := by decide +kernel
theorem dX0_ownerWithMore_20 : decode cX0_ownerWithMore 20 = .ok (.ireturn, 1) := by decide +kernel
theorem dX0_spillOver_0 : decode cX0_spillOver 0 = .ok (.aload_n 0, 1) := by decide +kernel
theorem dX0_spillOver_1 : decode cX0_spillOver 1 = .ok (.invokevirtual 61, 3) := by decide +kernel
theorem dX0_spillOver_4 : decode cX0_spillOver 4 = .ok (.aload_n 0, 1) := by decide +kernel
theorem dX0_spillOver_5 : decode cX0_spillOver 5 = .ok (.getfield 9, 3) := by decide +kernel
theorem dX0_spillOver_8 : decode cX0_spillOver 8 = .ok (.isub, 1) := by decide +kernel
theorem dX0_spillOver_9 : decode cX0_spillOver 9 = .ok (.istore_n 1, 1) := by decide +kernel
theorem dX0_spillOver_10 : decode cX0_spillOver 10 = .ok (.iload_n 1, 1) := by decide +kernel
theorem dX0_spillOver_11 : decode cX0_spillOver 11 = .ok (.ifCond .le 38, 3) := by decide +kernel
theorem dX0_spillOver_14 : decode cX0_spillOver 14 = .ok (.aload_n 0, 1) := by decide +kernel
theorem dX0_spillOver_15 : decode cX0_spillOver 15 = .ok (.invokevirtual 87, 3) := by decide +kernel
theorem dX0_spillOver_18 : decode cX0_spillOver 18 = .ok (.istore_n 2, 1) := by decide +kernel
theorem dX0_spillOver_19 : decode cX0_spillOver 19 = .ok (.aload_n 0, 1) := by decide +kernel
theorem dX0_spillOver_20 : decode cX0_spillOver 20 = .ok (.getfield 28, 3) := by decide +kernel
theorem dX0_spillOver_23 : decode cX0_spillOver 23 = .ok (.iload_n 2, 1) := by decide +kernel
theorem dX0_spillOver_24 : decode cX0_spillOver 24 = .ok (.dup2, 1) := by decide +kernel
theorem dX0_spillOver_25 : decode cX0_spillOver 25 = .ok (.iaload, 1) := by decide +kernel
theorem dX0_spillOver_26 : decode cX0_spillOver 26 = .ok (.iload_n 1, 1) := by decide +kernel
theorem dX0_spillOver_27 : decode cX0_spillOver 27 = .ok (.isub, 1) := by decide +kernel
theorem dX0_spillOver_28 : decode cX0_spillOver 28 = .ok (.iastore, 1) := by decide +kernel
theorem dX0_spillOver_29 : decode cX0_spillOver 29 = .ok (.aload_n 0, 1) := by decide +kernel
theorem dX0_spillOver_30 : decode cX0_spillOver 30 = .ok (.getfield 31, 3) := by decide +kernel
theorem dX0_spillOver_33 : decode cX0_spillOver 33 = .ok (.iload_n 2, 1) := by decide +kernel
theorem dX0_spillOver_34 : decode cX0_spillOver 34 = .ok (.dup2, 1) := by decide +kernel
theorem dX0_spillOver_35 : decode cX0_spillOver 35 = .ok (.iaload, 1) := by decide +kernel
theorem dX0_spillOver_36 : decode cX0_spillOver 36 = .ok (.iload_n 1, 1) := by decide +kernel
theorem dX0_spillOver_37 : decode cX0_spillOver 37 = .ok (.iadd, 1) := by decide +kernel
theorem dX0_spillOver_38 : decode cX0_spillOver 38 = .ok (.iastore, 1) := by decide +kernel
theorem dX0_spillOver_39 : decode cX0_spillOver 39 = .ok (.aload_n 0, 1) := by decide +kernel
theorem dX0_spillOver_40 : decode cX0_spillOver 40 = .ok (.dup, 1) := by decide +kernel
theorem dX0_spillOver_41 : decode cX0_spillOver 41 = .ok (.getfield 93, 3) := by decide +kernel
theorem dX0_spillOver_44 : decode cX0_spillOver 44 = .ok (.iload_n 1, 1) := by decide +kernel
theorem dX0_spillOver_45 : decode cX0_spillOver 45 = .ok (.iadd, 1) := by decide +kernel
theorem dX0_spillOver_46 : decode cX0_spillOver 46 = .ok (.putfield 93, 3) := by decide +kernel
theorem dX0_spillOver_49 : decode cX0_spillOver 49 = .ok (.return_, 1) := by decide +kernel
theorem dX0_leastRelease_0 : decode cX0_leastRelease 0 = .ok (.aload_n 0, 1) := by decide +kernel
theorem dX0_leastRelease_1 : decode cX0_leastRelease 1 = .ok (.getfield 69, 3) := by decide +kernel
theorem dX0_leastRelease_4 : decode cX0_leastRelease 4 = .ok (.iconst 4, 1) := by decide +kernel
theorem dX0_leastRelease_5 : decode cX0_leastRelease 5 = .ok (.iadd, 1) := by decide +kernel
theorem dX0_leastRelease_6 : decode cX0_leastRelease 6 = .ok (.iconst 1, 1) := by decide +kernel
theorem dX0_leastRelease_7 : decode cX0_leastRelease 7 = .ok (.isub, 1) := by decide +kernel
theorem dX0_leastRelease_8 : decode cX0_leastRelease 8 = .ok (.iconst 4, 1) := by decide +kernel
theorem dX0_leastRelease_9 : decode cX0_leastRelease 9 = .ok (.idiv, 1) := by decide +kernel
theorem dX0_leastRelease_10 : decode cX0_leastRelease 10 = .ok (.iconst 4, 1) := by decide +kernel
theorem dX0_leastRelease_11 : decode cX0_leastRelease 11 = .ok (.imul, 1) := by decide +kernel
theorem dX0_leastRelease_12 : decode cX0_leastRelease 12 = .ok (.istore_n 2, 1) := by decide +kernel
theorem dX0_leastRelease_13 : decode cX0_leastRelease 13 = .ok (.iload_n 2, 1) := by decide +kernel
theorem dX0_leastRelease_14 : decode cX0_leastRelease 14 = .ok (.bipush 16, 2) := by decide +kernel
theorem dX0_leastRelease_16 : decode cX0_leastRelease 16 = .ok (.if_icmp .gt 8, 3) := by decide +kernel
theorem dX0_leastRelease_19 : decode cX0_leastRelease 19 = .ok (.iload_n 2, 1) := by decide +kernel
theorem dX0_leastRelease_20 : decode cX0_leastRelease 20 = .ok (.iload_n 1, 1) := by decide +kernel
theorem dX0_leastRelease_21 : decode cX0_leastRelease 21 = .ok (.if_icmp .le 7, 3) := by decide +kernel
theorem dX0_leastRelease_24 : decode cX0_leastRelease 24 = .ok (.iconst 0, 1) := by decide +kernel
theorem dX0_leastRelease_25 : decode cX0_leastRelease 25 = .ok (.goto 4, 3) := by decide +kernel
theorem dX0_leastRelease_28 : decode cX0_leastRelease 28 = .ok (.iload_n 2, 1) := by decide +kernel
theorem dX0_leastRelease_29 : decode cX0_leastRelease 29 = .ok (.ireturn, 1) := by decide +kernel
theorem dX0_levelBehind_0 : decode cX0_levelBehind 0 = .ok (.iload_n 1, 1) := by decide +kernel
theorem dX0_levelBehind_1 : decode cX0_levelBehind 1 = .ok (.iload_n 2, 1) := by decide +kernel
theorem dX0_levelBehind_2 : decode cX0_levelBehind 2 = .ok (.isub, 1) := by decide +kernel
theorem dX0_levelBehind_3 : decode cX0_levelBehind 3 = .ok (.aload_n 0, 1) := by decide +kernel
theorem dX0_levelBehind_4 : decode cX0_levelBehind 4 = .ok (.getfield 9, 3) := by decide +kernel
theorem dX0_levelBehind_7 : decode cX0_levelBehind 7 = .ok (.invokestatic 75, 3) := by decide +kernel
theorem dX0_levelBehind_10 : decode cX0_levelBehind 10 = .ok (.ireturn, 1) := by decide +kernel
theorem dX1_init_0 : decode cX1_init 0 = .ok (.aload_n 0, 1) := by decide +kernel
theorem dX1_init_1 : decode cX1_init 1 = .ok (.invokespecial 3, 3) := by decide +kernel
theorem dX1_init_4 : decode cX1_init 4 = .ok (.aload_n 0, 1) := by decide +kernel
theorem dX1_init_5 : decode cX1_init 5 = .ok (.iconst 3, 1) := by decide +kernel
theorem dX1_init_6 : decode cX1_init 6 = .ok (.anewarray 9, 3) := by decide +kernel
theorem dX1_init_9 : decode cX1_init 9 = .ok (.putfield 11, 3) := by decide +kernel
theorem dX1_init_12 : decode cX1_init 12 = .ok (.aload_n 0, 1) := by decide +kernel
theorem dX1_init_13 : decode cX1_init 13 = .ok (.iconst 2, 1) := by decide +kernel
theorem dX1_init_14 : decode cX1_init 14 = .ok (.newarray .int, 2) := by decide +kernel
theorem dX1_init_16 : decode cX1_init 16 = .ok (.putfield 15, 3) := by decide +kernel
theorem dX1_init_19 : decode cX1_init 19 = .ok (.aload_n 0, 1) := by decide +kernel
theorem dX1_init_20 : decode cX1_init 20 = .ok (.iconst 2, 1) := by decide +kernel
theorem dX1_init_21 : decode cX1_init 21 = .ok (.newarray .int, 2) := by decide +kernel
theorem dX1_init_23 : decode cX1_init 23 = .ok (.putfield 19, 3) := by decide +kernel
theorem dX1_init_26 : decode cX1_init 26 = .ok (.aload_n 0, 1) := by decide +kernel
theorem dX1_init_27 : decode cX1_init 27 = .ok (.iconst 2, 1) := by decide +kernel
theorem dX1_init_28 : decode cX1_init 28 = .ok (.newarray .int, 2) := by decide +kernel
theorem dX1_init_30 : decode cX1_init 30 = .ok (.putfield 22, 3) := by decide +kernel
theorem dX1_init_33 : decode cX1_init 33 = .ok (.aload_n 0, 1) := by decide +kernel
theorem dX1_init_34 : decode cX1_init 34 = .ok (.sipush 201, 3) := by decide +kernel
theorem dX1_init_37 : decode cX1_init 37 = .ok (.newarray .int, 2) := by decide +kernel
theorem dX1_init_39 : decode cX1_init 39 = .ok (.putfield 25, 3) := by decide +kernel
theorem dX1_init_42 : decode cX1_init 42 = .ok (.aload_n 0, 1) := by decide +kernel
theorem dX1_init_43 : decode cX1_init 43 = .ok (.sipush 201, 3) := by decide +kernel
theorem dX1_init_46 : decode cX1_init 46 = .ok (.newarray .int, 2) := by decide +kernel
theorem dX1_init_48 : decode cX1_init 48 = .ok (.putfield 28, 3) := by decide +kernel
theorem dX1_init_51 : decode cX1_init 51 = .ok (.iconst 0, 1) := by decide +kernel
theorem dX1_init_52 : decode cX1_init 52 = .ok (.istore_n 1, 1) := by decide +kernel
theorem dX1_init_53 : decode cX1_init 53 = .ok (.iload_n 1, 1) := by decide +kernel
theorem dX1_init_54 : decode cX1_init 54 = .ok (.iconst 3, 1) := by decide +kernel
theorem dX1_init_55 : decode cX1_init 55 = .ok (.if_icmp .ge 22, 3) := by decide +kernel
theorem dX1_init_58 : decode cX1_init 58 = .ok (.aload_n 0, 1) := by decide +kernel
theorem dX1_init_59 : decode cX1_init 59 = .ok (.getfield 11, 3) := by decide +kernel
theorem dX1_init_62 : decode cX1_init 62 = .ok (.iload_n 1, 1) := by decide +kernel
theorem dX1_init_63 : decode cX1_init 63 = .ok (.new 9, 3) := by decide +kernel
theorem dX1_init_66 : decode cX1_init 66 = .ok (.dup, 1) := by decide +kernel
theorem dX1_init_67 : decode cX1_init 67 = .ok (.invokespecial 31, 3) := by decide +kernel
theorem dX1_init_70 : decode cX1_init 70 = .ok (.aastore, 1) := by decide +kernel
theorem dX1_init_71 : decode cX1_init 71 = .ok (.iinc 1 1, 3) := by decide +kernel
theorem dX1_init_74 : decode cX1_init 74 = .ok (.goto (-21), 3) := by decide +kernel
theorem dX1_init_77 : decode cX1_init 77 = .ok (.return_, 1) := by decide +kernel
theorem dX1_setPond_0 : decode cX1_setPond 0 = .ok (.iload_n 1, 1) := by decide +kernel
theorem dX1_setPond_1 : decode cX1_setPond 1 = .ok (.invokestatic 32, 3) := by decide +kernel
theorem dX1_setPond_4 : decode cX1_setPond 4 = .ok (.iload_n 2, 1) := by decide +kernel
theorem dX1_setPond_5 : decode cX1_setPond 5 = .ok (.iconst 1, 1) := by decide +kernel
theorem dX1_setPond_6 : decode cX1_setPond 6 = .ok (.sipush 200, 3) := by decide +kernel
theorem dX1_setPond_9 : decode cX1_setPond 9 = .ok (.invokestatic 36, 3) := by decide +kernel
theorem dX1_setPond_12 : decode cX1_setPond 12 = .ok (.iload_n 3, 1) := by decide +kernel
theorem dX1_setPond_13 : decode cX1_setPond 13 = .ok (.iconst 0, 1) := by decide +kernel
theorem dX1_setPond_14 : decode cX1_setPond 14 = .ok (.bipush 100, 2) := by decide +kernel
theorem dX1_setPond_16 : decode cX1_setPond 16 = .ok (.invokestatic 36, 3) := by decide +kernel
theorem dX1_setPond_19 : decode cX1_setPond 19 = .ok (.iload 4, 2) := by decide +kernel
theorem dX1_setPond_21 : decode cX1_setPond 21 = .ok (.iconst 0, 1) := by decide +kernel
theorem dX1_setPond_22 : decode cX1_setPond 22 = .ok (.iconst 5, 1) := by decide +kernel
theorem dX1_setPond_23 : decode cX1_setPond 23 = .ok (.invokestatic 36, 3) := by decide +kernel
theorem dX1_setPond_26 : decode cX1_setPond 26 = .ok (.aload_n 0, 1) := by decide +kernel
theorem dX1_setPond_27 : decode cX1_setPond 27 = .ok (.getfield 11, 3) := by decide +kernel
theorem dX1_setPond_30 : decode cX1_setPond 30 = .ok (.iload_n 1, 1) := by decide +kernel
theorem dX1_setPond_31 : decode cX1_setPond 31 = .ok (.aaload, 1) := by decide +kernel
theorem dX1_setPond_32 : decode cX1_setPond 32 = .ok (.astore 5, 2) := by decide +kernel
theorem dX1_setPond_34 : decode cX1_setPond 34 = .ok (.aload 5, 2) := by decide +kernel
theorem dX1_setPond_36 : decode cX1_setPond 36 = .ok (.iload_n 2, 1) := by decide +kernel
theorem dX1_setPond_37 : decode cX1_setPond 37 = .ok (.putfield 40, 3) := by decide +kernel
theorem dX1_setPond_40 : decode cX1_setPond 40 = .ok (.aload 5, 2) := by decide +kernel
theorem dX1_setPond_42 : decode cX1_setPond 42 = .ok (.iload_n 3, 1) := by decide +kernel
theorem dX1_setPond_43 : decode cX1_setPond 43 = .ok (.putfield 44, 3) := by decide +kernel
theorem dX1_setPond_46 : decode cX1_setPond 46 = .ok (.aload 5, 2) := by decide +kernel
theorem dX1_setPond_48 : decode cX1_setPond 48 = .ok (.iload 4, 2) := by decide +kernel
theorem dX1_setPond_50 : decode cX1_setPond 50 = .ok (.putfield 47, 3) := by decide +kernel
theorem dX1_setPond_53 : decode cX1_setPond 53 = .ok (.return_, 1) := by decide +kernel
theorem dX1_setInflow_0 : decode cX1_setInflow 0 = .ok (.iload_n 1, 1) := by decide +kernel
theorem dX1_setInflow_1 : decode cX1_setInflow 1 = .ok (.invokestatic 32, 3) := by decide +kernel
theorem dX1_setInflow_4 : decode cX1_setInflow 4 = .ok (.iload_n 2, 1) := by decide +kernel
theorem dX1_setInflow_5 : decode cX1_setInflow 5 = .ok (.iconst 0, 1) := by decide +kernel
theorem dX1_setInflow_6 : decode cX1_setInflow 6 = .ok (.bipush 50, 2) := by decide +kernel
theorem dX1_setInflow_8 : decode cX1_setInflow 8 = .ok (.invokestatic 36, 3) := by decide +kernel
theorem dX1_setInflow_11 : decode cX1_setInflow 11 = .ok (.iload_n 3, 1) := by decide +kernel
theorem dX1_setInflow_12 : decode cX1_setInflow 12 = .ok (.iconst 0, 1) := by decide +kernel
theorem dX1_setInflow_13 : decode cX1_setInflow 13 = .ok (.bipush 100, 2) := by decide +kernel
theorem dX1_setInflow_15 : decode cX1_setInflow 15 = .ok (.invokestatic 36, 3) := by decide +kernel
theorem dX1_setInflow_18 : decode cX1_setInflow 18 = .ok (.aload_n 0, 1) := by decide +kernel
theorem dX1_setInflow_19 : decode cX1_setInflow 19 = .ok (.getfield 11, 3) := by decide +kernel
theorem dX1_setInflow_22 : decode cX1_setInflow 22 = .ok (.iload_n 1, 1) := by decide +kernel
theorem dX1_setInflow_23 : decode cX1_setInflow 23 = .ok (.aaload, 1) := by decide +kernel
theorem dX1_setInflow_24 : decode cX1_setInflow 24 = .ok (.getfield 50, 3) := by decide +kernel
theorem dX1_setInflow_27 : decode cX1_setInflow 27 = .ok (.istore 4, 2) := by decide +kernel
theorem dX1_setInflow_29 : decode cX1_setInflow 29 = .ok (.aload_n 0, 1) := by decide +kernel
theorem dX1_setInflow_30 : decode cX1_setInflow 30 = .ok (.getfield 11, 3) := by decide +kernel
theorem dX1_setInflow_33 : decode cX1_setInflow 33 = .ok (.iload_n 1, 1) := by decide +kernel
theorem dX1_setInflow_34 : decode cX1_setInflow 34 = .ok (.aaload, 1) := by decide +kernel
theorem dX1_setInflow_35 : decode cX1_setInflow 35 = .ok (.iload_n 2, 1) := by decide +kernel
theorem dX1_setInflow_36 : decode cX1_setInflow 36 = .ok (.putfield 50, 3) := by decide +kernel
theorem dX1_setInflow_39 : decode cX1_setInflow 39 = .ok (.aload_n 0, 1) := by decide +kernel
theorem dX1_setInflow_40 : decode cX1_setInflow 40 = .ok (.getfield 11, 3) := by decide +kernel
theorem dX1_setInflow_43 : decode cX1_setInflow 43 = .ok (.iload_n 1, 1) := by decide +kernel
theorem dX1_setInflow_44 : decode cX1_setInflow 44 = .ok (.aaload, 1) := by decide +kernel
theorem dX1_setInflow_45 : decode cX1_setInflow 45 = .ok (.iload_n 3, 1) := by decide +kernel
theorem dX1_setInflow_46 : decode cX1_setInflow 46 = .ok (.putfield 53, 3) := by decide +kernel
theorem dX1_setInflow_49 : decode cX1_setInflow 49 = .ok (.iload 4, 2) := by decide +kernel
theorem dX1_setInflow_51 : decode cX1_setInflow 51 = .ok (.ireturn, 1) := by decide +kernel
theorem dX1_setMinimum_0 : decode cX1_setMinimum 0 = .ok (.iload_n 1, 1) := by decide +kernel
theorem dX1_setMinimum_1 : decode cX1_setMinimum 1 = .ok (.invokestatic 32, 3) := by decide +kernel
theorem dX1_setMinimum_4 : decode cX1_setMinimum 4 = .ok (.iload_n 2, 1) := by decide +kernel
theorem dX1_setMinimum_5 : decode cX1_setMinimum 5 = .ok (.iconst 0, 1) := by decide +kernel
theorem dX1_setMinimum_6 : decode cX1_setMinimum 6 = .ok (.bipush 20, 2) := by decide +kernel
theorem dX1_setMinimum_8 : decode cX1_setMinimum 8 = .ok (.invokestatic 36, 3) := by decide +kernel
theorem dX1_setMinimum_11 : decode cX1_setMinimum 11 = .ok (.aload_n 0, 1) := by decide +kernel
theorem dX1_setMinimum_12 : decode cX1_setMinimum 12 = .ok (.getfield 11, 3) := by decide +kernel
theorem dX1_setMinimum_15 : decode cX1_setMinimum 15 = .ok (.iload_n 1, 1) := by decide +kernel
theorem dX1_setMinimum_16 : decode cX1_setMinimum 16 = .ok (.aaload, 1) := by decide +kernel
theorem dX1_setMinimum_17 : decode cX1_setMinimum 17 = .ok (.getfield 56, 3) := by decide +kernel
theorem dX1_setMinimum_20 : decode cX1_setMinimum 20 = .ok (.istore_n 3, 1) := by decide +kernel
theorem dX1_setMinimum_21 : decode cX1_setMinimum 21 = .ok (.aload_n 0, 1) := by decide +kernel
theorem dX1_setMinimum_22 : decode cX1_setMinimum 22 = .ok (.getfield 11, 3) := by decide +kernel
theorem dX1_setMinimum_25 : decode cX1_setMinimum 25 = .ok (.iload_n 1, 1) := by decide +kernel
theorem dX1_setMinimum_26 : decode cX1_setMinimum 26 = .ok (.aaload, 1) := by decide +kernel
theorem dX1_setMinimum_27 : decode cX1_setMinimum 27 = .ok (.iload_n 2, 1) := by decide +kernel
theorem dX1_setMinimum_28 : decode cX1_setMinimum 28 = .ok (.putfield 56, 3) := by decide +kernel
theorem dX1_setMinimum_31 : decode cX1_setMinimum 31 = .ok (.iload_n 3, 1) := by decide +kernel
theorem dX1_setMinimum_32 : decode cX1_setMinimum 32 = .ok (.ireturn, 1) := by decide +kernel
theorem dX1_order_0 : decode cX1_order 0 = .ok (.iload_n 1, 1) := by decide +kernel
theorem dX1_order_1 : decode cX1_order 1 = .ok (.invokestatic 32, 3) := by decide +kernel
theorem dX1_order_4 : decode cX1_order 4 = .ok (.iload_n 2, 1) := by decide +kernel
theorem dX1_order_5 : decode cX1_order 5 = .ok (.invokestatic 59, 3) := by decide +kernel
theorem dX1_order_8 : decode cX1_order 8 = .ok (.iload_n 3, 1) := by decide +kernel
theorem dX1_order_9 : decode cX1_order 9 = .ok (.iconst 0, 1) := by decide +kernel
theorem dX1_order_10 : decode cX1_order 10 = .ok (.bipush 30, 2) := by decide +kernel
theorem dX1_order_12 : decode cX1_order 12 = .ok (.invokestatic 36, 3) := by decide +kernel
theorem dX1_order_15 : decode cX1_order 15 = .ok (.aload_n 0, 1) := by decide +kernel
theorem dX1_order_16 : decode cX1_order 16 = .ok (.getfield 11, 3) := by decide +kernel
theorem dX1_order_19 : decode cX1_order 19 = .ok (.iload_n 1, 1) := by decide +kernel
theorem dX1_order_20 : decode cX1_order 20 = .ok (.aaload, 1) := by decide +kernel
theorem dX1_order_21 : decode cX1_order 21 = .ok (.getfield 62, 3) := by decide +kernel
theorem dX1_order_24 : decode cX1_order 24 = .ok (.iload_n 2, 1) := by decide +kernel
theorem dX1_order_25 : decode cX1_order 25 = .ok (.iaload, 1) := by decide +kernel
theorem dX1_order_26 : decode cX1_order 26 = .ok (.istore 4, 2) := by decide +kernel
theorem dX1_order_28 : decode cX1_order 28 = .ok (.aload_n 0, 1) := by decide +kernel
theorem dX1_order_29 : decode cX1_order 29 = .ok (.getfield 11, 3) := by decide +kernel
theorem dX1_order_32 : decode cX1_order 32 = .ok (.iload_n 1, 1) := by decide +kernel
theorem dX1_order_33 : decode cX1_order 33 = .ok (.aaload, 1) := by decide +kernel
theorem dX1_order_34 : decode cX1_order 34 = .ok (.getfield 62, 3) := by decide +kernel
theorem dX1_order_37 : decode cX1_order 37 = .ok (.iload_n 2, 1) := by decide +kernel
theorem dX1_order_38 : decode cX1_order 38 = .ok (.iload_n 3, 1) := by decide +kernel
theorem dX1_order_39 : decode cX1_order 39 = .ok (.iastore, 1) := by decide +kernel
theorem dX1_order_40 : decode cX1_order 40 = .ok (.iload 4, 2) := by decide +kernel
theorem dX1_order_42 : decode cX1_order 42 = .ok (.ireturn, 1) := by decide +kernel
theorem dX1_setYield_0 : decode cX1_setYield 0 = .ok (.iload_n 1, 1) := by decide +kernel
theorem dX1_setYield_1 : decode cX1_setYield 1 = .ok (.invokestatic 32, 3) := by decide +kernel
theorem dX1_setYield_4 : decode cX1_setYield 4 = .ok (.iload_n 2, 1) := by decide +kernel
theorem dX1_setYield_5 : decode cX1_setYield 5 = .ok (.iconst 0, 1) := by decide +kernel
theorem dX1_setYield_6 : decode cX1_setYield 6 = .ok (.iconst 1, 1) := by decide +kernel
theorem dX1_setYield_7 : decode cX1_setYield 7 = .ok (.invokestatic 36, 3) := by decide +kernel
theorem dX1_setYield_10 : decode cX1_setYield 10 = .ok (.iload_n 3, 1) := by decide +kernel
theorem dX1_setYield_11 : decode cX1_setYield 11 = .ok (.iconst 1, 1) := by decide +kernel
theorem dX1_setYield_12 : decode cX1_setYield 12 = .ok (.bipush 8, 2) := by decide +kernel
theorem dX1_setYield_14 : decode cX1_setYield 14 = .ok (.invokestatic 36, 3) := by decide +kernel
theorem dX1_setYield_17 : decode cX1_setYield 17 = .ok (.iload 4, 2) := by decide +kernel
theorem dX1_setYield_19 : decode cX1_setYield 19 = .ok (.iconst 0, 1) := by decide +kernel
theorem dX1_setYield_20 : decode cX1_setYield 20 = .ok (.sipush 200, 3) := by decide +kernel
theorem dX1_setYield_23 : decode cX1_setYield 23 = .ok (.invokestatic 36, 3) := by decide +kernel
theorem dX1_setYield_26 : decode cX1_setYield 26 = .ok (.aload_n 0, 1) := by decide +kernel
theorem dX1_setYield_27 : decode cX1_setYield 27 = .ok (.getfield 11, 3) := by decide +kernel
theorem dX1_setYield_30 : decode cX1_setYield 30 = .ok (.iload_n 1, 1) := by decide +kernel
theorem dX1_setYield_31 : decode cX1_setYield 31 = .ok (.aaload, 1) := by decide +kernel
theorem dX1_setYield_32 : decode cX1_setYield 32 = .ok (.getfield 65, 3) := by decide +kernel
theorem dX1_setYield_35 : decode cX1_setYield 35 = .ok (.iload_n 2, 1) := by decide +kernel
theorem dX1_setYield_36 : decode cX1_setYield 36 = .ok (.aaload, 1) := by decide +kernel
theorem dX1_setYield_37 : decode cX1_setYield 37 = .ok (.iload_n 3, 1) := by decide +kernel
theorem dX1_setYield_38 : decode cX1_setYield 38 = .ok (.iaload, 1) := by decide +kernel
theorem dX1_setYield_39 : decode cX1_setYield 39 = .ok (.istore 5, 2) := by decide +kernel
theorem dX1_setYield_41 : decode cX1_setYield 41 = .ok (.aload_n 0, 1) := by decide +kernel
theorem dX1_setYield_42 : decode cX1_setYield 42 = .ok (.getfield 11, 3) := by decide +kernel
theorem dX1_setYield_45 : decode cX1_setYield 45 = .ok (.iload_n 1, 1) := by decide +kernel
theorem dX1_setYield_46 : decode cX1_setYield 46 = .ok (.aaload, 1) := by decide +kernel
theorem dX1_setYield_47 : decode cX1_setYield 47 = .ok (.getfield 65, 3) := by decide +kernel
theorem dX1_setYield_50 : decode cX1_setYield 50 = .ok (.iload_n 2, 1) := by decide +kernel
theorem dX1_setYield_51 : decode cX1_setYield 51 = .ok (.aaload, 1) := by decide +kernel
theorem dX1_setYield_52 : decode cX1_setYield 52 = .ok (.iload_n 3, 1) := by decide +kernel
theorem dX1_setYield_53 : decode cX1_setYield 53 = .ok (.iload 4, 2) := by decide +kernel
theorem dX1_setYield_55 : decode cX1_setYield 55 = .ok (.iastore, 1) := by decide +kernel
theorem dX1_setYield_56 : decode cX1_setYield 56 = .ok (.aload_n 0, 1) := by decide +kernel
theorem dX1_setYield_57 : decode cX1_setYield 57 = .ok (.getfield 11, 3) := by decide +kernel
theorem dX1_setYield_60 : decode cX1_setYield 60 = .ok (.iload_n 1, 1) := by decide +kernel
theorem dX1_setYield_61 : decode cX1_setYield 61 = .ok (.aaload, 1) := by decide +kernel
theorem dX1_setYield_62 : decode cX1_setYield 62 = .ok (.invokevirtual 69, 3) := by decide +kernel
theorem dX1_setYield_65 : decode cX1_setYield 65 = .ok (.iload 5, 2) := by decide +kernel
theorem dX1_setYield_67 : decode cX1_setYield 67 = .ok (.ireturn, 1) := by decide +kernel
theorem dX1_run_0 : decode cX1_run 0 = .ok (.iload_n 1, 1) := by decide +kernel
theorem dX1_run_1 : decode cX1_run 1 = .ok (.iconst 1, 1) := by decide +kernel
theorem dX1_run_2 : decode cX1_run 2 = .ok (.bipush 24, 2) := by decide +kernel
theorem dX1_run_4 : decode cX1_run 4 = .ok (.invokestatic 36, 3) := by decide +kernel
theorem dX1_run_7 : decode cX1_run 7 = .ok (.aload_n 0, 1) := by decide +kernel
theorem dX1_run_8 : decode cX1_run 8 = .ok (.getfield 72, 3) := by decide +kernel
theorem dX1_run_11 : decode cX1_run 11 = .ok (.iload_n 1, 1) := by decide +kernel
theorem dX1_run_12 : decode cX1_run 12 = .ok (.iadd, 1) := by decide +kernel
theorem dX1_run_13 : decode cX1_run 13 = .ok (.sipush 200, 3) := by decide +kernel
theorem dX1_run_16 : decode cX1_run 16 = .ok (.if_icmp .le 13, 3) := by decide +kernel
theorem dX1_run_19 : decode cX1_run 19 = .ok (.new 75, 3) := by decide +kernel
theorem dX1_run_22 : decode cX1_run 22 = .ok (.dup, 1) := by decide +kernel
theorem dX1_run_23 : decode cX1_run 23 = .ok (.ldc 77, 2) := by decide +kernel
theorem dX1_run_25 : decode cX1_run 25 = .ok (.invokespecial 79, 3) := by decide +kernel
theorem dX1_run_28 : decode cX1_run 28 = .ok (.athrow, 1) := by decide +kernel
theorem dX1_run_29 : decode cX1_run 29 = .ok (.iconst 0, 1) := by decide +kernel
theorem dX1_run_30 : decode cX1_run 30 = .ok (.istore_n 2, 1) := by decide +kernel
theorem dX1_run_31 : decode cX1_run 31 = .ok (.iload_n 2, 1) := by decide +kernel
theorem dX1_run_32 : decode cX1_run 32 = .ok (.iload_n 1, 1) := by decide +kernel
theorem dX1_run_33 : decode cX1_run 33 = .ok (.if_icmp .ge 37, 3) := by decide +kernel
theorem dX1_run_36 : decode cX1_run 36 = .ok (.iconst 0, 1) := by decide +kernel
theorem dX1_run_37 : decode cX1_run 37 = .ok (.istore_n 3, 1) := by decide +kernel
theorem dX1_run_38 : decode cX1_run 38 = .ok (.iload_n 3, 1) := by decide +kernel
theorem dX1_run_39 : decode cX1_run 39 = .ok (.iconst 3, 1) := by decide +kernel
theorem dX1_run_40 : decode cX1_run 40 = .ok (.if_icmp .ge 14, 3) := by decide +kernel
theorem dX1_run_43 : decode cX1_run 43 = .ok (.aload_n 0, 1) := by decide +kernel
theorem dX1_run_44 : decode cX1_run 44 = .ok (.iload_n 3, 1) := by decide +kernel
theorem dX1_run_45 : decode cX1_run 45 = .ok (.invokevirtual 82, 3) := by decide +kernel
theorem dX1_run_48 : decode cX1_run 48 = .ok (.iinc 3 1, 3) := by decide +kernel
theorem dX1_run_51 : decode cX1_run 51 = .ok (.goto (-13), 3) := by decide +kernel
theorem dX1_run_54 : decode cX1_run 54 = .ok (.aload_n 0, 1) := by decide +kernel
theorem dX1_run_55 : decode cX1_run 55 = .ok (.dup, 1) := by decide +kernel
theorem dX1_run_56 : decode cX1_run 56 = .ok (.getfield 72, 3) := by decide +kernel
theorem dX1_run_59 : decode cX1_run 59 = .ok (.iconst 1, 1) := by decide +kernel
theorem dX1_run_60 : decode cX1_run 60 = .ok (.iadd, 1) := by decide +kernel
theorem dX1_run_61 : decode cX1_run 61 = .ok (.putfield 72, 3) := by decide +kernel
theorem dX1_run_64 : decode cX1_run 64 = .ok (.iinc 2 1, 3) := by decide +kernel
theorem dX1_run_67 : decode cX1_run 67 = .ok (.goto (-36), 3) := by decide +kernel
theorem dX1_run_70 : decode cX1_run 70 = .ok (.aload_n 0, 1) := by decide +kernel
theorem dX1_run_71 : decode cX1_run 71 = .ok (.getfield 72, 3) := by decide +kernel
theorem dX1_run_74 : decode cX1_run 74 = .ok (.ireturn, 1) := by decide +kernel
theorem dX1_hour_0 : decode cX1_hour 0 = .ok (.aload_n 0, 1) := by decide +kernel
theorem dX1_hour_1 : decode cX1_hour 1 = .ok (.getfield 72, 3) := by decide +kernel
theorem dX1_hour_4 : decode cX1_hour 4 = .ok (.ireturn, 1) := by decide +kernel
theorem dX1_lend_0 : decode cX1_lend 0 = .ok (.iload_n 1, 1) := by decide +kernel
theorem dX1_lend_1 : decode cX1_lend 1 = .ok (.invokestatic 32, 3) := by decide +kernel
theorem dX1_lend_4 : decode cX1_lend 4 = .ok (.iload_n 2, 1) := by decide +kernel
theorem dX1_lend_5 : decode cX1_lend 5 = .ok (.invokestatic 59, 3) := by decide +kernel
theorem dX1_lend_8 : decode cX1_lend 8 = .ok (.iload_n 3, 1) := by decide +kernel
theorem dX1_lend_9 : decode cX1_lend 9 = .ok (.iconst 1, 1) := by decide +kernel
theorem dX1_lend_10 : decode cX1_lend 10 = .ok (.bipush 100, 2) := by decide +kernel
theorem dX1_lend_12 : decode cX1_lend 12 = .ok (.invokestatic 36, 3) := by decide +kernel
theorem dX1_lend_15 : decode cX1_lend 15 = .ok (.aload_n 0, 1) := by decide +kernel
theorem dX1_lend_16 : decode cX1_lend 16 = .ok (.getfield 11, 3) := by decide +kernel
theorem dX1_lend_19 : decode cX1_lend 19 = .ok (.iload_n 1, 1) := by decide +kernel
theorem dX1_lend_20 : decode cX1_lend 20 = .ok (.aaload, 1) := by decide +kernel
theorem dX1_lend_21 : decode cX1_lend 21 = .ok (.getfield 85, 3) := by decide +kernel
theorem dX1_lend_24 : decode cX1_lend 24 = .ok (.astore 4, 2) := by decide +kernel
theorem dX1_lend_26 : decode cX1_lend 26 = .ok (.aload 4, 2) := by decide +kernel
theorem dX1_lend_28 : decode cX1_lend 28 = .ok (.iload_n 2, 1) := by decide +kernel
theorem dX1_lend_29 : decode cX1_lend 29 = .ok (.iaload, 1) := by decide +kernel
theorem dX1_lend_30 : decode cX1_lend 30 = .ok (.iload_n 3, 1) := by decide +kernel
theorem dX1_lend_31 : decode cX1_lend 31 = .ok (.if_icmp .ge 13, 3) := by decide +kernel
theorem dX1_lend_34 : decode cX1_lend 34 = .ok (.new 75, 3) := by decide +kernel
theorem dX1_lend_37 : decode cX1_lend 37 = .ok (.dup, 1) := by decide +kernel
theorem dX1_lend_38 : decode cX1_lend 38 = .ok (.ldc 88, 2) := by decide +kernel
theorem dX1_lend_40 : decode cX1_lend 40 = .ok (.invokespecial 79, 3) := by decide +kernel
theorem dX1_lend_43 : decode cX1_lend 43 = .ok (.athrow, 1) := by decide +kernel
theorem dX1_lend_44 : decode cX1_lend 44 = .ok (.iconst 1, 1) := by decide +kernel
theorem dX1_lend_45 : decode cX1_lend 45 = .ok (.iload_n 2, 1) := by decide +kernel
theorem dX1_lend_46 : decode cX1_lend 46 = .ok (.isub, 1) := by decide +kernel
theorem dX1_lend_47 : decode cX1_lend 47 = .ok (.istore 5, 2) := by decide +kernel
theorem dX1_lend_49 : decode cX1_lend 49 = .ok (.aload 4, 2) := by decide +kernel
theorem dX1_lend_51 : decode cX1_lend 51 = .ok (.iload_n 2, 1) := by decide +kernel
theorem dX1_lend_52 : decode cX1_lend 52 = .ok (.dup2, 1) := by decide +kernel
theorem dX1_lend_53 : decode cX1_lend 53 = .ok (.iaload, 1) := by decide +kernel
theorem dX1_lend_54 : decode cX1_lend 54 = .ok (.iload_n 3, 1) := by decide +kernel
theorem dX1_lend_55 : decode cX1_lend 55 = .ok (.isub, 1) := by decide +kernel
theorem dX1_lend_56 : decode cX1_lend 56 = .ok (.iastore, 1) := by decide +kernel
theorem dX1_lend_57 : decode cX1_lend 57 = .ok (.aload 4, 2) := by decide +kernel
theorem dX1_lend_59 : decode cX1_lend 59 = .ok (.iload 5, 2) := by decide +kernel
theorem dX1_lend_61 : decode cX1_lend 61 = .ok (.dup2, 1) := by decide +kernel
theorem dX1_lend_62 : decode cX1_lend 62 = .ok (.iaload, 1) := by decide +kernel
theorem dX1_lend_63 : decode cX1_lend 63 = .ok (.iload_n 3, 1) := by decide +kernel
theorem dX1_lend_64 : decode cX1_lend 64 = .ok (.iadd, 1) := by decide +kernel
theorem dX1_lend_65 : decode cX1_lend 65 = .ok (.iastore, 1) := by decide +kernel
theorem dX1_lend_66 : decode cX1_lend 66 = .ok (.aload_n 0, 1) := by decide +kernel
theorem dX1_lend_67 : decode cX1_lend 67 = .ok (.getfield 22, 3) := by decide +kernel
theorem dX1_lend_70 : decode cX1_lend 70 = .ok (.iload_n 2, 1) := by decide +kernel
theorem dX1_lend_71 : decode cX1_lend 71 = .ok (.dup2, 1) := by decide +kernel
theorem dX1_lend_72 : decode cX1_lend 72 = .ok (.iaload, 1) := by decide +kernel
theorem dX1_lend_73 : decode cX1_lend 73 = .ok (.iload_n 3, 1) := by decide +kernel
theorem dX1_lend_74 : decode cX1_lend 74 = .ok (.isub, 1) := by decide +kernel
theorem dX1_lend_75 : decode cX1_lend 75 = .ok (.iastore, 1) := by decide +kernel
theorem dX1_lend_76 : decode cX1_lend 76 = .ok (.aload_n 0, 1) := by decide +kernel
theorem dX1_lend_77 : decode cX1_lend 77 = .ok (.getfield 22, 3) := by decide +kernel
theorem dX1_lend_80 : decode cX1_lend 80 = .ok (.iload 5, 2) := by decide +kernel
theorem dX1_lend_82 : decode cX1_lend 82 = .ok (.dup2, 1) := by decide +kernel
theorem dX1_lend_83 : decode cX1_lend 83 = .ok (.iaload, 1) := by decide +kernel
theorem dX1_lend_84 : decode cX1_lend 84 = .ok (.iload_n 3, 1) := by decide +kernel
theorem dX1_lend_85 : decode cX1_lend 85 = .ok (.iadd, 1) := by decide +kernel
theorem dX1_lend_86 : decode cX1_lend 86 = .ok (.iastore, 1) := by decide +kernel
theorem dX1_lend_87 : decode cX1_lend 87 = .ok (.aload 4, 2) := by decide +kernel
theorem dX1_lend_89 : decode cX1_lend 89 = .ok (.iload_n 2, 1) := by decide +kernel
theorem dX1_lend_90 : decode cX1_lend 90 = .ok (.iaload, 1) := by decide +kernel
theorem dX1_lend_91 : decode cX1_lend 91 = .ok (.ireturn, 1) := by decide +kernel
theorem dX1_account_0 : decode cX1_account 0 = .ok (.iload_n 1, 1) := by decide +kernel
theorem dX1_account_1 : decode cX1_account 1 = .ok (.invokestatic 32, 3) := by decide +kernel
theorem dX1_account_4 : decode cX1_account 4 = .ok (.iload_n 2, 1) := by decide +kernel
theorem dX1_account_5 : decode cX1_account 5 = .ok (.invokestatic 59, 3) := by decide +kernel
theorem dX1_account_8 : decode cX1_account 8 = .ok (.aload_n 0, 1) := by decide +kernel
theorem dX1_account_9 : decode cX1_account 9 = .ok (.getfield 11, 3) := by decide +kernel
theorem dX1_account_12 : decode cX1_account 12 = .ok (.iload_n 1, 1) := by decide +kernel
theorem dX1_account_13 : decode cX1_account 13 = .ok (.aaload, 1) := by decide +kernel
theorem dX1_account_14 : decode cX1_account 14 = .ok (.getfield 85, 3) := by decide +kernel
theorem dX1_account_17 : decode cX1_account 17 = .ok (.iload_n 2, 1) := by decide +kernel
theorem dX1_account_18 : decode cX1_account 18 = .ok (.iaload, 1) := by decide +kernel
theorem dX1_account_19 : decode cX1_account 19 = .ok (.ireturn, 1) := by decide +kernel
theorem dX1_level_0 : decode cX1_level 0 = .ok (.iload_n 1, 1) := by decide +kernel
theorem dX1_level_1 : decode cX1_level 1 = .ok (.invokestatic 32, 3) := by decide +kernel
theorem dX1_level_4 : decode cX1_level 4 = .ok (.aload_n 0, 1) := by decide +kernel
theorem dX1_level_5 : decode cX1_level 5 = .ok (.getfield 11, 3) := by decide +kernel
theorem dX1_level_8 : decode cX1_level 8 = .ok (.iload_n 1, 1) := by decide +kernel
theorem dX1_level_9 : decode cX1_level 9 = .ok (.aaload, 1) := by decide +kernel
theorem dX1_level_10 : decode cX1_level 10 = .ok (.invokevirtual 90, 3) := by decide +kernel
theorem dX1_level_13 : decode cX1_level 13 = .ok (.ireturn, 1) := by decide +kernel
theorem dX1_travelling_0 : decode cX1_travelling 0 = .ok (.iload_n 1, 1) := by decide +kernel
theorem dX1_travelling_1 : decode cX1_travelling 1 = .ok (.invokestatic 94, 3) := by decide +kernel
theorem dX1_travelling_4 : decode cX1_travelling 4 = .ok (.iload_n 2, 1) := by decide +kernel
theorem dX1_travelling_5 : decode cX1_travelling 5 = .ok (.invokestatic 59, 3) := by decide +kernel
theorem dX1_travelling_8 : decode cX1_travelling 8 = .ok (.aload_n 0, 1) := by decide +kernel
theorem dX1_travelling_9 : decode cX1_travelling 9 = .ok (.getfield 11, 3) := by decide +kernel
theorem dX1_travelling_12 : decode cX1_travelling 12 = .ok (.iload_n 1, 1) := by decide +kernel
theorem dX1_travelling_13 : decode cX1_travelling 13 = .ok (.aaload, 1) := by decide +kernel
theorem dX1_travelling_14 : decode cX1_travelling 14 = .ok (.iload_n 2, 1) := by decide +kernel
theorem dX1_travelling_15 : decode cX1_travelling 15 = .ok (.invokevirtual 97, 3) := by decide +kernel
theorem dX1_travelling_18 : decode cX1_travelling 18 = .ok (.ireturn, 1) := by decide +kernel
theorem dX1_arriving_0 : decode cX1_arriving 0 = .ok (.iload_n 1, 1) := by decide +kernel
theorem dX1_arriving_1 : decode cX1_arriving 1 = .ok (.invokestatic 94, 3) := by decide +kernel
theorem dX1_arriving_4 : decode cX1_arriving 4 = .ok (.iload_n 2, 1) := by decide +kernel
theorem dX1_arriving_5 : decode cX1_arriving 5 = .ok (.invokestatic 59, 3) := by decide +kernel
theorem dX1_arriving_8 : decode cX1_arriving 8 = .ok (.iload_n 3, 1) := by decide +kernel
theorem dX1_arriving_9 : decode cX1_arriving 9 = .ok (.iconst 0, 1) := by decide +kernel
theorem dX1_arriving_10 : decode cX1_arriving 10 = .ok (.sipush 300, 3) := by decide +kernel
theorem dX1_arriving_13 : decode cX1_arriving 13 = .ok (.invokestatic 36, 3) := by decide +kernel
theorem dX1_arriving_16 : decode cX1_arriving 16 = .ok (.iload_n 3, 1) := by decide +kernel
theorem dX1_arriving_17 : decode cX1_arriving 17 = .ok (.aload_n 0, 1) := by decide +kernel
theorem dX1_arriving_18 : decode cX1_arriving 18 = .ok (.getfield 72, 3) := by decide +kernel
theorem dX1_arriving_21 : decode cX1_arriving 21 = .ok (.if_icmp .lt 13, 3) := by decide +kernel
theorem dX1_arriving_24 : decode cX1_arriving 24 = .ok (.iload_n 3, 1) := by decide +kernel
theorem dX1_arriving_25 : decode cX1_arriving 25 = .ok (.aload_n 0, 1) := by decide +kernel
theorem dX1_arriving_26 : decode cX1_arriving 26 = .ok (.getfield 72, 3) := by decide +kernel
theorem dX1_arriving_29 : decode cX1_arriving 29 = .ok (.iconst 5, 1) := by decide +kernel
theorem dX1_arriving_30 : decode cX1_arriving 30 = .ok (.iadd, 1) := by decide +kernel
theorem dX1_arriving_31 : decode cX1_arriving 31 = .ok (.if_icmp .le 5, 3) := by decide +kernel
theorem dX1_arriving_34 : decode cX1_arriving 34 = .ok (.iconst 0, 1) := by decide +kernel
theorem dX1_arriving_35 : decode cX1_arriving 35 = .ok (.ireturn, 1) := by decide +kernel
theorem dX1_arriving_36 : decode cX1_arriving 36 = .ok (.aload_n 0, 1) := by decide +kernel
theorem dX1_arriving_37 : decode cX1_arriving 37 = .ok (.getfield 11, 3) := by decide +kernel
theorem dX1_arriving_40 : decode cX1_arriving 40 = .ok (.iload_n 1, 1) := by decide +kernel
theorem dX1_arriving_41 : decode cX1_arriving 41 = .ok (.aaload, 1) := by decide +kernel
theorem dX1_arriving_42 : decode cX1_arriving 42 = .ok (.getfield 101, 3) := by decide +kernel
theorem dX1_arriving_45 : decode cX1_arriving 45 = .ok (.iload_n 2, 1) := by decide +kernel
theorem dX1_arriving_46 : decode cX1_arriving 46 = .ok (.aaload, 1) := by decide +kernel
theorem dX1_arriving_47 : decode cX1_arriving 47 = .ok (.iload_n 3, 1) := by decide +kernel
theorem dX1_arriving_48 : decode cX1_arriving 48 = .ok (.invokestatic 104, 3) := by decide +kernel
theorem dX1_arriving_51 : decode cX1_arriving 51 = .ok (.iaload, 1) := by decide +kernel
theorem dX1_arriving_52 : decode cX1_arriving 52 = .ok (.ireturn, 1) := by decide +kernel
theorem dX1_cameIn_0 : decode cX1_cameIn 0 = .ok (.iload_n 1, 1) := by decide +kernel
theorem dX1_cameIn_1 : decode cX1_cameIn 1 = .ok (.invokestatic 59, 3) := by decide +kernel
theorem dX1_cameIn_4 : decode cX1_cameIn 4 = .ok (.aload_n 0, 1) := by decide +kernel
theorem dX1_cameIn_5 : decode cX1_cameIn 5 = .ok (.getfield 15, 3) := by decide +kernel
theorem dX1_cameIn_8 : decode cX1_cameIn 8 = .ok (.iload_n 1, 1) := by decide +kernel
theorem dX1_cameIn_9 : decode cX1_cameIn 9 = .ok (.iaload, 1) := by decide +kernel
theorem dX1_cameIn_10 : decode cX1_cameIn 10 = .ok (.ireturn, 1) := by decide +kernel
theorem dX1_gone_0 : decode cX1_gone 0 = .ok (.iload_n 1, 1) := by decide +kernel
theorem dX1_gone_1 : decode cX1_gone 1 = .ok (.invokestatic 59, 3) := by decide +kernel
theorem dX1_gone_4 : decode cX1_gone 4 = .ok (.aload_n 0, 1) := by decide +kernel
theorem dX1_gone_5 : decode cX1_gone 5 = .ok (.getfield 19, 3) := by decide +kernel
theorem dX1_gone_8 : decode cX1_gone 8 = .ok (.iload_n 1, 1) := by decide +kernel
theorem dX1_gone_9 : decode cX1_gone 9 = .ok (.iaload, 1) := by decide +kernel
theorem dX1_gone_10 : decode cX1_gone 10 = .ok (.ireturn, 1) := by decide +kernel
theorem dX1_balance_0 : decode cX1_balance 0 = .ok (.iload_n 1, 1) := by decide +kernel
theorem dX1_balance_1 : decode cX1_balance 1 = .ok (.invokestatic 59, 3) := by decide +kernel
theorem dX1_balance_4 : decode cX1_balance 4 = .ok (.aload_n 0, 1) := by decide +kernel
theorem dX1_balance_5 : decode cX1_balance 5 = .ok (.getfield 15, 3) := by decide +kernel
theorem dX1_balance_8 : decode cX1_balance 8 = .ok (.iload_n 1, 1) := by decide +kernel
theorem dX1_balance_9 : decode cX1_balance 9 = .ok (.iaload, 1) := by decide +kernel
theorem dX1_balance_10 : decode cX1_balance 10 = .ok (.aload_n 0, 1) := by decide +kernel
theorem dX1_balance_11 : decode cX1_balance 11 = .ok (.getfield 19, 3) := by decide +kernel
theorem dX1_balance_14 : decode cX1_balance 14 = .ok (.iload_n 1, 1) := by decide +kernel
theorem dX1_balance_15 : decode cX1_balance 15 = .ok (.iaload, 1) := by decide +kernel
theorem dX1_balance_16 : decode cX1_balance 16 = .ok (.isub, 1) := by decide +kernel
theorem dX1_balance_17 : decode cX1_balance 17 = .ok (.aload_n 0, 1) := by decide +kernel
theorem dX1_balance_18 : decode cX1_balance 18 = .ok (.getfield 22, 3) := by decide +kernel
theorem dX1_balance_21 : decode cX1_balance 21 = .ok (.iload_n 1, 1) := by decide +kernel
theorem dX1_balance_22 : decode cX1_balance 22 = .ok (.iaload, 1) := by decide +kernel
theorem dX1_balance_23 : decode cX1_balance 23 = .ok (.iadd, 1) := by decide +kernel
theorem dX1_balance_24 : decode cX1_balance 24 = .ok (.ireturn, 1) := by decide +kernel
theorem dX1_spilled_0 : decode cX1_spilled 0 = .ok (.iload_n 1, 1) := by decide +kernel
theorem dX1_spilled_1 : decode cX1_spilled 1 = .ok (.invokestatic 32, 3) := by decide +kernel
theorem dX1_spilled_4 : decode cX1_spilled 4 = .ok (.aload_n 0, 1) := by decide +kernel
theorem dX1_spilled_5 : decode cX1_spilled 5 = .ok (.getfield 11, 3) := by decide +kernel
theorem dX1_spilled_8 : decode cX1_spilled 8 = .ok (.iload_n 1, 1) := by decide +kernel
theorem dX1_spilled_9 : decode cX1_spilled 9 = .ok (.aaload, 1) := by decide +kernel
theorem dX1_spilled_10 : decode cX1_spilled 10 = .ok (.getfield 107, 3) := by decide +kernel
theorem dX1_spilled_13 : decode cX1_spilled 13 = .ok (.ireturn, 1) := by decide +kernel
theorem dX1_missed_0 : decode cX1_missed 0 = .ok (.iload_n 1, 1) := by decide +kernel
theorem dX1_missed_1 : decode cX1_missed 1 = .ok (.invokestatic 32, 3) := by decide +kernel
theorem dX1_missed_4 : decode cX1_missed 4 = .ok (.aload_n 0, 1) := by decide +kernel
theorem dX1_missed_5 : decode cX1_missed 5 = .ok (.getfield 11, 3) := by decide +kernel
theorem dX1_missed_8 : decode cX1_missed 8 = .ok (.iload_n 1, 1) := by decide +kernel
theorem dX1_missed_9 : decode cX1_missed 9 = .ok (.aaload, 1) := by decide +kernel
theorem dX1_missed_10 : decode cX1_missed 10 = .ok (.getfield 110, 3) := by decide +kernel
theorem dX1_missed_13 : decode cX1_missed 13 = .ok (.ireturn, 1) := by decide +kernel
theorem dX1_flow_0 : decode cX1_flow 0 = .ok (.iload_n 1, 1) := by decide +kernel
theorem dX1_flow_1 : decode cX1_flow 1 = .ok (.invokestatic 32, 3) := by decide +kernel
theorem dX1_flow_4 : decode cX1_flow 4 = .ok (.aload_n 0, 1) := by decide +kernel
theorem dX1_flow_5 : decode cX1_flow 5 = .ok (.getfield 11, 3) := by decide +kernel
theorem dX1_flow_8 : decode cX1_flow 8 = .ok (.iload_n 1, 1) := by decide +kernel
theorem dX1_flow_9 : decode cX1_flow 9 = .ok (.aaload, 1) := by decide +kernel
theorem dX1_flow_10 : decode cX1_flow 10 = .ok (.getfield 113, 3) := by decide +kernel
theorem dX1_flow_13 : decode cX1_flow 13 = .ok (.ireturn, 1) := by decide +kernel
theorem dX1_energy_0 : decode cX1_energy 0 = .ok (.iload_n 1, 1) := by decide +kernel
theorem dX1_energy_1 : decode cX1_energy 1 = .ok (.invokestatic 32, 3) := by decide +kernel
theorem dX1_energy_4 : decode cX1_energy 4 = .ok (.aload_n 0, 1) := by decide +kernel
theorem dX1_energy_5 : decode cX1_energy 5 = .ok (.getfield 11, 3) := by decide +kernel
theorem dX1_energy_8 : decode cX1_energy 8 = .ok (.iload_n 1, 1) := by decide +kernel
theorem dX1_energy_9 : decode cX1_energy 9 = .ok (.aaload, 1) := by decide +kernel
theorem dX1_energy_10 : decode cX1_energy 10 = .ok (.getfield 116, 3) := by decide +kernel
theorem dX1_energy_13 : decode cX1_energy 13 = .ok (.ireturn, 1) := by decide +kernel
theorem dX1_mix_0 : decode cX1_mix 0 = .ok (.iload_n 1, 1) := by decide +kernel
theorem dX1_mix_1 : decode cX1_mix 1 = .ok (.invokestatic 32, 3) := by decide +kernel
theorem dX1_mix_4 : decode cX1_mix 4 = .ok (.iload_n 2, 1) := by decide +kernel
theorem dX1_mix_5 : decode cX1_mix 5 = .ok (.iconst 0, 1) := by decide +kernel
theorem dX1_mix_6 : decode cX1_mix 6 = .ok (.bipush 16, 2) := by decide +kernel
theorem dX1_mix_8 : decode cX1_mix 8 = .ok (.invokestatic 36, 3) := by decide +kernel
theorem dX1_mix_11 : decode cX1_mix 11 = .ok (.aload_n 0, 1) := by decide +kernel
theorem dX1_mix_12 : decode cX1_mix 12 = .ok (.getfield 11, 3) := by decide +kernel
theorem dX1_mix_15 : decode cX1_mix 15 = .ok (.iload_n 1, 1) := by decide +kernel
theorem dX1_mix_16 : decode cX1_mix 16 = .ok (.aaload, 1) := by decide +kernel
theorem dX1_mix_17 : decode cX1_mix 17 = .ok (.iload_n 2, 1) := by decide +kernel
theorem dX1_mix_18 : decode cX1_mix 18 = .ok (.invokevirtual 119, 3) := by decide +kernel
theorem dX1_mix_21 : decode cX1_mix 21 = .ok (.ireturn, 1) := by decide +kernel
theorem dX1_bestEnergy_0 : decode cX1_bestEnergy 0 = .ok (.iload_n 1, 1) := by decide +kernel
theorem dX1_bestEnergy_1 : decode cX1_bestEnergy 1 = .ok (.iconst 1, 1) := by decide +kernel
theorem dX1_bestEnergy_2 : decode cX1_bestEnergy 2 = .ok (.bipush 6, 2) := by decide +kernel
theorem dX1_bestEnergy_4 : decode cX1_bestEnergy 4 = .ok (.invokestatic 36, 3) := by decide +kernel
theorem dX1_bestEnergy_7 : decode cX1_bestEnergy 7 = .ok (.aload_n 0, 1) := by decide +kernel
theorem dX1_bestEnergy_8 : decode cX1_bestEnergy 8 = .ok (.iload_n 1, 1) := by decide +kernel
theorem dX1_bestEnergy_9 : decode cX1_bestEnergy 9 = .ok (.iconst 1, 1) := by decide +kernel
theorem dX1_bestEnergy_10 : decode cX1_bestEnergy 10 = .ok (.isub, 1) := by decide +kernel
theorem dX1_bestEnergy_11 : decode cX1_bestEnergy 11 = .ok (.invokevirtual 122, 3) := by decide +kernel
theorem dX1_bestEnergy_14 : decode cX1_bestEnergy 14 = .ok (.aload_n 0, 1) := by decide +kernel
theorem dX1_bestEnergy_15 : decode cX1_bestEnergy 15 = .ok (.aload_n 0, 1) := by decide +kernel
theorem dX1_bestEnergy_16 : decode cX1_bestEnergy 16 = .ok (.getfield 11, 3) := by decide +kernel
theorem dX1_bestEnergy_19 : decode cX1_bestEnergy 19 = .ok (.iconst 0, 1) := by decide +kernel
theorem dX1_bestEnergy_20 : decode cX1_bestEnergy 20 = .ok (.aaload, 1) := by decide +kernel
theorem dX1_bestEnergy_21 : decode cX1_bestEnergy 21 = .ok (.invokevirtual 90, 3) := by decide +kernel
theorem dX1_bestEnergy_24 : decode cX1_bestEnergy 24 = .ok (.invokevirtual 125, 3) := by decide +kernel
theorem dX1_bestEnergy_27 : decode cX1_bestEnergy 27 = .ok (.ireturn, 1) := by decide +kernel
theorem dX1_bestEnergyByAll_0 : decode cX1_bestEnergyByAll 0 = .ok (.iload_n 1, 1) := by decide +kernel
theorem dX1_bestEnergyByAll_1 : decode cX1_bestEnergyByAll 1 = .ok (.iconst 1, 1) := by decide +kernel
theorem dX1_bestEnergyByAll_2 : decode cX1_bestEnergyByAll 2 = .ok (.bipush 6, 2) := by decide +kernel
theorem dX1_bestEnergyByAll_4 : decode cX1_bestEnergyByAll 4 = .ok (.invokestatic 36, 3) := by decide +kernel
theorem dX1_bestEnergyByAll_7 : decode cX1_bestEnergyByAll 7 = .ok (.aload_n 0, 1) := by decide +kernel
theorem dX1_bestEnergyByAll_8 : decode cX1_bestEnergyByAll 8 = .ok (.getfield 11, 3) := by decide +kernel
theorem dX1_bestEnergyByAll_11 : decode cX1_bestEnergyByAll 11 = .ok (.iconst 0, 1) := by decide +kernel
theorem dX1_bestEnergyByAll_12 : decode cX1_bestEnergyByAll 12 = .ok (.aaload, 1) := by decide +kernel
theorem dX1_bestEnergyByAll_13 : decode cX1_bestEnergyByAll 13 = .ok (.aload_n 0, 1) := by decide +kernel
theorem dX1_bestEnergyByAll_14 : decode cX1_bestEnergyByAll 14 = .ok (.getfield 11, 3) := by decide +kernel
theorem dX1_bestEnergyByAll_17 : decode cX1_bestEnergyByAll 17 = .ok (.iconst 0, 1) := by decide +kernel
theorem dX1_bestEnergyByAll_18 : decode cX1_bestEnergyByAll 18 = .ok (.aaload, 1) := by decide +kernel
theorem dX1_bestEnergyByAll_19 : decode cX1_bestEnergyByAll 19 = .ok (.invokevirtual 90, 3) := by decide +kernel
theorem dX1_bestEnergyByAll_22 : decode cX1_bestEnergyByAll 22 = .ok (.iload_n 1, 1) := by decide +kernel
theorem dX1_bestEnergyByAll_23 : decode cX1_bestEnergyByAll 23 = .ok (.invokestatic 128, 3) := by decide +kernel
theorem dX1_bestEnergyByAll_26 : decode cX1_bestEnergyByAll 26 = .ok (.ireturn, 1) := by decide +kernel
theorem dX1_bestRelease_0 : decode cX1_bestRelease 0 = .ok (.iload_n 1, 1) := by decide +kernel
theorem dX1_bestRelease_1 : decode cX1_bestRelease 1 = .ok (.iconst 1, 1) := by decide +kernel
theorem dX1_bestRelease_2 : decode cX1_bestRelease 2 = .ok (.bipush 6, 2) := by decide +kernel
theorem dX1_bestRelease_4 : decode cX1_bestRelease 4 = .ok (.invokestatic 36, 3) := by decide +kernel
theorem dX1_bestRelease_7 : decode cX1_bestRelease 7 = .ok (.aload_n 0, 1) := by decide +kernel
theorem dX1_bestRelease_8 : decode cX1_bestRelease 8 = .ok (.iload_n 1, 1) := by decide +kernel
theorem dX1_bestRelease_9 : decode cX1_bestRelease 9 = .ok (.iconst 1, 1) := by decide +kernel
theorem dX1_bestRelease_10 : decode cX1_bestRelease 10 = .ok (.isub, 1) := by decide +kernel
theorem dX1_bestRelease_11 : decode cX1_bestRelease 11 = .ok (.invokevirtual 122, 3) := by decide +kernel
theorem dX1_bestRelease_14 : decode cX1_bestRelease 14 = .ok (.aload_n 0, 1) := by decide +kernel
theorem dX1_bestRelease_15 : decode cX1_bestRelease 15 = .ok (.aload_n 0, 1) := by decide +kernel
theorem dX1_bestRelease_16 : decode cX1_bestRelease 16 = .ok (.getfield 11, 3) := by decide +kernel
theorem dX1_bestRelease_19 : decode cX1_bestRelease 19 = .ok (.iconst 0, 1) := by decide +kernel
theorem dX1_bestRelease_20 : decode cX1_bestRelease 20 = .ok (.aaload, 1) := by decide +kernel
theorem dX1_bestRelease_21 : decode cX1_bestRelease 21 = .ok (.invokevirtual 90, 3) := by decide +kernel
theorem dX1_bestRelease_24 : decode cX1_bestRelease 24 = .ok (.aload_n 0, 1) := by decide +kernel
theorem dX1_bestRelease_25 : decode cX1_bestRelease 25 = .ok (.getfield 11, 3) := by decide +kernel
theorem dX1_bestRelease_28 : decode cX1_bestRelease 28 = .ok (.iconst 0, 1) := by decide +kernel
theorem dX1_bestRelease_29 : decode cX1_bestRelease 29 = .ok (.aaload, 1) := by decide +kernel
theorem dX1_bestRelease_30 : decode cX1_bestRelease 30 = .ok (.getfield 50, 3) := by decide +kernel
theorem dX1_bestRelease_33 : decode cX1_bestRelease 33 = .ok (.iadd, 1) := by decide +kernel
theorem dX1_bestRelease_34 : decode cX1_bestRelease 34 = .ok (.invokevirtual 132, 3) := by decide +kernel
theorem dX1_bestRelease_37 : decode cX1_bestRelease 37 = .ok (.ireturn, 1) := by decide +kernel
theorem dX1_checkRange_0 : decode cX1_checkRange 0 = .ok (.iload_n 0, 1) := by decide +kernel
theorem dX1_checkRange_1 : decode cX1_checkRange 1 = .ok (.iload_n 1, 1) := by decide +kernel
theorem dX1_checkRange_2 : decode cX1_checkRange 2 = .ok (.if_icmp .lt 8, 3) := by decide +kernel
theorem dX1_checkRange_5 : decode cX1_checkRange 5 = .ok (.iload_n 0, 1) := by decide +kernel
theorem dX1_checkRange_6 : decode cX1_checkRange 6 = .ok (.iload_n 2, 1) := by decide +kernel
theorem dX1_checkRange_7 : decode cX1_checkRange 7 = .ok (.if_icmp .le 13, 3) := by decide +kernel
theorem dX1_checkRange_10 : decode cX1_checkRange 10 = .ok (.new 135, 3) := by decide +kernel
theorem dX1_checkRange_13 : decode cX1_checkRange 13 = .ok (.dup, 1) := by decide +kernel
theorem dX1_checkRange_14 : decode cX1_checkRange 14 = .ok (.ldc 137, 2) := by decide +kernel
theorem dX1_checkRange_16 : decode cX1_checkRange 16 = .ok (.invokespecial 139, 3) := by decide +kernel
theorem dX1_checkRange_19 : decode cX1_checkRange 19 = .ok (.athrow, 1) := by decide +kernel
theorem dX1_checkRange_20 : decode cX1_checkRange 20 = .ok (.return_, 1) := by decide +kernel
theorem dX1_checkPlant_0 : decode cX1_checkPlant 0 = .ok (.iload_n 0, 1) := by decide +kernel
theorem dX1_checkPlant_1 : decode cX1_checkPlant 1 = .ok (.iconst 0, 1) := by decide +kernel
theorem dX1_checkPlant_2 : decode cX1_checkPlant 2 = .ok (.iconst 2, 1) := by decide +kernel
theorem dX1_checkPlant_3 : decode cX1_checkPlant 3 = .ok (.invokestatic 36, 3) := by decide +kernel
theorem dX1_checkPlant_6 : decode cX1_checkPlant 6 = .ok (.return_, 1) := by decide +kernel
theorem dX1_checkLowerPlant_0 : decode cX1_checkLowerPlant 0 = .ok (.iload_n 0, 1) := by decide +kernel
theorem dX1_checkLowerPlant_1 : decode cX1_checkLowerPlant 1 = .ok (.iconst 1, 1) := by decide +kernel
theorem dX1_checkLowerPlant_2 : decode cX1_checkLowerPlant 2 = .ok (.iconst 2, 1) := by decide +kernel
theorem dX1_checkLowerPlant_3 : decode cX1_checkLowerPlant 3 = .ok (.invokestatic 36, 3) := by decide +kernel
theorem dX1_checkLowerPlant_6 : decode cX1_checkLowerPlant 6 = .ok (.return_, 1) := by decide +kernel
theorem dX1_checkOwner_0 : decode cX1_checkOwner 0 = .ok (.iload_n 0, 1) := by decide +kernel
theorem dX1_checkOwner_1 : decode cX1_checkOwner 1 = .ok (.iconst 0, 1) := by decide +kernel
theorem dX1_checkOwner_2 : decode cX1_checkOwner 2 = .ok (.iconst 1, 1) := by decide +kernel
theorem dX1_checkOwner_3 : decode cX1_checkOwner 3 = .ok (.invokestatic 36, 3) := by decide +kernel
theorem dX1_checkOwner_6 : decode cX1_checkOwner 6 = .ok (.return_, 1) := by decide +kernel
theorem dX1_slotOf_0 : decode cX1_slotOf 0 = .ok (.iload_n 0, 1) := by decide +kernel
theorem dX1_slotOf_1 : decode cX1_slotOf 1 = .ok (.bipush 6, 2) := by decide +kernel
theorem dX1_slotOf_3 : decode cX1_slotOf 3 = .ok (.invokestatic 140, 3) := by decide +kernel
theorem dX1_slotOf_6 : decode cX1_slotOf 6 = .ok (.ireturn, 1) := by decide +kernel
theorem dX1_runPlant_0 : decode cX1_runPlant 0 = .ok (.aload_n 0, 1) := by decide +kernel
theorem dX1_runPlant_1 : decode cX1_runPlant 1 = .ok (.getfield 11, 3) := by decide +kernel
theorem dX1_runPlant_4 : decode cX1_runPlant 4 = .ok (.iload_n 1, 1) := by decide +kernel
theorem dX1_runPlant_5 : decode cX1_runPlant 5 = .ok (.aaload, 1) := by decide +kernel
theorem dX1_runPlant_6 : decode cX1_runPlant 6 = .ok (.astore_n 2, 1) := by decide +kernel
theorem dX1_runPlant_7 : decode cX1_runPlant 7 = .ok (.iconst 0, 1) := by decide +kernel
theorem dX1_runPlant_8 : decode cX1_runPlant 8 = .ok (.istore_n 3, 1) := by decide +kernel
theorem dX1_runPlant_9 : decode cX1_runPlant 9 = .ok (.iload_n 3, 1) := by decide +kernel
theorem dX1_runPlant_10 : decode cX1_runPlant 10 = .ok (.iconst 2, 1) := by decide +kernel
theorem dX1_runPlant_11 : decode cX1_runPlant 11 = .ok (.if_icmp .ge 51, 3) := by decide +kernel
theorem dX1_runPlant_14 : decode cX1_runPlant 14 = .ok (.aload_n 2, 1) := by decide +kernel
theorem dX1_runPlant_15 : decode cX1_runPlant 15 = .ok (.iload_n 3, 1) := by decide +kernel
theorem dX1_runPlant_16 : decode cX1_runPlant 16 = .ok (.invokevirtual 146, 3) := by decide +kernel
theorem dX1_runPlant_19 : decode cX1_runPlant 19 = .ok (.istore 4, 2) := by decide +kernel
theorem dX1_runPlant_21 : decode cX1_runPlant 21 = .ok (.aload_n 2, 1) := by decide +kernel
theorem dX1_runPlant_22 : decode cX1_runPlant 22 = .ok (.getfield 85, 3) := by decide +kernel
theorem dX1_runPlant_25 : decode cX1_runPlant 25 = .ok (.iload_n 3, 1) := by decide +kernel
theorem dX1_runPlant_26 : decode cX1_runPlant 26 = .ok (.dup2, 1) := by decide +kernel
theorem dX1_runPlant_27 : decode cX1_runPlant 27 = .ok (.iaload, 1) := by decide +kernel
theorem dX1_runPlant_28 : decode cX1_runPlant 28 = .ok (.aload_n 2, 1) := by decide +kernel
theorem dX1_runPlant_29 : decode cX1_runPlant 29 = .ok (.iload_n 3, 1) := by decide +kernel
theorem dX1_runPlant_30 : decode cX1_runPlant 30 = .ok (.aload_n 0, 1) := by decide +kernel
theorem dX1_runPlant_31 : decode cX1_runPlant 31 = .ok (.getfield 72, 3) := by decide +kernel
theorem dX1_runPlant_34 : decode cX1_runPlant 34 = .ok (.invokestatic 104, 3) := by decide +kernel
theorem dX1_runPlant_37 : decode cX1_runPlant 37 = .ok (.invokevirtual 149, 3) := by decide +kernel
theorem dX1_runPlant_40 : decode cX1_runPlant 40 = .ok (.iload 4, 2) := by decide +kernel
theorem dX1_runPlant_42 : decode cX1_runPlant 42 = .ok (.iadd, 1) := by decide +kernel
theorem dX1_runPlant_43 : decode cX1_runPlant 43 = .ok (.iadd, 1) := by decide +kernel
theorem dX1_runPlant_44 : decode cX1_runPlant 44 = .ok (.iastore, 1) := by decide +kernel
theorem dX1_runPlant_45 : decode cX1_runPlant 45 = .ok (.aload_n 0, 1) := by decide +kernel
theorem dX1_runPlant_46 : decode cX1_runPlant 46 = .ok (.getfield 15, 3) := by decide +kernel
theorem dX1_runPlant_49 : decode cX1_runPlant 49 = .ok (.iload_n 3, 1) := by decide +kernel
theorem dX1_runPlant_50 : decode cX1_runPlant 50 = .ok (.dup2, 1) := by decide +kernel
theorem dX1_runPlant_51 : decode cX1_runPlant 51 = .ok (.iaload, 1) := by decide +kernel
theorem dX1_runPlant_52 : decode cX1_runPlant 52 = .ok (.iload 4, 2) := by decide +kernel
theorem dX1_runPlant_54 : decode cX1_runPlant 54 = .ok (.iadd, 1) := by decide +kernel
theorem dX1_runPlant_55 : decode cX1_runPlant 55 = .ok (.iastore, 1) := by decide +kernel
theorem dX1_runPlant_56 : decode cX1_runPlant 56 = .ok (.iinc 3 1, 3) := by decide +kernel
theorem dX1_runPlant_59 : decode cX1_runPlant 59 = .ok (.goto (-50), 3) := by decide +kernel
theorem dX1_runPlant_62 : decode cX1_runPlant 62 = .ok (.aload_n 2, 1) := by decide +kernel
theorem dX1_runPlant_63 : decode cX1_runPlant 63 = .ok (.invokevirtual 152, 3) := by decide +kernel
theorem dX1_runPlant_66 : decode cX1_runPlant 66 = .ok (.aload_n 2, 1) := by decide +kernel
theorem dX1_runPlant_67 : decode cX1_runPlant 67 = .ok (.invokevirtual 155, 3) := by decide +kernel
theorem dX1_runPlant_70 : decode cX1_runPlant 70 = .ok (.iconst 0, 1) := by decide +kernel
theorem dX1_runPlant_71 : decode cX1_runPlant 71 = .ok (.istore_n 3, 1) := by decide +kernel
theorem dX1_runPlant_72 : decode cX1_runPlant 72 = .ok (.iload_n 3, 1) := by decide +kernel
theorem dX1_runPlant_73 : decode cX1_runPlant 73 = .ok (.iconst 2, 1) := by decide +kernel
theorem dX1_runPlant_74 : decode cX1_runPlant 74 = .ok (.if_icmp .ge 15, 3) := by decide +kernel
theorem dX1_runPlant_77 : decode cX1_runPlant 77 = .ok (.aload_n 0, 1) := by decide +kernel
theorem dX1_runPlant_78 : decode cX1_runPlant 78 = .ok (.iload_n 1, 1) := by decide +kernel
theorem dX1_runPlant_79 : decode cX1_runPlant 79 = .ok (.iload_n 3, 1) := by decide +kernel
theorem dX1_runPlant_80 : decode cX1_runPlant 80 = .ok (.invokevirtual 158, 3) := by decide +kernel
theorem dX1_runPlant_83 : decode cX1_runPlant 83 = .ok (.iinc 3 1, 3) := by decide +kernel
theorem dX1_runPlant_86 : decode cX1_runPlant 86 = .ok (.goto (-14), 3) := by decide +kernel
theorem dX1_runPlant_89 : decode cX1_runPlant 89 = .ok (.return_, 1) := by decide +kernel
theorem dX1_sendOn_0 : decode cX1_sendOn 0 = .ok (.aload_n 0, 1) := by decide +kernel
theorem dX1_sendOn_1 : decode cX1_sendOn 1 = .ok (.getfield 11, 3) := by decide +kernel
theorem dX1_sendOn_4 : decode cX1_sendOn 4 = .ok (.iload_n 1, 1) := by decide +kernel
theorem dX1_sendOn_5 : decode cX1_sendOn 5 = .ok (.aaload, 1) := by decide +kernel
theorem dX1_sendOn_6 : decode cX1_sendOn 6 = .ok (.getfield 162, 3) := by decide +kernel
theorem dX1_sendOn_9 : decode cX1_sendOn 9 = .ok (.iload_n 2, 1) := by decide +kernel
theorem dX1_sendOn_10 : decode cX1_sendOn 10 = .ok (.iaload, 1) := by decide +kernel
theorem dX1_sendOn_11 : decode cX1_sendOn 11 = .ok (.istore_n 3, 1) := by decide +kernel
theorem dX1_sendOn_12 : decode cX1_sendOn 12 = .ok (.iload_n 1, 1) := by decide +kernel
theorem dX1_sendOn_13 : decode cX1_sendOn 13 = .ok (.iconst 1, 1) := by decide +kernel
theorem dX1_sendOn_14 : decode cX1_sendOn 14 = .ok (.iadd, 1) := by decide +kernel
theorem dX1_sendOn_15 : decode cX1_sendOn 15 = .ok (.istore 4, 2) := by decide +kernel
theorem dX1_sendOn_17 : decode cX1_sendOn 17 = .ok (.iload 4, 2) := by decide +kernel
theorem dX1_sendOn_19 : decode cX1_sendOn 19 = .ok (.iconst 3, 1) := by decide +kernel
theorem dX1_sendOn_20 : decode cX1_sendOn 20 = .ok (.if_icmp .ge 40, 3) := by decide +kernel
theorem dX1_sendOn_23 : decode cX1_sendOn 23 = .ok (.aload_n 0, 1) := by decide +kernel
theorem dX1_sendOn_24 : decode cX1_sendOn 24 = .ok (.getfield 11, 3) := by decide +kernel
theorem dX1_sendOn_27 : decode cX1_sendOn 27 = .ok (.iload 4, 2) := by decide +kernel
theorem dX1_sendOn_29 : decode cX1_sendOn 29 = .ok (.aaload, 1) := by decide +kernel
theorem dX1_sendOn_30 : decode cX1_sendOn 30 = .ok (.getfield 101, 3) := by decide +kernel
theorem dX1_sendOn_33 : decode cX1_sendOn 33 = .ok (.iload_n 2, 1) := by decide +kernel
theorem dX1_sendOn_34 : decode cX1_sendOn 34 = .ok (.aaload, 1) := by decide +kernel
theorem dX1_sendOn_35 : decode cX1_sendOn 35 = .ok (.aload_n 0, 1) := by decide +kernel
theorem dX1_sendOn_36 : decode cX1_sendOn 36 = .ok (.getfield 72, 3) := by decide +kernel
theorem dX1_sendOn_39 : decode cX1_sendOn 39 = .ok (.aload_n 0, 1) := by decide +kernel
theorem dX1_sendOn_40 : decode cX1_sendOn 40 = .ok (.getfield 11, 3) := by decide +kernel
theorem dX1_sendOn_43 : decode cX1_sendOn 43 = .ok (.iload_n 1, 1) := by decide +kernel
theorem dX1_sendOn_44 : decode cX1_sendOn 44 = .ok (.aaload, 1) := by decide +kernel
theorem dX1_sendOn_45 : decode cX1_sendOn 45 = .ok (.getfield 47, 3) := by decide +kernel
theorem dX1_sendOn_48 : decode cX1_sendOn 48 = .ok (.iadd, 1) := by decide +kernel
theorem dX1_sendOn_49 : decode cX1_sendOn 49 = .ok (.invokestatic 104, 3) := by decide +kernel
theorem dX1_sendOn_52 : decode cX1_sendOn 52 = .ok (.dup2, 1) := by decide +kernel
theorem dX1_sendOn_53 : decode cX1_sendOn 53 = .ok (.iaload, 1) := by decide +kernel
theorem dX1_sendOn_54 : decode cX1_sendOn 54 = .ok (.iload_n 3, 1) := by decide +kernel
theorem dX1_sendOn_55 : decode cX1_sendOn 55 = .ok (.iadd, 1) := by decide +kernel
theorem dX1_sendOn_56 : decode cX1_sendOn 56 = .ok (.iastore, 1) := by decide +kernel
theorem dX1_sendOn_57 : decode cX1_sendOn 57 = .ok (.goto 13, 3) := by decide +kernel
theorem dX1_sendOn_60 : decode cX1_sendOn 60 = .ok (.aload_n 0, 1) := by decide +kernel
theorem dX1_sendOn_61 : decode cX1_sendOn 61 = .ok (.getfield 19, 3) := by decide +kernel
theorem dX1_sendOn_64 : decode cX1_sendOn 64 = .ok (.iload_n 2, 1) := by decide +kernel
theorem dX1_sendOn_65 : decode cX1_sendOn 65 = .ok (.dup2, 1) := by decide +kernel
theorem dX1_sendOn_66 : decode cX1_sendOn 66 = .ok (.iaload, 1) := by decide +kernel
theorem dX1_sendOn_67 : decode cX1_sendOn 67 = .ok (.iload_n 3, 1) := by decide +kernel
theorem dX1_sendOn_68 : decode cX1_sendOn 68 = .ok (.iadd, 1) := by decide +kernel
theorem dX1_sendOn_69 : decode cX1_sendOn 69 = .ok (.iastore, 1) := by decide +kernel
theorem dX1_sendOn_70 : decode cX1_sendOn 70 = .ok (.return_, 1) := by decide +kernel
theorem dX1_workBackTo_0 : decode cX1_workBackTo 0 = .ok (.iconst 0, 1) := by decide +kernel
theorem dX1_workBackTo_1 : decode cX1_workBackTo 1 = .ok (.istore_n 2, 1) := by decide +kernel
theorem dX1_workBackTo_2 : decode cX1_workBackTo 2 = .ok (.iload_n 2, 1) := by decide +kernel
theorem dX1_workBackTo_3 : decode cX1_workBackTo 3 = .ok (.sipush 200, 3) := by decide +kernel
theorem dX1_workBackTo_6 : decode cX1_workBackTo 6 = .ok (.if_icmp .gt 16, 3) := by decide +kernel
theorem dX1_workBackTo_9 : decode cX1_workBackTo 9 = .ok (.aload_n 0, 1) := by decide +kernel
theorem dX1_workBackTo_10 : decode cX1_workBackTo 10 = .ok (.getfield 25, 3) := by decide +kernel
theorem dX1_workBackTo_13 : decode cX1_workBackTo 13 = .ok (.iload_n 2, 1) := by decide +kernel
theorem dX1_workBackTo_14 : decode cX1_workBackTo 14 = .ok (.iconst 0, 1) := by decide +kernel
theorem dX1_workBackTo_15 : decode cX1_workBackTo 15 = .ok (.iastore, 1) := by decide +kernel
theorem dX1_workBackTo_16 : decode cX1_workBackTo 16 = .ok (.iinc 2 1, 3) := by decide +kernel
theorem dX1_workBackTo_19 : decode cX1_workBackTo 19 = .ok (.goto (-17), 3) := by decide +kernel
theorem dX1_workBackTo_22 : decode cX1_workBackTo 22 = .ok (.iconst 0, 1) := by decide +kernel
theorem dX1_workBackTo_23 : decode cX1_workBackTo 23 = .ok (.istore_n 2, 1) := by decide +kernel
theorem dX1_workBackTo_24 : decode cX1_workBackTo 24 = .ok (.iload_n 2, 1) := by decide +kernel
theorem dX1_workBackTo_25 : decode cX1_workBackTo 25 = .ok (.iload_n 1, 1) := by decide +kernel
theorem dX1_workBackTo_26 : decode cX1_workBackTo 26 = .ok (.if_icmp .ge 51, 3) := by decide +kernel
theorem dX1_workBackTo_29 : decode cX1_workBackTo 29 = .ok (.iconst 0, 1) := by decide +kernel
theorem dX1_workBackTo_30 : decode cX1_workBackTo 30 = .ok (.istore_n 3, 1) := by decide +kernel
theorem dX1_workBackTo_31 : decode cX1_workBackTo 31 = .ok (.iload_n 3, 1) := by decide +kernel
theorem dX1_workBackTo_32 : decode cX1_workBackTo 32 = .ok (.sipush 200, 3) := by decide +kernel
theorem dX1_workBackTo_35 : decode cX1_workBackTo 35 = .ok (.if_icmp .gt 20, 3) := by decide +kernel
theorem dX1_workBackTo_38 : decode cX1_workBackTo 38 = .ok (.aload_n 0, 1) := by decide +kernel
theorem dX1_workBackTo_39 : decode cX1_workBackTo 39 = .ok (.getfield 28, 3) := by decide +kernel
theorem dX1_workBackTo_42 : decode cX1_workBackTo 42 = .ok (.iload_n 3, 1) := by decide +kernel
theorem dX1_workBackTo_43 : decode cX1_workBackTo 43 = .ok (.aload_n 0, 1) := by decide +kernel
theorem dX1_workBackTo_44 : decode cX1_workBackTo 44 = .ok (.iload_n 3, 1) := by decide +kernel
theorem dX1_workBackTo_45 : decode cX1_workBackTo 45 = .ok (.invokevirtual 125, 3) := by decide +kernel
theorem dX1_workBackTo_48 : decode cX1_workBackTo 48 = .ok (.iastore, 1) := by decide +kernel
theorem dX1_workBackTo_49 : decode cX1_workBackTo 49 = .ok (.iinc 3 1, 3) := by decide +kernel
theorem dX1_workBackTo_52 : decode cX1_workBackTo 52 = .ok (.goto (-21), 3) := by decide +kernel
theorem dX1_workBackTo_55 : decode cX1_workBackTo 55 = .ok (.aload_n 0, 1) := by decide +kernel
theorem dX1_workBackTo_56 : decode cX1_workBackTo 56 = .ok (.getfield 28, 3) := by decide +kernel
theorem dX1_workBackTo_59 : decode cX1_workBackTo 59 = .ok (.iconst 0, 1) := by decide +kernel
theorem dX1_workBackTo_60 : decode cX1_workBackTo 60 = .ok (.aload_n 0, 1) := by decide +kernel
theorem dX1_workBackTo_61 : decode cX1_workBackTo 61 = .ok (.getfield 25, 3) := by decide +kernel
theorem dX1_workBackTo_64 : decode cX1_workBackTo 64 = .ok (.iconst 0, 1) := by decide +kernel
theorem dX1_workBackTo_65 : decode cX1_workBackTo 65 = .ok (.sipush 201, 3) := by decide +kernel
theorem dX1_workBackTo_68 : decode cX1_workBackTo 68 = .ok (.invokestatic 165, 3) := by decide +kernel
theorem dX1_workBackTo_71 : decode cX1_workBackTo 71 = .ok (.iinc 2 1, 3) := by decide +kernel
theorem dX1_workBackTo_74 : decode cX1_workBackTo 74 = .ok (.goto (-50), 3) := by decide +kernel
theorem dX1_workBackTo_77 : decode cX1_workBackTo 77 = .ok (.return_, 1) := by decide +kernel
theorem dX1_greatestFrom_0 : decode cX1_greatestFrom 0 = .ok (.iload_n 1, 1) := by decide +kernel
theorem dX1_greatestFrom_1 : decode cX1_greatestFrom 1 = .ok (.aload_n 0, 1) := by decide +kernel
theorem dX1_greatestFrom_2 : decode cX1_greatestFrom 2 = .ok (.getfield 11, 3) := by decide +kernel
theorem dX1_greatestFrom_5 : decode cX1_greatestFrom 5 = .ok (.iconst 0, 1) := by decide +kernel
theorem dX1_greatestFrom_6 : decode cX1_greatestFrom 6 = .ok (.aaload, 1) := by decide +kernel
theorem dX1_greatestFrom_7 : decode cX1_greatestFrom 7 = .ok (.getfield 50, 3) := by decide +kernel
theorem dX1_greatestFrom_10 : decode cX1_greatestFrom 10 = .ok (.iadd, 1) := by decide +kernel
theorem dX1_greatestFrom_11 : decode cX1_greatestFrom 11 = .ok (.istore_n 2, 1) := by decide +kernel
theorem dX1_greatestFrom_12 : decode cX1_greatestFrom 12 = .ok (.aload_n 0, 1) := by decide +kernel
theorem dX1_greatestFrom_13 : decode cX1_greatestFrom 13 = .ok (.iload_n 2, 1) := by decide +kernel
theorem dX1_greatestFrom_14 : decode cX1_greatestFrom 14 = .ok (.aload_n 0, 1) := by decide +kernel
theorem dX1_greatestFrom_15 : decode cX1_greatestFrom 15 = .ok (.iload_n 2, 1) := by decide +kernel
theorem dX1_greatestFrom_16 : decode cX1_greatestFrom 16 = .ok (.invokevirtual 132, 3) := by decide +kernel
theorem dX1_greatestFrom_19 : decode cX1_greatestFrom 19 = .ok (.invokevirtual 171, 3) := by decide +kernel
theorem dX1_greatestFrom_22 : decode cX1_greatestFrom 22 = .ok (.ireturn, 1) := by decide +kernel
theorem dX1_leastBestRelease_0 : decode cX1_leastBestRelease 0 = .ok (.aload_n 0, 1) := by decide +kernel
theorem dX1_leastBestRelease_1 : decode cX1_leastBestRelease 1 = .ok (.getfield 11, 3) := by decide +kernel
theorem dX1_leastBestRelease_4 : decode cX1_leastBestRelease 4 = .ok (.iconst 0, 1) := by decide +kernel
theorem dX1_leastBestRelease_5 : decode cX1_leastBestRelease 5 = .ok (.aaload, 1) := by decide +kernel
theorem dX1_leastBestRelease_6 : decode cX1_leastBestRelease 6 = .ok (.iload_n 1, 1) := by decide +kernel
theorem dX1_leastBestRelease_7 : decode cX1_leastBestRelease 7 = .ok (.invokevirtual 174, 3) := by decide +kernel
theorem dX1_leastBestRelease_10 : decode cX1_leastBestRelease 10 = .ok (.istore_n 2, 1) := by decide +kernel
theorem dX1_leastBestRelease_11 : decode cX1_leastBestRelease 11 = .ok (.iload_n 2, 1) := by decide +kernel
theorem dX1_leastBestRelease_12 : decode cX1_leastBestRelease 12 = .ok (.istore_n 3, 1) := by decide +kernel
theorem dX1_leastBestRelease_13 : decode cX1_leastBestRelease 13 = .ok (.aload_n 0, 1) := by decide +kernel
theorem dX1_leastBestRelease_14 : decode cX1_leastBestRelease 14 = .ok (.iload_n 1, 1) := by decide +kernel
theorem dX1_leastBestRelease_15 : decode cX1_leastBestRelease 15 = .ok (.iload_n 2, 1) := by decide +kernel
theorem dX1_leastBestRelease_16 : decode cX1_leastBestRelease 16 = .ok (.invokevirtual 171, 3) := by decide +kernel
theorem dX1_leastBestRelease_19 : decode cX1_leastBestRelease 19 = .ok (.istore 4, 2) := by decide +kernel
theorem dX1_leastBestRelease_21 : decode cX1_leastBestRelease 21 = .ok (.iload_n 2, 1) := by decide +kernel
theorem dX1_leastBestRelease_22 : decode cX1_leastBestRelease 22 = .ok (.iconst 4, 1) := by decide +kernel
theorem dX1_leastBestRelease_23 : decode cX1_leastBestRelease 23 = .ok (.iadd, 1) := by decide +kernel
theorem dX1_leastBestRelease_24 : decode cX1_leastBestRelease 24 = .ok (.istore 5, 2) := by decide +kernel
theorem dX1_leastBestRelease_26 : decode cX1_leastBestRelease 26 = .ok (.iload 5, 2) := by decide +kernel
theorem dX1_leastBestRelease_28 : decode cX1_leastBestRelease 28 = .ok (.bipush 16, 2) := by decide +kernel
theorem dX1_leastBestRelease_30 : decode cX1_leastBestRelease 30 = .ok (.if_icmp .gt 38, 3) := by decide +kernel
theorem dX1_leastBestRelease_33 : decode cX1_leastBestRelease 33 = .ok (.iload 5, 2) := by decide +kernel
theorem dX1_leastBestRelease_35 : decode cX1_leastBestRelease 35 = .ok (.iload_n 1, 1) := by decide +kernel
theorem dX1_leastBestRelease_36 : decode cX1_leastBestRelease 36 = .ok (.if_icmp .gt 32, 3) := by decide +kernel
theorem dX1_leastBestRelease_39 : decode cX1_leastBestRelease 39 = .ok (.aload_n 0, 1) := by decide +kernel
theorem dX1_leastBestRelease_40 : decode cX1_leastBestRelease 40 = .ok (.iload_n 1, 1) := by decide +kernel
theorem dX1_leastBestRelease_41 : decode cX1_leastBestRelease 41 = .ok (.iload 5, 2) := by decide +kernel
theorem dX1_leastBestRelease_43 : decode cX1_leastBestRelease 43 = .ok (.invokevirtual 171, 3) := by decide +kernel
theorem dX1_leastBestRelease_46 : decode cX1_leastBestRelease 46 = .ok (.istore 6, 2) := by decide +kernel
theorem dX1_leastBestRelease_48 : decode cX1_leastBestRelease 48 = .ok (.iload 6, 2) := by decide +kernel
theorem dX1_leastBestRelease_50 : decode cX1_leastBestRelease 50 = .ok (.iload 4, 2) := by decide +kernel
theorem dX1_leastBestRelease_52 : decode cX1_leastBestRelease 52 = .ok (.if_icmp .le 10, 3) := by decide +kernel
theorem dX1_leastBestRelease_55 : decode cX1_leastBestRelease 55 = .ok (.iload 5, 2) := by decide +kernel
theorem dX1_leastBestRelease_57 : decode cX1_leastBestRelease 57 = .ok (.istore_n 3, 1) := by decide +kernel
theorem dX1_leastBestRelease_58 : decode cX1_leastBestRelease 58 = .ok (.iload 6, 2) := by decide +kernel
theorem dX1_leastBestRelease_60 : decode cX1_leastBestRelease 60 = .ok (.istore 4, 2) := by decide +kernel
theorem dX1_leastBestRelease_62 : decode cX1_leastBestRelease 62 = .ok (.iinc 5 4, 3) := by decide +kernel
theorem dX1_leastBestRelease_65 : decode cX1_leastBestRelease 65 = .ok (.goto (-39), 3) := by decide +kernel
theorem dX1_leastBestRelease_68 : decode cX1_leastBestRelease 68 = .ok (.iload_n 3, 1) := by decide +kernel
theorem dX1_leastBestRelease_69 : decode cX1_leastBestRelease 69 = .ok (.ireturn, 1) := by decide +kernel
theorem dX1_energyFrom_0 : decode cX1_energyFrom 0 = .ok (.aload_n 0, 1) := by decide +kernel
theorem dX1_energyFrom_1 : decode cX1_energyFrom 1 = .ok (.getfield 11, 3) := by decide +kernel
theorem dX1_energyFrom_4 : decode cX1_energyFrom 4 = .ok (.iconst 0, 1) := by decide +kernel
theorem dX1_energyFrom_5 : decode cX1_energyFrom 5 = .ok (.aaload, 1) := by decide +kernel
theorem dX1_energyFrom_6 : decode cX1_energyFrom 6 = .ok (.iload_n 1, 1) := by decide +kernel
theorem dX1_energyFrom_7 : decode cX1_energyFrom 7 = .ok (.iload_n 2, 1) := by decide +kernel
theorem dX1_energyFrom_8 : decode cX1_energyFrom 8 = .ok (.invokevirtual 177, 3) := by decide +kernel
theorem dX1_energyFrom_11 : decode cX1_energyFrom 11 = .ok (.istore_n 3, 1) := by decide +kernel
theorem dX1_energyFrom_12 : decode cX1_energyFrom 12 = .ok (.iload_n 3, 1) := by decide +kernel
theorem dX1_energyFrom_13 : decode cX1_energyFrom 13 = .ok (.ifCond .lt 10, 3) := by decide +kernel
theorem dX1_energyFrom_16 : decode cX1_energyFrom 16 = .ok (.iload_n 3, 1) := by decide +kernel
theorem dX1_energyFrom_17 : decode cX1_energyFrom 17 = .ok (.sipush 200, 3) := by decide +kernel
theorem dX1_energyFrom_20 : decode cX1_energyFrom 20 = .ok (.if_icmp .le 7, 3) := by decide +kernel
theorem dX1_energyFrom_23 : decode cX1_energyFrom 23 = .ok (.iconst 0, 1) := by decide +kernel
theorem dX1_energyFrom_24 : decode cX1_energyFrom 24 = .ok (.goto 9, 3) := by decide +kernel
theorem dX1_energyFrom_27 : decode cX1_energyFrom 27 = .ok (.aload_n 0, 1) := by decide +kernel
theorem dX1_energyFrom_28 : decode cX1_energyFrom 28 = .ok (.getfield 25, 3) := by decide +kernel
theorem dX1_energyFrom_31 : decode cX1_energyFrom 31 = .ok (.iload_n 3, 1) := by decide +kernel
theorem dX1_energyFrom_32 : decode cX1_energyFrom 32 = .ok (.iaload, 1) := by decide +kernel
theorem dX1_energyFrom_33 : decode cX1_energyFrom 33 = .ok (.istore 4, 2) := by decide +kernel
theorem dX1_energyFrom_35 : decode cX1_energyFrom 35 = .ok (.aload_n 0, 1) := by decide +kernel
theorem dX1_energyFrom_36 : decode cX1_energyFrom 36 = .ok (.getfield 11, 3) := by decide +kernel
theorem dX1_energyFrom_39 : decode cX1_energyFrom 39 = .ok (.iconst 0, 1) := by decide +kernel
theorem dX1_energyFrom_40 : decode cX1_energyFrom 40 = .ok (.aaload, 1) := by decide +kernel
theorem dX1_energyFrom_41 : decode cX1_energyFrom 41 = .ok (.iload_n 1, 1) := by decide +kernel
theorem dX1_energyFrom_42 : decode cX1_energyFrom 42 = .ok (.iload_n 2, 1) := by decide +kernel
theorem dX1_energyFrom_43 : decode cX1_energyFrom 43 = .ok (.invokevirtual 180, 3) := by decide +kernel
theorem dX1_energyFrom_46 : decode cX1_energyFrom 46 = .ok (.iload 4, 2) := by decide +kernel
theorem dX1_energyFrom_48 : decode cX1_energyFrom 48 = .ok (.iadd, 1) := by decide +kernel
theorem dX1_energyFrom_49 : decode cX1_energyFrom 49 = .ok (.ireturn, 1) := by decide +kernel
theorem dX1_greatestByTrying_0 : decode cX1_greatestByTrying 0 = .ok (.iload_n 2, 1) := by decide +kernel
theorem dX1_greatestByTrying_1 : decode cX1_greatestByTrying 1 = .ok (.iconst 1, 1) := by decide +kernel
theorem dX1_greatestByTrying_2 : decode cX1_greatestByTrying 2 = .ok (.if_icmp .lt 9, 3) := by decide +kernel
theorem dX1_greatestByTrying_5 : decode cX1_greatestByTrying 5 = .ok (.iload_n 2, 1) := by decide +kernel
theorem dX1_greatestByTrying_6 : decode cX1_greatestByTrying 6 = .ok (.bipush 6, 2) := by decide +kernel
theorem dX1_greatestByTrying_8 : decode cX1_greatestByTrying 8 = .ok (.if_icmp .le 5, 3) := by decide +kernel
theorem dX1_greatestByTrying_11 : decode cX1_greatestByTrying 11 = .ok (.iconst 0, 1) := by decide +kernel
theorem dX1_greatestByTrying_12 : decode cX1_greatestByTrying 12 = .ok (.ireturn, 1) := by decide +kernel
theorem dX1_greatestByTrying_13 : decode cX1_greatestByTrying 13 = .ok (.iload_n 1, 1) := by decide +kernel
theorem dX1_greatestByTrying_14 : decode cX1_greatestByTrying 14 = .ok (.aload_n 0, 1) := by decide +kernel
theorem dX1_greatestByTrying_15 : decode cX1_greatestByTrying 15 = .ok (.getfield 50, 3) := by decide +kernel
theorem dX1_greatestByTrying_18 : decode cX1_greatestByTrying 18 = .ok (.iadd, 1) := by decide +kernel
theorem dX1_greatestByTrying_19 : decode cX1_greatestByTrying 19 = .ok (.istore_n 3, 1) := by decide +kernel
theorem dX1_greatestByTrying_20 : decode cX1_greatestByTrying 20 = .ok (.iconst 0, 1) := by decide +kernel
theorem dX1_greatestByTrying_21 : decode cX1_greatestByTrying 21 = .ok (.istore 4, 2) := by decide +kernel
theorem dX1_greatestByTrying_23 : decode cX1_greatestByTrying 23 = .ok (.aload_n 0, 1) := by decide +kernel
theorem dX1_greatestByTrying_24 : decode cX1_greatestByTrying 24 = .ok (.iload_n 3, 1) := by decide +kernel
theorem dX1_greatestByTrying_25 : decode cX1_greatestByTrying 25 = .ok (.invokevirtual 174, 3) := by decide +kernel
theorem dX1_greatestByTrying_28 : decode cX1_greatestByTrying 28 = .ok (.istore 5, 2) := by decide +kernel
theorem dX1_greatestByTrying_30 : decode cX1_greatestByTrying 30 = .ok (.iload 5, 2) := by decide +kernel
theorem dX1_greatestByTrying_32 : decode cX1_greatestByTrying 32 = .ok (.istore 6, 2) := by decide +kernel
theorem dX1_greatestByTrying_34 : decode cX1_greatestByTrying 34 = .ok (.iload 6, 2) := by decide +kernel
theorem dX1_greatestByTrying_36 : decode cX1_greatestByTrying 36 = .ok (.bipush 16, 2) := by decide +kernel
theorem dX1_greatestByTrying_38 : decode cX1_greatestByTrying 38 = .ok (.if_icmp .gt 48, 3) := by decide +kernel
theorem dX1_greatestByTrying_41 : decode cX1_greatestByTrying 41 = .ok (.iload 6, 2) := by decide +kernel
theorem dX1_greatestByTrying_43 : decode cX1_greatestByTrying 43 = .ok (.iload_n 3, 1) := by decide +kernel
theorem dX1_greatestByTrying_44 : decode cX1_greatestByTrying 44 = .ok (.if_icmp .gt 42, 3) := by decide +kernel
theorem dX1_greatestByTrying_47 : decode cX1_greatestByTrying 47 = .ok (.aload_n 0, 1) := by decide +kernel
theorem dX1_greatestByTrying_48 : decode cX1_greatestByTrying 48 = .ok (.aload_n 0, 1) := by decide +kernel
theorem dX1_greatestByTrying_49 : decode cX1_greatestByTrying 49 = .ok (.iload_n 3, 1) := by decide +kernel
theorem dX1_greatestByTrying_50 : decode cX1_greatestByTrying 50 = .ok (.iload 6, 2) := by decide +kernel
theorem dX1_greatestByTrying_52 : decode cX1_greatestByTrying 52 = .ok (.invokevirtual 177, 3) := by decide +kernel
theorem dX1_greatestByTrying_55 : decode cX1_greatestByTrying 55 = .ok (.iload_n 2, 1) := by decide +kernel
theorem dX1_greatestByTrying_56 : decode cX1_greatestByTrying 56 = .ok (.iconst 1, 1) := by decide +kernel
theorem dX1_greatestByTrying_57 : decode cX1_greatestByTrying 57 = .ok (.isub, 1) := by decide +kernel
theorem dX1_greatestByTrying_58 : decode cX1_greatestByTrying 58 = .ok (.invokestatic 128, 3) := by decide +kernel
theorem dX1_greatestByTrying_61 : decode cX1_greatestByTrying 61 = .ok (.istore 7, 2) := by decide +kernel
theorem dX1_greatestByTrying_63 : decode cX1_greatestByTrying 63 = .ok (.iload 4, 2) := by decide +kernel
theorem dX1_greatestByTrying_65 : decode cX1_greatestByTrying 65 = .ok (.aload_n 0, 1) := by decide +kernel
theorem dX1_greatestByTrying_66 : decode cX1_greatestByTrying 66 = .ok (.iload_n 3, 1) := by decide +kernel
theorem dX1_greatestByTrying_67 : decode cX1_greatestByTrying 67 = .ok (.iload 6, 2) := by decide +kernel
theorem dX1_greatestByTrying_69 : decode cX1_greatestByTrying 69 = .ok (.invokevirtual 180, 3) := by decide +kernel
theorem dX1_greatestByTrying_72 : decode cX1_greatestByTrying 72 = .ok (.iload 7, 2) := by decide +kernel
theorem dX1_greatestByTrying_74 : decode cX1_greatestByTrying 74 = .ok (.iadd, 1) := by decide +kernel
theorem dX1_greatestByTrying_75 : decode cX1_greatestByTrying 75 = .ok (.invokestatic 183, 3) := by decide +kernel
theorem dX1_greatestByTrying_78 : decode cX1_greatestByTrying 78 = .ok (.istore 4, 2) := by decide +kernel
theorem dX1_greatestByTrying_80 : decode cX1_greatestByTrying 80 = .ok (.iinc 6 4, 3) := by decide +kernel
theorem dX1_greatestByTrying_83 : decode cX1_greatestByTrying 83 = .ok (.goto (-49), 3) := by decide +kernel
theorem dX1_greatestByTrying_86 : decode cX1_greatestByTrying 86 = .ok (.iload 4, 2) := by decide +kernel
theorem dX1_greatestByTrying_88 : decode cX1_greatestByTrying 88 = .ok (.ireturn, 1) := by decide +kernel
theorem dJ9_floorMod_7cf53_0 : decode cJ9_floorMod_7cf53 0 = .ok (.iload_n 0, 1) := by decide +kernel
theorem dJ9_floorMod_7cf53_1 : decode cJ9_floorMod_7cf53 1 = .ok (.iload_n 1, 1) := by decide +kernel
theorem dJ9_floorMod_7cf53_2 : decode cJ9_floorMod_7cf53 2 = .ok (.irem, 1) := by decide +kernel
theorem dJ9_floorMod_7cf53_3 : decode cJ9_floorMod_7cf53 3 = .ok (.istore_n 2, 1) := by decide +kernel
theorem dJ9_floorMod_7cf53_4 : decode cJ9_floorMod_7cf53 4 = .ok (.iload_n 0, 1) := by decide +kernel
theorem dJ9_floorMod_7cf53_5 : decode cJ9_floorMod_7cf53 5 = .ok (.iload_n 1, 1) := by decide +kernel
theorem dJ9_floorMod_7cf53_6 : decode cJ9_floorMod_7cf53 6 = .ok (.ixor, 1) := by decide +kernel
theorem dJ9_floorMod_7cf53_7 : decode cJ9_floorMod_7cf53 7 = .ok (.ifCond .ge 11, 3) := by decide +kernel
theorem dJ9_floorMod_7cf53_10 : decode cJ9_floorMod_7cf53 10 = .ok (.iload_n 2, 1) := by decide +kernel
theorem dJ9_floorMod_7cf53_11 : decode cJ9_floorMod_7cf53 11 = .ok (.ifCond .eq 7, 3) := by decide +kernel
theorem dJ9_floorMod_7cf53_14 : decode cJ9_floorMod_7cf53 14 = .ok (.iload_n 2, 1) := by decide +kernel
theorem dJ9_floorMod_7cf53_15 : decode cJ9_floorMod_7cf53 15 = .ok (.iload_n 1, 1) := by decide +kernel
theorem dJ9_floorMod_7cf53_16 : decode cJ9_floorMod_7cf53 16 = .ok (.iadd, 1) := by decide +kernel
theorem dJ9_floorMod_7cf53_17 : decode cJ9_floorMod_7cf53 17 = .ok (.ireturn, 1) := by decide +kernel
theorem dJ9_floorMod_7cf53_18 : decode cJ9_floorMod_7cf53 18 = .ok (.iload_n 2, 1) := by decide +kernel
theorem dJ9_floorMod_7cf53_19 : decode cJ9_floorMod_7cf53 19 = .ok (.ireturn, 1) := by decide +kernel
theorem dJ9_max_7cf53_0 : decode cJ9_max_7cf53 0 = .ok (.iload_n 0, 1) := by decide +kernel
theorem dJ9_max_7cf53_1 : decode cJ9_max_7cf53 1 = .ok (.iload_n 1, 1) := by decide +kernel
theorem dJ9_max_7cf53_2 : decode cJ9_max_7cf53 2 = .ok (.if_icmp .lt 7, 3) := by decide +kernel
theorem dJ9_max_7cf53_5 : decode cJ9_max_7cf53 5 = .ok (.iload_n 0, 1) := by decide +kernel
theorem dJ9_max_7cf53_6 : decode cJ9_max_7cf53 6 = .ok (.goto 4, 3) := by decide +kernel
theorem dJ9_max_7cf53_9 : decode cJ9_max_7cf53 9 = .ok (.iload_n 1, 1) := by decide +kernel
theorem dJ9_max_7cf53_10 : decode cJ9_max_7cf53 10 = .ok (.ireturn, 1) := by decide +kernel
theorem dJ9_min_7cf53_0 : decode cJ9_min_7cf53 0 = .ok (.iload_n 0, 1) := by decide +kernel
theorem dJ9_min_7cf53_1 : decode cJ9_min_7cf53 1 = .ok (.iload_n 1, 1) := by decide +kernel
theorem dJ9_min_7cf53_2 : decode cJ9_min_7cf53 2 = .ok (.if_icmp .gt 7, 3) := by decide +kernel
theorem dJ9_min_7cf53_5 : decode cJ9_min_7cf53 5 = .ok (.iload_n 0, 1) := by decide +kernel
theorem dJ9_min_7cf53_6 : decode cJ9_min_7cf53 6 = .ok (.goto 4, 3) := by decide +kernel
theorem dJ9_min_7cf53_9 : decode cJ9_min_7cf53 9 = .ok (.iload_n 1, 1) := by decide +kernel
theorem dJ9_min_7cf53_10 : decode cJ9_min_7cf53 10 = .ok (.ireturn, 1) := by decide +kernel
