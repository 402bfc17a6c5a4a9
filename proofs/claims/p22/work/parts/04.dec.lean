theorem dX0_init_0 : decode cX0_init 0 = .ok (.aload_n 0, 1) := by decide +kernel
theorem dX0_init_1 : decode cX0_init 1 = .ok (.invokespecial 1, 3) := by decide +kernel
theorem dX0_init_4 : decode cX0_init 4 = .ok (.aload_n 0, 1) := by decide +kernel
theorem dX0_init_5 : decode cX0_init 5 = .ok (.iload_n 2, 1) := by decide +kernel
theorem dX0_init_6 : decode cX0_init 6 = .ok (.putfield 7, 3) := by decide +kernel
theorem dX0_init_9 : decode cX0_init 9 = .ok (.aload_n 0, 1) := by decide +kernel
theorem dX0_init_10 : decode cX0_init 10 = .ok (.iload_n 3, 1) := by decide +kernel
theorem dX0_init_11 : decode cX0_init 11 = .ok (.putfield 13, 3) := by decide +kernel
theorem dX0_init_14 : decode cX0_init 14 = .ok (.aload_n 0, 1) := by decide +kernel
theorem dX0_init_15 : decode cX0_init 15 = .ok (.iload 4, 2) := by decide +kernel
theorem dX0_init_17 : decode cX0_init 17 = .ok (.putfield 16, 3) := by decide +kernel
theorem dX0_init_20 : decode cX0_init 20 = .ok (.aload_n 0, 1) := by decide +kernel
theorem dX0_init_21 : decode cX0_init 21 = .ok (.iload_n 1, 1) := by decide +kernel
theorem dX0_init_22 : decode cX0_init 22 = .ok (.putfield 19, 3) := by decide +kernel
theorem dX0_init_25 : decode cX0_init 25 = .ok (.return_, 1) := by decide +kernel
theorem dX1_init_0 : decode cX1_init 0 = .ok (.aload_n 0, 1) := by decide +kernel
theorem dX1_init_1 : decode cX1_init 1 = .ok (.invokespecial 3, 3) := by decide +kernel
theorem dX1_init_4 : decode cX1_init 4 = .ok (.aload_n 0, 1) := by decide +kernel
theorem dX1_init_5 : decode cX1_init 5 = .ok (.iload_n 1, 1) := by decide +kernel
theorem dX1_init_6 : decode cX1_init 6 = .ok (.putfield 9, 3) := by decide +kernel
theorem dX1_init_9 : decode cX1_init 9 = .ok (.aload_n 0, 1) := by decide +kernel
theorem dX1_init_10 : decode cX1_init 10 = .ok (.iload_n 2, 1) := by decide +kernel
theorem dX1_init_11 : decode cX1_init 11 = .ok (.putfield 15, 3) := by decide +kernel
theorem dX1_init_14 : decode cX1_init 14 = .ok (.aload_n 0, 1) := by decide +kernel
theorem dX1_init_15 : decode cX1_init 15 = .ok (.sipush 201, 3) := by decide +kernel
theorem dX1_init_18 : decode cX1_init 18 = .ok (.newarray .int, 2) := by decide +kernel
theorem dX1_init_20 : decode cX1_init 20 = .ok (.putfield 19, 3) := by decide +kernel
theorem dX1_init_23 : decode cX1_init 23 = .ok (.aload_n 0, 1) := by decide +kernel
theorem dX1_init_24 : decode cX1_init 24 = .ok (.sipush 201, 3) := by decide +kernel
theorem dX1_init_27 : decode cX1_init 27 = .ok (.newarray .int, 2) := by decide +kernel
theorem dX1_init_29 : decode cX1_init 29 = .ok (.putfield 23, 3) := by decide +kernel
theorem dX1_init_32 : decode cX1_init 32 = .ok (.aload_n 0, 1) := by decide +kernel
theorem dX1_init_33 : decode cX1_init 33 = .ok (.sipush 201, 3) := by decide +kernel
theorem dX1_init_36 : decode cX1_init 36 = .ok (.newarray .int, 2) := by decide +kernel
theorem dX1_init_38 : decode cX1_init 38 = .ok (.putfield 26, 3) := by decide +kernel
theorem dX1_init_41 : decode cX1_init 41 = .ok (.aload_n 0, 1) := by decide +kernel
theorem dX1_init_42 : decode cX1_init 42 = .ok (.sipush 201, 3) := by decide +kernel
theorem dX1_init_45 : decode cX1_init 45 = .ok (.newarray .int, 2) := by decide +kernel
theorem dX1_init_47 : decode cX1_init 47 = .ok (.putfield 29, 3) := by decide +kernel
theorem dX1_init_50 : decode cX1_init 50 = .ok (.aload_n 0, 1) := by decide +kernel
theorem dX1_init_51 : decode cX1_init 51 = .ok (.sipush 201, 3) := by decide +kernel
theorem dX1_init_54 : decode cX1_init 54 = .ok (.newarray .int, 2) := by decide +kernel
theorem dX1_init_56 : decode cX1_init 56 = .ok (.putfield 32, 3) := by decide +kernel
theorem dX1_init_59 : decode cX1_init 59 = .ok (.aload_n 0, 1) := by decide +kernel
theorem dX1_init_60 : decode cX1_init 60 = .ok (.sipush 201, 3) := by decide +kernel
theorem dX1_init_63 : decode cX1_init 63 = .ok (.newarray .boolean, 2) := by decide +kernel
theorem dX1_init_65 : decode cX1_init 65 = .ok (.putfield 35, 3) := by decide +kernel
theorem dX1_init_68 : decode cX1_init 68 = .ok (.return_, 1) := by decide +kernel
theorem dX1_takeNotice_0 : decode cX1_takeNotice 0 = .ok (.iload_n 1, 1) := by decide +kernel
theorem dX1_takeNotice_1 : decode cX1_takeNotice 1 = .ok (.istore 4, 2) := by decide +kernel
theorem dX1_takeNotice_3 : decode cX1_takeNotice 3 = .ok (.iload 4, 2) := by decide +kernel
theorem dX1_takeNotice_5 : decode cX1_takeNotice 5 = .ok (.iload_n 2, 1) := by decide +kernel
theorem dX1_takeNotice_6 : decode cX1_takeNotice 6 = .ok (.if_icmp .gt 17, 3) := by decide +kernel
theorem dX1_takeNotice_9 : decode cX1_takeNotice 9 = .ok (.aload_n 0, 1) := by decide +kernel
theorem dX1_takeNotice_10 : decode cX1_takeNotice 10 = .ok (.getfield 19, 3) := by decide +kernel
theorem dX1_takeNotice_13 : decode cX1_takeNotice 13 = .ok (.iload 4, 2) := by decide +kernel
theorem dX1_takeNotice_15 : decode cX1_takeNotice 15 = .ok (.iload_n 3, 1) := by decide +kernel
theorem dX1_takeNotice_16 : decode cX1_takeNotice 16 = .ok (.iastore, 1) := by decide +kernel
theorem dX1_takeNotice_17 : decode cX1_takeNotice 17 = .ok (.iinc 4 1, 3) := by decide +kernel
theorem dX1_takeNotice_20 : decode cX1_takeNotice 20 = .ok (.goto (-17), 3) := by decide +kernel
theorem dX1_takeNotice_23 : decode cX1_takeNotice 23 = .ok (.aload_n 0, 1) := by decide +kernel
theorem dX1_takeNotice_24 : decode cX1_takeNotice 24 = .ok (.dup, 1) := by decide +kernel
theorem dX1_takeNotice_25 : decode cX1_takeNotice 25 = .ok (.getfield 39, 3) := by decide +kernel
theorem dX1_takeNotice_28 : decode cX1_takeNotice 28 = .ok (.iconst 1, 1) := by decide +kernel
theorem dX1_takeNotice_29 : decode cX1_takeNotice 29 = .ok (.iadd, 1) := by decide +kernel
theorem dX1_takeNotice_30 : decode cX1_takeNotice 30 = .ok (.putfield 39, 3) := by decide +kernel
theorem dX1_takeNotice_33 : decode cX1_takeNotice 33 = .ok (.return_, 1) := by decide +kernel
theorem dX1_hasNoCourseFrom_0 : decode cX1_hasNoCourseFrom 0 = .ok (.iload_n 1, 1) := by decide +kernel
theorem dX1_hasNoCourseFrom_1 : decode cX1_hasNoCourseFrom 1 = .ok (.istore_n 3, 1) := by decide +kernel
theorem dX1_hasNoCourseFrom_2 : decode cX1_hasNoCourseFrom 2 = .ok (.iload_n 3, 1) := by decide +kernel
theorem dX1_hasNoCourseFrom_3 : decode cX1_hasNoCourseFrom 3 = .ok (.iload_n 2, 1) := by decide +kernel
theorem dX1_hasNoCourseFrom_4 : decode cX1_hasNoCourseFrom 4 = .ok (.if_icmp .gt 20, 3) := by decide +kernel
theorem dX1_hasNoCourseFrom_7 : decode cX1_hasNoCourseFrom 7 = .ok (.aload_n 0, 1) := by decide +kernel
theorem dX1_hasNoCourseFrom_8 : decode cX1_hasNoCourseFrom 8 = .ok (.getfield 23, 3) := by decide +kernel
theorem dX1_hasNoCourseFrom_11 : decode cX1_hasNoCourseFrom 11 = .ok (.iload_n 3, 1) := by decide +kernel
theorem dX1_hasNoCourseFrom_12 : decode cX1_hasNoCourseFrom 12 = .ok (.iaload, 1) := by decide +kernel
theorem dX1_hasNoCourseFrom_13 : decode cX1_hasNoCourseFrom 13 = .ok (.ifCond .le 5, 3) := by decide +kernel
theorem dX1_hasNoCourseFrom_16 : decode cX1_hasNoCourseFrom 16 = .ok (.iconst 0, 1) := by decide +kernel
theorem dX1_hasNoCourseFrom_17 : decode cX1_hasNoCourseFrom 17 = .ok (.ireturn, 1) := by decide +kernel
theorem dX1_hasNoCourseFrom_18 : decode cX1_hasNoCourseFrom 18 = .ok (.iinc 3 1, 3) := by decide +kernel
theorem dX1_hasNoCourseFrom_21 : decode cX1_hasNoCourseFrom 21 = .ok (.goto (-19), 3) := by decide +kernel
theorem dX1_hasNoCourseFrom_24 : decode cX1_hasNoCourseFrom 24 = .ok (.iconst 1, 1) := by decide +kernel
theorem dX1_hasNoCourseFrom_25 : decode cX1_hasNoCourseFrom 25 = .ok (.ireturn, 1) := by decide +kernel
theorem dX1_goTo_0 : decode cX1_goTo 0 = .ok (.aload_n 1, 1) := by decide +kernel
theorem dX1_goTo_1 : decode cX1_goTo 1 = .ok (.getfield 42, 3) := by decide +kernel
theorem dX1_goTo_4 : decode cX1_goTo 4 = .ok (.istore_n 2, 1) := by decide +kernel
theorem dX1_goTo_5 : decode cX1_goTo 5 = .ok (.iload_n 2, 1) := by decide +kernel
theorem dX1_goTo_6 : decode cX1_goTo 6 = .ok (.aload_n 1, 1) := by decide +kernel
theorem dX1_goTo_7 : decode cX1_goTo 7 = .ok (.getfield 47, 3) := by decide +kernel
theorem dX1_goTo_10 : decode cX1_goTo 10 = .ok (.if_icmp .gt 19, 3) := by decide +kernel
theorem dX1_goTo_13 : decode cX1_goTo 13 = .ok (.aload_n 0, 1) := by decide +kernel
theorem dX1_goTo_14 : decode cX1_goTo 14 = .ok (.getfield 23, 3) := by decide +kernel
theorem dX1_goTo_17 : decode cX1_goTo 17 = .ok (.iload_n 2, 1) := by decide +kernel
theorem dX1_goTo_18 : decode cX1_goTo 18 = .ok (.aload_n 1, 1) := by decide +kernel
theorem dX1_goTo_19 : decode cX1_goTo 19 = .ok (.getfield 50, 3) := by decide +kernel
theorem dX1_goTo_22 : decode cX1_goTo 22 = .ok (.iastore, 1) := by decide +kernel
theorem dX1_goTo_23 : decode cX1_goTo 23 = .ok (.iinc 2 1, 3) := by decide +kernel
theorem dX1_goTo_26 : decode cX1_goTo 26 = .ok (.goto (-21), 3) := by decide +kernel
theorem dX1_goTo_29 : decode cX1_goTo 29 = .ok (.return_, 1) := by decide +kernel
theorem dX1_hasFilled_0 : decode cX1_hasFilled 0 = .ok (.aload_n 0, 1) := by decide +kernel
theorem dX1_hasFilled_1 : decode cX1_hasFilled 1 = .ok (.getfield 23, 3) := by decide +kernel
theorem dX1_hasFilled_4 : decode cX1_hasFilled 4 = .ok (.iload_n 1, 1) := by decide +kernel
theorem dX1_hasFilled_5 : decode cX1_hasFilled 5 = .ok (.iaload, 1) := by decide +kernel
theorem dX1_hasFilled_6 : decode cX1_hasFilled 6 = .ok (.ifCond .le 24, 3) := by decide +kernel
theorem dX1_hasFilled_9 : decode cX1_hasFilled 9 = .ok (.iconst 2, 1) := by decide +kernel
theorem dX1_hasFilled_10 : decode cX1_hasFilled 10 = .ok (.aload_n 0, 1) := by decide +kernel
theorem dX1_hasFilled_11 : decode cX1_hasFilled 11 = .ok (.getfield 23, 3) := by decide +kernel
theorem dX1_hasFilled_14 : decode cX1_hasFilled 14 = .ok (.iload_n 1, 1) := by decide +kernel
theorem dX1_hasFilled_15 : decode cX1_hasFilled 15 = .ok (.iaload, 1) := by decide +kernel
theorem dX1_hasFilled_16 : decode cX1_hasFilled 16 = .ok (.imul, 1) := by decide +kernel
theorem dX1_hasFilled_17 : decode cX1_hasFilled 17 = .ok (.aload_n 0, 1) := by decide +kernel
theorem dX1_hasFilled_18 : decode cX1_hasFilled 18 = .ok (.getfield 19, 3) := by decide +kernel
theorem dX1_hasFilled_21 : decode cX1_hasFilled 21 = .ok (.iload_n 1, 1) := by decide +kernel
theorem dX1_hasFilled_22 : decode cX1_hasFilled 22 = .ok (.iaload, 1) := by decide +kernel
theorem dX1_hasFilled_23 : decode cX1_hasFilled 23 = .ok (.if_icmp .lt 7, 3) := by decide +kernel
theorem dX1_hasFilled_26 : decode cX1_hasFilled 26 = .ok (.iconst 1, 1) := by decide +kernel
theorem dX1_hasFilled_27 : decode cX1_hasFilled 27 = .ok (.goto 4, 3) := by decide +kernel
theorem dX1_hasFilled_30 : decode cX1_hasFilled 30 = .ok (.iconst 0, 1) := by decide +kernel
theorem dX1_hasFilled_31 : decode cX1_hasFilled 31 = .ok (.ireturn, 1) := by decide +kernel
theorem dX1_payFor_0 : decode cX1_payFor 0 = .ok (.aload_n 0, 1) := by decide +kernel
theorem dX1_payFor_1 : decode cX1_payFor 1 = .ok (.getfield 9, 3) := by decide +kernel
theorem dX1_payFor_4 : decode cX1_payFor 4 = .ok (.bipush 40, 2) := by decide +kernel
theorem dX1_payFor_6 : decode cX1_payFor 6 = .ok (.aload_n 0, 1) := by decide +kernel
theorem dX1_payFor_7 : decode cX1_payFor 7 = .ok (.getfield 19, 3) := by decide +kernel
theorem dX1_payFor_10 : decode cX1_payFor 10 = .ok (.iload_n 1, 1) := by decide +kernel
theorem dX1_payFor_11 : decode cX1_payFor 11 = .ok (.iaload, 1) := by decide +kernel
theorem dX1_payFor_12 : decode cX1_payFor 12 = .ok (.isub, 1) := by decide +kernel
theorem dX1_payFor_13 : decode cX1_payFor 13 = .ok (.imul, 1) := by decide +kernel
theorem dX1_payFor_14 : decode cX1_payFor 14 = .ok (.bipush 40, 2) := by decide +kernel
theorem dX1_payFor_16 : decode cX1_payFor 16 = .ok (.idiv, 1) := by decide +kernel
theorem dX1_payFor_17 : decode cX1_payFor 17 = .ok (.istore_n 3, 1) := by decide +kernel
theorem dX1_payFor_18 : decode cX1_payFor 18 = .ok (.aload_n 0, 1) := by decide +kernel
theorem dX1_payFor_19 : decode cX1_payFor 19 = .ok (.getfield 9, 3) := by decide +kernel
theorem dX1_payFor_22 : decode cX1_payFor 22 = .ok (.iload_n 3, 1) := by decide +kernel
theorem dX1_payFor_23 : decode cX1_payFor 23 = .ok (.isub, 1) := by decide +kernel
theorem dX1_payFor_24 : decode cX1_payFor 24 = .ok (.aload_n 0, 1) := by decide +kernel
theorem dX1_payFor_25 : decode cX1_payFor 25 = .ok (.iload_n 1, 1) := by decide +kernel
theorem dX1_payFor_26 : decode cX1_payFor 26 = .ok (.invokevirtual 53, 3) := by decide +kernel
theorem dX1_payFor_29 : decode cX1_payFor 29 = .ok (.imul, 1) := by decide +kernel
theorem dX1_payFor_30 : decode cX1_payFor 30 = .ok (.bipush 100, 2) := by decide +kernel
theorem dX1_payFor_32 : decode cX1_payFor 32 = .ok (.idiv, 1) := by decide +kernel
theorem dX1_payFor_33 : decode cX1_payFor 33 = .ok (.istore 4, 2) := by decide +kernel
theorem dX1_payFor_35 : decode cX1_payFor 35 = .ok (.aload_n 0, 1) := by decide +kernel
theorem dX1_payFor_36 : decode cX1_payFor 36 = .ok (.getfield 9, 3) := by decide +kernel
theorem dX1_payFor_39 : decode cX1_payFor 39 = .ok (.iload_n 2, 1) := by decide +kernel
theorem dX1_payFor_40 : decode cX1_payFor 40 = .ok (.imul, 1) := by decide +kernel
theorem dX1_payFor_41 : decode cX1_payFor 41 = .ok (.bipush 100, 2) := by decide +kernel
theorem dX1_payFor_43 : decode cX1_payFor 43 = .ok (.idiv, 1) := by decide +kernel
theorem dX1_payFor_44 : decode cX1_payFor 44 = .ok (.istore 5, 2) := by decide +kernel
theorem dX1_payFor_46 : decode cX1_payFor 46 = .ok (.iload 4, 2) := by decide +kernel
theorem dX1_payFor_48 : decode cX1_payFor 48 = .ok (.iload 5, 2) := by decide +kernel
theorem dX1_payFor_50 : decode cX1_payFor 50 = .ok (.iload_n 3, 1) := by decide +kernel
theorem dX1_payFor_51 : decode cX1_payFor 51 = .ok (.isub, 1) := by decide +kernel
theorem dX1_payFor_52 : decode cX1_payFor 52 = .ok (.invokestatic 57, 3) := by decide +kernel
theorem dX1_payFor_55 : decode cX1_payFor 55 = .ok (.istore 4, 2) := by decide +kernel
theorem dX1_payFor_57 : decode cX1_payFor 57 = .ok (.aload_n 0, 1) := by decide +kernel
theorem dX1_payFor_58 : decode cX1_payFor 58 = .ok (.getfield 26, 3) := by decide +kernel
theorem dX1_payFor_61 : decode cX1_payFor 61 = .ok (.iload_n 1, 1) := by decide +kernel
theorem dX1_payFor_62 : decode cX1_payFor 62 = .ok (.iload_n 3, 1) := by decide +kernel
theorem dX1_payFor_63 : decode cX1_payFor 63 = .ok (.iastore, 1) := by decide +kernel
theorem dX1_payFor_64 : decode cX1_payFor 64 = .ok (.aload_n 0, 1) := by decide +kernel
theorem dX1_payFor_65 : decode cX1_payFor 65 = .ok (.getfield 29, 3) := by decide +kernel
theorem dX1_payFor_68 : decode cX1_payFor 68 = .ok (.iload_n 1, 1) := by decide +kernel
theorem dX1_payFor_69 : decode cX1_payFor 69 = .ok (.iload 4, 2) := by decide +kernel
theorem dX1_payFor_71 : decode cX1_payFor 71 = .ok (.iastore, 1) := by decide +kernel
theorem dX1_payFor_72 : decode cX1_payFor 72 = .ok (.aload_n 0, 1) := by decide +kernel
theorem dX1_payFor_73 : decode cX1_payFor 73 = .ok (.dup, 1) := by decide +kernel
theorem dX1_payFor_74 : decode cX1_payFor 74 = .ok (.getfield 63, 3) := by decide +kernel
theorem dX1_payFor_77 : decode cX1_payFor 77 = .ok (.iload_n 3, 1) := by decide +kernel
theorem dX1_payFor_78 : decode cX1_payFor 78 = .ok (.iload 4, 2) := by decide +kernel
theorem dX1_payFor_80 : decode cX1_payFor 80 = .ok (.iadd, 1) := by decide +kernel
theorem dX1_payFor_81 : decode cX1_payFor 81 = .ok (.iadd, 1) := by decide +kernel
theorem dX1_payFor_82 : decode cX1_payFor 82 = .ok (.putfield 63, 3) := by decide +kernel
theorem dX1_payFor_85 : decode cX1_payFor 85 = .ok (.aload_n 0, 1) := by decide +kernel
theorem dX1_payFor_86 : decode cX1_payFor 86 = .ok (.getfield 19, 3) := by decide +kernel
theorem dX1_payFor_89 : decode cX1_payFor 89 = .ok (.iload_n 1, 1) := by decide +kernel
theorem dX1_payFor_90 : decode cX1_payFor 90 = .ok (.iaload, 1) := by decide +kernel
theorem dX1_payFor_91 : decode cX1_payFor 91 = .ok (.ifCond .le 13, 3) := by decide +kernel
theorem dX1_payFor_94 : decode cX1_payFor 94 = .ok (.aload_n 0, 1) := by decide +kernel
theorem dX1_payFor_95 : decode cX1_payFor 95 = .ok (.dup, 1) := by decide +kernel
theorem dX1_payFor_96 : decode cX1_payFor 96 = .ok (.getfield 66, 3) := by decide +kernel
theorem dX1_payFor_99 : decode cX1_payFor 99 = .ok (.iconst 1, 1) := by decide +kernel
theorem dX1_payFor_100 : decode cX1_payFor 100 = .ok (.iadd, 1) := by decide +kernel
theorem dX1_payFor_101 : decode cX1_payFor 101 = .ok (.putfield 66, 3) := by decide +kernel
theorem dX1_payFor_104 : decode cX1_payFor 104 = .ok (.iload 4, 2) := by decide +kernel
theorem dX1_payFor_106 : decode cX1_payFor 106 = .ok (.ireturn, 1) := by decide +kernel
theorem dX1_madeUpPercent_0 : decode cX1_madeUpPercent 0 = .ok (.aload_n 0, 1) := by decide +kernel
theorem dX1_madeUpPercent_1 : decode cX1_madeUpPercent 1 = .ok (.invokevirtual 69, 3) := by decide +kernel
theorem dX1_madeUpPercent_4 : decode cX1_madeUpPercent 4 = .ok (.istore_n 2, 1) := by decide +kernel
theorem dX1_madeUpPercent_5 : decode cX1_madeUpPercent 5 = .ok (.aload_n 0, 1) := by decide +kernel
theorem dX1_madeUpPercent_6 : decode cX1_madeUpPercent 6 = .ok (.getfield 15, 3) := by decide +kernel
theorem dX1_madeUpPercent_9 : decode cX1_madeUpPercent 9 = .ok (.ifCond .eq 6, 3) := by decide +kernel
theorem dX1_madeUpPercent_12 : decode cX1_madeUpPercent 12 = .ok (.iinc 2 7, 3) := by decide +kernel
theorem dX1_madeUpPercent_15 : decode cX1_madeUpPercent 15 = .ok (.aload_n 0, 1) := by decide +kernel
theorem dX1_madeUpPercent_16 : decode cX1_madeUpPercent 16 = .ok (.iload_n 1, 1) := by decide +kernel
theorem dX1_madeUpPercent_17 : decode cX1_madeUpPercent 17 = .ok (.invokevirtual 73, 3) := by decide +kernel
theorem dX1_madeUpPercent_20 : decode cX1_madeUpPercent 20 = .ok (.ifCond .eq 9, 3) := by decide +kernel
theorem dX1_madeUpPercent_23 : decode cX1_madeUpPercent 23 = .ok (.iinc 2 5, 3) := by decide +kernel
theorem dX1_madeUpPercent_26 : decode cX1_madeUpPercent 26 = .ok (.goto 15, 3) := by decide +kernel
theorem dX1_madeUpPercent_29 : decode cX1_madeUpPercent 29 = .ok (.aload_n 0, 1) := by decide +kernel
theorem dX1_madeUpPercent_30 : decode cX1_madeUpPercent 30 = .ok (.getfield 66, 3) := by decide +kernel
theorem dX1_madeUpPercent_33 : decode cX1_madeUpPercent 33 = .ok (.bipush 12, 2) := by decide +kernel
theorem dX1_madeUpPercent_35 : decode cX1_madeUpPercent 35 = .ok (.if_icmp .lt 6, 3) := by decide +kernel
theorem dX1_madeUpPercent_38 : decode cX1_madeUpPercent 38 = .ok (.iinc 2 (-10), 3) := by decide +kernel
theorem dX1_madeUpPercent_41 : decode cX1_madeUpPercent 41 = .ok (.iload_n 2, 1) := by decide +kernel
theorem dX1_madeUpPercent_42 : decode cX1_madeUpPercent 42 = .ok (.ireturn, 1) := by decide +kernel
theorem dX1_stepPercent_0 : decode cX1_stepPercent 0 = .ok (.aload_n 0, 1) := by decide +kernel
theorem dX1_stepPercent_1 : decode cX1_stepPercent 1 = .ok (.getfield 66, 3) := by decide +kernel
theorem dX1_stepPercent_4 : decode cX1_stepPercent 4 = .ok (.bipush 24, 2) := by decide +kernel
theorem dX1_stepPercent_6 : decode cX1_stepPercent 6 = .ok (.if_icmp .lt 6, 3) := by decide +kernel
theorem dX1_stepPercent_9 : decode cX1_stepPercent 9 = .ok (.bipush 80, 2) := by decide +kernel
theorem dX1_stepPercent_11 : decode cX1_stepPercent 11 = .ok (.ireturn, 1) := by decide +kernel
theorem dX1_stepPercent_12 : decode cX1_stepPercent 12 = .ok (.aload_n 0, 1) := by decide +kernel
theorem dX1_stepPercent_13 : decode cX1_stepPercent 13 = .ok (.getfield 66, 3) := by decide +kernel
theorem dX1_stepPercent_16 : decode cX1_stepPercent 16 = .ok (.bipush 12, 2) := by decide +kernel
theorem dX1_stepPercent_18 : decode cX1_stepPercent 18 = .ok (.if_icmp .lt 8, 3) := by decide +kernel
theorem dX1_stepPercent_21 : decode cX1_stepPercent 21 = .ok (.bipush 70, 2) := by decide +kernel
theorem dX1_stepPercent_23 : decode cX1_stepPercent 23 = .ok (.goto 5, 3) := by decide +kernel
theorem dX1_stepPercent_26 : decode cX1_stepPercent 26 = .ok (.bipush 60, 2) := by decide +kernel
theorem dX1_stepPercent_28 : decode cX1_stepPercent 28 = .ok (.ireturn, 1) := by decide +kernel
theorem dX1_hasWorkedTooMuch_0 : decode cX1_hasWorkedTooMuch 0 = .ok (.bipush 40, 2) := by decide +kernel
theorem dX1_hasWorkedTooMuch_2 : decode cX1_hasWorkedTooMuch 2 = .ok (.aload_n 0, 1) := by decide +kernel
theorem dX1_hasWorkedTooMuch_3 : decode cX1_hasWorkedTooMuch 3 = .ok (.getfield 19, 3) := by decide +kernel
theorem dX1_hasWorkedTooMuch_6 : decode cX1_hasWorkedTooMuch 6 = .ok (.iload_n 1, 1) := by decide +kernel
theorem dX1_hasWorkedTooMuch_7 : decode cX1_hasWorkedTooMuch 7 = .ok (.iaload, 1) := by decide +kernel
theorem dX1_hasWorkedTooMuch_8 : decode cX1_hasWorkedTooMuch 8 = .ok (.isub, 1) := by decide +kernel
theorem dX1_hasWorkedTooMuch_9 : decode cX1_hasWorkedTooMuch 9 = .ok (.iconst 2, 1) := by decide +kernel
theorem dX1_hasWorkedTooMuch_10 : decode cX1_hasWorkedTooMuch 10 = .ok (.iadd, 1) := by decide +kernel
theorem dX1_hasWorkedTooMuch_11 : decode cX1_hasWorkedTooMuch 11 = .ok (.istore_n 2, 1) := by decide +kernel
theorem dX1_hasWorkedTooMuch_12 : decode cX1_hasWorkedTooMuch 12 = .ok (.aload_n 0, 1) := by decide +kernel
theorem dX1_hasWorkedTooMuch_13 : decode cX1_hasWorkedTooMuch 13 = .ok (.getfield 32, 3) := by decide +kernel
theorem dX1_hasWorkedTooMuch_16 : decode cX1_hasWorkedTooMuch 16 = .ok (.iload_n 1, 1) := by decide +kernel
theorem dX1_hasWorkedTooMuch_17 : decode cX1_hasWorkedTooMuch 17 = .ok (.iaload, 1) := by decide +kernel
theorem dX1_hasWorkedTooMuch_18 : decode cX1_hasWorkedTooMuch 18 = .ok (.iload_n 2, 1) := by decide +kernel
theorem dX1_hasWorkedTooMuch_19 : decode cX1_hasWorkedTooMuch 19 = .ok (.if_icmp .le 16, 3) := by decide +kernel
theorem dX1_hasWorkedTooMuch_22 : decode cX1_hasWorkedTooMuch 22 = .ok (.aload_n 0, 1) := by decide +kernel
theorem dX1_hasWorkedTooMuch_23 : decode cX1_hasWorkedTooMuch 23 = .ok (.getfield 29, 3) := by decide +kernel
theorem dX1_hasWorkedTooMuch_26 : decode cX1_hasWorkedTooMuch 26 = .ok (.iload_n 1, 1) := by decide +kernel
theorem dX1_hasWorkedTooMuch_27 : decode cX1_hasWorkedTooMuch 27 = .ok (.iaload, 1) := by decide +kernel
theorem dX1_hasWorkedTooMuch_28 : decode cX1_hasWorkedTooMuch 28 = .ok (.ifCond .le 7, 3) := by decide +kernel
theorem dX1_hasWorkedTooMuch_31 : decode cX1_hasWorkedTooMuch 31 = .ok (.iconst 1, 1) := by decide +kernel
theorem dX1_hasWorkedTooMuch_32 : decode cX1_hasWorkedTooMuch 32 = .ok (.goto 4, 3) := by decide +kernel
theorem dX1_hasWorkedTooMuch_35 : decode cX1_hasWorkedTooMuch 35 = .ok (.iconst 0, 1) := by decide +kernel
theorem dX1_hasWorkedTooMuch_36 : decode cX1_hasWorkedTooMuch 36 = .ok (.ireturn, 1) := by decide +kernel
theorem dX2_init_0 : decode cX2_init 0 = .ok (.aload_n 0, 1) := by decide +kernel
theorem dX2_init_1 : decode cX2_init 1 = .ok (.invokespecial 3, 3) := by decide +kernel
theorem dX2_init_4 : decode cX2_init 4 = .ok (.aload_n 0, 1) := by decide +kernel
theorem dX2_init_5 : decode cX2_init 5 = .ok (.bipush 8, 2) := by decide +kernel
theorem dX2_init_7 : decode cX2_init 7 = .ok (.anewarray 9, 3) := by decide +kernel
theorem dX2_init_10 : decode cX2_init 10 = .ok (.putfield 11, 3) := by decide +kernel
theorem dX2_init_13 : decode cX2_init 13 = .ok (.aload_n 0, 1) := by decide +kernel
theorem dX2_init_14 : decode cX2_init 14 = .ok (.bipush 10, 2) := by decide +kernel
theorem dX2_init_16 : decode cX2_init 16 = .ok (.anewarray 15, 3) := by decide +kernel
theorem dX2_init_19 : decode cX2_init 19 = .ok (.putfield 17, 3) := by decide +kernel
theorem dX2_init_22 : decode cX2_init 22 = .ok (.aload_n 0, 1) := by decide +kernel
theorem dX2_init_23 : decode cX2_init 23 = .ok (.sipush 201, 3) := by decide +kernel
theorem dX2_init_26 : decode cX2_init 26 = .ok (.newarray .boolean, 2) := by decide +kernel
theorem dX2_init_28 : decode cX2_init 28 = .ok (.putfield 21, 3) := by decide +kernel
theorem dX2_init_31 : decode cX2_init 31 = .ok (.aload_n 0, 1) := by decide +kernel
theorem dX2_init_32 : decode cX2_init 32 = .ok (.bipush 50, 2) := by decide +kernel
theorem dX2_init_34 : decode cX2_init 34 = .ok (.putfield 25, 3) := by decide +kernel
theorem dX2_init_37 : decode cX2_init 37 = .ok (.return_, 1) := by decide +kernel
theorem dX2_add_0 : decode cX2_add 0 = .ok (.iload_n 1, 1) := by decide +kernel
theorem dX2_add_1 : decode cX2_add 1 = .ok (.iconst 1, 1) := by decide +kernel
theorem dX2_add_2 : decode cX2_add 2 = .ok (.ldc 29, 2) := by decide +kernel
theorem dX2_add_4 : decode cX2_add 4 = .ok (.invokestatic 30, 3) := by decide +kernel
theorem dX2_add_7 : decode cX2_add 7 = .ok (.invokestatic 34, 3) := by decide +kernel
theorem dX2_add_10 : decode cX2_add 10 = .ok (.aload_n 0, 1) := by decide +kernel
theorem dX2_add_11 : decode cX2_add 11 = .ok (.getfield 38, 3) := by decide +kernel
theorem dX2_add_14 : decode cX2_add 14 = .ok (.bipush 8, 2) := by decide +kernel
theorem dX2_add_16 : decode cX2_add 16 = .ok (.if_icmp .ge 7, 3) := by decide +kernel
theorem dX2_add_19 : decode cX2_add 19 = .ok (.iconst 1, 1) := by decide +kernel
theorem dX2_add_20 : decode cX2_add 20 = .ok (.goto 4, 3) := by decide +kernel
theorem dX2_add_23 : decode cX2_add 23 = .ok (.iconst 0, 1) := by decide +kernel
theorem dX2_add_24 : decode cX2_add 24 = .ok (.invokestatic 41, 3) := by decide +kernel
theorem dX2_add_27 : decode cX2_add 27 = .ok (.aload_n 0, 1) := by decide +kernel
theorem dX2_add_28 : decode cX2_add 28 = .ok (.getfield 38, 3) := by decide +kernel
theorem dX2_add_31 : decode cX2_add 31 = .ok (.istore_n 3, 1) := by decide +kernel
theorem dX2_add_32 : decode cX2_add 32 = .ok (.aload_n 0, 1) := by decide +kernel
theorem dX2_add_33 : decode cX2_add 33 = .ok (.getfield 11, 3) := by decide +kernel
theorem dX2_add_36 : decode cX2_add 36 = .ok (.iload_n 3, 1) := by decide +kernel
theorem dX2_add_37 : decode cX2_add 37 = .ok (.new 9, 3) := by decide +kernel
theorem dX2_add_40 : decode cX2_add 40 = .ok (.dup, 1) := by decide +kernel
theorem dX2_add_41 : decode cX2_add 41 = .ok (.iload_n 1, 1) := by decide +kernel
theorem dX2_add_42 : decode cX2_add 42 = .ok (.iload_n 2, 1) := by decide +kernel
theorem dX2_add_43 : decode cX2_add 43 = .ok (.invokespecial 44, 3) := by decide +kernel
theorem dX2_add_46 : decode cX2_add 46 = .ok (.aastore, 1) := by decide +kernel
theorem dX2_add_47 : decode cX2_add 47 = .ok (.aload_n 0, 1) := by decide +kernel
theorem dX2_add_48 : decode cX2_add 48 = .ok (.iload_n 3, 1) := by decide +kernel
theorem dX2_add_49 : decode cX2_add 49 = .ok (.iconst 1, 1) := by decide +kernel
theorem dX2_add_50 : decode cX2_add 50 = .ok (.iadd, 1) := by decide +kernel
theorem dX2_add_51 : decode cX2_add 51 = .ok (.putfield 38, 3) := by decide +kernel
theorem dX2_add_54 : decode cX2_add 54 = .ok (.iload_n 3, 1) := by decide +kernel
theorem dX2_add_55 : decode cX2_add 55 = .ok (.ireturn, 1) := by decide +kernel
theorem dX2_notice_0 : decode cX2_notice 0 = .ok (.aload_n 0, 1) := by decide +kernel
theorem dX2_notice_1 : decode cX2_notice 1 = .ok (.iload_n 1, 1) := by decide +kernel
theorem dX2_notice_2 : decode cX2_notice 2 = .ok (.invokevirtual 47, 3) := by decide +kernel
theorem dX2_notice_5 : decode cX2_notice 5 = .ok (.astore 5, 2) := by decide +kernel
theorem dX2_notice_7 : decode cX2_notice 7 = .ok (.iload_n 2, 1) := by decide +kernel
theorem dX2_notice_8 : decode cX2_notice 8 = .ok (.iload_n 3, 1) := by decide +kernel
theorem dX2_notice_9 : decode cX2_notice 9 = .ok (.invokestatic 51, 3) := by decide +kernel
theorem dX2_notice_12 : decode cX2_notice 12 = .ok (.ifCond .eq 18, 3) := by decide +kernel
theorem dX2_notice_15 : decode cX2_notice 15 = .ok (.iload 4, 2) := by decide +kernel
theorem dX2_notice_17 : decode cX2_notice 17 = .ok (.iconst 0, 1) := by decide +kernel
theorem dX2_notice_18 : decode cX2_notice 18 = .ok (.bipush 40, 2) := by decide +kernel
theorem dX2_notice_20 : decode cX2_notice 20 = .ok (.invokestatic 30, 3) := by decide +kernel
theorem dX2_notice_23 : decode cX2_notice 23 = .ok (.ifCond .eq 7, 3) := by decide +kernel
theorem dX2_notice_26 : decode cX2_notice 26 = .ok (.iconst 1, 1) := by decide +kernel
theorem dX2_notice_27 : decode cX2_notice 27 = .ok (.goto 4, 3) := by decide +kernel
theorem dX2_notice_30 : decode cX2_notice 30 = .ok (.iconst 0, 1) := by decide +kernel
theorem dX2_notice_31 : decode cX2_notice 31 = .ok (.invokestatic 34, 3) := by decide +kernel
theorem dX2_notice_34 : decode cX2_notice 34 = .ok (.iload_n 2, 1) := by decide +kernel
theorem dX2_notice_35 : decode cX2_notice 35 = .ok (.aload_n 0, 1) := by decide +kernel
theorem dX2_notice_36 : decode cX2_notice 36 = .ok (.getfield 55, 3) := by decide +kernel
theorem dX2_notice_39 : decode cX2_notice 39 = .ok (.iconst 2, 1) := by decide +kernel
theorem dX2_notice_40 : decode cX2_notice 40 = .ok (.iadd, 1) := by decide +kernel
theorem dX2_notice_41 : decode cX2_notice 41 = .ok (.if_icmp .lt 17, 3) := by decide +kernel
theorem dX2_notice_44 : decode cX2_notice 44 = .ok (.aload 5, 2) := by decide +kernel
theorem dX2_notice_46 : decode cX2_notice 46 = .ok (.getfield 58, 3) := by decide +kernel
theorem dX2_notice_49 : decode cX2_notice 49 = .ok (.bipush 30, 2) := by decide +kernel
theorem dX2_notice_51 : decode cX2_notice 51 = .ok (.if_icmp .ge 7, 3) := by decide +kernel
theorem dX2_notice_54 : decode cX2_notice 54 = .ok (.iconst 1, 1) := by decide +kernel
theorem dX2_notice_55 : decode cX2_notice 55 = .ok (.goto 4, 3) := by decide +kernel
theorem dX2_notice_58 : decode cX2_notice 58 = .ok (.iconst 0, 1) := by decide +kernel
theorem dX2_notice_59 : decode cX2_notice 59 = .ok (.invokestatic 41, 3) := by decide +kernel
theorem dX2_notice_62 : decode cX2_notice 62 = .ok (.aload 5, 2) := by decide +kernel
theorem dX2_notice_64 : decode cX2_notice 64 = .ok (.iload_n 2, 1) := by decide +kernel
theorem dX2_notice_65 : decode cX2_notice 65 = .ok (.iload_n 3, 1) := by decide +kernel
theorem dX2_notice_66 : decode cX2_notice 66 = .ok (.iload 4, 2) := by decide +kernel
theorem dX2_notice_68 : decode cX2_notice 68 = .ok (.invokevirtual 61, 3) := by decide +kernel
theorem dX2_notice_71 : decode cX2_notice 71 = .ok (.aload 5, 2) := by decide +kernel
theorem dX2_notice_73 : decode cX2_notice 73 = .ok (.getfield 58, 3) := by decide +kernel
theorem dX2_notice_76 : decode cX2_notice 76 = .ok (.ireturn, 1) := by decide +kernel
theorem dX2_addCourse_0 : decode cX2_addCourse 0 = .ok (.iload_n 1, 1) := by decide +kernel
theorem dX2_addCourse_1 : decode cX2_addCourse 1 = .ok (.iconst 1, 1) := by decide +kernel
theorem dX2_addCourse_2 : decode cX2_addCourse 2 = .ok (.bipush 8, 2) := by decide +kernel
theorem dX2_addCourse_4 : decode cX2_addCourse 4 = .ok (.invokestatic 30, 3) := by decide +kernel
theorem dX2_addCourse_7 : decode cX2_addCourse 7 = .ok (.ifCond .eq 26, 3) := by decide +kernel
theorem dX2_addCourse_10 : decode cX2_addCourse 10 = .ok (.iload_n 2, 1) := by decide +kernel
theorem dX2_addCourse_11 : decode cX2_addCourse 11 = .ok (.iload_n 3, 1) := by decide +kernel
theorem dX2_addCourse_12 : decode cX2_addCourse 12 = .ok (.invokestatic 51, 3) := by decide +kernel
theorem dX2_addCourse_15 : decode cX2_addCourse 15 = .ok (.ifCond .eq 18, 3) := by decide +kernel
theorem dX2_addCourse_18 : decode cX2_addCourse 18 = .ok (.iload 4, 2) := by decide +kernel
theorem dX2_addCourse_20 : decode cX2_addCourse 20 = .ok (.iconst 1, 1) := by decide +kernel
theorem dX2_addCourse_21 : decode cX2_addCourse 21 = .ok (.bipush 40, 2) := by decide +kernel
theorem dX2_addCourse_23 : decode cX2_addCourse 23 = .ok (.invokestatic 30, 3) := by decide +kernel
theorem dX2_addCourse_26 : decode cX2_addCourse 26 = .ok (.ifCond .eq 7, 3) := by decide +kernel
theorem dX2_addCourse_29 : decode cX2_addCourse 29 = .ok (.iconst 1, 1) := by decide +kernel
theorem dX2_addCourse_30 : decode cX2_addCourse 30 = .ok (.goto 4, 3) := by decide +kernel
theorem dX2_addCourse_33 : decode cX2_addCourse 33 = .ok (.iconst 0, 1) := by decide +kernel
theorem dX2_addCourse_34 : decode cX2_addCourse 34 = .ok (.invokestatic 34, 3) := by decide +kernel
theorem dX2_addCourse_37 : decode cX2_addCourse 37 = .ok (.aload_n 0, 1) := by decide +kernel
theorem dX2_addCourse_38 : decode cX2_addCourse 38 = .ok (.getfield 65, 3) := by decide +kernel
theorem dX2_addCourse_41 : decode cX2_addCourse 41 = .ok (.bipush 10, 2) := by decide +kernel
theorem dX2_addCourse_43 : decode cX2_addCourse 43 = .ok (.if_icmp .ge 7, 3) := by decide +kernel
theorem dX2_addCourse_46 : decode cX2_addCourse 46 = .ok (.iconst 1, 1) := by decide +kernel
theorem dX2_addCourse_47 : decode cX2_addCourse 47 = .ok (.goto 4, 3) := by decide +kernel
theorem dX2_addCourse_50 : decode cX2_addCourse 50 = .ok (.iconst 0, 1) := by decide +kernel
theorem dX2_addCourse_51 : decode cX2_addCourse 51 = .ok (.invokestatic 41, 3) := by decide +kernel
theorem dX2_addCourse_54 : decode cX2_addCourse 54 = .ok (.aload_n 0, 1) := by decide +kernel
theorem dX2_addCourse_55 : decode cX2_addCourse 55 = .ok (.getfield 65, 3) := by decide +kernel
theorem dX2_addCourse_58 : decode cX2_addCourse 58 = .ok (.istore 5, 2) := by decide +kernel
theorem dX2_addCourse_60 : decode cX2_addCourse 60 = .ok (.aload_n 0, 1) := by decide +kernel
theorem dX2_addCourse_61 : decode cX2_addCourse 61 = .ok (.getfield 17, 3) := by decide +kernel
theorem dX2_addCourse_64 : decode cX2_addCourse 64 = .ok (.iload 5, 2) := by decide +kernel
theorem dX2_addCourse_66 : decode cX2_addCourse 66 = .ok (.new 15, 3) := by decide +kernel
theorem dX2_addCourse_69 : decode cX2_addCourse 69 = .ok (.dup, 1) := by decide +kernel
theorem dX2_addCourse_70 : decode cX2_addCourse 70 = .ok (.iload_n 1, 1) := by decide +kernel
theorem dX2_addCourse_71 : decode cX2_addCourse 71 = .ok (.iload_n 2, 1) := by decide +kernel
theorem dX2_addCourse_72 : decode cX2_addCourse 72 = .ok (.iload_n 3, 1) := by decide +kernel
theorem dX2_addCourse_73 : decode cX2_addCourse 73 = .ok (.iload 4, 2) := by decide +kernel
theorem dX2_addCourse_75 : decode cX2_addCourse 75 = .ok (.invokespecial 68, 3) := by decide +kernel
theorem dX2_addCourse_78 : decode cX2_addCourse 78 = .ok (.aastore, 1) := by decide +kernel
theorem dX2_addCourse_79 : decode cX2_addCourse 79 = .ok (.aload_n 0, 1) := by decide +kernel
theorem dX2_addCourse_80 : decode cX2_addCourse 80 = .ok (.iload 5, 2) := by decide +kernel
theorem dX2_addCourse_82 : decode cX2_addCourse 82 = .ok (.iconst 1, 1) := by decide +kernel
theorem dX2_addCourse_83 : decode cX2_addCourse 83 = .ok (.iadd, 1) := by decide +kernel
theorem dX2_addCourse_84 : decode cX2_addCourse 84 = .ok (.putfield 65, 3) := by decide +kernel
theorem dX2_addCourse_87 : decode cX2_addCourse 87 = .ok (.iload 5, 2) := by decide +kernel
theorem dX2_addCourse_89 : decode cX2_addCourse 89 = .ok (.ireturn, 1) := by decide +kernel
theorem dX2_enrol_0 : decode cX2_enrol 0 = .ok (.aload_n 0, 1) := by decide +kernel
theorem dX2_enrol_1 : decode cX2_enrol 1 = .ok (.iload_n 1, 1) := by decide +kernel
theorem dX2_enrol_2 : decode cX2_enrol 2 = .ok (.invokevirtual 47, 3) := by decide +kernel
theorem dX2_enrol_5 : decode cX2_enrol 5 = .ok (.astore_n 3, 1) := by decide +kernel
theorem dX2_enrol_6 : decode cX2_enrol 6 = .ok (.aload_n 0, 1) := by decide +kernel
theorem dX2_enrol_7 : decode cX2_enrol 7 = .ok (.iload_n 2, 1) := by decide +kernel
theorem dX2_enrol_8 : decode cX2_enrol 8 = .ok (.invokevirtual 71, 3) := by decide +kernel
theorem dX2_enrol_11 : decode cX2_enrol 11 = .ok (.astore 4, 2) := by decide +kernel
theorem dX2_enrol_13 : decode cX2_enrol 13 = .ok (.aload 4, 2) := by decide +kernel
theorem dX2_enrol_15 : decode cX2_enrol 15 = .ok (.getfield 75, 3) := by decide +kernel
theorem dX2_enrol_18 : decode cX2_enrol 18 = .ok (.ifCond .le 36, 3) := by decide +kernel
theorem dX2_enrol_21 : decode cX2_enrol 21 = .ok (.aload 4, 2) := by decide +kernel
theorem dX2_enrol_23 : decode cX2_enrol 23 = .ok (.getfield 78, 3) := by decide +kernel
theorem dX2_enrol_26 : decode cX2_enrol 26 = .ok (.aload_n 0, 1) := by decide +kernel
theorem dX2_enrol_27 : decode cX2_enrol 27 = .ok (.getfield 55, 3) := by decide +kernel
theorem dX2_enrol_30 : decode cX2_enrol 30 = .ok (.if_icmp .lt 24, 3) := by decide +kernel
theorem dX2_enrol_33 : decode cX2_enrol 33 = .ok (.aload_n 3, 1) := by decide +kernel
theorem dX2_enrol_34 : decode cX2_enrol 34 = .ok (.aload 4, 2) := by decide +kernel
theorem dX2_enrol_36 : decode cX2_enrol 36 = .ok (.getfield 81, 3) := by decide +kernel
theorem dX2_enrol_39 : decode cX2_enrol 39 = .ok (.aload 4, 2) := by decide +kernel
theorem dX2_enrol_41 : decode cX2_enrol 41 = .ok (.getfield 78, 3) := by decide +kernel
theorem dX2_enrol_44 : decode cX2_enrol 44 = .ok (.invokevirtual 84, 3) := by decide +kernel
theorem dX2_enrol_47 : decode cX2_enrol 47 = .ok (.ifCond .eq 7, 3) := by decide +kernel
theorem dX2_enrol_50 : decode cX2_enrol 50 = .ok (.iconst 1, 1) := by decide +kernel
theorem dX2_enrol_51 : decode cX2_enrol 51 = .ok (.goto 4, 3) := by decide +kernel
theorem dX2_enrol_54 : decode cX2_enrol 54 = .ok (.iconst 0, 1) := by decide +kernel
theorem dX2_enrol_55 : decode cX2_enrol 55 = .ok (.invokestatic 41, 3) := by decide +kernel
theorem dX2_enrol_58 : decode cX2_enrol 58 = .ok (.aload_n 3, 1) := by decide +kernel
theorem dX2_enrol_59 : decode cX2_enrol 59 = .ok (.aload 4, 2) := by decide +kernel
theorem dX2_enrol_61 : decode cX2_enrol 61 = .ok (.invokevirtual 87, 3) := by decide +kernel
theorem dX2_enrol_64 : decode cX2_enrol 64 = .ok (.aload 4, 2) := by decide +kernel
theorem dX2_enrol_66 : decode cX2_enrol 66 = .ok (.dup, 1) := by decide +kernel
theorem dX2_enrol_67 : decode cX2_enrol 67 = .ok (.getfield 75, 3) := by decide +kernel
theorem dX2_enrol_70 : decode cX2_enrol 70 = .ok (.iconst 1, 1) := by decide +kernel
theorem dX2_enrol_71 : decode cX2_enrol 71 = .ok (.isub, 1) := by decide +kernel
theorem dX2_enrol_72 : decode cX2_enrol 72 = .ok (.putfield 75, 3) := by decide +kernel
theorem dX2_enrol_75 : decode cX2_enrol 75 = .ok (.aload 4, 2) := by decide +kernel
theorem dX2_enrol_77 : decode cX2_enrol 77 = .ok (.getfield 75, 3) := by decide +kernel
theorem dX2_enrol_80 : decode cX2_enrol 80 = .ok (.ireturn, 1) := by decide +kernel
theorem dX2_setFloor_0 : decode cX2_setFloor 0 = .ok (.iload_n 1, 1) := by decide +kernel
theorem dX2_setFloor_1 : decode cX2_setFloor 1 = .ok (.iconst 0, 1) := by decide +kernel
theorem dX2_setFloor_2 : decode cX2_setFloor 2 = .ok (.bipush 100, 2) := by decide +kernel
theorem dX2_setFloor_4 : decode cX2_setFloor 4 = .ok (.invokestatic 30, 3) := by decide +kernel
theorem dX2_setFloor_7 : decode cX2_setFloor 7 = .ok (.invokestatic 34, 3) := by decide +kernel
theorem dX2_setFloor_10 : decode cX2_setFloor 10 = .ok (.aload_n 0, 1) := by decide +kernel
theorem dX2_setFloor_11 : decode cX2_setFloor 11 = .ok (.getfield 25, 3) := by decide +kernel
theorem dX2_setFloor_14 : decode cX2_setFloor 14 = .ok (.istore_n 2, 1) := by decide +kernel
theorem dX2_setFloor_15 : decode cX2_setFloor 15 = .ok (.aload_n 0, 1) := by decide +kernel
theorem dX2_setFloor_16 : decode cX2_setFloor 16 = .ok (.iload_n 1, 1) := by decide +kernel
theorem dX2_setFloor_17 : decode cX2_setFloor 17 = .ok (.putfield 25, 3) := by decide +kernel
theorem dX2_setFloor_20 : decode cX2_setFloor 20 = .ok (.iload_n 2, 1) := by decide +kernel
theorem dX2_setFloor_21 : decode cX2_setFloor 21 = .ok (.ireturn, 1) := by decide +kernel
theorem dX2_workers_0 : decode cX2_workers 0 = .ok (.aload_n 0, 1) := by decide +kernel
theorem dX2_workers_1 : decode cX2_workers 1 = .ok (.getfield 38, 3) := by decide +kernel
theorem dX2_workers_4 : decode cX2_workers 4 = .ok (.ireturn, 1) := by decide +kernel
theorem dX2_cut_0 : decode cX2_cut 0 = .ok (.aload_n 0, 1) := by decide +kernel
theorem dX2_cut_1 : decode cX2_cut 1 = .ok (.iload_n 1, 1) := by decide +kernel
theorem dX2_cut_2 : decode cX2_cut 2 = .ok (.invokevirtual 47, 3) := by decide +kernel
theorem dX2_cut_5 : decode cX2_cut 5 = .ok (.astore_n 3, 1) := by decide +kernel
theorem dX2_cut_6 : decode cX2_cut 6 = .ok (.iload_n 2, 1) := by decide +kernel
theorem dX2_cut_7 : decode cX2_cut 7 = .ok (.iconst 0, 1) := by decide +kernel
theorem dX2_cut_8 : decode cX2_cut 8 = .ok (.sipush 200, 3) := by decide +kernel
theorem dX2_cut_11 : decode cX2_cut 11 = .ok (.invokestatic 30, 3) := by decide +kernel
theorem dX2_cut_14 : decode cX2_cut 14 = .ok (.invokestatic 34, 3) := by decide +kernel
theorem dX2_cut_17 : decode cX2_cut 17 = .ok (.aload_n 3, 1) := by decide +kernel
theorem dX2_cut_18 : decode cX2_cut 18 = .ok (.getfield 91, 3) := by decide +kernel
theorem dX2_cut_21 : decode cX2_cut 21 = .ok (.iload_n 2, 1) := by decide +kernel
theorem dX2_cut_22 : decode cX2_cut 22 = .ok (.iaload, 1) := by decide +kernel
theorem dX2_cut_23 : decode cX2_cut 23 = .ok (.ireturn, 1) := by decide +kernel
theorem dX2_isFilled_0 : decode cX2_isFilled 0 = .ok (.aload_n 0, 1) := by decide +kernel
theorem dX2_isFilled_1 : decode cX2_isFilled 1 = .ok (.iload_n 1, 1) := by decide +kernel
theorem dX2_isFilled_2 : decode cX2_isFilled 2 = .ok (.invokevirtual 47, 3) := by decide +kernel
theorem dX2_isFilled_5 : decode cX2_isFilled 5 = .ok (.astore_n 3, 1) := by decide +kernel
theorem dX2_isFilled_6 : decode cX2_isFilled 6 = .ok (.iload_n 2, 1) := by decide +kernel
theorem dX2_isFilled_7 : decode cX2_isFilled 7 = .ok (.iconst 0, 1) := by decide +kernel
theorem dX2_isFilled_8 : decode cX2_isFilled 8 = .ok (.sipush 200, 3) := by decide +kernel
theorem dX2_isFilled_11 : decode cX2_isFilled 11 = .ok (.invokestatic 30, 3) := by decide +kernel
theorem dX2_isFilled_14 : decode cX2_isFilled 14 = .ok (.invokestatic 34, 3) := by decide +kernel
theorem dX2_isFilled_17 : decode cX2_isFilled 17 = .ok (.aload_n 3, 1) := by decide +kernel
theorem dX2_isFilled_18 : decode cX2_isFilled 18 = .ok (.iload_n 2, 1) := by decide +kernel
theorem dX2_isFilled_19 : decode cX2_isFilled 19 = .ok (.invokevirtual 95, 3) := by decide +kernel
theorem dX2_isFilled_22 : decode cX2_isFilled 22 = .ok (.ireturn, 1) := by decide +kernel
theorem dX2_pass_0 : decode cX2_pass 0 = .ok (.iload_n 1, 1) := by decide +kernel
theorem dX2_pass_1 : decode cX2_pass 1 = .ok (.iconst 1, 1) := by decide +kernel
theorem dX2_pass_2 : decode cX2_pass 2 = .ok (.bipush 60, 2) := by decide +kernel
theorem dX2_pass_4 : decode cX2_pass 4 = .ok (.invokestatic 30, 3) := by decide +kernel
theorem dX2_pass_7 : decode cX2_pass 7 = .ok (.invokestatic 34, 3) := by decide +kernel
theorem dX2_pass_10 : decode cX2_pass 10 = .ok (.aload_n 0, 1) := by decide +kernel
theorem dX2_pass_11 : decode cX2_pass 11 = .ok (.getfield 55, 3) := by decide +kernel
theorem dX2_pass_14 : decode cX2_pass 14 = .ok (.iload_n 1, 1) := by decide +kernel
theorem dX2_pass_15 : decode cX2_pass 15 = .ok (.iadd, 1) := by decide +kernel
theorem dX2_pass_16 : decode cX2_pass 16 = .ok (.sipush 201, 3) := by decide +kernel
theorem dX2_pass_19 : decode cX2_pass 19 = .ok (.if_icmp .gt 7, 3) := by decide +kernel
theorem dX2_pass_22 : decode cX2_pass 22 = .ok (.iconst 1, 1) := by decide +kernel
theorem dX2_pass_23 : decode cX2_pass 23 = .ok (.goto 4, 3) := by decide +kernel
theorem dX2_pass_26 : decode cX2_pass 26 = .ok (.iconst 0, 1) := by decide +kernel
theorem dX2_pass_27 : decode cX2_pass 27 = .ok (.invokestatic 41, 3) := by decide +kernel
theorem dX2_pass_30 : decode cX2_pass 30 = .ok (.iconst 0, 1) := by decide +kernel
theorem dX2_pass_31 : decode cX2_pass 31 = .ok (.istore_n 2, 1) := by decide +kernel
theorem dX2_pass_32 : decode cX2_pass 32 = .ok (.iconst 0, 1) := by decide +kernel
theorem dX2_pass_33 : decode cX2_pass 33 = .ok (.istore_n 3, 1) := by decide +kernel
theorem dX2_pass_34 : decode cX2_pass 34 = .ok (.iload_n 3, 1) := by decide +kernel
theorem dX2_pass_35 : decode cX2_pass 35 = .ok (.iload_n 1, 1) := by decide +kernel
theorem dX2_pass_36 : decode cX2_pass 36 = .ok (.if_icmp .ge 26, 3) := by decide +kernel
theorem dX2_pass_39 : decode cX2_pass 39 = .ok (.iload_n 2, 1) := by decide +kernel
theorem dX2_pass_40 : decode cX2_pass 40 = .ok (.aload_n 0, 1) := by decide +kernel
theorem dX2_pass_41 : decode cX2_pass 41 = .ok (.invokevirtual 99, 3) := by decide +kernel
theorem dX2_pass_44 : decode cX2_pass 44 = .ok (.iadd, 1) := by decide +kernel
theorem dX2_pass_45 : decode cX2_pass 45 = .ok (.istore_n 2, 1) := by decide +kernel
theorem dX2_pass_46 : decode cX2_pass 46 = .ok (.aload_n 0, 1) := by decide +kernel
theorem dX2_pass_47 : decode cX2_pass 47 = .ok (.dup, 1) := by decide +kernel
theorem dX2_pass_48 : decode cX2_pass 48 = .ok (.getfield 55, 3) := by decide +kernel
theorem dX2_pass_51 : decode cX2_pass 51 = .ok (.iconst 1, 1) := by decide +kernel
theorem dX2_pass_52 : decode cX2_pass 52 = .ok (.iadd, 1) := by decide +kernel
theorem dX2_pass_53 : decode cX2_pass 53 = .ok (.putfield 55, 3) := by decide +kernel
theorem dX2_pass_56 : decode cX2_pass 56 = .ok (.iinc 3 1, 3) := by decide +kernel
theorem dX2_pass_59 : decode cX2_pass 59 = .ok (.goto (-25), 3) := by decide +kernel
theorem dX2_pass_62 : decode cX2_pass 62 = .ok (.iload_n 2, 1) := by decide +kernel
theorem dX2_pass_63 : decode cX2_pass 63 = .ok (.ireturn, 1) := by decide +kernel
theorem dX2_week_0 : decode cX2_week 0 = .ok (.aload_n 0, 1) := by decide +kernel
theorem dX2_week_1 : decode cX2_week 1 = .ok (.getfield 55, 3) := by decide +kernel
theorem dX2_week_4 : decode cX2_week 4 = .ok (.ireturn, 1) := by decide +kernel
theorem dX2_paid_0 : decode cX2_paid 0 = .ok (.aload_n 0, 1) := by decide +kernel
theorem dX2_paid_1 : decode cX2_paid 1 = .ok (.iload_n 1, 1) := by decide +kernel
theorem dX2_paid_2 : decode cX2_paid 2 = .ok (.invokevirtual 47, 3) := by decide +kernel
theorem dX2_paid_5 : decode cX2_paid 5 = .ok (.astore_n 3, 1) := by decide +kernel
theorem dX2_paid_6 : decode cX2_paid 6 = .ok (.aload_n 0, 1) := by decide +kernel
theorem dX2_paid_7 : decode cX2_paid 7 = .ok (.iload_n 2, 1) := by decide +kernel
theorem dX2_paid_8 : decode cX2_paid 8 = .ok (.invokevirtual 103, 3) := by decide +kernel
theorem dX2_paid_11 : decode cX2_paid 11 = .ok (.invokestatic 34, 3) := by decide +kernel
theorem dX2_paid_14 : decode cX2_paid 14 = .ok (.aload_n 3, 1) := by decide +kernel
theorem dX2_paid_15 : decode cX2_paid 15 = .ok (.getfield 106, 3) := by decide +kernel
theorem dX2_paid_18 : decode cX2_paid 18 = .ok (.iload_n 2, 1) := by decide +kernel
theorem dX2_paid_19 : decode cX2_paid 19 = .ok (.iaload, 1) := by decide +kernel
theorem dX2_paid_20 : decode cX2_paid 20 = .ok (.ireturn, 1) := by decide +kernel
theorem dX2_madeUp_0 : decode cX2_madeUp 0 = .ok (.aload_n 0, 1) := by decide +kernel
theorem dX2_madeUp_1 : decode cX2_madeUp 1 = .ok (.iload_n 1, 1) := by decide +kernel
theorem dX2_madeUp_2 : decode cX2_madeUp 2 = .ok (.invokevirtual 47, 3) := by decide +kernel
theorem dX2_madeUp_5 : decode cX2_madeUp 5 = .ok (.astore_n 3, 1) := by decide +kernel
theorem dX2_madeUp_6 : decode cX2_madeUp 6 = .ok (.aload_n 0, 1) := by decide +kernel
theorem dX2_madeUp_7 : decode cX2_madeUp 7 = .ok (.iload_n 2, 1) := by decide +kernel
theorem dX2_madeUp_8 : decode cX2_madeUp 8 = .ok (.invokevirtual 103, 3) := by decide +kernel
theorem dX2_madeUp_11 : decode cX2_madeUp 11 = .ok (.invokestatic 34, 3) := by decide +kernel
theorem dX2_madeUp_14 : decode cX2_madeUp 14 = .ok (.aload_n 3, 1) := by decide +kernel
theorem dX2_madeUp_15 : decode cX2_madeUp 15 = .ok (.getfield 109, 3) := by decide +kernel
theorem dX2_madeUp_18 : decode cX2_madeUp 18 = .ok (.iload_n 2, 1) := by decide +kernel
theorem dX2_madeUp_19 : decode cX2_madeUp 19 = .ok (.iaload, 1) := by decide +kernel
theorem dX2_madeUp_20 : decode cX2_madeUp 20 = .ok (.ireturn, 1) := by decide +kernel
theorem dX2_cutWeeks_0 : decode cX2_cutWeeks 0 = .ok (.aload_n 0, 1) := by decide +kernel
theorem dX2_cutWeeks_1 : decode cX2_cutWeeks 1 = .ok (.iload_n 1, 1) := by decide +kernel
theorem dX2_cutWeeks_2 : decode cX2_cutWeeks 2 = .ok (.invokevirtual 47, 3) := by decide +kernel
theorem dX2_cutWeeks_5 : decode cX2_cutWeeks 5 = .ok (.getfield 112, 3) := by decide +kernel
theorem dX2_cutWeeks_8 : decode cX2_cutWeeks 8 = .ok (.ireturn, 1) := by decide +kernel
theorem dX2_door_0 : decode cX2_door 0 = .ok (.aload_n 0, 1) := by decide +kernel
theorem dX2_door_1 : decode cX2_door 1 = .ok (.iload_n 1, 1) := by decide +kernel
theorem dX2_door_2 : decode cX2_door 2 = .ok (.invokevirtual 47, 3) := by decide +kernel
theorem dX2_door_5 : decode cX2_door 5 = .ok (.astore 4, 2) := by decide +kernel
theorem dX2_door_7 : decode cX2_door 7 = .ok (.aload_n 0, 1) := by decide +kernel
theorem dX2_door_8 : decode cX2_door 8 = .ok (.iload_n 2, 1) := by decide +kernel
theorem dX2_door_9 : decode cX2_door 9 = .ok (.invokevirtual 103, 3) := by decide +kernel
theorem dX2_door_12 : decode cX2_door 12 = .ok (.ifCond .eq 17, 3) := by decide +kernel
theorem dX2_door_15 : decode cX2_door 15 = .ok (.iload_n 3, 1) := by decide +kernel
theorem dX2_door_16 : decode cX2_door 16 = .ok (.iconst 0, 1) := by decide +kernel
theorem dX2_door_17 : decode cX2_door 17 = .ok (.bipush 80, 2) := by decide +kernel
theorem dX2_door_19 : decode cX2_door 19 = .ok (.invokestatic 30, 3) := by decide +kernel
theorem dX2_door_22 : decode cX2_door 22 = .ok (.ifCond .eq 7, 3) := by decide +kernel
theorem dX2_door_25 : decode cX2_door 25 = .ok (.iconst 1, 1) := by decide +kernel
theorem dX2_door_26 : decode cX2_door 26 = .ok (.goto 4, 3) := by decide +kernel
theorem dX2_door_29 : decode cX2_door 29 = .ok (.iconst 0, 1) := by decide +kernel
theorem dX2_door_30 : decode cX2_door 30 = .ok (.invokestatic 34, 3) := by decide +kernel
theorem dX2_door_33 : decode cX2_door 33 = .ok (.aload_n 0, 1) := by decide +kernel
theorem dX2_door_34 : decode cX2_door 34 = .ok (.getfield 21, 3) := by decide +kernel
theorem dX2_door_37 : decode cX2_door 37 = .ok (.iload_n 2, 1) := by decide +kernel
theorem dX2_door_38 : decode cX2_door 38 = .ok (.baload, 1) := by decide +kernel
theorem dX2_door_39 : decode cX2_door 39 = .ok (.ifCond .ne 7, 3) := by decide +kernel
theorem dX2_door_42 : decode cX2_door 42 = .ok (.iconst 1, 1) := by decide +kernel
theorem dX2_door_43 : decode cX2_door 43 = .ok (.goto 4, 3) := by decide +kernel
theorem dX2_door_46 : decode cX2_door 46 = .ok (.iconst 0, 1) := by decide +kernel
theorem dX2_door_47 : decode cX2_door 47 = .ok (.invokestatic 41, 3) := by decide +kernel
theorem dX2_door_50 : decode cX2_door 50 = .ok (.aload 4, 2) := by decide +kernel
theorem dX2_door_52 : decode cX2_door 52 = .ok (.getfield 115, 3) := by decide +kernel
theorem dX2_door_55 : decode cX2_door 55 = .ok (.iload_n 2, 1) := by decide +kernel
theorem dX2_door_56 : decode cX2_door 56 = .ok (.iload_n 3, 1) := by decide +kernel
theorem dX2_door_57 : decode cX2_door 57 = .ok (.iastore, 1) := by decide +kernel
theorem dX2_door_58 : decode cX2_door 58 = .ok (.return_, 1) := by decide +kernel
theorem dX2_mail_0 : decode cX2_mail 0 = .ok (.aload_n 0, 1) := by decide +kernel
theorem dX2_mail_1 : decode cX2_mail 1 = .ok (.iload_n 1, 1) := by decide +kernel
theorem dX2_mail_2 : decode cX2_mail 2 = .ok (.invokevirtual 47, 3) := by decide +kernel
theorem dX2_mail_5 : decode cX2_mail 5 = .ok (.astore_n 3, 1) := by decide +kernel
theorem dX2_mail_6 : decode cX2_mail 6 = .ok (.aload_n 0, 1) := by decide +kernel
theorem dX2_mail_7 : decode cX2_mail 7 = .ok (.iload_n 2, 1) := by decide +kernel
theorem dX2_mail_8 : decode cX2_mail 8 = .ok (.invokevirtual 103, 3) := by decide +kernel
theorem dX2_mail_11 : decode cX2_mail 11 = .ok (.invokestatic 34, 3) := by decide +kernel
theorem dX2_mail_14 : decode cX2_mail 14 = .ok (.aload_n 0, 1) := by decide +kernel
theorem dX2_mail_15 : decode cX2_mail 15 = .ok (.getfield 21, 3) := by decide +kernel
theorem dX2_mail_18 : decode cX2_mail 18 = .ok (.iload_n 2, 1) := by decide +kernel
theorem dX2_mail_19 : decode cX2_mail 19 = .ok (.baload, 1) := by decide +kernel
theorem dX2_mail_20 : decode cX2_mail 20 = .ok (.ifCond .ne 7, 3) := by decide +kernel
theorem dX2_mail_23 : decode cX2_mail 23 = .ok (.iconst 1, 1) := by decide +kernel
theorem dX2_mail_24 : decode cX2_mail 24 = .ok (.goto 4, 3) := by decide +kernel
theorem dX2_mail_27 : decode cX2_mail 27 = .ok (.iconst 0, 1) := by decide +kernel
theorem dX2_mail_28 : decode cX2_mail 28 = .ok (.invokestatic 41, 3) := by decide +kernel
theorem dX2_mail_31 : decode cX2_mail 31 = .ok (.aload_n 3, 1) := by decide +kernel
theorem dX2_mail_32 : decode cX2_mail 32 = .ok (.getfield 118, 3) := by decide +kernel
theorem dX2_mail_35 : decode cX2_mail 35 = .ok (.iload_n 2, 1) := by decide +kernel
theorem dX2_mail_36 : decode cX2_mail 36 = .ok (.iconst 1, 1) := by decide +kernel
theorem dX2_mail_37 : decode cX2_mail 37 = .ok (.bastore, 1) := by decide +kernel
theorem dX2_mail_38 : decode cX2_mail 38 = .ok (.return_, 1) := by decide +kernel
theorem dX2_check_0 : decode cX2_check 0 = .ok (.aload_n 0, 1) := by decide +kernel
theorem dX2_check_1 : decode cX2_check 1 = .ok (.iload_n 1, 1) := by decide +kernel
theorem dX2_check_2 : decode cX2_check 2 = .ok (.invokevirtual 103, 3) := by decide +kernel
theorem dX2_check_5 : decode cX2_check 5 = .ok (.invokestatic 34, 3) := by decide +kernel
theorem dX2_check_8 : decode cX2_check 8 = .ok (.aload_n 0, 1) := by decide +kernel
theorem dX2_check_9 : decode cX2_check 9 = .ok (.getfield 21, 3) := by decide +kernel
theorem dX2_check_12 : decode cX2_check 12 = .ok (.iload_n 1, 1) := by decide +kernel
theorem dX2_check_13 : decode cX2_check 13 = .ok (.baload, 1) := by decide +kernel
theorem dX2_check_14 : decode cX2_check 14 = .ok (.ifCond .ne 7, 3) := by decide +kernel
theorem dX2_check_17 : decode cX2_check 17 = .ok (.iconst 1, 1) := by decide +kernel
theorem dX2_check_18 : decode cX2_check 18 = .ok (.goto 4, 3) := by decide +kernel
theorem dX2_check_21 : decode cX2_check 21 = .ok (.iconst 0, 1) := by decide +kernel
theorem dX2_check_22 : decode cX2_check 22 = .ok (.invokestatic 41, 3) := by decide +kernel
theorem dX2_check_25 : decode cX2_check 25 = .ok (.aload_n 0, 1) := by decide +kernel
theorem dX2_check_26 : decode cX2_check 26 = .ok (.getfield 21, 3) := by decide +kernel
theorem dX2_check_29 : decode cX2_check 29 = .ok (.iload_n 1, 1) := by decide +kernel
theorem dX2_check_30 : decode cX2_check 30 = .ok (.iconst 1, 1) := by decide +kernel
theorem dX2_check_31 : decode cX2_check 31 = .ok (.bastore, 1) := by decide +kernel
theorem dX2_check_32 : decode cX2_check 32 = .ok (.iconst 0, 1) := by decide +kernel
theorem dX2_check_33 : decode cX2_check 33 = .ok (.istore_n 2, 1) := by decide +kernel
theorem dX2_check_34 : decode cX2_check 34 = .ok (.aload_n 0, 1) := by decide +kernel
theorem dX2_check_35 : decode cX2_check 35 = .ok (.getfield 11, 3) := by decide +kernel
theorem dX2_check_38 : decode cX2_check 38 = .ok (.astore_n 3, 1) := by decide +kernel
theorem dX2_check_39 : decode cX2_check 39 = .ok (.aload_n 3, 1) := by decide +kernel
theorem dX2_check_40 : decode cX2_check 40 = .ok (.arraylength, 1) := by decide +kernel
theorem dX2_check_41 : decode cX2_check 41 = .ok (.istore 4, 2) := by decide +kernel
theorem dX2_check_43 : decode cX2_check 43 = .ok (.iconst 0, 1) := by decide +kernel
theorem dX2_check_44 : decode cX2_check 44 = .ok (.istore 5, 2) := by decide +kernel
theorem dX2_check_46 : decode cX2_check 46 = .ok (.iload 5, 2) := by decide +kernel
theorem dX2_check_48 : decode cX2_check 48 = .ok (.iload 4, 2) := by decide +kernel
theorem dX2_check_50 : decode cX2_check 50 = .ok (.if_icmp .ge 39, 3) := by decide +kernel
theorem dX2_check_53 : decode cX2_check 53 = .ok (.aload_n 3, 1) := by decide +kernel
theorem dX2_check_54 : decode cX2_check 54 = .ok (.iload 5, 2) := by decide +kernel
theorem dX2_check_56 : decode cX2_check 56 = .ok (.aaload, 1) := by decide +kernel
theorem dX2_check_57 : decode cX2_check 57 = .ok (.astore 6, 2) := by decide +kernel
theorem dX2_check_59 : decode cX2_check 59 = .ok (.aload 6, 2) := by decide +kernel
theorem dX2_check_61 : decode cX2_check 61 = .ok (.ifnull 22, 3) := by decide +kernel
theorem dX2_check_64 : decode cX2_check 64 = .ok (.aload 6, 2) := by decide +kernel
theorem dX2_check_66 : decode cX2_check 66 = .ok (.iload_n 1, 1) := by decide +kernel
theorem dX2_check_67 : decode cX2_check 67 = .ok (.invokevirtual 121, 3) := by decide +kernel
theorem dX2_check_70 : decode cX2_check 70 = .ok (.ifCond .eq 13, 3) := by decide +kernel
theorem dX2_check_73 : decode cX2_check 73 = .ok (.aload_n 0, 1) := by decide +kernel
theorem dX2_check_74 : decode cX2_check 74 = .ok (.aload 6, 2) := by decide +kernel
theorem dX2_check_76 : decode cX2_check 76 = .ok (.iload_n 1, 1) := by decide +kernel
theorem dX2_check_77 : decode cX2_check 77 = .ok (.invokevirtual 124, 3) := by decide +kernel
theorem dX2_check_80 : decode cX2_check 80 = .ok (.iinc 2 1, 3) := by decide +kernel
theorem dX2_check_83 : decode cX2_check 83 = .ok (.iinc 5 1, 3) := by decide +kernel
theorem dX2_check_86 : decode cX2_check 86 = .ok (.goto (-40), 3) := by decide +kernel
theorem dX2_check_89 : decode cX2_check 89 = .ok (.iload_n 2, 1) := by decide +kernel
theorem dX2_check_90 : decode cX2_check 90 = .ok (.ireturn, 1) := by decide +kernel
theorem dX2_firmOwes_0 : decode cX2_firmOwes 0 = .ok (.aload_n 0, 1) := by decide +kernel
theorem dX2_firmOwes_1 : decode cX2_firmOwes 1 = .ok (.getfield 128, 3) := by decide +kernel
theorem dX2_firmOwes_4 : decode cX2_firmOwes 4 = .ok (.ireturn, 1) := by decide +kernel
theorem dX2_owes_0 : decode cX2_owes 0 = .ok (.aload_n 0, 1) := by decide +kernel
theorem dX2_owes_1 : decode cX2_owes 1 = .ok (.iload_n 1, 1) := by decide +kernel
theorem dX2_owes_2 : decode cX2_owes 2 = .ok (.invokevirtual 47, 3) := by decide +kernel
theorem dX2_owes_5 : decode cX2_owes 5 = .ok (.getfield 131, 3) := by decide +kernel
theorem dX2_owes_8 : decode cX2_owes 8 = .ok (.ireturn, 1) := by decide +kernel
theorem dX2_net_0 : decode cX2_net 0 = .ok (.aload_n 0, 1) := by decide +kernel
theorem dX2_net_1 : decode cX2_net 1 = .ok (.iload_n 1, 1) := by decide +kernel
theorem dX2_net_2 : decode cX2_net 2 = .ok (.invokevirtual 47, 3) := by decide +kernel
theorem dX2_net_5 : decode cX2_net 5 = .ok (.astore_n 2, 1) := by decide +kernel
theorem dX2_net_6 : decode cX2_net 6 = .ok (.aload_n 2, 1) := by decide +kernel
theorem dX2_net_7 : decode cX2_net 7 = .ok (.getfield 134, 3) := by decide +kernel
theorem dX2_net_10 : decode cX2_net 10 = .ok (.aload_n 2, 1) := by decide +kernel
theorem dX2_net_11 : decode cX2_net 11 = .ok (.getfield 131, 3) := by decide +kernel
theorem dX2_net_14 : decode cX2_net 14 = .ok (.isub, 1) := by decide +kernel
theorem dX2_net_15 : decode cX2_net 15 = .ok (.ireturn, 1) := by decide +kernel
theorem dX2_payCurrentWeek_0 : decode cX2_payCurrentWeek 0 = .ok (.iconst 0, 1) := by decide +kernel
theorem dX2_payCurrentWeek_1 : decode cX2_payCurrentWeek 1 = .ok (.istore_n 1, 1) := by decide +kernel
theorem dX2_payCurrentWeek_2 : decode cX2_payCurrentWeek 2 = .ok (.aload_n 0, 1) := by decide +kernel
theorem dX2_payCurrentWeek_3 : decode cX2_payCurrentWeek 3 = .ok (.getfield 11, 3) := by decide +kernel
theorem dX2_payCurrentWeek_6 : decode cX2_payCurrentWeek 6 = .ok (.astore_n 2, 1) := by decide +kernel
theorem dX2_payCurrentWeek_7 : decode cX2_payCurrentWeek 7 = .ok (.aload_n 2, 1) := by decide +kernel
theorem dX2_payCurrentWeek_8 : decode cX2_payCurrentWeek 8 = .ok (.arraylength, 1) := by decide +kernel
theorem dX2_payCurrentWeek_9 : decode cX2_payCurrentWeek 9 = .ok (.istore_n 3, 1) := by decide +kernel
theorem dX2_payCurrentWeek_10 : decode cX2_payCurrentWeek 10 = .ok (.iconst 0, 1) := by decide +kernel
theorem dX2_payCurrentWeek_11 : decode cX2_payCurrentWeek 11 = .ok (.istore 4, 2) := by decide +kernel
theorem dX2_payCurrentWeek_13 : decode cX2_payCurrentWeek 13 = .ok (.iload 4, 2) := by decide +kernel
theorem dX2_payCurrentWeek_15 : decode cX2_payCurrentWeek 15 = .ok (.iload_n 3, 1) := by decide +kernel
theorem dX2_payCurrentWeek_16 : decode cX2_payCurrentWeek 16 = .ok (.if_icmp .ge 36, 3) := by decide +kernel
theorem dX2_payCurrentWeek_19 : decode cX2_payCurrentWeek 19 = .ok (.aload_n 2, 1) := by decide +kernel
theorem dX2_payCurrentWeek_20 : decode cX2_payCurrentWeek 20 = .ok (.iload 4, 2) := by decide +kernel
theorem dX2_payCurrentWeek_22 : decode cX2_payCurrentWeek 22 = .ok (.aaload, 1) := by decide +kernel
theorem dX2_payCurrentWeek_23 : decode cX2_payCurrentWeek 23 = .ok (.astore 5, 2) := by decide +kernel
theorem dX2_payCurrentWeek_25 : decode cX2_payCurrentWeek 25 = .ok (.aload 5, 2) := by decide +kernel
theorem dX2_payCurrentWeek_27 : decode cX2_payCurrentWeek 27 = .ok (.ifnull 19, 3) := by decide +kernel
theorem dX2_payCurrentWeek_30 : decode cX2_payCurrentWeek 30 = .ok (.iload_n 1, 1) := by decide +kernel
theorem dX2_payCurrentWeek_31 : decode cX2_payCurrentWeek 31 = .ok (.aload 5, 2) := by decide +kernel
theorem dX2_payCurrentWeek_33 : decode cX2_payCurrentWeek 33 = .ok (.aload_n 0, 1) := by decide +kernel
theorem dX2_payCurrentWeek_34 : decode cX2_payCurrentWeek 34 = .ok (.getfield 55, 3) := by decide +kernel
theorem dX2_payCurrentWeek_37 : decode cX2_payCurrentWeek 37 = .ok (.aload_n 0, 1) := by decide +kernel
theorem dX2_payCurrentWeek_38 : decode cX2_payCurrentWeek 38 = .ok (.getfield 25, 3) := by decide +kernel
theorem dX2_payCurrentWeek_41 : decode cX2_payCurrentWeek 41 = .ok (.invokevirtual 137, 3) := by decide +kernel
theorem dX2_payCurrentWeek_44 : decode cX2_payCurrentWeek 44 = .ok (.iadd, 1) := by decide +kernel
theorem dX2_payCurrentWeek_45 : decode cX2_payCurrentWeek 45 = .ok (.istore_n 1, 1) := by decide +kernel
theorem dX2_payCurrentWeek_46 : decode cX2_payCurrentWeek 46 = .ok (.iinc 4 1, 3) := by decide +kernel
theorem dX2_payCurrentWeek_49 : decode cX2_payCurrentWeek 49 = .ok (.goto (-36), 3) := by decide +kernel
theorem dX2_payCurrentWeek_52 : decode cX2_payCurrentWeek 52 = .ok (.iload_n 1, 1) := by decide +kernel
theorem dX2_payCurrentWeek_53 : decode cX2_payCurrentWeek 53 = .ok (.ireturn, 1) := by decide +kernel
theorem dX2_chargeBack_0 : decode cX2_chargeBack 0 = .ok (.aload_n 1, 1) := by decide +kernel
theorem dX2_chargeBack_1 : decode cX2_chargeBack 1 = .ok (.getfield 109, 3) := by decide +kernel
theorem dX2_chargeBack_4 : decode cX2_chargeBack 4 = .ok (.iload_n 2, 1) := by decide +kernel
theorem dX2_chargeBack_5 : decode cX2_chargeBack 5 = .ok (.iaload, 1) := by decide +kernel
theorem dX2_chargeBack_6 : decode cX2_chargeBack 6 = .ok (.istore_n 3, 1) := by decide +kernel
theorem dX2_chargeBack_7 : decode cX2_chargeBack 7 = .ok (.aload_n 1, 1) := by decide +kernel
theorem dX2_chargeBack_8 : decode cX2_chargeBack 8 = .ok (.getfield 118, 3) := by decide +kernel
theorem dX2_chargeBack_11 : decode cX2_chargeBack 11 = .ok (.iload_n 2, 1) := by decide +kernel
theorem dX2_chargeBack_12 : decode cX2_chargeBack 12 = .ok (.baload, 1) := by decide +kernel
theorem dX2_chargeBack_13 : decode cX2_chargeBack 13 = .ok (.ifCond .eq 24, 3) := by decide +kernel
theorem dX2_chargeBack_16 : decode cX2_chargeBack 16 = .ok (.aload_n 0, 1) := by decide +kernel
theorem dX2_chargeBack_17 : decode cX2_chargeBack 17 = .ok (.dup, 1) := by decide +kernel
theorem dX2_chargeBack_18 : decode cX2_chargeBack 18 = .ok (.getfield 128, 3) := by decide +kernel
theorem dX2_chargeBack_21 : decode cX2_chargeBack 21 = .ok (.iload_n 3, 1) := by decide +kernel
theorem dX2_chargeBack_22 : decode cX2_chargeBack 22 = .ok (.iload_n 3, 1) := by decide +kernel
theorem dX2_chargeBack_23 : decode cX2_chargeBack 23 = .ok (.bipush 10, 2) := by decide +kernel
theorem dX2_chargeBack_25 : decode cX2_chargeBack 25 = .ok (.imul, 1) := by decide +kernel
theorem dX2_chargeBack_26 : decode cX2_chargeBack 26 = .ok (.bipush 100, 2) := by decide +kernel
theorem dX2_chargeBack_28 : decode cX2_chargeBack 28 = .ok (.idiv, 1) := by decide +kernel
theorem dX2_chargeBack_29 : decode cX2_chargeBack 29 = .ok (.iadd, 1) := by decide +kernel
theorem dX2_chargeBack_30 : decode cX2_chargeBack 30 = .ok (.iadd, 1) := by decide +kernel
theorem dX2_chargeBack_31 : decode cX2_chargeBack 31 = .ok (.putfield 128, 3) := by decide +kernel
theorem dX2_chargeBack_34 : decode cX2_chargeBack 34 = .ok (.goto 32, 3) := by decide +kernel
theorem dX2_chargeBack_37 : decode cX2_chargeBack 37 = .ok (.iload_n 3, 1) := by decide +kernel
theorem dX2_chargeBack_38 : decode cX2_chargeBack 38 = .ok (.iconst 2, 1) := by decide +kernel
theorem dX2_chargeBack_39 : decode cX2_chargeBack 39 = .ok (.idiv, 1) := by decide +kernel
theorem dX2_chargeBack_40 : decode cX2_chargeBack 40 = .ok (.istore 4, 2) := by decide +kernel
theorem dX2_chargeBack_42 : decode cX2_chargeBack 42 = .ok (.aload_n 1, 1) := by decide +kernel
theorem dX2_chargeBack_43 : decode cX2_chargeBack 43 = .ok (.dup, 1) := by decide +kernel
theorem dX2_chargeBack_44 : decode cX2_chargeBack 44 = .ok (.getfield 131, 3) := by decide +kernel
theorem dX2_chargeBack_47 : decode cX2_chargeBack 47 = .ok (.iload 4, 2) := by decide +kernel
theorem dX2_chargeBack_49 : decode cX2_chargeBack 49 = .ok (.iadd, 1) := by decide +kernel
theorem dX2_chargeBack_50 : decode cX2_chargeBack 50 = .ok (.putfield 131, 3) := by decide +kernel
theorem dX2_chargeBack_53 : decode cX2_chargeBack 53 = .ok (.aload_n 0, 1) := by decide +kernel
theorem dX2_chargeBack_54 : decode cX2_chargeBack 54 = .ok (.dup, 1) := by decide +kernel
theorem dX2_chargeBack_55 : decode cX2_chargeBack 55 = .ok (.getfield 128, 3) := by decide +kernel
theorem dX2_chargeBack_58 : decode cX2_chargeBack 58 = .ok (.iload_n 3, 1) := by decide +kernel
theorem dX2_chargeBack_59 : decode cX2_chargeBack 59 = .ok (.iload 4, 2) := by decide +kernel
theorem dX2_chargeBack_61 : decode cX2_chargeBack 61 = .ok (.isub, 1) := by decide +kernel
theorem dX2_chargeBack_62 : decode cX2_chargeBack 62 = .ok (.iadd, 1) := by decide +kernel
theorem dX2_chargeBack_63 : decode cX2_chargeBack 63 = .ok (.putfield 128, 3) := by decide +kernel
theorem dX2_chargeBack_66 : decode cX2_chargeBack 66 = .ok (.return_, 1) := by decide +kernel
theorem dX2_workerAt_0 : decode cX2_workerAt 0 = .ok (.iload_n 1, 1) := by decide +kernel
theorem dX2_workerAt_1 : decode cX2_workerAt 1 = .ok (.iconst 0, 1) := by decide +kernel
theorem dX2_workerAt_2 : decode cX2_workerAt 2 = .ok (.aload_n 0, 1) := by decide +kernel
theorem dX2_workerAt_3 : decode cX2_workerAt 3 = .ok (.getfield 38, 3) := by decide +kernel
theorem dX2_workerAt_6 : decode cX2_workerAt 6 = .ok (.iconst 1, 1) := by decide +kernel
theorem dX2_workerAt_7 : decode cX2_workerAt 7 = .ok (.isub, 1) := by decide +kernel
theorem dX2_workerAt_8 : decode cX2_workerAt 8 = .ok (.invokestatic 30, 3) := by decide +kernel
theorem dX2_workerAt_11 : decode cX2_workerAt 11 = .ok (.ifCond .eq 12, 3) := by decide +kernel
theorem dX2_workerAt_14 : decode cX2_workerAt 14 = .ok (.aload_n 0, 1) := by decide +kernel
theorem dX2_workerAt_15 : decode cX2_workerAt 15 = .ok (.getfield 11, 3) := by decide +kernel
theorem dX2_workerAt_18 : decode cX2_workerAt 18 = .ok (.iload_n 1, 1) := by decide +kernel
theorem dX2_workerAt_19 : decode cX2_workerAt 19 = .ok (.aaload, 1) := by decide +kernel
theorem dX2_workerAt_20 : decode cX2_workerAt 20 = .ok (.goto 4, 3) := by decide +kernel
theorem dX2_workerAt_23 : decode cX2_workerAt 23 = .ok (.aconst_null, 1) := by decide +kernel
theorem dX2_workerAt_24 : decode cX2_workerAt 24 = .ok (.astore_n 2, 1) := by decide +kernel
theorem dX2_workerAt_25 : decode cX2_workerAt 25 = .ok (.aload_n 2, 1) := by decide +kernel
theorem dX2_workerAt_26 : decode cX2_workerAt 26 = .ok (.ifnonnull 11, 3) := by decide +kernel
theorem dX2_workerAt_29 : decode cX2_workerAt 29 = .ok (.new 141, 3) := by decide +kernel
theorem dX2_workerAt_32 : decode cX2_workerAt 32 = .ok (.dup, 1) := by decide +kernel
theorem dX2_workerAt_33 : decode cX2_workerAt 33 = .ok (.invokespecial 143, 3) := by decide +kernel
theorem dX2_workerAt_36 : decode cX2_workerAt 36 = .ok (.athrow, 1) := by decide +kernel
theorem dX2_workerAt_37 : decode cX2_workerAt 37 = .ok (.aload_n 2, 1) := by decide +kernel
theorem dX2_workerAt_38 : decode cX2_workerAt 38 = .ok (.areturn, 1) := by decide +kernel
theorem dX2_courseAt_0 : decode cX2_courseAt 0 = .ok (.iload_n 1, 1) := by decide +kernel
theorem dX2_courseAt_1 : decode cX2_courseAt 1 = .ok (.iconst 0, 1) := by decide +kernel
theorem dX2_courseAt_2 : decode cX2_courseAt 2 = .ok (.aload_n 0, 1) := by decide +kernel
theorem dX2_courseAt_3 : decode cX2_courseAt 3 = .ok (.getfield 65, 3) := by decide +kernel
theorem dX2_courseAt_6 : decode cX2_courseAt 6 = .ok (.iconst 1, 1) := by decide +kernel
theorem dX2_courseAt_7 : decode cX2_courseAt 7 = .ok (.isub, 1) := by decide +kernel
theorem dX2_courseAt_8 : decode cX2_courseAt 8 = .ok (.invokestatic 30, 3) := by decide +kernel
theorem dX2_courseAt_11 : decode cX2_courseAt 11 = .ok (.ifCond .eq 12, 3) := by decide +kernel
theorem dX2_courseAt_14 : decode cX2_courseAt 14 = .ok (.aload_n 0, 1) := by decide +kernel
theorem dX2_courseAt_15 : decode cX2_courseAt 15 = .ok (.getfield 17, 3) := by decide +kernel
theorem dX2_courseAt_18 : decode cX2_courseAt 18 = .ok (.iload_n 1, 1) := by decide +kernel
theorem dX2_courseAt_19 : decode cX2_courseAt 19 = .ok (.aaload, 1) := by decide +kernel
theorem dX2_courseAt_20 : decode cX2_courseAt 20 = .ok (.goto 4, 3) := by decide +kernel
theorem dX2_courseAt_23 : decode cX2_courseAt 23 = .ok (.aconst_null, 1) := by decide +kernel
theorem dX2_courseAt_24 : decode cX2_courseAt 24 = .ok (.astore_n 2, 1) := by decide +kernel
theorem dX2_courseAt_25 : decode cX2_courseAt 25 = .ok (.aload_n 2, 1) := by decide +kernel
theorem dX2_courseAt_26 : decode cX2_courseAt 26 = .ok (.ifnonnull 11, 3) := by decide +kernel
theorem dX2_courseAt_29 : decode cX2_courseAt 29 = .ok (.new 141, 3) := by decide +kernel
theorem dX2_courseAt_32 : decode cX2_courseAt 32 = .ok (.dup, 1) := by decide +kernel
theorem dX2_courseAt_33 : decode cX2_courseAt 33 = .ok (.invokespecial 143, 3) := by decide +kernel
theorem dX2_courseAt_36 : decode cX2_courseAt 36 = .ok (.athrow, 1) := by decide +kernel
theorem dX2_courseAt_37 : decode cX2_courseAt 37 = .ok (.aload_n 2, 1) := by decide +kernel
theorem dX2_courseAt_38 : decode cX2_courseAt 38 = .ok (.areturn, 1) := by decide +kernel
theorem dX2_hasPassed_0 : decode cX2_hasPassed 0 = .ok (.iload_n 1, 1) := by decide +kernel
theorem dX2_hasPassed_1 : decode cX2_hasPassed 1 = .ok (.iconst 0, 1) := by decide +kernel
theorem dX2_hasPassed_2 : decode cX2_hasPassed 2 = .ok (.aload_n 0, 1) := by decide +kernel
theorem dX2_hasPassed_3 : decode cX2_hasPassed 3 = .ok (.getfield 55, 3) := by decide +kernel
theorem dX2_hasPassed_6 : decode cX2_hasPassed 6 = .ok (.iconst 1, 1) := by decide +kernel
theorem dX2_hasPassed_7 : decode cX2_hasPassed 7 = .ok (.isub, 1) := by decide +kernel
theorem dX2_hasPassed_8 : decode cX2_hasPassed 8 = .ok (.invokestatic 30, 3) := by decide +kernel
theorem dX2_hasPassed_11 : decode cX2_hasPassed 11 = .ok (.ireturn, 1) := by decide +kernel
theorem dX2_isSpan_0 : decode cX2_isSpan 0 = .ok (.iload_n 0, 1) := by decide +kernel
theorem dX2_isSpan_1 : decode cX2_isSpan 1 = .ok (.iconst 0, 1) := by decide +kernel
theorem dX2_isSpan_2 : decode cX2_isSpan 2 = .ok (.sipush 200, 3) := by decide +kernel
theorem dX2_isSpan_5 : decode cX2_isSpan 5 = .ok (.invokestatic 30, 3) := by decide +kernel
theorem dX2_isSpan_8 : decode cX2_isSpan 8 = .ok (.ifCond .eq 18, 3) := by decide +kernel
theorem dX2_isSpan_11 : decode cX2_isSpan 11 = .ok (.iload_n 1, 1) := by decide +kernel
theorem dX2_isSpan_12 : decode cX2_isSpan 12 = .ok (.iload_n 0, 1) := by decide +kernel
theorem dX2_isSpan_13 : decode cX2_isSpan 13 = .ok (.sipush 200, 3) := by decide +kernel
theorem dX2_isSpan_16 : decode cX2_isSpan 16 = .ok (.invokestatic 30, 3) := by decide +kernel
theorem dX2_isSpan_19 : decode cX2_isSpan 19 = .ok (.ifCond .eq 7, 3) := by decide +kernel
theorem dX2_isSpan_22 : decode cX2_isSpan 22 = .ok (.iconst 1, 1) := by decide +kernel
theorem dX2_isSpan_23 : decode cX2_isSpan 23 = .ok (.goto 4, 3) := by decide +kernel
theorem dX2_isSpan_26 : decode cX2_isSpan 26 = .ok (.iconst 0, 1) := by decide +kernel
theorem dX2_isSpan_27 : decode cX2_isSpan 27 = .ok (.ireturn, 1) := by decide +kernel
theorem dX2_isWithin_0 : decode cX2_isWithin 0 = .ok (.iload_n 0, 1) := by decide +kernel
theorem dX2_isWithin_1 : decode cX2_isWithin 1 = .ok (.iload_n 1, 1) := by decide +kernel
theorem dX2_isWithin_2 : decode cX2_isWithin 2 = .ok (.if_icmp .lt 12, 3) := by decide +kernel
theorem dX2_isWithin_5 : decode cX2_isWithin 5 = .ok (.iload_n 0, 1) := by decide +kernel
theorem dX2_isWithin_6 : decode cX2_isWithin 6 = .ok (.iload_n 2, 1) := by decide +kernel
theorem dX2_isWithin_7 : decode cX2_isWithin 7 = .ok (.if_icmp .gt 7, 3) := by decide +kernel
theorem dX2_isWithin_10 : decode cX2_isWithin 10 = .ok (.iconst 1, 1) := by decide +kernel
theorem dX2_isWithin_11 : decode cX2_isWithin 11 = .ok (.goto 4, 3) := by decide +kernel
theorem dX2_isWithin_14 : decode cX2_isWithin 14 = .ok (.iconst 0, 1) := by decide +kernel
theorem dX2_isWithin_15 : decode cX2_isWithin 15 = .ok (.ireturn, 1) := by decide +kernel
theorem dX2_requireArgument_0 : decode cX2_requireArgument 0 = .ok (.iload_n 0, 1) := by decide +kernel
theorem dX2_requireArgument_1 : decode cX2_requireArgument 1 = .ok (.ifCond .ne 11, 3) := by decide +kernel
theorem dX2_requireArgument_4 : decode cX2_requireArgument 4 = .ok (.new 144, 3) := by decide +kernel
theorem dX2_requireArgument_7 : decode cX2_requireArgument 7 = .ok (.dup, 1) := by decide +kernel
theorem dX2_requireArgument_8 : decode cX2_requireArgument 8 = .ok (.invokespecial 146, 3) := by decide +kernel
theorem dX2_requireArgument_11 : decode cX2_requireArgument 11 = .ok (.athrow, 1) := by decide +kernel
theorem dX2_requireArgument_12 : decode cX2_requireArgument 12 = .ok (.return_, 1) := by decide +kernel
theorem dX2_requireState_0 : decode cX2_requireState 0 = .ok (.iload_n 0, 1) := by decide +kernel
theorem dX2_requireState_1 : decode cX2_requireState 1 = .ok (.ifCond .ne 11, 3) := by decide +kernel
theorem dX2_requireState_4 : decode cX2_requireState 4 = .ok (.new 147, 3) := by decide +kernel
theorem dX2_requireState_7 : decode cX2_requireState 7 = .ok (.dup, 1) := by decide +kernel
theorem dX2_requireState_8 : decode cX2_requireState 8 = .ok (.invokespecial 149, 3) := by decide +kernel
theorem dX2_requireState_11 : decode cX2_requireState 11 = .ok (.athrow, 1) := by decide +kernel
theorem dX2_requireState_12 : decode cX2_requireState 12 = .ok (.return_, 1) := by decide +kernel
theorem dJ9_max_7cf53_0 : decode cJ9_max_7cf53 0 = .ok (.iload_n 0, 1) := by decide +kernel
theorem dJ9_max_7cf53_1 : decode cJ9_max_7cf53 1 = .ok (.iload_n 1, 1) := by decide +kernel
theorem dJ9_max_7cf53_2 : decode cJ9_max_7cf53 2 = .ok (.if_icmp .lt 7, 3) := by decide +kernel
theorem dJ9_max_7cf53_5 : decode cJ9_max_7cf53 5 = .ok (.iload_n 0, 1) := by decide +kernel
theorem dJ9_max_7cf53_6 : decode cJ9_max_7cf53 6 = .ok (.goto 4, 3) := by decide +kernel
theorem dJ9_max_7cf53_9 : decode cJ9_max_7cf53 9 = .ok (.iload_n 1, 1) := by decide +kernel
theorem dJ9_max_7cf53_10 : decode cJ9_max_7cf53 10 = .ok (.ireturn, 1) := by decide +kernel
