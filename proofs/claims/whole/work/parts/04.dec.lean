theorem dX0_init_0 : decode cX0_init 0 = .ok (.aload_n 0, 1) := by decide +kernel
theorem dX0_init_1 : decode cX0_init 1 = .ok (.invokespecial 1, 3) := by decide +kernel
theorem dX0_init_4 : decode cX0_init 4 = .ok (.aload_n 0, 1) := by decide +kernel
theorem dX0_init_5 : decode cX0_init 5 = .ok (.iload_n 2, 1) := by decide +kernel
theorem dX0_init_6 : decode cX0_init 6 = .ok (.putfield 7, 3) := by decide +kernel
theorem dX0_init_9 : decode cX0_init 9 = .ok (.aload_n 0, 1) := by decide +kernel
theorem dX0_init_10 : decode cX0_init 10 = .ok (.iload_n 3, 1) := by decide +kernel
theorem dX0_init_11 : decode cX0_init 11 = .ok (.putfield 13, 3) := by decide +kernel
theorem dX0_init_14 : decode cX0_init 14 = .ok (.aload_n 0, 1) := by decide +kernel
theorem dX0_init_15 : decode cX0_init 15 = .ok (.iload 4, 2) := by decide +kernel
theorem dX0_init_17 : decode cX0_init 17 = .ok (.putfield 16, 3) := by decide +kernel
theorem dX0_init_20 : decode cX0_init 20 = .ok (.aload_n 0, 1) := by decide +kernel
theorem dX0_init_21 : decode cX0_init 21 = .ok (.iload_n 1, 1) := by decide +kernel
theorem dX0_init_22 : decode cX0_init 22 = .ok (.putfield 19, 3) := by decide +kernel
theorem dX0_init_25 : decode cX0_init 25 = .ok (.return_, 1) := by decide +kernel
theorem dX1_init_0 : decode cX1_init 0 = .ok (.aload_n 0, 1) := by decide +kernel
theorem dX1_init_1 : decode cX1_init 1 = .ok (.invokespecial 3, 3) := by decide +kernel
theorem dX1_init_4 : decode cX1_init 4 = .ok (.aload_n 0, 1) := by decide +kernel
theorem dX1_init_5 : decode cX1_init 5 = .ok (.iload_n 1, 1) := by decide +kernel
theorem dX1_init_6 : decode cX1_init 6 = .ok (.putfield 9, 3) := by decide +kernel
theorem dX1_init_9 : decode cX1_init 9 = .ok (.aload_n 0, 1) := by decide +kernel
theorem dX1_init_10 : decode cX1_init 10 = .ok (.iload_n 2, 1) := by decide +kernel
theorem dX1_init_11 : decode cX1_init 11 = .ok (.putfield 15, 3) := by decide +kernel
theorem dX1_init_14 : decode cX1_init 14 = .ok (.aload_n 0, 1) := by decide +kernel
theorem dX1_init_15 : decode cX1_init 15 = .ok (.sipush 201, 3) := by decide +kernel
theorem dX1_init_18 : decode cX1_init 18 = .ok (.newarray .int, 2) := by decide +kernel
theorem dX1_init_20 : decode cX1_init 20 = .ok (.putfield 19, 3) := by decide +kernel
theorem dX1_init_23 : decode cX1_init 23 = .ok (.aload_n 0, 1) := by decide +kernel
theorem dX1_init_24 : decode cX1_init 24 = .ok (.sipush 201, 3) := by decide +kernel
theorem dX1_init_27 : decode cX1_init 27 = .ok (.newarray .int, 2) := by decide +kernel
theorem dX1_init_29 : decode cX1_init 29 = .ok (.putfield 23, 3) := by decide +kernel
theorem dX1_init_32 : decode cX1_init 32 = .ok (.aload_n 0, 1) := by decide +kernel
theorem dX1_init_33 : decode cX1_init 33 = .ok (.sipush 201, 3) := by decide +kernel
theorem dX1_init_36 : decode cX1_init 36 = .ok (.newarray .int, 2) := by decide +kernel
theorem dX1_init_38 : decode cX1_init 38 = .ok (.putfield 26, 3) := by decide +kernel
theorem dX1_init_41 : decode cX1_init 41 = .ok (.aload_n 0, 1) := by decide +kernel
theorem dX1_init_42 : decode cX1_init 42 = .ok (.sipush 201, 3) := by decide +kernel
theorem dX1_init_45 : decode cX1_init 45 = .ok (.newarray .int, 2) := by decide +kernel
theorem dX1_init_47 : decode cX1_init 47 = .ok (.putfield 29, 3) := by decide +kernel
theorem dX1_init_50 : decode cX1_init 50 = .ok (.aload_n 0, 1) := by decide +kernel
theorem dX1_init_51 : decode cX1_init 51 = .ok (.sipush 201, 3) := by decide +kernel
theorem dX1_init_54 : decode cX1_init 54 = .ok (.newarray .int, 2) := by decide +kernel
theorem dX1_init_56 : decode cX1_init 56 = .ok (.putfield 32, 3) := by decide +kernel
theorem dX1_init_59 : decode cX1_init 59 = .ok (.aload_n 0, 1) := by decide +kernel
theorem dX1_init_60 : decode cX1_init 60 = .ok (.sipush 201, 3) := by decide +kernel
theorem dX1_init_63 : decode cX1_init 63 = .ok (.newarray .boolean, 2) := by decide +kernel
theorem dX1_init_65 : decode cX1_init 65 = .ok (.putfield 35, 3) := by decide +kernel
theorem dX1_init_68 : decode cX1_init 68 = .ok (.return_, 1) := by decide +kernel
theorem dX1_takeNotice_0 : decode cX1_takeNotice 0 = .ok (.iload_n 1, 1) := by decide +kernel
theorem dX1_takeNotice_1 : decode cX1_takeNotice 1 = .ok (.istore 4, 2) := by decide +kernel
theorem dX1_takeNotice_3 : decode cX1_takeNotice 3 = .ok (.iload 4, 2) := by decide +kernel
theorem dX1_takeNotice_5 : decode cX1_takeNotice 5 = .ok (.iload_n 2, 1) := by decide +kernel
theorem dX1_takeNotice_6 : decode cX1_takeNotice 6 = .ok (.if_icmp .gt 17, 3) := by decide +kernel
theorem dX1_takeNotice_9 : decode cX1_takeNotice 9 = .ok (.aload_n 0, 1) := by decide +kernel
theorem dX1_takeNotice_10 : decode cX1_takeNotice 10 = .ok (.getfield 19, 3) := by decide +kernel
theorem dX1_takeNotice_13 : decode cX1_takeNotice 13 = .ok (.iload 4, 2) := by decide +kernel
theorem dX1_takeNotice_15 : decode cX1_takeNotice 15 = .ok (.iload_n 3, 1) := by decide +kernel
theorem dX1_takeNotice_16 : decode cX1_takeNotice 16 = .ok (.iastore, 1) := by decide +kernel
theorem dX1_takeNotice_17 : decode cX1_takeNotice 17 = .ok (.iinc 4 1, 3) := by decide +kernel
theorem dX1_takeNotice_20 : decode cX1_takeNotice 20 = .ok (.goto (-17), 3) := by decide +kernel
theorem dX1_takeNotice_23 : decode cX1_takeNotice 23 = .ok (.aload_n 0, 1) := by decide +kernel
theorem dX1_takeNotice_24 : decode cX1_takeNotice 24 = .ok (.dup, 1) := by decide +kernel
theorem dX1_takeNotice_25 : decode cX1_takeNotice 25 = .ok (.getfield 39, 3) := by decide +kernel
theorem dX1_takeNotice_28 : decode cX1_takeNotice 28 = .ok (.iconst 1, 1) := by decide +kernel
theorem dX1_takeNotice_29 : decode cX1_takeNotice 29 = .ok (.iadd, 1) := by decide +kernel
theorem dX1_takeNotice_30 : decode cX1_takeNotice 30 = .ok (.putfield 39, 3) := by decide +kernel
theorem dX1_takeNotice_33 : decode cX1_takeNotice 33 = .ok (.return_, 1) := by decide +kernel
theorem dX1_hasNoCourseFrom_0 : decode cX1_hasNoCourseFrom 0 = .ok (.iload_n 1, 1) := by decide +kernel
theorem dX1_hasNoCourseFrom_1 : decode cX1_hasNoCourseFrom 1 = .ok (.istore_n 3, 1) := by decide +kernel
theorem dX1_hasNoCourseFrom_2 : decode cX1_hasNoCourseFrom 2 = .ok (.iload_n 3, 1) := by decide +kernel
theorem dX1_hasNoCourseFrom_3 : decode cX1_hasNoCourseFrom 3 = .ok (.iload_n 2, 1) := by decide +kernel
theorem dX1_hasNoCourseFrom_4 : decode cX1_hasNoCourseFrom 4 = .ok (.if_icmp .gt 20, 3) := by decide +kernel
theorem dX1_hasNoCourseFrom_7 : decode cX1_hasNoCourseFrom 7 = .ok (.aload_n 0, 1) := by decide +kernel
theorem dX1_hasNoCourseFrom_8 : decode cX1_hasNoCourseFrom 8 = .ok (.getfield 23, 3) := by decide +kernel
theorem dX1_hasNoCourseFrom_11 : decode cX1_hasNoCourseFrom 11 = .ok (.iload_n 3, 1) := by decide +kernel
theorem dX1_hasNoCourseFrom_12 : decode cX1_hasNoCourseFrom 12 = .ok (.iaload, 1) := by decide +kernel
theorem dX1_hasNoCourseFrom_13 : decode cX1_hasNoCourseFrom 13 = .ok (.ifCond .le 5, 3) := by decide +kernel
theorem dX1_hasNoCourseFrom_16 : decode cX1_hasNoCourseFrom 16 = .ok (.iconst 0, 1) := by decide +kernel
theorem dX1_hasNoCourseFrom_17 : decode cX1_hasNoCourseFrom 17 = .ok (.ireturn, 1) := by decide +kernel
theorem dX1_hasNoCourseFrom_18 : decode cX1_hasNoCourseFrom 18 = .ok (.iinc 3 1, 3) := by decide +kernel
theorem dX1_hasNoCourseFrom_21 : decode cX1_hasNoCourseFrom 21 = .ok (.goto (-19), 3) := by decide +kernel
theorem dX1_hasNoCourseFrom_24 : decode cX1_hasNoCourseFrom 24 = .ok (.iconst 1, 1) := by decide +kernel
theorem dX1_hasNoCourseFrom_25 : decode cX1_hasNoCourseFrom 25 = .ok (.ireturn, 1) := by decide +kernel
theorem dX1_goTo_0 : decode cX1_goTo 0 = .ok (.aload_n 1, 1) := by decide +kernel
theorem dX1_goTo_1 : decode cX1_goTo 1 = .ok (.getfield 42, 3) := by decide +kernel
theorem dX1_goTo_4 : decode cX1_goTo 4 = .ok (.istore_n 2, 1) := by decide +kernel
theorem dX1_goTo_5 : decode cX1_goTo 5 = .ok (.iload_n 2, 1) := by decide +kernel
theorem dX1_goTo_6 : decode cX1_goTo 6 = .ok (.aload_n 1, 1) := by decide +kernel
theorem dX1_goTo_7 : decode cX1_goTo 7 = .ok (.getfield 47, 3) := by decide +kernel
theorem dX1_goTo_10 : decode cX1_goTo 10 = .ok (.if_icmp .gt 19, 3) := by decide +kernel
theorem dX1_goTo_13 : decode cX1_goTo 13 = .ok (.aload_n 0, 1) := by decide +kernel
theorem dX1_goTo_14 : decode cX1_goTo 14 = .ok (.getfield 23, 3) := by decide +kernel
theorem dX1_goTo_17 : decode cX1_goTo 17 = .ok (.iload_n 2, 1) := by decide +kernel
theorem dX1_goTo_18 : decode cX1_goTo 18 = .ok (.aload_n 1, 1) := by decide +kernel
theorem dX1_goTo_19 : decode cX1_goTo 19 = .ok (.getfield 50, 3) := by decide +kernel
theorem dX1_goTo_22 : decode cX1_goTo 22 = .ok (.iastore, 1) := by decide +kernel
theorem dX1_goTo_23 : decode cX1_goTo 23 = .ok (.iinc 2 1, 3) := by decide +kernel
theorem dX1_goTo_26 : decode cX1_goTo 26 = .ok (.goto (-21), 3) := by decide +kernel
theorem dX1_goTo_29 : decode cX1_goTo 29 = .ok (.return_, 1) := by decide +kernel
theorem dX1_hasFilled_0 : decode cX1_hasFilled 0 = .ok (.aload_n 0, 1) := by decide +kernel
theorem dX1_hasFilled_1 : decode cX1_hasFilled 1 = .ok (.getfield 23, 3) := by decide +kernel
theorem dX1_hasFilled_4 : decode cX1_hasFilled 4 = .ok (.iload_n 1, 1) := by decide +kernel
theorem dX1_hasFilled_5 : decode cX1_hasFilled 5 = .ok (.iaload, 1) := by decide +kernel
theorem dX1_hasFilled_6 : decode cX1_hasFilled 6 = .ok (.ifCond .le 24, 3) := by decide +kernel
theorem dX1_hasFilled_9 : decode cX1_hasFilled 9 = .ok (.iconst 2, 1) := by decide +kernel
theorem dX1_hasFilled_10 : decode cX1_hasFilled 10 = .ok (.aload_n 0, 1) := by decide +kernel
theorem dX1_hasFilled_11 : decode cX1_hasFilled 11 = .ok (.getfield 23, 3) := by decide +kernel
theorem dX1_hasFilled_14 : decode cX1_hasFilled 14 = .ok (.iload_n 1, 1) := by decide +kernel
theorem dX1_hasFilled_15 : decode cX1_hasFilled 15 = .ok (.iaload, 1) := by decide +kernel
theorem dX1_hasFilled_16 : decode cX1_hasFilled 16 = .ok (.imul, 1) := by decide +kernel
theorem dX1_hasFilled_17 : decode cX1_hasFilled 17 = .ok (.aload_n 0, 1) := by decide +kernel
theorem dX1_hasFilled_18 : decode cX1_hasFilled 18 = .ok (.getfield 19, 3) := by decide +kernel
theorem dX1_hasFilled_21 : decode cX1_hasFilled 21 = .ok (.iload_n 1, 1) := by decide +kernel
theorem dX1_hasFilled_22 : decode cX1_hasFilled 22 = .ok (.iaload, 1) := by decide +kernel
theorem dX1_hasFilled_23 : decode cX1_hasFilled 23 = .ok (.if_icmp .lt 7, 3) := by decide +kernel
theorem dX1_hasFilled_26 : decode cX1_hasFilled 26 = .ok (.iconst 1, 1) := by decide +kernel
theorem dX1_hasFilled_27 : decode cX1_hasFilled 27 = .ok (.goto 4, 3) := by decide +kernel
theorem dX1_hasFilled_30 : decode cX1_hasFilled 30 = .ok (.iconst 0, 1) := by decide +kernel
theorem dX1_hasFilled_31 : decode cX1_hasFilled 31 = .ok (.ireturn, 1) := by decide +kernel
theorem dX1_payFor_0 : decode cX1_payFor 0 = .ok (.aload_n 0, 1) := by decide +kernel
theorem dX1_payFor_1 : decode cX1_payFor 1 = .ok (.getfield 9, 3) := by decide +kernel
theorem dX1_payFor_4 : decode cX1_payFor 4 = .ok (.bipush 40, 2) := by decide +kernel
theorem dX1_payFor_6 : decode cX1_payFor 6 = .ok (.aload_n 0, 1) := by decide +kernel
theorem dX1_payFor_7 : decode cX1_payFor 7 = .ok (.getfield 19, 3) := by decide +kernel
theorem dX1_payFor_10 : decode cX1_payFor 10 = .ok (.iload_n 1, 1) := by decide +kernel
theorem dX1_payFor_11 : decode cX1_payFor 11 = .ok (.iaload, 1) := by decide +kernel
theorem dX1_payFor_12 : decode cX1_payFor 12 = .ok (.isub, 1) := by decide +kernel
theorem dX1_payFor_13 : decode cX1_payFor 13 = .ok (.imul, 1) := by decide +kernel
theorem dX1_payFor_14 : decode cX1_payFor 14 = .ok (.bipush 40, 2) := by decide +kernel
theorem dX1_payFor_16 : decode cX1_payFor 16 = .ok (.idiv, 1) := by decide +kernel
theorem dX1_payFor_17 : decode cX1_payFor 17 = .ok (.istore_n 3, 1) := by decide +kernel
theorem dX1_payFor_18 : decode cX1_payFor 18 = .ok (.aload_n 0, 1) := by decide +kernel
theorem dX1_payFor_19 : decode cX1_payFor 19 = .ok (.getfield 9, 3) := by decide +kernel
theorem dX1_payFor_22 : decode cX1_payFor 22 = .ok (.iload_n 3, 1) := by decide +kernel
theorem dX1_payFor_23 : decode cX1_payFor 23 = .ok (.isub, 1) := by decide +kernel
theorem dX1_payFor_24 : decode cX1_payFor 24 = .ok (.aload_n 0, 1) := by decide +kernel
theorem dX1_payFor_25 : decode cX1_payFor 25 = .ok (.iload_n 1, 1) := by decide +kernel
theorem dX1_payFor_26 : decode cX1_payFor 26 = .ok (.invokevirtual 53, 3) := by decide +kernel
theorem dX1_payFor_29 : decode cX1_payFor 29 = .ok (.imul, 1) := by decide +kernel
theorem dX1_payFor_30 : decode cX1_payFor 30 = .ok (.bipush 100, 2) := by decide +kernel
theorem dX1_payFor_32 : decode cX1_payFor 32 = .ok (.idiv, 1) := by decide +kernel
theorem dX1_payFor_33 : decode cX1_payFor 33 = .ok (.istore 4, 2) := by decide +kernel
theorem dX1_payFor_35 : decode cX1_payFor 35 = .ok (.aload_n 0, 1) := by decide +kernel
theorem dX1_payFor_36 : decode cX1_payFor 36 = .ok (.getfield 9, 3) := by decide +kernel
theorem dX1_payFor_39 : decode cX1_payFor 39 = .ok (.iload_n 2, 1) := by decide +kernel
theorem dX1_payFor_40 : decode cX1_payFor 40 = .ok (.imul, 1) := by decide +kernel
theorem dX1_payFor_41 : decode cX1_payFor 41 = .ok (.bipush 100, 2) := by decide +kernel
theorem dX1_payFor_43 : decode cX1_payFor 43 = .ok (.idiv, 1) := by decide +kernel
theorem dX1_payFor_44 : decode cX1_payFor 44 = .ok (.istore 5, 2) := by decide +kernel
theorem dX1_payFor_46 : decode cX1_payFor 46 = .ok (.iload 4, 2) := by decide +kernel
theorem dX1_payFor_48 : decode cX1_payFor 48 = .ok (.iload 5, 2) := by decide +kernel
theorem dX1_payFor_50 : decode cX1_payFor 50 = .ok (.iload_n 3, 1) := by decide +kernel
theorem dX1_payFor_51 : decode cX1_payFor 51 = .ok (.isub, 1) := by decide +kernel
theorem dX1_payFor_52 : decode cX1_payFor 52 = .ok (.invokestatic 57, 3) := by decide +kernel
theorem dX1_payFor_55 : decode cX1_payFor 55 = .ok (.istore 4, 2) := by decide +kernel
theorem dX1_payFor_57 : decode cX1_payFor 57 = .ok (.aload_n 0, 1) := by decide +kernel
theorem dX1_payFor_58 : decode cX1_payFor 58 = .ok (.getfield 26, 3) := by decide +kernel
theorem dX1_payFor_61 : decode cX1_payFor 61 = .ok (.iload_n 1, 1) := by decide +kernel
theorem dX1_payFor_62 : decode cX1_payFor 62 = .ok (.iload_n 3, 1) := by decide +kernel
theorem dX1_payFor_63 : decode cX1_payFor 63 = .ok (.iastore, 1) := by decide +kernel
theorem dX1_payFor_64 : decode cX1_payFor 64 = .ok (.aload_n 0, 1) := by decide +kernel
theorem dX1_payFor_65 : decode cX1_payFor 65 = .ok (.getfield 29, 3) := by decide +kernel
theorem dX1_payFor_68 : decode cX1_payFor 68 = .ok (.iload_n 1, 1) := by decide +kernel
theorem dX1_payFor_69 : decode cX1_payFor 69 = .ok (.iload 4, 2) := by decide +kernel
theorem dX1_payFor_71 : decode cX1_payFor 71 = .ok (.iastore, 1) := by decide +kernel
theorem dX1_payFor_72 : decode cX1_payFor 72 = .ok (.aload_n 0, 1) := by decide +kernel
theorem dX1_payFor_73 : decode cX1_payFor 73 = .ok (.dup, 1) := by decide +kernel
theorem dX1_payFor_74 : decode cX1_payFor 74 = .ok (.getfield 63, 3) := by decide +kernel
theorem dX1_payFor_77 : decode cX1_payFor 77 = .ok (.iload_n 3, 1) := by decide +kernel
theorem dX1_payFor_78 : decode cX1_payFor 78 = .ok (.iload 4, 2) := by decide +kernel
theorem dX1_payFor_80 : decode cX1_payFor 80 = .ok (.iadd, 1) := by decide +kernel
theorem dX1_payFor_81 : decode cX1_payFor 81 = .ok (.iadd, 1) := by decide +kernel
theorem dX1_payFor_82 : decode cX1_payFor 82 = .ok (.putfield 63, 3) := by decide +kernel
theorem dX1_payFor_85 : decode cX1_payFor 85 = .ok (.aload_n 0, 1) := by decide +kernel
theorem dX1_payFor_86 : decode cX1_payFor 86 = .ok (.getfield 19, 3) := by decide +kernel
theorem dX1_payFor_89 : decode cX1_payFor 89 = .ok (.iload_n 1, 1) := by decide +kernel
theorem dX1_payFor_90 : decode cX1_payFor 90 = .ok (.iaload, 1) := by decide +kernel
theorem dX1_payFor_91 : decode cX1_payFor 91 = .ok (.ifCond .le 13, 3) := by decide +kernel
theorem dX1_payFor_94 : decode cX1_payFor 94 = .ok (.aload_n 0, 1) := by decide +kernel
theorem dX1_payFor_95 : decode cX1_payFor 95 = .ok (.dup, 1) := by decide +kernel
theorem dX1_payFor_96 : decode cX1_payFor 96 = .ok (.getfield 66, 3) := by decide +kernel
theorem dX1_payFor_99 : decode cX1_payFor 99 = .ok (.iconst 1, 1) := by decide +kernel
theorem dX1_payFor_100 : decode cX1_payFor 100 = .ok (.iadd, 1) := by decide +kernel
theorem dX1_payFor_101 : decode cX1_payFor 101 = .ok (.putfield 66, 3) := by decide +kernel
theorem dX1_payFor_104 : decode cX1_payFor 104 = .ok (.iload 4, 2) := by decide +kernel
theorem dX1_payFor_106 : decode cX1_payFor 106 = .ok (.ireturn, 1) := by decide +kernel
theorem dX1_madeUpPercent_0 : decode cX1_madeUpPercent 0 = .ok (.aload_n 0, 1) := by decide +kernel
theorem dX1_madeUpPercent_1 : decode cX1_madeUpPercent 1 = .ok (.invokevirtual 69, 3) := by decide +kernel
theorem dX1_madeUpPercent_4 : decode cX1_madeUpPercent 4 = .ok (.istore_n 2, 1) := by decide +kernel
theorem dX1_madeUpPercent_5 : decode cX1_madeUpPercent 5 = .ok (.aload_n 0, 1) := by decide +kernel
theorem dX1_madeUpPercent_6 : decode cX1_madeUpPercent 6 = .ok (.getfield 15, 3) := by decide +kernel
theorem dX1_madeUpPercent_9 : decode cX1_madeUpPercent 9 = .ok (.ifCond .eq 6, 3) := by decide +kernel
theorem dX1_madeUpPercent_12 : decode cX1_madeUpPercent 12 = .ok (.iinc 2 7, 3) := by decide +kernel
theorem dX1_madeUpPercent_15 : decode cX1_madeUpPercent 15 = .ok (.aload_n 0, 1) := by decide +kernel
theorem dX1_madeUpPercent_16 : decode cX1_madeUpPercent 16 = .ok (.iload_n 1, 1) := by decide +kernel
theorem dX1_madeUpPercent_17 : decode cX1_madeUpPercent 17 = .ok (.invokevirtual 73, 3) := by decide +kernel
theorem dX1_madeUpPercent_20 : decode cX1_madeUpPercent 20 = .ok (.ifCond .eq 9, 3) := by decide +kernel
theorem dX1_madeUpPercent_23 : decode cX1_madeUpPercent 23 = .ok (.iinc 2 5, 3) := by decide +kernel
theorem dX1_madeUpPercent_26 : decode cX1_madeUpPercent 26 = .ok (.goto 15, 3) := by decide +kernel
theorem dX1_madeUpPercent_29 : decode cX1_madeUpPercent 29 = .ok (.aload_n 0, 1) := by decide +kernel
theorem dX1_madeUpPercent_30 : decode cX1_madeUpPercent 30 = .ok (.getfield 66, 3) := by decide +kernel
theorem dX1_madeUpPercent_33 : decode cX1_madeUpPercent 33 = .ok (.bipush 12, 2) := by decide +kernel
theorem dX1_madeUpPercent_35 : decode cX1_madeUpPercent 35 = .ok (.if_icmp .lt 6, 3) := by decide +kernel
theorem dX1_madeUpPercent_38 : decode cX1_madeUpPercent 38 = .ok (.iinc 2 (-10), 3) := by decide +kernel
theorem dX1_madeUpPercent_41 : decode cX1_madeUpPercent 41 = .ok (.iload_n 2, 1) := by decide +kernel
theorem dX1_madeUpPercent_42 : decode cX1_madeUpPercent 42 = .ok (.ireturn, 1) := by decide +kernel
theorem dX1_stepPercent_0 : decode cX1_stepPercent 0 = .ok (.aload_n 0, 1) := by decide +kernel
theorem dX1_stepPercent_1 : decode cX1_stepPercent 1 = .ok (.getfield 66, 3) := by decide +kernel
theorem dX1_stepPercent_4 : decode cX1_stepPercent 4 = .ok (.bipush 24, 2) := by decide +kernel
theorem dX1_stepPercent_6 : decode cX1_stepPercent 6 = .ok (.if_icmp .lt 6, 3) := by decide +kernel
theorem dX1_stepPercent_9 : decode cX1_stepPercent 9 = .ok (.bipush 80, 2) := by decide +kernel
theorem dX1_stepPercent_11 : decode cX1_stepPercent 11 = .ok (.ireturn, 1) := by decide +kernel
theorem dX1_stepPercent_12 : decode cX1_stepPercent 12 = .ok (.aload_n 0, 1) := by decide +kernel
theorem dX1_stepPercent_13 : decode cX1_stepPercent 13 = .ok (.getfield 66, 3) := by decide +kernel
theorem dX1_stepPercent_16 : decode cX1_stepPercent 16 = .ok (.bipush 12, 2) := by decide +kernel
theorem dX1_stepPercent_18 : decode cX1_stepPercent 18 = .ok (.if_icmp .lt 8, 3) := by decide +kernel
theorem dX1_stepPercent_21 : decode cX1_stepPercent 21 = .ok (.bipush 70, 2) := by decide +kernel
theorem dX1_stepPercent_23 : decode cX1_stepPercent 23 = .ok (.goto 5, 3) := by decide +kernel
theorem dX1_stepPercent_26 : decode cX1_stepPercent 26 = .ok (.bipush 60, 2) := by decide +kernel
theorem dX1_stepPercent_28 : decode cX1_stepPercent 28 = .ok (.ireturn, 1) := by decide +kernel
theorem dX1_hasWorkedTooMuch_0 : decode cX1_hasWorkedTooMuch 0 = .ok (.bipush 40, 2) := by decide +kernel
theorem dX1_hasWorkedTooMuch_2 : decode cX1_hasWorkedTooMuch 2 = .ok (.aload_n 0, 1) := by decide +kernel
theorem dX1_hasWorkedTooMuch_3 : decode cX1_hasWorkedTooMuch 3 = .ok (.getfield 19, 3) := by decide +kernel
theorem dX1_hasWorkedTooMuch_6 : decode cX1_hasWorkedTooMuch 6 = .ok (.iload_n 1, 1) := by decide +kernel
theorem dX1_hasWorkedTooMuch_7 : decode cX1_hasWorkedTooMuch 7 = .ok (.iaload, 1) := by decide +kernel
theorem dX1_hasWorkedTooMuch_8 : decode cX1_hasWorkedTooMuch 8 = .ok (.isub, 1) := by decide +kernel
theorem dX1_hasWorkedTooMuch_9 : decode cX1_hasWorkedTooMuch 9 = .ok (.iconst 2, 1) := by decide +kernel
theorem dX1_hasWorkedTooMuch_10 : decode cX1_hasWorkedTooMuch 10 = .ok (.iadd, 1) := by decide +kernel
theorem dX1_hasWorkedTooMuch_11 : decode cX1_hasWorkedTooMuch 11 = .ok (.istore_n 2, 1) := by decide +kernel
theorem dX1_hasWorkedTooMuch_12 : decode cX1_hasWorkedTooMuch 12 = .ok (.aload_n 0, 1) := by decide +kernel
theorem dX1_hasWorkedTooMuch_13 : decode cX1_hasWorkedTooMuch 13 = .ok (.getfield 32, 3) := by decide +kernel
theorem dX1_hasWorkedTooMuch_16 : decode cX1_hasWorkedTooMuch 16 = .ok (.iload_n 1, 1) := by decide +kernel
theorem dX1_hasWorkedTooMuch_17 : decode cX1_hasWorkedTooMuch 17 = .ok (.iaload, 1) := by decide +kernel
theorem dX1_hasWorkedTooMuch_18 : decode cX1_hasWorkedTooMuch 18 = .ok (.iload_n 2, 1) := by decide +kernel
theorem dX1_hasWorkedTooMuch_19 : decode cX1_hasWorkedTooMuch 19 = .ok (.if_icmp .le 16, 3) := by decide +kernel
theorem dX1_hasWorkedTooMuch_22 : decode cX1_hasWorkedTooMuch 22 = .ok (.aload_n 0, 1) := by decide +kernel
theorem dX1_hasWorkedTooMuch_23 : decode cX1_hasWorkedTooMuch 23 = .ok (.getfield 29, 3) := by decide +kernel
theorem dX1_hasWorkedTooMuch_26 : decode cX1_hasWorkedTooMuch 26 = .ok (.iload_n 1, 1) := by decide +kernel
theorem dX1_hasWorkedTooMuch_27 : decode cX1_hasWorkedTooMuch 27 = .ok (.iaload, 1) := by decide +kernel
theorem dX1_hasWorkedTooMuch_28 : decode cX1_hasWorkedTooMuch 28 = .ok (.ifCond .le 7, 3) := by decide +kernel
theorem dX1_hasWorkedTooMuch_31 : decode cX1_hasWorkedTooMuch 31 = .ok (.iconst 1, 1) := by decide +kernel
theorem dX1_hasWorkedTooMuch_32 : decode cX1_hasWorkedTooMuch 32 = .ok (.goto 4, 3) := by decide +kernel
theorem dX1_hasWorkedTooMuch_35 : decode cX1_hasWorkedTooMuch 35 = .ok (.iconst 0, 1) := by decide +kernel
theorem dX1_hasWorkedTooMuch_36 : decode cX1_hasWorkedTooMuch 36 = .ok (.ireturn, 1) := by decide +kernel
theorem dX2_init_0 : decode cX2_init 0 = .ok (.aload_n 0, 1) := by decide +kernel
theorem dX2_init_1 : decode cX2_init 1 = .ok (.invokespecial 3, 3) := by decide +kernel
theorem dX2_init_4 : decode cX2_init 4 = .ok (.aload_n 0, 1) := by decide +kernel
theorem dX2_init_5 : decode cX2_init 5 = .ok (.bipush 8, 2) := by decide +kernel
theorem dX2_init_7 : decode cX2_init 7 = .ok (.anewarray 9, 3) := by decide +kernel
theorem dX2_init_10 : decode cX2_init 10 = .ok (.putfield 11, 3) := by decide +kernel
theorem dX2_init_13 : decode cX2_init 13 = .ok (.aload_n 0, 1) := by decide +kernel
theorem dX2_init_14 : decode cX2_init 14 = .ok (.bipush 10, 2) := by decide +kernel
theorem dX2_init_16 : decode cX2_init 16 = .ok (.anewarray 15, 3) := by decide +kernel
theorem dX2_init_19 : decode cX2_init 19 = .ok (.putfield 17, 3) := by decide +kernel
theorem dX2_init_22 : decode cX2_init 22 = .ok (.aload_n 0, 1) := by decide +kernel
theorem dX2_init_23 : decode cX2_init 23 = .ok (.sipush 201, 3) := by decide +kernel
theorem dX2_init_26 : decode cX2_init 26 = .ok (.newarray .boolean, 2) := by decide +kernel
theorem dX2_init_28 : decode cX2_init 28 = .ok (.putfield 21, 3) := by decide +kernel
theorem dX2_init_31 : decode cX2_init 31 = .ok (.aload_n 0, 1) := by decide +kernel
theorem dX2_init_32 : decode cX2_init 32 = .ok (.bipush 50, 2) := by decide +kernel
theorem dX2_init_34 : decode cX2_init 34 = .ok (.putfield 25, 3) := by decide +kernel
theorem dX2_init_37 : decode cX2_init 37 = .ok (.return_, 1) := by decide +kernel
theorem dX2_add_0 : decode cX2_add 0 = .ok (.iload_n 1, 1) := by decide +kernel
theorem dX2_add_1 : decode cX2_add 1 = .ok (.iconst 1, 1) := by decide +kernel
theorem dX2_add_2 : decode cX2_add 2 = .ok (.ldc 29, 2) := by decide +kernel
theorem dX2_add_4 : decode cX2_add 4 = .ok (.invokestatic 30, 3) := by decide +kernel
theorem dX2_add_7 : decode cX2_add 7 = .ok (.invokestatic 34, 3) := by decide +kernel
theorem dX2_add_10 : decode cX2_add 10 = .ok (.aload_n 0, 1) := by decide +kernel
theorem dX2_add_11 : decode cX2_add 11 = .ok (.getfield 38, 3) := by decide +kernel
theorem dX2_add_14 : decode cX2_add 14 = .ok (.bipush 8, 2) := by decide +kernel
theorem dX2_add_16 : decode cX2_add 16 = .ok (.if_icmp .ge 7, 3) := by decide +kernel
theorem dX2_add_19 : decode cX2_add 19 = .ok (.iconst 1, 1) := by decide +kernel
theorem dX2_add_20 : decode cX2_add 20 = .ok (.goto 4, 3) := by decide +kernel
theorem dX2_add_23 : decode cX2_add 23 = .ok (.iconst 0, 1) := by decide +kernel
theorem dX2_add_24 : decode cX2_add 24 = .ok (.invokestatic 41, 3) := by decide +kernel
theorem dX2_add_27 : decode cX2_add 27 = .ok (.aload_n 0, 1) := by decide +kernel
theorem dX2_add_28 : decode cX2_add 28 = .ok (.getfield 38, 3) := by decide +kernel
theorem dX2_add_31 : decode cX2_add 31 = .ok (.istore_n 3, 1) := by decide +kernel
theorem dX2_add_32 : decode cX2_add 32 = .ok (.aload_n 0, 1) := by decide +kernel
theorem dX2_add_33 : decode cX2_add 33 = .ok (.getfield 11, 3) := by decide +kernel
theorem dX2_add_36 : decode cX2_add 36 = .ok (.iload_n 3, 1) := by decide +kernel
theorem dX2_add_37 : decode cX2_add 37 = .ok (.new 9, 3) := by decide +kernel
theorem dX2_add_40 : decode cX2_add 40 = .ok (.dup, 1) := by decide +kernel
theorem dX2_add_41 : decode cX2_add 41 = .ok (.iload_n 1, 1) := by decide +kernel
theorem dX2_add_42 : decode cX2_add 42 = .ok (.iload_n 2, 1) := by decide +kernel
theorem dX2_add_43 : decode cX2_add 43 = .ok (.invokespecial 44, 3) := by decide +kernel
theorem dX2_add_46 : decode cX2_add 46 = .ok (.aastore, 1) := by decide +kernel
theorem dX2_add_47 : decode cX2_add 47 = .ok (.aload_n 0, 1) := by decide +kernel
theorem dX2_add_48 : decode cX2_add 48 = .ok (.iload_n 3, 1) := by decide +kernel
theorem dX2_add_49 : decode cX2_add 49 = .ok (.iconst 1, 1) := by decide +kernel
theorem dX2_add_50 : decode cX2_add 50 = .ok (.iadd, 1) := by decide +kernel
theorem dX2_add_51 : decode cX2_add 51 = .ok (.putfield 38, 3) := by decide +kernel
theorem dX2_add_54 : decode cX2_add 54 = .ok (.iload_n 3, 1) := by decide +kernel
theorem dX2_add_55 : decode cX2_add 55 = .ok (.ireturn, 1) := by decide +kernel
theorem dX2_notice_0 : decode cX2_notice 0 = .ok (.aload_n 0, 1) := by decide +kernel
theorem dX2_notice_1 : decode cX2_notice 1 = .ok (.iload_n 1, 1) := by decide +kernel
theorem dX2_notice_2 : decode cX2_notice 2 = .ok (.invokevirtual 47, 3) := by decide +kernel
theorem dX2_notice_5 : decode cX2_notice 5 = .ok (.astore 5, 2) := by decide +kernel
theorem dX2_notice_7 : decode cX2_notice 7 = .ok (.iload_n 2, 1) := by decide +kernel
theorem dX2_notice_8 : decode cX2_notice 8 = .ok (.iload_n 3, 1) := by decide +kernel
theorem dX2_notice_9 : decode cX2_notice 9 = .ok (.invokestatic 51, 3) := by decide +kernel
theorem dX2_notice_12 : decode cX2_notice 12 = .ok (.ifCond .eq 18, 3) := by decide +kernel
theorem dX2_notice_15 : decode cX2_notice 15 = .ok (.iload 4, 2) := by decide +kernel
theorem dX2_notice_17 : decode cX2_notice 17 = .ok (.iconst 0, 1) := by decide +kernel
theorem dX2_notice_18 : decode cX2_notice 18 = .ok (.bipush 40, 2) := by decide +kernel
theorem dX2_notice_20 : decode cX2_notice 20 = .ok (.invokestatic 30, 3) := by decide +kernel
theorem dX2_notice_23 : decode cX2_notice 23 = .ok (.ifCond .eq 7, 3) := by decide +kernel
theorem dX2_notice_26 : decode cX2_notice 26 = .ok (.iconst 1, 1) := by decide +kernel
theorem dX2_notice_27 : decode cX2_notice 27 = .ok (.goto 4, 3) := by decide +kernel
theorem dX2_notice_30 : decode cX2_notice 30 = .ok (.iconst 0, 1) := by decide +kernel
theorem dX2_notice_31 : decode cX2_notice 31 = .ok (.invokestatic 34, 3) := by decide +kernel
theorem dX2_notice_34 : decode cX2_notice 34 = .ok (.iload_n 2, 1) := by decide +kernel
theorem dX2_notice_35 : decode cX2_notice 35 = .ok (.aload_n 0, 1) := by decide +kernel
theorem dX2_notice_36 : decode cX2_notice 36 = .ok (.getfield 55, 3) := by decide +kernel
theorem dX2_notice_39 : decode cX2_notice 39 = .ok (.iconst 2, 1) := by decide +kernel
theorem dX2_notice_40 : decode cX2_notice 40 = .ok (.iadd, 1) := by decide +kernel
theorem dX2_notice_41 : decode cX2_notice 41 = .ok (.if_icmp .lt 17, 3) := by decide +kernel
theorem dX2_notice_44 : decode cX2_notice 44 = .ok (.aload 5, 2) := by decide +kernel
theorem dX2_notice_46 : decode cX2_notice 46 = .ok (.getfield 58, 3) := by decide +kernel
theorem dX2_notice_49 : decode cX2_notice 49 = .ok (.bipush 30, 2) := by decide +kernel
theorem dX2_notice_51 : decode cX2_notice 51 = .ok (.if_icmp .ge 7, 3) := by decide +kernel
theorem dX2_notice_54 : decode cX2_notice 54 = .ok (.iconst 1, 1) := by decide +kernel
theorem dX2_notice_55 : decode cX2_notice 55 = .ok (.goto 4, 3) := by decide +kernel
theorem dX2_notice_58 : decode cX2_notice 58 = .ok (.iconst 0, 1) := by decide +kernel
theorem dX2_notice_59 : decode cX2_notice 59 = .ok (.invokestatic 41, 3) := by decide +kernel
theorem dX2_notice_62 : decode cX2_notice 62 = .ok (.aload 5, 2) := by decide +kernel
theorem dX2_notice_64 : decode cX2_notice 64 = .ok (.iload_n 2, 1) := by decide +kernel
theorem dX2_notice_65 : decode cX2_notice 65 = .ok (.iload_n 3, 1) := by decide +kernel
theorem dX2_notice_66 : decode cX2_notice 66 = .ok (.iload 4, 2) := by decide +kernel
theorem dX2_notice_68 : decode cX2_notice 68 = .ok (.invokevirtual 61, 3) := by decide +kernel
theorem dX2_notice_71 : decode cX2_notice 71 = .ok (.aload 5, 2) := by decide +kernel
theorem dX2_notice_73 : decode cX2_notice 73 = .ok (.getfield 58, 3) := by decide +kernel
theorem dX2_notice_76 : decode cX2_notice 76 = .ok (.ireturn, 1) := by decide +kernel
theorem dX2_addCourse_0 : decode cX2_addCourse 0 = .ok (.iload_n 1, 1) := by decide +kernel
theorem dX2_addCourse_1 : decode cX2_addCourse 1 = .ok (.iconst 1, 1) := by decide +kernel
theorem dX2_addCourse_2 : decode cX2_addCourse 2 = .ok (.bipush 8, 2) := by decide +kernel
theorem dX2_addCourse_4 : decode cX2_addCourse 4 = .ok (.invokestatic 30, 3) := by decide +kernel
theorem dX2_addCourse_7 : decode cX2_addCourse 7 = .ok (.ifCond .eq 26, 3) := by decide +kernel
theorem dX2_addCourse_10 : decode cX2_addCourse 10 = .ok (.iload_n 2, 1) := by decide +kernel
theorem dX2_addCourse_11 : decode cX2_addCourse 11 = .ok (.iload_n 3, 1) := by decide +kernel
theorem dX2_addCourse_12 : decode cX2_addCourse 12 = .ok (.invokestatic 51, 3) := by decide +kernel
theorem dX2_addCourse_15 : decode cX2_addCourse 15 = .ok (.ifCond .eq 18, 3) := by decide +kernel
theorem dX2_addCourse_18 : decode cX2_addCourse 18 = .ok (.iload 4, 2) := by decide +kernel
theorem dX2_addCourse_20 : decode cX2_addCourse 20 = .ok (.iconst 1, 1) := by decide +kernel
theorem dX2_addCourse_21 : decode cX2_addCourse 21 = .ok (.bipush 40, 2) := by decide +kernel
theorem dX2_addCourse_23 : decode cX2_addCourse 23 = .ok (.invokestatic 30, 3) := by decide +kernel
theorem dX2_addCourse_26 : decode cX2_addCourse 26 = .ok (.ifCond .eq 7, 3) := by decide +kernel
theorem dX2_addCourse_29 : decode cX2_addCourse 29 = .ok (.iconst 1, 1) := by decide +kernel
theorem dX2_addCourse_30 : decode cX2_addCourse 30 = .ok (.goto 4, 3) := by decide +kernel
theorem dX2_addCourse_33 : decode cX2_addCourse 33 = .ok (.iconst 0, 1) := by decide +kernel
theorem dX2_addCourse_34 : decode cX2_addCourse 34 = .ok (.invokestatic 34, 3) := by decide +kernel
theorem dX2_addCourse_37 : decode cX2_addCourse 37 = .ok (.aload_n 0, 1) := by decide +kernel
theorem dX2_addCourse_38 : decode cX2_addCourse 38 = .ok (.getfield 65, 3) := by decide +kernel
theorem dX2_addCourse_41 : decode cX2_addCourse 41 = .ok (.bipush 10, 2) := by decide +kernel
theorem dX2_addCourse_43 : decode cX2_addCourse 43 = .ok (.if_icmp .ge 7, 3) := by decide +kernel
theorem dX2_addCourse_46 : decode cX2_addCourse 46 = .ok (.iconst 1, 1) := by decide +kernel
theorem dX2_addCourse_47 : decode cX2_addCourse 47 = .ok (.goto 4, 3) := by decide +kernel
theorem dX2_addCourse_50 : decode cX2_addCourse 50 = .ok (.iconst 0, 1) := by decide +kernel
theorem dX2_addCourse_51 : decode cX2_addCourse 51 = .ok (.invokestatic 41, 3) := by decide +kernel
theorem dX2_addCourse_54 : decode cX2_addCourse 54 = .ok (.aload_n 0, 1) := by decide +kernel
theorem dX2_addCourse_55 : decode cX2_addCourse 55 = .ok (.getfield 65, 3) := by decide +kernel
theorem dX2_addCourse_58 : decode cX2_addCourse 58 = .ok (.istore 5, 2) := by decide +kernel
theorem dX2_addCourse_60 : decode cX2_addCourse 60 = .ok (.aload_n 0, 1) := by decide +kernel
theorem dX2_addCourse_61 : decode cX2_addCourse 61 = .ok (.getfield 17, 3) := by decide +kernel
theorem dX2_addCourse_64 : decode cX2_addCourse 64 = .ok (.iload 5, 2) := by decide +kernel
theorem dX2_addCourse_66 : decode cX2_addCourse 66 = .ok (.new 15, 3) := by decide +kernel
theorem dX2_addCourse_69 : decode cX2_addCourse 69 = .ok (.dup, 1) := by decide +kernel
theorem dX2_addCourse_70 : decode cX2_addCourse 70 = .ok (.iload_n 1, 1) := by decide +kernel
theorem dX2_addCourse_71 : decode cX2_addCourse 71 = .ok (.iload_n 2, 1) := by decide +kernel
theorem dX2_addCourse_72 : decode cX2_addCourse 72 = .ok (.iload_n 3, 1) := by decide +kernel
theorem dX2_addCourse_73 : decode cX2_addCourse 73 = .ok (.iload 4, 2) := by decide +kernel
theorem dX2_addCourse_75 : decode cX2_addCourse 75 = .ok (.invokespecial 68, 3) := by decide +kernel
theorem dX2_addCourse_78 : decode cX2_addCourse 78 = .ok (.aastore, 1) := by decide +kernel
theorem dX2_addCourse_79 : decode cX2_addCourse 79 = .ok (.aload_n 0, 1) := by decide +kernel
theorem dX2_addCourse_80 : decode cX2_addCourse 80 = .ok (.iload 5, 2) := by decide +kernel
theorem dX2_addCourse_82 : decode cX2_addCourse 82 = .ok (.iconst 1, 1) := by decide +kernel
theorem dX2_addCourse_83 : decode cX2_addCourse 83 = .ok (.iadd, 1) := by decide +kernel
theorem dX2_addCourse_84 : decode cX2_addCourse 84 = .ok (.putfield 65, 3) := by decide +kernel
theorem dX2_addCourse_87 : decode cX2_addCourse 87 = .ok (.iload 5, 2) := by decide +kernel
theorem dX2_addCourse_89 : decode cX2_addCourse 89 = .ok (.ireturn, 1) := by decide +kernel
theorem dX2_enrol_0 : decode cX2_enrol 0 = .ok (.aload_n 0, 1) := by decide +kernel
theorem dX2_enrol_1 : decode cX2_enrol 1 = .ok (.iload_n 1, 1) := by decide +kernel
theorem dX2_enrol_2 : decode cX2_enrol 2 = .ok (.invokevirtual 47, 3) := by decide +kernel
theorem dX2_enrol_5 : decode cX2_enrol 5 = .ok (.astore_n 3, 1) := by decide +kernel
theorem dX2_enrol_6 : decode cX2_enrol 6 = .ok (.aload_n 0, 1) := by decide +kernel
theorem dX2_enrol_7 : decode cX2_enrol 7 = .ok (.iload_n 2, 1) := by decide +kernel
theorem dX2_enrol_8 : decode cX2_enrol 8 = .ok (.invokevirtual 71, 3) := by decide +kernel
theorem dX2_enrol_11 : decode cX2_enrol 11 = .ok (.astore 4, 2) := by decide +kernel
theorem dX2_enrol_13 : decode cX2_enrol 13 = .ok (.aload 4, 2) := by decide +kernel
theorem dX2_enrol_15 : decode cX2_enrol 15 = .ok (.getfield 75, 3) := by decide +kernel
theorem dX2_enrol_18 : decode cX2_enrol 18 = .ok (.ifCond .le 36, 3) := by decide +kernel
theorem dX2_enrol_21 : decode cX2_enrol 21 = .ok (.aload 4, 2) := by decide +kernel
theorem dX2_enrol_23 : decode cX2_enrol 23 = .ok (.getfield 78, 3) := by decide +kernel
theorem dX2_enrol_26 : decode cX2_enrol 26 = .ok (.aload_n 0, 1) := by decide +kernel
theorem dX2_enrol_27 : decode cX2_enrol 27 = .ok (.getfield 55, 3) := by decide +kernel
theorem dX2_enrol_30 : decode cX2_enrol 30 = .ok (.if_icmp .lt 24, 3) := by decide +kernel
theorem dX2_enrol_33 : decode cX2_enrol 33 = .ok (.aload_n 3, 1) := by decide +kernel
theorem dX2_enrol_34 : decode cX2_enrol 34 = .ok (.aload 4, 2) := by decide +kernel
theorem dX2_enrol_36 : decode cX2_enrol 36 = .ok (.getfield 81, 3) := by decide +kernel
theorem dX2_enrol_39 : decode cX2_enrol 39 = .ok (.aload 4, 2) := by decide +kernel
theorem dX2_enrol_41 : decode cX2_enrol 41 = .ok (.getfield 78, 3) := by decide +kernel
theorem dX2_enrol_44 : decode cX2_enrol 44 = .ok (.invokevirtual 84, 3) := by decide +kernel
theorem dX2_enrol_47 : decode cX2_enrol 47 = .ok (.ifCond .eq 7, 3) := by decide +kernel
theorem dX2_enrol_50 : decode cX2_enrol 50 = .ok (.iconst 1, 1) := by decide +kernel
theorem dX2_enrol_51 : decode cX2_enrol 51 = .ok (.goto 4, 3) := by decide +kernel
theorem dX2_enrol_54 : decode cX2_enrol 54 = .ok (.iconst 0, 1) := by decide +kernel
theorem dX2_enrol_55 : decode cX2_enrol 55 = .ok (.invokestatic 41, 3) := by decide +kernel
theorem dX2_enrol_58 : decode cX2_enrol 58 = .ok (.aload_n 3, 1) := by decide +kernel
theorem dX2_enrol_59 : decode cX2_enrol 59 = .ok (.aload 4, 2) := by decide +kernel
theorem dX2_enrol_61 : decode cX2_enrol 61 = .ok (.invokevirtual 87, 3) := by decide +kernel
theorem dX2_enrol_64 : decode cX2_enrol 64 = .ok (.aload 4, 2) := by decide +kernel
theorem dX2_enrol_66 : decode cX2_enrol 66 = .ok (.dup, 1) := by decide +kernel
theorem dX2_enrol_67 : decode cX2_enrol 67 = .ok (.getfield 75, 3) := by decide +kernel
theorem dX2_enrol_70 : decode cX2_enrol 70 = .ok (.iconst 1, 1) := by decide +kernel
theorem dX2_enrol_71 : decode cX2_enrol 71 = .ok (.isub, 1) := by decide +kernel
theorem dX2_enrol_72 : decode cX2_enrol 72 = .ok (.putfield 75, 3) := by decide +kernel
theorem dX2_enrol_75 : decode cX2_enrol 75 = .ok (.aload 4, 2) := by decide +kernel
theorem dX2_enrol_77 : decode cX2_enrol 77 = .ok (.getfield 75, 3) := by decide +kernel
theorem dX2_enrol_80 : decode cX2_enrol 80 = .ok (.ireturn, 1) := by decide +kernel
theorem dX2_setFloor_0 : decode cX2_setFloor 0 = .ok (.iload_n 1, 1) := by decide +kernel
theorem dX2_setFloor_1 : decode cX2_setFloor 1 = .ok (.iconst 0, 1) := by decide +kernel
theorem dX2_setFloor_2 : decode cX2_setFloor 2 = .ok (.bipush 100, 2) := by decide +kernel
theorem dX2_setFloor_4 : decode cX2_setFloor 4 = .ok (.invokestatic 30, 3) := by decide +kernel
theorem dX2_setFloor_7 : decode cX2_setFloor 7 = .ok (.invokestatic 34, 3) := by decide +kernel
theorem dX2_setFloor_10 : decode cX2_setFloor 10 = .ok (.aload_n 0, 1) := by decide +kernel
theorem dX2_setFloor_11 : decode cX2_setFloor 11 = .ok (.getfield 25, 3) := by decide +kernel
theorem dX2_setFloor_14 : decode cX2_setFloor 14 = .ok (.istore_n 2, 1) := by decide +kernel
theorem dX2_setFloor_15 : decode cX2_setFloor 15 = .ok (.aload_n 0, 1) := by decide +kernel
theorem dX2_setFloor_16 : decode cX2_setFloor 16 = .ok (.iload_n 1, 1) := by decide +kernel
theorem dX2_setFloor_17 : decode cX2_setFloor 17 = .ok (.putfield 25, 3) := by decide +kernel
theorem dX2_setFloor_20 : decode cX2_setFloor 20 = .ok (.iload_n 2, 1) := by decide +kernel
theorem dX2_setFloor_21 : decode cX2_setFloor 21 = .ok (.ireturn, 1) := by decide +kernel
theorem dX2_workers_0 : decode cX2_workers 0 = .ok (.aload_n 0, 1) := by decide +kernel
theorem dX2_workers_1 : decode cX2_workers 1 = .ok (.getfield 38, 3) := by decide +kernel
theorem dX2_workers_4 : decode cX2_workers 4 = .ok (.ireturn, 1) := by decide +kernel
theorem dX2_cut_0 : decode cX2_cut 0 = .ok (.aload_n 0, 1) := by decide +kernel
theorem dX2_cut_1 : decode cX2_cut 1 = .ok (.iload_n 1, 1) := by decide +kernel
theorem dX2_cut_2 : decode cX2_cut 2 = .ok (.invokevirtual 47, 3) := by decide +kernel
theorem dX2_cut_5 : decode cX2_cut 5 = .ok (.astore_n 3, 1) := by decide +kernel
theorem dX2_cut_6 : decode cX2_cut 6 = .ok (.iload_n 2, 1) := by decide +kernel
theorem dX2_cut_7 : decode cX2_cut 7 = .ok (.iconst 0, 1) := by decide +kernel
theorem dX2_cut_8 : decode cX2_cut 8 = .ok (.sipush 200, 3) := by decide +kernel
theorem dX2_cut_11 : decode cX2_cut 11 = .ok (.invokestatic 30, 3) := by decide +kernel
theorem dX2_cut_14 : decode cX2_cut 14 = .ok (.invokestatic 34, 3) := by decide +kernel
theorem dX2_cut_17 : decode cX2_cut 17 = .ok (.aload_n 3, 1) := by decide +kernel
theorem dX2_cut_18 : decode cX2_cut 18 = .ok (.getfield 91, 3) := by decide +kernel
theorem dX2_cut_21 : decode cX2_cut 21 = .ok (.iload_n 2, 1) := by decide +kernel
theorem dX2_cut_22 : decode cX2_cut 22 = .ok (.iaload, 1) := by decide +kernel
theorem dX2_cut_23 : decode cX2_cut 23 = .ok (.ireturn, 1) := by decide +kernel
theorem dX2_isFilled_0 : decode cX2_isFilled 0 = .ok (.aload_n 0, 1) := by decide +kernel
theorem dX2_isFilled_1 : decode cX2_isFilled 1 = .ok (.iload_n 1, 1) := by decide +kernel
theorem dX2_isFilled_2 : decode cX2_isFilled 2 = .ok (.invokevirtual 47, 3) := by decide +kernel
theorem dX2_isFilled_5 : decode cX2_isFilled 5 = .ok (.astore_n 3, 1) := by decide +kernel
theorem dX2_isFilled_6 : decode cX2_isFilled 6 = .ok (.iload_n 2, 1) := by decide +kernel
theorem dX2_isFilled_7 : decode cX2_isFilled 7 = .ok (.iconst 0, 1) := by decide +kernel
theorem dX2_isFilled_8 : decode cX2_isFilled 8 = .ok (.sipush 200, 3) := by decide +kernel
theorem dX2_isFilled_11 : decode cX2_isFilled 11 = .ok (.invokestatic 30, 3) := by decide +kernel
theorem dX2_isFilled_14 : decode cX2_isFilled 14 = .ok (.invokestatic 34, 3) := by decide +kernel
theorem dX2_isFilled_17 : decode cX2_isFilled 17 = .ok (.aload_n 3, 1) := by decide +kernel
theorem dX2_isFilled_18 : decode cX2_isFilled 18 = .ok (.iload_n 2, 1) := by decide +kernel
theorem dX2_isFilled_19 : decode cX2_isFilled 19 = .ok (.invokevirtual 95, 3) := by decide +kernel
theorem dX2_isFilled_22 : decode cX2_isFilled 22 = .ok (.ireturn, 1) := by decide +kernel
theorem dX2_pass_0 : decode cX2_pass 0 = .ok (.iload_n 1, 1) := by decide +kernel
theorem dX2_pass_1 : decode cX2_pass 1 = .ok (.iconst 1, 1) := by decide +kernel
theorem dX2_pass_2 : decode cX2_pass 2 = .ok (.bipush 60, 2) := by decide +kernel
theorem dX2_pass_4 : decode cX2_pass 4 = .ok (.invokestatic 30, 3) := by decide +kernel
theorem dX2_pass_7 : decode cX2_pass 7 = .ok (.invokestatic 34, 3) := by decide +kernel
theorem dX2_pass_10 : decode cX2_pass 10 = .ok (.aload_n 0, 1) := by decide +kernel
theorem dX2_pass_11 : decode cX2_pass 11 = .ok (.getfield 55, 3) := by decide +kernel
theorem dX2_pass_14 : decode cX2_pass 14 = .ok (.iload_n 1, 1) := by decide +kernel
theorem dX2_pass_15 : decode cX2_pass 15 = .ok (.iadd, 1) := by decide +kernel
theorem dX2_pass_16 : decode cX2_pass 16 = .ok (.sipush 201, 3) := by decide +kernel
theorem dX2_pass_19 : decode cX2_pass 19 = .ok (.if_icmp .gt 7, 3) := by decide +kernel
theorem dX2_pass_22 : decode cX2_pass 22 = .ok (.iconst 1, 1) := by decide +kernel
theorem dX2_pass_23 : decode cX2_pass 23 = .ok (.goto 4, 3) := by decide +kernel
theorem dX2_pass_26 : decode cX2_pass 26 = .ok (.iconst 0, 1) := by decide +kernel
theorem dX2_pass_27 : decode cX2_pass 27 = .ok (.invokestatic 41, 3) := by decide +kernel
theorem dX2_pass_30 : decode cX2_pass 30 = .ok (.iconst 0, 1) := by decide +kernel
theorem dX2_pass_31 : decode cX2_pass 31 = .ok (.istore_n 2, 1) := by decide +kernel
theorem dX2_pass_32 : decode cX2_pass 32 = .ok (.iconst 0, 1) := by decide +kernel
theorem dX2_pass_33 : decode cX2_pass 33 = .ok (.istore_n 3, 1) := by decide +kernel
theorem dX2_pass_34 : decode cX2_pass 34 = .ok (.iload_n 3, 1) := by decide +kernel
theorem dX2_pass_35 : decode cX2_pass 35 = .ok (.iload_n 1, 1) := by decide +kernel
theorem dX2_pass_36 : decode cX2_pass 36 = .ok (.if_icmp .ge 26, 3) := by decide +kernel
theorem dX2_pass_39 : decode cX2_pass 39 = .ok (.iload_n 2, 1) := by decide +kernel
theorem dX2_pass_40 : decode cX2_pass 40 = .ok (.aload_n 0, 1) := by decide +kernel
theorem dX2_pass_41 : decode cX2_pass 41 = .ok (.invokevirtual 99, 3) := by decide +kernel
theorem dX2_pass_44 : decode cX2_pass 44 = .ok (.iadd, 1) := by decide +kernel
theorem dX2_pass_45 : decode cX2_pass 45 = .ok (.istore_n 2, 1) := by decide +kernel
theorem dX2_pass_46 : decode cX2_pass 46 = .ok (.aload_n 0, 1) := by decide +kernel
theorem dX2_pass_47 : decode cX2_pass 47 = .ok (.dup, 1) := by decide +kernel
theorem dX2_pass_48 : decode cX2_pass 48 = .ok (.getfield 55, 3) := by decide +kernel
theorem dX2_pass_51 : decode cX2_pass 51 = .ok (.iconst 1, 1) := by decide +kernel
theorem dX2_pass_52 : decode cX2_pass 52 = .ok (.iadd, 1) := by decide +kernel
theorem dX2_pass_53 : decode cX2_pass 53 = .ok (.putfield 55, 3) := by decide +kernel
theorem dX2_pass_56 : decode cX2_pass 56 = .ok (.iinc 3 1, 3) := by decide +kernel
theorem dX2_pass_59 : decode cX2_pass 59 = .ok (.goto (-25), 3) := by decide +kernel
theorem dX2_pass_62 : decode cX2_pass 62 = .ok (.iload_n 2, 1) := by decide +kernel
theorem dX2_pass_63 : decode cX2_pass 63 = .ok (.ireturn, 1) := by decide +kernel
theorem dX2_week_0 : decode cX2_week 0 = .ok (.aload_n 0, 1) := by decide +kernel
theorem dX2_week_1 : decode cX2_week 1 = .ok (.getfield 55, 3) := by decide +kernel
theorem dX2_week_4 : decode cX2_week 4 = .ok (.ireturn, 1) := by decide +kernel
theorem dX2_paid_0 : decode cX2_paid 0 = .ok (.aload_n 0, 1) := by decide +kernel
theorem dX2_paid_1 : decode cX2_paid 1 = .ok (.iload_n 1, 1) := by decide +kernel
theorem dX2_paid_2 : decode cX2_paid 2 = .ok (.invokevirtual 47, 3) := by decide +kernel
theorem dX2_paid_5 : decode cX2_paid 5 = .ok (.astore_n 3, 1) := by decide +kernel
theorem dX2_paid_6 : decode cX2_paid 6 = .ok (.aload_n 0, 1) := by decide +kernel
theorem dX2_paid_7 : decode cX2_paid 7 = .ok (.iload_n 2, 1) := by decide +kernel
theorem dX2_paid_8 : decode cX2_paid 8 = .ok (.invokevirtual 103, 3) := by decide +kernel
theorem dX2_paid_11 : decode cX2_paid 11 = .ok (.invokestatic 34, 3) := by decide +kernel
theorem dX2_paid_14 : decode cX2_paid 14 = .ok (.aload_n 3, 1) := by decide +kernel
theorem dX2_paid_15 : decode cX2_paid 15 = .ok (.getfield 106, 3) := by decide +kernel
theorem dX2_paid_18 : decode cX2_paid 18 = .ok (.iload_n 2, 1) := by decide +kernel
theorem dX2_paid_19 : decode cX2_paid 19 = .ok (.iaload, 1) := by decide +kernel
theorem dX2_paid_20 : decode cX2_paid 20 = .ok (.ireturn, 1) := by decide +kernel
theorem dX2_madeUp_0 : decode cX2_madeUp 0 = .ok (.aload_n 0, 1) := by decide +kernel
theorem dX2_madeUp_1 : decode cX2_madeUp 1 = .ok (.iload_n 1, 1) := by decide +kernel
theorem dX2_madeUp_2 : decode cX2_madeUp 2 = .ok (.invokevirtual 47, 3) := by decide +kernel
theorem dX2_madeUp_5 : decode cX2_madeUp 5 = .ok (.astore_n 3, 1) := by decide +kernel
theorem dX2_madeUp_6 : decode cX2_madeUp 6 = .ok (.aload_n 0, 1) := by decide +kernel
theorem dX2_madeUp_7 : decode cX2_madeUp 7 = .ok (.iload_n 2, 1) := by decide +kernel
theorem dX2_madeUp_8 : decode cX2_madeUp 8 = .ok (.invokevirtual 103, 3) := by decide +kernel
theorem dX2_madeUp_11 : decode cX2_madeUp 11 = .ok (.invokestatic 34, 3) := by decide +kernel
theorem dX2_madeUp_14 : decode cX2_madeUp 14 = .ok (.aload_n 3, 1) := by decide +kernel
theorem dX2_madeUp_15 : decode cX2_madeUp 15 = .ok (.getfield 109, 3) := by decide +kernel
theorem dX2_madeUp_18 : decode cX2_madeUp 18 = .ok (.iload_n 2, 1) := by decide +kernel
theorem dX2_madeUp_19 : decode cX2_madeUp 19 = .ok (.iaload, 1) := by decide +kernel
theorem dX2_madeUp_20 : decode cX2_madeUp 20 = .ok (.ireturn, 1) := by decide +kernel
theorem dX2_cutWeeks_0 : decode cX2_cutWeeks 0 = .ok (.aload_n 0, 1) := by decide +kernel
theorem dX2_cutWeeks_1 : decode cX2_cutWeeks 1 = .ok (.iload_n 1, 1) := by decide +kernel
theorem dX2_cutWeeks_2 : decode cX2_cutWeeks 2 = .ok (.invokevirtual 47, 3) := by decide +kernel
theorem dX2_cutWeeks_5 : decode cX2_cutWeeks 5 = .ok (.getfield 112, 3) := by decide +kernel
theorem dX2_cutWeeks_8 : decode cX2_cutWeeks 8 = .ok (.ireturn, 1) := by decide +kernel
theorem dX2_door_0 : decode cX2_door 0 = .ok (.aload_n 0, 1) := by decide +kernel
theorem dX2_door_1 : decode cX2_door 1 = .ok (.iload_n 1, 1) := by decide +kernel
theorem dX2_door_2 : decode cX2_door 2 = .ok (.invokevirtual 47, 3) := by decide +kernel
theorem dX2_door_5 : decode cX2_door 5 = .ok (.astore 4, 2) := by decide +kernel
theorem dX2_door_7 : decode cX2_door 7 = .ok (.aload_n 0, 1) := by decide +kernel
theorem dX2_door_8 : decode cX2_door 8 = .ok (.iload_n 2, 1) := by decide +kernel
theorem dX2_door_9 : decode cX2_door 9 = .ok (.invokevirtual 103, 3) := by decide +kernel
theorem dX2_door_12 : decode cX2_door 12 = .ok (.ifCond .eq 17, 3) := by decide +kernel
theorem dX2_door_15 : decode cX2_door 15 = .ok (.iload_n 3, 1) := by decide +kernel
theorem dX2_door_16 : decode cX2_door 16 = .ok (.iconst 0, 1) := by decide +kernel
theorem dX2_door_17 : decode cX2_door 17 = .ok (.bipush 80, 2) := by decide +kernel
theorem dX2_door_19 : decode cX2_door 19 = .ok (.invokestatic 30, 3) := by decide +kernel
theorem dX2_door_22 : decode cX2_door 22 = .ok (.ifCond .eq 7, 3) := by decide +kernel
theorem dX2_door_25 : decode cX2_door 25 = .ok (.iconst 1, 1) := by decide +kernel
theorem dX2_door_26 : decode cX2_door 26 = .ok (.goto 4, 3) := by decide +kernel
theorem dX2_door_29 : decode cX2_door 29 = .ok (.iconst 0, 1) := by decide +kernel
theorem dX2_door_30 : decode cX2_door 30 = .ok (.invokestatic 34, 3) := by decide +kernel
theorem dX2_door_33 : decode cX2_door 33 = .ok (.aload_n 0, 1) := by decide +kernel
theorem dX2_door_34 : decode cX2_door 34 = .ok (.getfield 21, 3) := by decide +kernel
theorem dX2_door_37 : decode cX2_door 37 = .ok (.iload_n 2, 1) := by decide +kernel
theorem dX2_door_38 : decode cX2_door 38 = .ok (.baload, 1) := by decide +kernel
theorem dX2_door_39 : decode cX2_door 39 = .ok (.ifCond .ne 7, 3) := by decide +kernel
theorem dX2_door_42 : decode cX2_door 42 = .ok (.iconst 1, 1) := by decide +kernel
theorem dX2_door_43 : decode cX2_door 43 = .ok (.goto 4, 3) := by decide +kernel
theorem dX2_door_46 : decode cX2_door 46 = .ok (.iconst 0, 1) := by decide +kernel
theorem dX2_door_47 : decode cX2_door 47 = .ok (.invokestatic 41, 3) := by decide +kernel
theorem dX2_door_50 : decode cX2_door 50 = .ok (.aload 4, 2) := by decide +kernel
theorem dX2_door_52 : decode cX2_door 52 = .ok (.getfield 115, 3) := by decide +kernel
theorem dX2_door_55 : decode cX2_door 55 = .ok (.iload_n 2, 1) := by decide +kernel
theorem dX2_door_56 : decode cX2_door 56 = .ok (.iload_n 3, 1) := by decide +kernel
theorem dX2_door_57 : decode cX2_door 57 = .ok (.iastore, 1) := by decide +kernel
theorem dX2_door_58 : decode cX2_door 58 = .ok (.return_, 1) := by decide +kernel
theorem dX2_mail_0 : decode cX2_mail 0 = .ok (.aload_n 0, 1) := by decide +kernel
theorem dX2_mail_1 : decode cX2_mail 1 = .ok (.iload_n 1, 1) := by decide +kernel
theorem dX2_mail_2 : decode cX2_mail 2 = .ok (.invokevirtual 47, 3) := by decide +kernel
theorem dX2_mail_5 : decode cX2_mail 5 = .ok (.astore_n 3, 1) := by decide +kernel
theorem dX2_mail_6 : decode cX2_mail 6 = .ok (.aload_n 0, 1) := by decide +kernel
theorem dX2_mail_7 : decode cX2_mail 7 = .ok (.iload_n 2, 1) := by decide +kernel
theorem dX2_mail_8 : decode cX2_mail 8 = .ok (.invokevirtual 103, 3) := by decide +kernel
theorem dX2_mail_11 : decode cX2_mail 11 = .ok (.invokestatic 34, 3) := by decide +kernel
theorem dX2_mail_14 : decode cX2_mail 14 = .ok (.aload_n 0, 1) := by decide +kernel
theorem dX2_mail_15 : decode cX2_mail 15 = .ok (.getfield 21, 3) := by decide +kernel
theorem dX2_mail_18 : decode cX2_mail 18 = .ok (.iload_n 2, 1) := by decide +kernel
theorem dX2_mail_19 : decode cX2_mail 19 = .ok (.baload, 1) := by decide +kernel
theorem dX2_mail_20 : decode cX2_mail 20 = .ok (.ifCond .ne 7, 3) := by decide +kernel
theorem dX2_mail_23 : decode cX2_mail 23 = .ok (.iconst 1, 1) := by decide +kernel
theorem dX2_mail_24 : decode cX2_mail 24 = .ok (.goto 4, 3) := by decide +kernel
theorem dX2_mail_27 : decode cX2_mail 27 = .ok (.iconst 0, 1) := by decide +kernel
theorem dX2_mail_28 : decode cX2_mail 28 = .ok (.invokestatic 41, 3) := by decide +kernel
theorem dX2_mail_31 : decode cX2_mail 31 = .ok (.aload_n 3, 1) := by decide +kernel
theorem dX2_mail_32 : decode cX2_mail 32 = .ok (.getfield 118, 3) := by decide +kernel
theorem dX2_mail_35 : decode cX2_mail 35 = .ok (.iload_n 2, 1) := by decide +kernel
theorem dX2_mail_36 : decode cX2_mail 36 = .ok (.iconst 1, 1) := by decide +kernel
theorem dX2_mail_37 : decode cX2_mail 37 = .ok (.bastore, 1) := by decide +kernel
theorem dX2_mail_38 : decode cX2_mail 38 = .ok (.return_, 1) := by decide +kernel
theorem dX2_check_0 : decode cX2_check 0 = .ok (.aload_n 0, 1) := by decide +kernel
theorem dX2_check_1 : decode cX2_check 1 = .ok (.iload_n 1, 1) := by decide +kernel
theorem dX2_check_2 : decode cX2_check 2 = .ok (.invokevirtual 103, 3) := by decide +kernel
theorem dX2_check_5 : decode cX2_check 5 = .ok (.invokestatic 34, 3) := by decide +kernel
theorem dX2_check_8 : decode cX2_check 8 = .ok (.aload_n 0, 1) := by decide +kernel
theorem dX2_check_9 : decode cX2_check 9 = .ok (.getfield 21, 3) := by decide +kernel
theorem dX2_check_12 : decode cX2_check 12 = .ok (.iload_n 1, 1) := by decide +kernel
theorem dX2_check_13 : decode cX2_check 13 = .ok (.baload, 1) := by decide +kernel
theorem dX2_check_14 : decode cX2_check 14 = .ok (.ifCond .ne 7, 3) := by decide +kernel
theorem dX2_check_17 : decode cX2_check 17 = .ok (.iconst 1, 1) := by decide +kernel
theorem dX2_check_18 : decode cX2_check 18 = .ok (.goto 4, 3) := by decide +kernel
theorem dX2_check_21 : decode cX2_check 21 = .ok (.iconst 0, 1) := by decide +kernel
theorem dX2_check_22 : decode cX2_check 22 = .ok (.invokestatic 41, 3) := by decide +kernel
theorem dX2_check_25 : decode cX2_check 25 = .ok (.aload_n 0, 1) := by decide +kernel
theorem dX2_check_26 : decode cX2_check 26 = .ok (.getfield 21, 3) := by decide +kernel
theorem dX2_check_29 : decode cX2_check 29 = .ok (.iload_n 1, 1) := by decide +kernel
theorem dX2_check_30 : decode cX2_check 30 = .ok (.iconst 1, 1) := by decide +kernel
theorem dX2_check_31 : decode cX2_check 31 = .ok (.bastore, 1) := by decide +kernel
theorem dX2_check_32 : decode cX2_check 32 = .ok (.iconst 0, 1) := by decide +kernel
theorem dX2_check_33 : decode cX2_check 33 = .ok (.istore_n 2, 1) := by decide +kernel
theorem dX2_check_34 : decode cX2_check 34 = .ok (.aload_n 0, 1) := by decide +kernel
theorem dX2_check_35 : decode cX2_check 35 = .ok (.getfield 11, 3) := by decide +kernel
theorem dX2_check_38 : decode cX2_check 38 = .ok (.astore_n 3, 1) := by decide +kernel
theorem dX2_check_39 : decode cX2_check 39 = .ok (.aload_n 3, 1) := by decide +kernel
theorem dX2_check_40 : decode cX2_check 40 = .ok (.arraylength, 1) := by decide +kernel
theorem dX2_check_41 : decode cX2_check 41 = .ok (.istore 4, 2) := by decide +kernel
theorem dX2_check_43 : decode cX2_check 43 = .ok (.iconst 0, 1) := by decide +kernel
theorem dX2_check_44 : decode cX2_check 44 = .ok (.istore 5, 2) := by decide +kernel
theorem dX2_check_46 : decode cX2_check 46 = .ok (.iload 5, 2) := by decide +kernel
theorem dX2_check_48 : decode cX2_check 48 = .ok (.iload 4, 2) := by decide +kernel
theorem dX2_check_50 : decode cX2_check 50 = .ok (.if_icmp .ge 39, 3) := by decide +kernel
theorem dX2_check_53 : decode cX2_check 53 = .ok (.aload_n 3, 1) := by decide +kernel
theorem dX2_check_54 : decode cX2_check 54 = .ok (.iload 5, 2) := by decide +kernel
theorem dX2_check_56 : decode cX2_check 56 = .ok (.aaload, 1) := by decide +kernel
theorem dX2_check_57 : decode cX2_check 57 = .ok (.astore 6, 2) := by decide +kernel
theorem dX2_check_59 : decode cX2_check 59 = .ok (.aload 6, 2) := by decide +kernel
theorem dX2_check_61 : decode cX2_check 61 = .ok (.ifnull 22, 3) := by decide +kernel
theorem dX2_check_64 : decode cX2_check 64 = .ok (.aload 6, 2) := by decide +kernel
theorem dX2_check_66 : decode cX2_check 66 = .ok (.iload_n 1, 1) := by decide +kernel
theorem dX2_check_67 : decode cX2_check 67 = .ok (.invokevirtual 121, 3) := by decide +kernel
theorem dX2_check_70 : decode cX2_check 70 = .ok (.ifCond .eq 13, 3) := by decide +kernel
theorem dX2_check_73 : decode cX2_check 73 = .ok (.aload_n 0, 1) := by decide +kernel
theorem dX2_check_74 : decode cX2_check 74 = .ok (.aload 6, 2) := by decide +kernel
theorem dX2_check_76 : decode cX2_check 76 = .ok (.iload_n 1, 1) := by decide +kernel
theorem dX2_check_77 : decode cX2_check 77 = .ok (.invokevirtual 124, 3) := by decide +kernel
theorem dX2_check_80 : decode cX2_check 80 = .ok (.iinc 2 1, 3) := by decide +kernel
theorem dX2_check_83 : decode cX2_check 83 = .ok (.iinc 5 1, 3) := by decide +kernel
theorem dX2_check_86 : decode cX2_check 86 = .ok (.goto (-40), 3) := by decide +kernel
theorem dX2_check_89 : decode cX2_check 89 = .ok (.iload_n 2, 1) := by decide +kernel
theorem dX2_check_90 : decode cX2_check 90 = .ok (.ireturn, 1) := by decide +kernel
theorem dX2_firmOwes_0 : decode cX2_firmOwes 0 = .ok (.aload_n 0, 1) := by decide +kernel
theorem dX2_firmOwes_1 : decode cX2_firmOwes 1 = .ok (.getfield 128, 3) := by decide +kernel
theorem dX2_firmOwes_4 : decode cX2_firmOwes 4 = .ok (.ireturn, 1) := by decide +kernel
theorem dX2_owes_0 : decode cX2_owes 0 = .ok (.aload_n 0, 1) := by decide +kernel
theorem dX2_owes_1 : decode cX2_owes 1 = .ok (.iload_n 1, 1) := by decide +kernel
theorem dX2_owes_2 : decode cX2_owes 2 = .ok (.invokevirtual 47, 3) := by decide +kernel
theorem dX2_owes_5 : decode cX2_owes 5 = .ok (.getfield 131, 3) := by decide +kernel
theorem dX2_owes_8 : decode cX2_owes 8 = .ok (.ireturn, 1) := by decide +kernel
theorem dX2_net_0 : decode cX2_net 0 = .ok (.aload_n 0, 1) := by decide +kernel
theorem dX2_net_1 : decode cX2_net 1 = .ok (.iload_n 1, 1) := by decide +kernel
theorem dX2_net_2 : decode cX2_net 2 = .ok (.invokevirtual 47, 3) := by decide +kernel
theorem dX2_net_5 : decode cX2_net 5 = .ok (.astore_n 2, 1) := by decide +kernel
theorem dX2_net_6 : decode cX2_net 6 = .ok (.aload_n 2, 1) := by decide +kernel
theorem dX2_net_7 : decode cX2_net 7 = .ok (.getfield 134, 3) := by decide +kernel
theorem dX2_net_10 : decode cX2_net 10 = .ok (.aload_n 2, 1) := by decide +kernel
theorem dX2_net_11 : decode cX2_net 11 = .ok (.getfield 131, 3) := by decide +kernel
theorem dX2_net_14 : decode cX2_net 14 = .ok (.isub, 1) := by decide +kernel
theorem dX2_net_15 : decode cX2_net 15 = .ok (.ireturn, 1) := by decide +kernel
theorem dX2_payCurrentWeek_0 : decode cX2_payCurrentWeek 0 = .ok (.iconst 0, 1) := by decide +kernel
theorem dX2_payCurrentWeek_1 : decode cX2_payCurrentWeek 1 = .ok (.istore_n 1, 1) := by decide +kernel
theorem dX2_payCurrentWeek_2 : decode cX2_payCurrentWeek 2 = .ok (.aload_n 0, 1) := by decide +kernel
theorem dX2_payCurrentWeek_3 : decode cX2_payCurrentWeek 3 = .ok (.getfield 11, 3) := by decide +kernel
theorem dX2_payCurrentWeek_6 : decode cX2_payCurrentWeek 6 = .ok (.astore_n 2, 1) := by decide +kernel
theorem dX2_payCurrentWeek_7 : decode cX2_payCurrentWeek 7 = .ok (.aload_n 2, 1) := by decide +kernel
theorem dX2_payCurrentWeek_8 : decode cX2_payCurrentWeek 8 = .ok (.arraylength, 1) := by decide +kernel
theorem dX2_payCurrentWeek_9 : decode cX2_payCurrentWeek 9 = .ok (.istore_n 3, 1) := by decide +kernel
theorem dX2_payCurrentWeek_10 : decode cX2_payCurrentWeek 10 = .ok (.iconst 0, 1) := by decide +kernel
theorem dX2_payCurrentWeek_11 : decode cX2_payCurrentWeek 11 = .ok (.istore 4, 2) := by decide +kernel
theorem dX2_payCurrentWeek_13 : decode cX2_payCurrentWeek 13 = .ok (.iload 4, 2) := by decide +kernel
theorem dX2_payCurrentWeek_15 : decode cX2_payCurrentWeek 15 = .ok (.iload_n 3, 1) := by decide +kernel
theorem dX2_payCurrentWeek_16 : decode cX2_payCurrentWeek 16 = .ok (.if_icmp .ge 36, 3) := by decide +kernel
theorem dX2_payCurrentWeek_19 : decode cX2_payCurrentWeek 19 = .ok (.aload_n 2, 1) := by decide +kernel
theorem dX2_payCurrentWeek_20 : decode cX2_payCurrentWeek 20 = .ok (.iload 4, 2) := by decide +kernel
theorem dX2_payCurrentWeek_22 : decode cX2_payCurrentWeek 22 = .ok (.aaload, 1) := by decide +kernel
theorem dX2_payCurrentWeek_23 : decode cX2_payCurrentWeek 23 = .ok (.astore 5, 2) := by decide +kernel
theorem dX2_payCurrentWeek_25 : decode cX2_payCurrentWeek 25 = .ok (.aload 5, 2) := by decide +kernel
theorem dX2_payCurrentWeek_27 : decode cX2_payCurrentWeek 27 = .ok (.ifnull 19, 3) := by decide +kernel
theorem dX2_payCurrentWeek_30 : decode cX2_payCurrentWeek 30 = .ok (.iload_n 1, 1) := by decide +kernel
theorem dX2_payCurrentWeek_31 : decode cX2_payCurrentWeek 31 = .ok (.aload 5, 2) := by decide +kernel
theorem dX2_payCurrentWeek_33 : decode cX2_payCurrentWeek 33 = .ok (.aload_n 0, 1) := by decide +kernel
theorem dX2_payCurrentWeek_34 : decode cX2_payCurrentWeek 34 = .ok (.getfield 55, 3) := by decide +kernel
theorem dX2_payCurrentWeek_37 : decode cX2_payCurrentWeek 37 = .ok (.aload_n 0, 1) := by decide +kernel
theorem dX2_payCurrentWeek_38 : decode cX2_payCurrentWeek 38 = .ok (.getfield 25, 3) := by decide +kernel
theorem dX2_payCurrentWeek_41 : decode cX2_payCurrentWeek 41 = .ok (.invokevirtual 137, 3) := by decide +kernel
theorem dX2_payCurrentWeek_44 : decode cX2_payCurrentWeek 44 = .ok (.iadd, 1) := by decide +kernel
theorem dX2_payCurrentWeek_45 : decode cX2_payCurrentWeek 45 = .ok (.istore_n 1, 1) := by decide +kernel
theorem dX2_payCurrentWeek_46 : decode cX2_payCurrentWeek 46 = .ok (.iinc 4 1, 3) := by decide +kernel
theorem dX2_payCurrentWeek_49 : decode cX2_payCurrentWeek 49 = .ok (.goto (-36), 3) := by decide +kernel
theorem dX2_payCurrentWeek_52 : decode cX2_payCurrentWeek 52 = .ok (.iload_n 1, 1) := by decide +kernel
theorem dX2_payCurrentWeek_53 : decode cX2_payCurrentWeek 53 = .ok (.ireturn, 1) := by decide +kernel
theorem dX2_chargeBack_0 : decode cX2_chargeBack 0 = .ok (.aload_n 1, 1) := by decide +kernel
theorem dX2_chargeBack_1 : decode cX2_chargeBack 1 = .ok (.getfield 109, 3) := by decide +kernel
theorem dX2_chargeBack_4 : decode cX2_chargeBack 4 = .ok (.iload_n 2, 1) := by decide +kernel
theorem dX2_chargeBack_5 : decode cX2_chargeBack 5 = .ok (.iaload, 1) := by decide +kernel
theorem dX2_chargeBack_6 : decode cX2_chargeBack 6 = .ok (.istore_n 3, 1) := by decide +kernel
theorem dX2_chargeBack_7 : decode cX2_chargeBack 7 = .ok (.aload_n 1, 1) := by decide +kernel
theorem dX2_chargeBack_8 : decode cX2_chargeBack 8 = .ok (.getfield 118, 3) := by decide +kernel
theorem dX2_chargeBack_11 : decode cX2_chargeBack 11 = .ok (.iload_n 2, 1) := by decide +kernel
theorem dX2_chargeBack_12 : decode cX2_chargeBack 12 = .ok (.baload, 1) := by decide +kernel
theorem dX2_chargeBack_13 : decode cX2_chargeBack 13 = .ok (.ifCond .eq 24, 3) := by decide +kernel
theorem dX2_chargeBack_16 : decode cX2_chargeBack 16 = .ok (.aload_n 0, 1) := by decide +kernel
theorem dX2_chargeBack_17 : decode cX2_chargeBack 17 = .ok (.dup, 1) := by decide +kernel
theorem dX2_chargeBack_18 : decode cX2_chargeBack 18 = .ok (.getfield 128, 3) := by decide +kernel
theorem dX2_chargeBack_21 : decode cX2_chargeBack 21 = .ok (.iload_n 3, 1) := by decide +kernel
theorem dX2_chargeBack_22 : decode cX2_chargeBack 22 = .ok (.iload_n 3, 1) := by decide +kernel
theorem dX2_chargeBack_23 : decode cX2_chargeBack 23 = .ok (.bipush 10, 2) := by decide +kernel
theorem dX2_chargeBack_25 : decode cX2_chargeBack 25 = .ok (.imul, 1) := by decide +kernel
theorem dX2_chargeBack_26 : decode cX2_chargeBack 26 = .ok (.bipush 100, 2) := by decide +kernel
theorem dX2_chargeBack_28 : decode cX2_chargeBack 28 = .ok (.idiv, 1) := by decide +kernel
theorem dX2_chargeBack_29 : decode cX2_chargeBack 29 = .ok (.iadd, 1) := by decide +kernel
theorem dX2_chargeBack_30 : decode cX2_chargeBack 30 = .ok (.iadd, 1) := by decide +kernel
theorem dX2_chargeBack_31 : decode cX2_chargeBack 31 = .ok (.putfield 128, 3) := by decide +kernel
theorem dX2_chargeBack_34 : decode cX2_chargeBack 34 = .ok (.goto 32, 3) := by decide +kernel
theorem dX2_chargeBack_37 : decode cX2_chargeBack 37 = .ok (.iload_n 3, 1) := by decide +kernel
theorem dX2_chargeBack_38 : decode cX2_chargeBack 38 = .ok (.iconst 2, 1) := by decide +kernel
theorem dX2_chargeBack_39 : decode cX2_chargeBack 39 = .ok (.idiv, 1) := by decide +kernel
theorem dX2_chargeBack_40 : decode cX2_chargeBack 40 = .ok (.istore 4, 2) := by decide +kernel
theorem dX2_chargeBack_42 : decode cX2_chargeBack 42 = .ok (.aload_n 1, 1) := by decide +kernel
theorem dX2_chargeBack_43 : decode cX2_chargeBack 43 = .ok (.dup, 1) := by decide +kernel
theorem dX2_chargeBack_44 : decode cX2_chargeBack 44 = .ok (.getfield 131, 3) := by decide +kernel
theorem dX2_chargeBack_47 : decode cX2_chargeBack 47 = .ok (.iload 4, 2) := by decide +kernel
theorem dX2_chargeBack_49 : decode cX2_chargeBack 49 = .ok (.iadd, 1) := by decide +kernel
theorem dX2_chargeBack_50 : decode cX2_chargeBack 50 = .ok (.putfield 131, 3) := by decide +kernel
theorem dX2_chargeBack_53 : decode cX2_chargeBack 53 = .ok (.aload_n 0, 1) := by decide +kernel
theorem dX2_chargeBack_54 : decode cX2_chargeBack 54 = .ok (.dup, 1) := by decide +kernel
theorem dX2_chargeBack_55 : decode cX2_chargeBack 55 = .ok (.getfield 128, 3) := by decide +kernel
theorem dX2_chargeBack_58 : decode cX2_chargeBack 58 = .ok (.iload_n 3, 1) := by decide +kernel
theorem dX2_chargeBack_59 : decode cX2_chargeBack 59 = .ok (.iload 4, 2) := by decide +kernel
theorem dX2_chargeBack_61 : decode cX2_chargeBack 61 = .ok (.isub, 1) := by decide +kernel
theorem dX2_chargeBack_62 : decode cX2_chargeBack 62 = .ok (.iadd, 1) := by decide +kernel
theorem dX2_chargeBack_63 : decode cX2_chargeBack 63 = .ok (.putfield 128, 3) := by decide +kernel
theorem dX2_chargeBack_66 : decode cX2_chargeBack 66 = .ok (.return_, 1) := by decide +kernel
theorem dX2_workerAt_0 : decode cX2_workerAt 0 = .ok (.iload_n 1, 1) := by decide +kernel
theorem dX2_workerAt_1 : decode cX2_workerAt 1 = .ok (.iconst 0, 1) := by decide +kernel
theorem dX2_workerAt_2 : decode cX2_workerAt 2 = .ok (.aload_n 0, 1) := by decide +kernel
theorem dX2_workerAt_3 : decode cX2_workerAt 3 = .ok (.getfield 38, 3) := by decide +kernel
theorem dX2_workerAt_6 : decode cX2_workerAt 6 = .ok (.iconst 1, 1) := by decide +kernel
theorem dX2_workerAt_7 : decode cX2_workerAt 7 = .ok (.isub, 1) := by decide +kernel
theorem dX2_workerAt_8 : decode cX2_workerAt 8 = .ok (.invokestatic 30, 3) := by decide +kernel
theorem dX2_workerAt_11 : decode cX2_workerAt 11 = .ok (.ifCond .eq 12, 3) := by decide +kernel
theorem dX2_workerAt_14 : decode cX2_workerAt 14 = .ok (.aload_n 0, 1) := by decide +kernel
theorem dX2_workerAt_15 : decode cX2_workerAt 15 = .ok (.getfield 11, 3) := by decide +kernel
theorem dX2_workerAt_18 : decode cX2_workerAt 18 = .ok (.iload_n 1, 1) := by decide +kernel
theorem dX2_workerAt_19 : decode cX2_workerAt 19 = .ok (.aaload, 1) := by decide +kernel
theorem dX2_workerAt_20 : decode cX2_workerAt 20 = .ok (.goto 4, 3) := by decide +kernel
theorem dX2_workerAt_23 : decode cX2_workerAt 23 = .ok (.aconst_null, 1) := by decide +kernel
theorem dX2_workerAt_24 : decode cX2_workerAt 24 = .ok (.astore_n 2, 1) := by decide +kernel
theorem dX2_workerAt_25 : decode cX2_workerAt 25 = .ok (.aload_n 2, 1) := by decide +kernel
theorem dX2_workerAt_26 : decode cX2_workerAt 26 = .ok (.ifnonnull 11, 3) := by decide +kernel
theorem dX2_workerAt_29 : decode cX2_workerAt 29 = .ok (.new 141, 3) := by decide +kernel
theorem dX2_workerAt_32 : decode cX2_workerAt 32 = .ok (.dup, 1) := by decide +kernel
theorem dX2_workerAt_33 : decode cX2_workerAt 33 = .ok (.invokespecial 143, 3) := by decide +kernel
theorem dX2_workerAt_36 : decode cX2_workerAt 36 = .ok (.athrow, 1) := by decide +kernel
theorem dX2_workerAt_37 : decode cX2_workerAt 37 = .ok (.aload_n 2, 1) := by decide +kernel
theorem dX2_workerAt_38 : decode cX2_workerAt 38 = .ok (.areturn, 1) := by decide +kernel
theorem dX2_courseAt_0 : decode cX2_courseAt 0 = .ok (.iload_n 1, 1) := by decide +kernel
theorem dX2_courseAt_1 : decode cX2_courseAt 1 = .ok (.iconst 0, 1) := by decide +kernel
theorem dX2_courseAt_2 : decode cX2_courseAt 2 = .ok (.aload_n 0, 1) := by decide +kernel
theorem dX2_courseAt_3 : decode cX2_courseAt 3 = .ok (.getfield 65, 3) := by decide +kernel
theorem dX2_courseAt_6 : decode cX2_courseAt 6 = .ok (.iconst 1, 1) := by decide +kernel
theorem dX2_courseAt_7 : decode cX2_courseAt 7 = .ok (.isub, 1) := by decide +kernel
theorem dX2_courseAt_8 : decode cX2_courseAt 8 = .ok (.invokestatic 30, 3) := by decide +kernel
theorem dX2_courseAt_11 : decode cX2_courseAt 11 = .ok (.ifCond .eq 12, 3) := by decide +kernel
theorem dX2_courseAt_14 : decode cX2_courseAt 14 = .ok (.aload_n 0, 1) := by decide +kernel
theorem dX2_courseAt_15 : decode cX2_courseAt 15 = .ok (.getfield 17, 3) := by decide +kernel
theorem dX2_courseAt_18 : decode cX2_courseAt 18 = .ok (.iload_n 1, 1) := by decide +kernel
theorem dX2_courseAt_19 : decode cX2_courseAt 19 = .ok (.aaload, 1) := by decide +kernel
theorem dX2_courseAt_20 : decode cX2_courseAt 20 = .ok (.goto 4, 3) := by decide +kernel
theorem dX2_courseAt_23 : decode cX2_courseAt 23 = .ok (.aconst_null, 1) := by decide +kernel
theorem dX2_courseAt_24 : decode cX2_courseAt 24 = .ok (.astore_n 2, 1) := by decide +kernel
theorem dX2_courseAt_25 : decode cX2_courseAt 25 = .ok (.aload_n 2, 1) := by decide +kernel
theorem dX2_courseAt_26 : decode cX2_courseAt 26 = .ok (.ifnonnull 11, 3) := by decide +kernel
theorem dX2_courseAt_29 : decode cX2_courseAt 29 = .ok (.new 141, 3) := by decide +kernel
theorem dX2_courseAt_32 : decode cX2_courseAt 32 = .ok (.dup, 1) := by decide +kernel
theorem dX2_courseAt_33 : decode cX2_courseAt 33 = .ok (.invokespecial 143, 3) := by decide +kernel
theorem dX2_courseAt_36 : decode cX2_courseAt 36 = .ok (.athrow, 1) := by decide +kernel
theorem dX2_courseAt_37 : decode cX2_courseAt 37 = .ok (.aload_n 2, 1) := by decide +kernel
theorem dX2_courseAt_38 : decode cX2_courseAt 38 = .ok (.areturn, 1) := by decide +kernel
theorem dX2_hasPassed_0 : decode cX2_hasPassed 0 = .ok (.iload_n 1, 1) := by decide +kernel
theorem dX2_hasPassed_1 : decode cX2_hasPassed 1 = .ok (.iconst 0, 1) := by decide +kernel
theorem dX2_hasPassed_2 : decode cX2_hasPassed 2 = .ok (.aload_n 0, 1) := by decide +kernel
theorem dX2_hasPassed_3 : decode cX2_hasPassed 3 = .ok (.getfield 55, 3) := by decide +kernel
theorem dX2_hasPassed_6 : decode cX2_hasPassed 6 = .ok (.iconst 1, 1) := by decide +kernel
theorem dX2_hasPassed_7 : decode cX2_hasPassed 7 = .ok (.isub, 1) := by decide +kernel
theorem dX2_hasPassed_8 : decode cX2_hasPassed 8 = .ok (.invokestatic 30, 3) := by decide +kernel
theorem dX2_hasPassed_11 : decode cX2_hasPassed 11 = .ok (.ireturn, 1) := by decide +kernel
theorem dX2_isSpan_0 : decode cX2_isSpan 0 = .ok (.iload_n 0, 1) := by decide +kernel
theorem dX2_isSpan_1 : decode cX2_isSpan 1 = .ok (.iconst 0, 1) := by decide +kernel
theorem dX2_isSpan_2 : decode cX2_isSpan 2 = .ok (.sipush 200, 3) := by decide +kernel
theorem dX2_isSpan_5 : decode cX2_isSpan 5 = .ok (.invokestatic 30, 3) := by decide +kernel
theorem dX2_isSpan_8 : decode cX2_isSpan 8 = .ok (.ifCond .eq 18, 3) := by decide +kernel
theorem dX2_isSpan_11 : decode cX2_isSpan 11 = .ok (.iload_n 1, 1) := by decide +kernel
theorem dX2_isSpan_12 : decode cX2_isSpan 12 = .ok (.iload_n 0, 1) := by decide +kernel
theorem dX2_isSpan_13 : decode cX2_isSpan 13 = .ok (.sipush 200, 3) := by decide +kernel
theorem dX2_isSpan_16 : decode cX2_isSpan 16 = .ok (.invokestatic 30, 3) := by decide +kernel
theorem dX2_isSpan_19 : decode cX2_isSpan 19 = .ok (.ifCond .eq 7, 3) := by decide +kernel
theorem dX2_isSpan_22 : decode cX2_isSpan 22 = .ok (.iconst 1, 1) := by decide +kernel
theorem dX2_isSpan_23 : decode cX2_isSpan 23 = .ok (.goto 4, 3) := by decide +kernel
theorem dX2_isSpan_26 : decode cX2_isSpan 26 = .ok (.iconst 0, 1) := by decide +kernel
theorem dX2_isSpan_27 : decode cX2_isSpan 27 = .ok (.ireturn, 1) := by decide +kernel
theorem dX2_isWithin_0 : decode cX2_isWithin 0 = .ok (.iload_n 0, 1) := by decide +kernel
theorem dX2_isWithin_1 : decode cX2_isWithin 1 = .ok (.iload_n 1, 1) := by decide +kernel
theorem dX2_isWithin_2 : decode cX2_isWithin 2 = .ok (.if_icmp .lt 12, 3) := by decide +kernel
theorem dX2_isWithin_5 : decode cX2_isWithin 5 = .ok (.iload_n 0, 1) := by decide +kernel
theorem dX2_isWithin_6 : decode cX2_isWithin 6 = .ok (.iload_n 2, 1) := by decide +kernel
theorem dX2_isWithin_7 : decode cX2_isWithin 7 = .ok (.if_icmp .gt 7, 3) := by decide +kernel
theorem dX2_isWithin_10 : decode cX2_isWithin 10 = .ok (.iconst 1, 1) := by decide +kernel
theorem dX2_isWithin_11 : decode cX2_isWithin 11 = .ok (.goto 4, 3) := by decide +kernel
theorem dX2_isWithin_14 : decode cX2_isWithin 14 = .ok (.iconst 0, 1) := by decide +kernel
theorem dX2_isWithin_15 : decode cX2_isWithin 15 = .ok (.ireturn, 1) := by decide +kernel
theorem dX2_requireArgument_0 : decode cX2_requireArgument 0 = .ok (.iload_n 0, 1) := by decide +kernel
theorem dX2_requireArgument_1 : decode cX2_requireArgument 1 = .ok (.ifCond .ne 11, 3) := by decide +kernel
theorem dX2_requireArgument_4 : decode cX2_requireArgument 4 = .ok (.new 144, 3) := by decide +kernel
theorem dX2_requireArgument_7 : decode cX2_requireArgument 7 = .ok (.dup, 1) := by decide +kernel
theorem dX2_requireArgument_8 : decode cX2_requireArgument 8 = .ok (.invokespecial 146, 3) := by decide +kernel
theorem dX2_requireArgument_11 : decode cX2_requireArgument 11 = .ok (.athrow, 1) := by decide +kernel
theorem dX2_requireArgument_12 : decode cX2_requireArgument 12 = .ok (.return_, 1) := by decide +kernel
theorem dX2_requireState_0 : decode cX2_requireState 0 = .ok (.iload_n 0, 1) := by decide +kernel
theorem dX2_requireState_1 : decode cX2_requireState 1 = .ok (.ifCond .ne 11, 3) := by decide +kernel
theorem dX2_requireState_4 : decode cX2_requireState 4 = .ok (.new 147, 3) := by decide +kernel
theorem dX2_requireState_7 : decode cX2_requireState 7 = .ok (.dup, 1) := by decide +kernel
theorem dX2_requireState_8 : decode cX2_requireState 8 = .ok (.invokespecial 149, 3) := by decide +kernel
theorem dX2_requireState_11 : decode cX2_requireState 11 = .ok (.athrow, 1) := by decide +kernel
theorem dX2_requireState_12 : decode cX2_requireState 12 = .ok (.return_, 1) := by decide +kernel
theorem dX3_init_0 : decode cX3_init 0 = .ok (.aload_n 0, 1) := by decide +kernel
theorem dX3_init_1 : decode cX3_init 1 = .ok (.invokespecial 1, 3) := by decide +kernel
theorem dX3_init_4 : decode cX3_init 4 = .ok (.aload_n 0, 1) := by decide +kernel
theorem dX3_init_5 : decode cX3_init 5 = .ok (.bipush 8, 2) := by decide +kernel
theorem dX3_init_7 : decode cX3_init 7 = .ok (.newarray .int, 2) := by decide +kernel
theorem dX3_init_9 : decode cX3_init 9 = .ok (.putfield 7, 3) := by decide +kernel
theorem dX3_init_12 : decode cX3_init 12 = .ok (.aload_n 0, 1) := by decide +kernel
theorem dX3_init_13 : decode cX3_init 13 = .ok (.bipush 8, 2) := by decide +kernel
theorem dX3_init_15 : decode cX3_init 15 = .ok (.newarray .boolean, 2) := by decide +kernel
theorem dX3_init_17 : decode cX3_init 17 = .ok (.putfield 13, 3) := by decide +kernel
theorem dX3_init_20 : decode cX3_init 20 = .ok (.aload_n 0, 1) := by decide +kernel
theorem dX3_init_21 : decode cX3_init 21 = .ok (.bipush 8, 2) := by decide +kernel
theorem dX3_init_23 : decode cX3_init 23 = .ok (.newarray .int, 2) := by decide +kernel
theorem dX3_init_25 : decode cX3_init 25 = .ok (.putfield 17, 3) := by decide +kernel
theorem dX3_init_28 : decode cX3_init 28 = .ok (.aload_n 0, 1) := by decide +kernel
theorem dX3_init_29 : decode cX3_init 29 = .ok (.sipush 240, 3) := by decide +kernel
theorem dX3_init_32 : decode cX3_init 32 = .ok (.newarray .int, 2) := by decide +kernel
theorem dX3_init_34 : decode cX3_init 34 = .ok (.putfield 20, 3) := by decide +kernel
theorem dX3_init_37 : decode cX3_init 37 = .ok (.aload_n 0, 1) := by decide +kernel
theorem dX3_init_38 : decode cX3_init 38 = .ok (.sipush 240, 3) := by decide +kernel
theorem dX3_init_41 : decode cX3_init 41 = .ok (.newarray .int, 2) := by decide +kernel
theorem dX3_init_43 : decode cX3_init 43 = .ok (.putfield 23, 3) := by decide +kernel
theorem dX3_init_46 : decode cX3_init 46 = .ok (.aload_n 0, 1) := by decide +kernel
theorem dX3_init_47 : decode cX3_init 47 = .ok (.sipush 240, 3) := by decide +kernel
theorem dX3_init_50 : decode cX3_init 50 = .ok (.newarray .int, 2) := by decide +kernel
theorem dX3_init_52 : decode cX3_init 52 = .ok (.putfield 26, 3) := by decide +kernel
theorem dX3_init_55 : decode cX3_init 55 = .ok (.aload_n 0, 1) := by decide +kernel
theorem dX3_init_56 : decode cX3_init 56 = .ok (.bipush 8, 2) := by decide +kernel
theorem dX3_init_58 : decode cX3_init 58 = .ok (.newarray .int, 2) := by decide +kernel
theorem dX3_init_60 : decode cX3_init 60 = .ok (.putfield 29, 3) := by decide +kernel
theorem dX3_init_63 : decode cX3_init 63 = .ok (.aload_n 0, 1) := by decide +kernel
theorem dX3_init_64 : decode cX3_init 64 = .ok (.bipush 8, 2) := by decide +kernel
theorem dX3_init_66 : decode cX3_init 66 = .ok (.newarray .int, 2) := by decide +kernel
theorem dX3_init_68 : decode cX3_init 68 = .ok (.putfield 32, 3) := by decide +kernel
theorem dX3_init_71 : decode cX3_init 71 = .ok (.aload_n 0, 1) := by decide +kernel
theorem dX3_init_72 : decode cX3_init 72 = .ok (.bipush 10, 2) := by decide +kernel
theorem dX3_init_74 : decode cX3_init 74 = .ok (.newarray .int, 2) := by decide +kernel
theorem dX3_init_76 : decode cX3_init 76 = .ok (.putfield 35, 3) := by decide +kernel
theorem dX3_init_79 : decode cX3_init 79 = .ok (.aload_n 0, 1) := by decide +kernel
theorem dX3_init_80 : decode cX3_init 80 = .ok (.bipush 10, 2) := by decide +kernel
theorem dX3_init_82 : decode cX3_init 82 = .ok (.newarray .int, 2) := by decide +kernel
theorem dX3_init_84 : decode cX3_init 84 = .ok (.putfield 38, 3) := by decide +kernel
theorem dX3_init_87 : decode cX3_init 87 = .ok (.aload_n 0, 1) := by decide +kernel
theorem dX3_init_88 : decode cX3_init 88 = .ok (.bipush 10, 2) := by decide +kernel
theorem dX3_init_90 : decode cX3_init 90 = .ok (.newarray .int, 2) := by decide +kernel
theorem dX3_init_92 : decode cX3_init 92 = .ok (.putfield 41, 3) := by decide +kernel
theorem dX3_init_95 : decode cX3_init 95 = .ok (.aload_n 0, 1) := by decide +kernel
theorem dX3_init_96 : decode cX3_init 96 = .ok (.bipush 10, 2) := by decide +kernel
theorem dX3_init_98 : decode cX3_init 98 = .ok (.newarray .int, 2) := by decide +kernel
theorem dX3_init_100 : decode cX3_init 100 = .ok (.putfield 44, 3) := by decide +kernel
theorem dX3_init_103 : decode cX3_init 103 = .ok (.aload_n 0, 1) := by decide +kernel
theorem dX3_init_104 : decode cX3_init 104 = .ok (.bipush 80, 2) := by decide +kernel
theorem dX3_init_106 : decode cX3_init 106 = .ok (.newarray .boolean, 2) := by decide +kernel
theorem dX3_init_108 : decode cX3_init 108 = .ok (.putfield 47, 3) := by decide +kernel
theorem dX3_init_111 : decode cX3_init 111 = .ok (.aload_n 0, 1) := by decide +kernel
theorem dX3_init_112 : decode cX3_init 112 = .ok (.bipush 50, 2) := by decide +kernel
theorem dX3_init_114 : decode cX3_init 114 = .ok (.putfield 50, 3) := by decide +kernel
theorem dX3_init_117 : decode cX3_init 117 = .ok (.aload_n 0, 1) := by decide +kernel
theorem dX3_init_118 : decode cX3_init 118 = .ok (.sipush 1608, 3) := by decide +kernel
theorem dX3_init_121 : decode cX3_init 121 = .ok (.newarray .int, 2) := by decide +kernel
theorem dX3_init_123 : decode cX3_init 123 = .ok (.putfield 54, 3) := by decide +kernel
theorem dX3_init_126 : decode cX3_init 126 = .ok (.aload_n 0, 1) := by decide +kernel
theorem dX3_init_127 : decode cX3_init 127 = .ok (.sipush 1608, 3) := by decide +kernel
theorem dX3_init_130 : decode cX3_init 130 = .ok (.newarray .int, 2) := by decide +kernel
theorem dX3_init_132 : decode cX3_init 132 = .ok (.putfield 57, 3) := by decide +kernel
theorem dX3_init_135 : decode cX3_init 135 = .ok (.aload_n 0, 1) := by decide +kernel
theorem dX3_init_136 : decode cX3_init 136 = .ok (.sipush 1608, 3) := by decide +kernel
theorem dX3_init_139 : decode cX3_init 139 = .ok (.newarray .int, 2) := by decide +kernel
theorem dX3_init_141 : decode cX3_init 141 = .ok (.putfield 60, 3) := by decide +kernel
theorem dX3_init_144 : decode cX3_init 144 = .ok (.aload_n 0, 1) := by decide +kernel
theorem dX3_init_145 : decode cX3_init 145 = .ok (.sipush 1608, 3) := by decide +kernel
theorem dX3_init_148 : decode cX3_init 148 = .ok (.newarray .int, 2) := by decide +kernel
theorem dX3_init_150 : decode cX3_init 150 = .ok (.putfield 63, 3) := by decide +kernel
theorem dX3_init_153 : decode cX3_init 153 = .ok (.aload_n 0, 1) := by decide +kernel
theorem dX3_init_154 : decode cX3_init 154 = .ok (.sipush 1608, 3) := by decide +kernel
theorem dX3_init_157 : decode cX3_init 157 = .ok (.newarray .boolean, 2) := by decide +kernel
theorem dX3_init_159 : decode cX3_init 159 = .ok (.putfield 66, 3) := by decide +kernel
theorem dX3_init_162 : decode cX3_init 162 = .ok (.aload_n 0, 1) := by decide +kernel
theorem dX3_init_163 : decode cX3_init 163 = .ok (.sipush 201, 3) := by decide +kernel
theorem dX3_init_166 : decode cX3_init 166 = .ok (.newarray .boolean, 2) := by decide +kernel
theorem dX3_init_168 : decode cX3_init 168 = .ok (.putfield 69, 3) := by decide +kernel
theorem dX3_init_171 : decode cX3_init 171 = .ok (.iconst 0, 1) := by decide +kernel
theorem dX3_init_172 : decode cX3_init 172 = .ok (.istore_n 1, 1) := by decide +kernel
theorem dX3_init_173 : decode cX3_init 173 = .ok (.iload_n 1, 1) := by decide +kernel
theorem dX3_init_174 : decode cX3_init 174 = .ok (.sipush 1608, 3) := by decide +kernel
theorem dX3_init_177 : decode cX3_init 177 = .ok (.if_icmp .ge 16, 3) := by decide +kernel
theorem dX3_init_180 : decode cX3_init 180 = .ok (.aload_n 0, 1) := by decide +kernel
theorem dX3_init_181 : decode cX3_init 181 = .ok (.getfield 63, 3) := by decide +kernel
theorem dX3_init_184 : decode cX3_init 184 = .ok (.iload_n 1, 1) := by decide +kernel
theorem dX3_init_185 : decode cX3_init 185 = .ok (.iconst (-1), 1) := by decide +kernel
theorem dX3_init_186 : decode cX3_init 186 = .ok (.iastore, 1) := by decide +kernel
theorem dX3_init_187 : decode cX3_init 187 = .ok (.iinc 1 1, 3) := by decide +kernel
theorem dX3_init_190 : decode cX3_init 190 = .ok (.goto (-17), 3) := by decide +kernel
theorem dX3_init_193 : decode cX3_init 193 = .ok (.return_, 1) := by decide +kernel
theorem dX3_thrown_0 : decode cX3_thrown 0 = .ok (.aload_n 0, 1) := by decide +kernel
theorem dX3_thrown_1 : decode cX3_thrown 1 = .ok (.getfield 72, 3) := by decide +kernel
theorem dX3_thrown_4 : decode cX3_thrown 4 = .ok (.ireturn, 1) := by decide +kernel
theorem dX3_fails_0 : decode cX3_fails 0 = .ok (.aload_n 0, 1) := by decide +kernel
theorem dX3_fails_1 : decode cX3_fails 1 = .ok (.iload_n 1, 1) := by decide +kernel
theorem dX3_fails_2 : decode cX3_fails 2 = .ok (.putfield 72, 3) := by decide +kernel
theorem dX3_fails_5 : decode cX3_fails 5 = .ok (.iconst 0, 1) := by decide +kernel
theorem dX3_fails_6 : decode cX3_fails 6 = .ok (.ireturn, 1) := by decide +kernel
theorem dX3_asks_0 : decode cX3_asks 0 = .ok (.aload_n 0, 1) := by decide +kernel
theorem dX3_asks_1 : decode cX3_asks 1 = .ok (.iload_n 1, 1) := by decide +kernel
theorem dX3_asks_2 : decode cX3_asks 2 = .ok (.ifCond .eq 7, 3) := by decide +kernel
theorem dX3_asks_5 : decode cX3_asks 5 = .ok (.iconst 0, 1) := by decide +kernel
theorem dX3_asks_6 : decode cX3_asks 6 = .ok (.goto 4, 3) := by decide +kernel
theorem dX3_asks_9 : decode cX3_asks 9 = .ok (.iconst 1, 1) := by decide +kernel
theorem dX3_asks_10 : decode cX3_asks 10 = .ok (.putfield 72, 3) := by decide +kernel
theorem dX3_asks_13 : decode cX3_asks 13 = .ok (.iload_n 1, 1) := by decide +kernel
theorem dX3_asks_14 : decode cX3_asks 14 = .ok (.ireturn, 1) := by decide +kernel
theorem dX3_in_0 : decode cX3_in 0 = .ok (.iload_n 0, 1) := by decide +kernel
theorem dX3_in_1 : decode cX3_in 1 = .ok (.iload_n 1, 1) := by decide +kernel
theorem dX3_in_2 : decode cX3_in 2 = .ok (.if_icmp .lt 12, 3) := by decide +kernel
theorem dX3_in_5 : decode cX3_in 5 = .ok (.iload_n 0, 1) := by decide +kernel
theorem dX3_in_6 : decode cX3_in 6 = .ok (.iload_n 2, 1) := by decide +kernel
theorem dX3_in_7 : decode cX3_in 7 = .ok (.if_icmp .gt 7, 3) := by decide +kernel
theorem dX3_in_10 : decode cX3_in 10 = .ok (.iconst 1, 1) := by decide +kernel
theorem dX3_in_11 : decode cX3_in 11 = .ok (.goto 4, 3) := by decide +kernel
theorem dX3_in_14 : decode cX3_in 14 = .ok (.iconst 0, 1) := by decide +kernel
theorem dX3_in_15 : decode cX3_in 15 = .ok (.ireturn, 1) := by decide +kernel
theorem dX3_isWorker_0 : decode cX3_isWorker 0 = .ok (.iload_n 1, 1) := by decide +kernel
theorem dX3_isWorker_1 : decode cX3_isWorker 1 = .ok (.ifCond .lt 15, 3) := by decide +kernel
theorem dX3_isWorker_4 : decode cX3_isWorker 4 = .ok (.iload_n 1, 1) := by decide +kernel
theorem dX3_isWorker_5 : decode cX3_isWorker 5 = .ok (.aload_n 0, 1) := by decide +kernel
theorem dX3_isWorker_6 : decode cX3_isWorker 6 = .ok (.getfield 75, 3) := by decide +kernel
theorem dX3_isWorker_9 : decode cX3_isWorker 9 = .ok (.if_icmp .ge 7, 3) := by decide +kernel
theorem dX3_isWorker_12 : decode cX3_isWorker 12 = .ok (.iconst 1, 1) := by decide +kernel
theorem dX3_isWorker_13 : decode cX3_isWorker 13 = .ok (.goto 4, 3) := by decide +kernel
theorem dX3_isWorker_16 : decode cX3_isWorker 16 = .ok (.iconst 0, 1) := by decide +kernel
theorem dX3_isWorker_17 : decode cX3_isWorker 17 = .ok (.ireturn, 1) := by decide +kernel
theorem dX3_isCourse_0 : decode cX3_isCourse 0 = .ok (.iload_n 1, 1) := by decide +kernel
theorem dX3_isCourse_1 : decode cX3_isCourse 1 = .ok (.ifCond .lt 15, 3) := by decide +kernel
theorem dX3_isCourse_4 : decode cX3_isCourse 4 = .ok (.iload_n 1, 1) := by decide +kernel
theorem dX3_isCourse_5 : decode cX3_isCourse 5 = .ok (.aload_n 0, 1) := by decide +kernel
theorem dX3_isCourse_6 : decode cX3_isCourse 6 = .ok (.getfield 78, 3) := by decide +kernel
theorem dX3_isCourse_9 : decode cX3_isCourse 9 = .ok (.if_icmp .ge 7, 3) := by decide +kernel
theorem dX3_isCourse_12 : decode cX3_isCourse 12 = .ok (.iconst 1, 1) := by decide +kernel
theorem dX3_isCourse_13 : decode cX3_isCourse 13 = .ok (.goto 4, 3) := by decide +kernel
theorem dX3_isCourse_16 : decode cX3_isCourse 16 = .ok (.iconst 0, 1) := by decide +kernel
theorem dX3_isCourse_17 : decode cX3_isCourse 17 = .ok (.ireturn, 1) := by decide +kernel
theorem dX3_add_0 : decode cX3_add 0 = .ok (.aload_n 0, 1) := by decide +kernel
theorem dX3_add_1 : decode cX3_add 1 = .ok (.iload_n 1, 1) := by decide +kernel
theorem dX3_add_2 : decode cX3_add 2 = .ok (.iconst 1, 1) := by decide +kernel
theorem dX3_add_3 : decode cX3_add 3 = .ok (.ldc 81, 2) := by decide +kernel
theorem dX3_add_5 : decode cX3_add 5 = .ok (.invokestatic 82, 3) := by decide +kernel
theorem dX3_add_8 : decode cX3_add 8 = .ok (.invokevirtual 86, 3) := by decide +kernel
theorem dX3_add_11 : decode cX3_add 11 = .ok (.ifCond .ne 5, 3) := by decide +kernel
theorem dX3_add_14 : decode cX3_add 14 = .ok (.iconst 0, 1) := by decide +kernel
theorem dX3_add_15 : decode cX3_add 15 = .ok (.ireturn, 1) := by decide +kernel
theorem dX3_add_16 : decode cX3_add 16 = .ok (.aload_n 0, 1) := by decide +kernel
theorem dX3_add_17 : decode cX3_add 17 = .ok (.getfield 75, 3) := by decide +kernel
theorem dX3_add_20 : decode cX3_add 20 = .ok (.bipush 8, 2) := by decide +kernel
theorem dX3_add_22 : decode cX3_add 22 = .ok (.if_icmp .ne 9, 3) := by decide +kernel
theorem dX3_add_25 : decode cX3_add 25 = .ok (.aload_n 0, 1) := by decide +kernel
theorem dX3_add_26 : decode cX3_add 26 = .ok (.iconst 2, 1) := by decide +kernel
theorem dX3_add_27 : decode cX3_add 27 = .ok (.invokevirtual 90, 3) := by decide +kernel
theorem dX3_add_30 : decode cX3_add 30 = .ok (.ireturn, 1) := by decide +kernel
theorem dX3_add_31 : decode cX3_add 31 = .ok (.aload_n 0, 1) := by decide +kernel
theorem dX3_add_32 : decode cX3_add 32 = .ok (.getfield 7, 3) := by decide +kernel
theorem dX3_add_35 : decode cX3_add 35 = .ok (.aload_n 0, 1) := by decide +kernel
theorem dX3_add_36 : decode cX3_add 36 = .ok (.getfield 75, 3) := by decide +kernel
theorem dX3_add_39 : decode cX3_add 39 = .ok (.iload_n 1, 1) := by decide +kernel
theorem dX3_add_40 : decode cX3_add 40 = .ok (.iastore, 1) := by decide +kernel
theorem dX3_add_41 : decode cX3_add 41 = .ok (.aload_n 0, 1) := by decide +kernel
theorem dX3_add_42 : decode cX3_add 42 = .ok (.getfield 13, 3) := by decide +kernel
theorem dX3_add_45 : decode cX3_add 45 = .ok (.aload_n 0, 1) := by decide +kernel
theorem dX3_add_46 : decode cX3_add 46 = .ok (.getfield 75, 3) := by decide +kernel
theorem dX3_add_49 : decode cX3_add 49 = .ok (.iload_n 2, 1) := by decide +kernel
theorem dX3_add_50 : decode cX3_add 50 = .ok (.bastore, 1) := by decide +kernel
theorem dX3_add_51 : decode cX3_add 51 = .ok (.aload_n 0, 1) := by decide +kernel
theorem dX3_add_52 : decode cX3_add 52 = .ok (.dup, 1) := by decide +kernel
theorem dX3_add_53 : decode cX3_add 53 = .ok (.getfield 75, 3) := by decide +kernel
theorem dX3_add_56 : decode cX3_add 56 = .ok (.iconst 1, 1) := by decide +kernel
theorem dX3_add_57 : decode cX3_add 57 = .ok (.iadd, 1) := by decide +kernel
theorem dX3_add_58 : decode cX3_add 58 = .ok (.putfield 75, 3) := by decide +kernel
theorem dX3_add_61 : decode cX3_add 61 = .ok (.aload_n 0, 1) := by decide +kernel
theorem dX3_add_62 : decode cX3_add 62 = .ok (.getfield 75, 3) := by decide +kernel
theorem dX3_add_65 : decode cX3_add 65 = .ok (.iconst 1, 1) := by decide +kernel
theorem dX3_add_66 : decode cX3_add 66 = .ok (.isub, 1) := by decide +kernel
theorem dX3_add_67 : decode cX3_add 67 = .ok (.ireturn, 1) := by decide +kernel
theorem dX3_notice_0 : decode cX3_notice 0 = .ok (.aload_n 0, 1) := by decide +kernel
theorem dX3_notice_1 : decode cX3_notice 1 = .ok (.aload_n 0, 1) := by decide +kernel
theorem dX3_notice_2 : decode cX3_notice 2 = .ok (.iload_n 1, 1) := by decide +kernel
theorem dX3_notice_3 : decode cX3_notice 3 = .ok (.invokevirtual 94, 3) := by decide +kernel
theorem dX3_notice_6 : decode cX3_notice 6 = .ok (.invokevirtual 86, 3) := by decide +kernel
theorem dX3_notice_9 : decode cX3_notice 9 = .ok (.ifCond .ne 5, 3) := by decide +kernel
theorem dX3_notice_12 : decode cX3_notice 12 = .ok (.iconst 0, 1) := by decide +kernel
theorem dX3_notice_13 : decode cX3_notice 13 = .ok (.ireturn, 1) := by decide +kernel
theorem dX3_notice_14 : decode cX3_notice 14 = .ok (.iload_n 2, 1) := by decide +kernel
theorem dX3_notice_15 : decode cX3_notice 15 = .ok (.iconst 0, 1) := by decide +kernel
theorem dX3_notice_16 : decode cX3_notice 16 = .ok (.sipush 200, 3) := by decide +kernel
theorem dX3_notice_19 : decode cX3_notice 19 = .ok (.invokestatic 82, 3) := by decide +kernel
theorem dX3_notice_22 : decode cX3_notice 22 = .ok (.ifCond .eq 25, 3) := by decide +kernel
theorem dX3_notice_25 : decode cX3_notice 25 = .ok (.iload_n 3, 1) := by decide +kernel
theorem dX3_notice_26 : decode cX3_notice 26 = .ok (.iload_n 2, 1) := by decide +kernel
theorem dX3_notice_27 : decode cX3_notice 27 = .ok (.sipush 200, 3) := by decide +kernel
theorem dX3_notice_30 : decode cX3_notice 30 = .ok (.invokestatic 82, 3) := by decide +kernel
theorem dX3_notice_33 : decode cX3_notice 33 = .ok (.ifCond .eq 14, 3) := by decide +kernel
theorem dX3_notice_36 : decode cX3_notice 36 = .ok (.iload 4, 2) := by decide +kernel
theorem dX3_notice_38 : decode cX3_notice 38 = .ok (.iconst 0, 1) := by decide +kernel
theorem dX3_notice_39 : decode cX3_notice 39 = .ok (.bipush 40, 2) := by decide +kernel
theorem dX3_notice_41 : decode cX3_notice 41 = .ok (.invokestatic 82, 3) := by decide +kernel
theorem dX3_notice_44 : decode cX3_notice 44 = .ok (.ifCond .ne 9, 3) := by decide +kernel
theorem dX3_notice_47 : decode cX3_notice 47 = .ok (.aload_n 0, 1) := by decide +kernel
theorem dX3_notice_48 : decode cX3_notice 48 = .ok (.iconst 2, 1) := by decide +kernel
theorem dX3_notice_49 : decode cX3_notice 49 = .ok (.invokevirtual 90, 3) := by decide +kernel
theorem dX3_notice_52 : decode cX3_notice 52 = .ok (.ireturn, 1) := by decide +kernel
theorem dX3_notice_53 : decode cX3_notice 53 = .ok (.iload_n 2, 1) := by decide +kernel
theorem dX3_notice_54 : decode cX3_notice 54 = .ok (.aload_n 0, 1) := by decide +kernel
theorem dX3_notice_55 : decode cX3_notice 55 = .ok (.getfield 98, 3) := by decide +kernel
theorem dX3_notice_58 : decode cX3_notice 58 = .ok (.iconst 2, 1) := by decide +kernel
theorem dX3_notice_59 : decode cX3_notice 59 = .ok (.iadd, 1) := by decide +kernel
theorem dX3_notice_60 : decode cX3_notice 60 = .ok (.if_icmp .lt 14, 3) := by decide +kernel
theorem dX3_notice_63 : decode cX3_notice 63 = .ok (.aload_n 0, 1) := by decide +kernel
theorem dX3_notice_64 : decode cX3_notice 64 = .ok (.getfield 17, 3) := by decide +kernel
theorem dX3_notice_67 : decode cX3_notice 67 = .ok (.iload_n 1, 1) := by decide +kernel
theorem dX3_notice_68 : decode cX3_notice 68 = .ok (.iaload, 1) := by decide +kernel
theorem dX3_notice_69 : decode cX3_notice 69 = .ok (.bipush 30, 2) := by decide +kernel
theorem dX3_notice_71 : decode cX3_notice 71 = .ok (.if_icmp .ne 9, 3) := by decide +kernel
theorem dX3_notice_74 : decode cX3_notice 74 = .ok (.aload_n 0, 1) := by decide +kernel
theorem dX3_notice_75 : decode cX3_notice 75 = .ok (.iconst 3, 1) := by decide +kernel
theorem dX3_notice_76 : decode cX3_notice 76 = .ok (.invokevirtual 90, 3) := by decide +kernel
theorem dX3_notice_79 : decode cX3_notice 79 = .ok (.ireturn, 1) := by decide +kernel
theorem dX3_notice_80 : decode cX3_notice 80 = .ok (.bipush 30, 2) := by decide +kernel
theorem dX3_notice_82 : decode cX3_notice 82 = .ok (.iload_n 1, 1) := by decide +kernel
theorem dX3_notice_83 : decode cX3_notice 83 = .ok (.imul, 1) := by decide +kernel
theorem dX3_notice_84 : decode cX3_notice 84 = .ok (.aload_n 0, 1) := by decide +kernel
theorem dX3_notice_85 : decode cX3_notice 85 = .ok (.getfield 17, 3) := by decide +kernel
theorem dX3_notice_88 : decode cX3_notice 88 = .ok (.iload_n 1, 1) := by decide +kernel
theorem dX3_notice_89 : decode cX3_notice 89 = .ok (.iaload, 1) := by decide +kernel
theorem dX3_notice_90 : decode cX3_notice 90 = .ok (.iadd, 1) := by decide +kernel
theorem dX3_notice_91 : decode cX3_notice 91 = .ok (.istore 5, 2) := by decide +kernel
theorem dX3_notice_93 : decode cX3_notice 93 = .ok (.aload_n 0, 1) := by decide +kernel
theorem dX3_notice_94 : decode cX3_notice 94 = .ok (.getfield 20, 3) := by decide +kernel
theorem dX3_notice_97 : decode cX3_notice 97 = .ok (.iload 5, 2) := by decide +kernel
theorem dX3_notice_99 : decode cX3_notice 99 = .ok (.iload_n 2, 1) := by decide +kernel
theorem dX3_notice_100 : decode cX3_notice 100 = .ok (.iastore, 1) := by decide +kernel
theorem dX3_notice_101 : decode cX3_notice 101 = .ok (.aload_n 0, 1) := by decide +kernel
theorem dX3_notice_102 : decode cX3_notice 102 = .ok (.getfield 23, 3) := by decide +kernel
theorem dX3_notice_105 : decode cX3_notice 105 = .ok (.iload 5, 2) := by decide +kernel
theorem dX3_notice_107 : decode cX3_notice 107 = .ok (.iload_n 3, 1) := by decide +kernel
theorem dX3_notice_108 : decode cX3_notice 108 = .ok (.iastore, 1) := by decide +kernel
theorem dX3_notice_109 : decode cX3_notice 109 = .ok (.aload_n 0, 1) := by decide +kernel
theorem dX3_notice_110 : decode cX3_notice 110 = .ok (.getfield 26, 3) := by decide +kernel
theorem dX3_notice_113 : decode cX3_notice 113 = .ok (.iload 5, 2) := by decide +kernel
theorem dX3_notice_115 : decode cX3_notice 115 = .ok (.iload 4, 2) := by decide +kernel
theorem dX3_notice_117 : decode cX3_notice 117 = .ok (.iastore, 1) := by decide +kernel
theorem dX3_notice_118 : decode cX3_notice 118 = .ok (.aload_n 0, 1) := by decide +kernel
theorem dX3_notice_119 : decode cX3_notice 119 = .ok (.getfield 17, 3) := by decide +kernel
theorem dX3_notice_122 : decode cX3_notice 122 = .ok (.iload_n 1, 1) := by decide +kernel
theorem dX3_notice_123 : decode cX3_notice 123 = .ok (.dup2, 1) := by decide +kernel
theorem dX3_notice_124 : decode cX3_notice 124 = .ok (.iaload, 1) := by decide +kernel
theorem dX3_notice_125 : decode cX3_notice 125 = .ok (.iconst 1, 1) := by decide +kernel
theorem dX3_notice_126 : decode cX3_notice 126 = .ok (.iadd, 1) := by decide +kernel
theorem dX3_notice_127 : decode cX3_notice 127 = .ok (.iastore, 1) := by decide +kernel
theorem dX3_notice_128 : decode cX3_notice 128 = .ok (.aload_n 0, 1) := by decide +kernel
theorem dX3_notice_129 : decode cX3_notice 129 = .ok (.getfield 17, 3) := by decide +kernel
theorem dX3_notice_132 : decode cX3_notice 132 = .ok (.iload_n 1, 1) := by decide +kernel
theorem dX3_notice_133 : decode cX3_notice 133 = .ok (.iaload, 1) := by decide +kernel
theorem dX3_notice_134 : decode cX3_notice 134 = .ok (.ireturn, 1) := by decide +kernel
theorem dX3_addCourse_0 : decode cX3_addCourse 0 = .ok (.aload_n 0, 1) := by decide +kernel
theorem dX3_addCourse_1 : decode cX3_addCourse 1 = .ok (.iload_n 1, 1) := by decide +kernel
theorem dX3_addCourse_2 : decode cX3_addCourse 2 = .ok (.iconst 1, 1) := by decide +kernel
theorem dX3_addCourse_3 : decode cX3_addCourse 3 = .ok (.bipush 8, 2) := by decide +kernel
theorem dX3_addCourse_5 : decode cX3_addCourse 5 = .ok (.invokestatic 82, 3) := by decide +kernel
theorem dX3_addCourse_8 : decode cX3_addCourse 8 = .ok (.ifCond .eq 40, 3) := by decide +kernel
theorem dX3_addCourse_11 : decode cX3_addCourse 11 = .ok (.iload_n 2, 1) := by decide +kernel
theorem dX3_addCourse_12 : decode cX3_addCourse 12 = .ok (.iconst 0, 1) := by decide +kernel
theorem dX3_addCourse_13 : decode cX3_addCourse 13 = .ok (.sipush 200, 3) := by decide +kernel
theorem dX3_addCourse_16 : decode cX3_addCourse 16 = .ok (.invokestatic 82, 3) := by decide +kernel
theorem dX3_addCourse_19 : decode cX3_addCourse 19 = .ok (.ifCond .eq 29, 3) := by decide +kernel
theorem dX3_addCourse_22 : decode cX3_addCourse 22 = .ok (.iload_n 3, 1) := by decide +kernel
theorem dX3_addCourse_23 : decode cX3_addCourse 23 = .ok (.iload_n 2, 1) := by decide +kernel
theorem dX3_addCourse_24 : decode cX3_addCourse 24 = .ok (.sipush 200, 3) := by decide +kernel
theorem dX3_addCourse_27 : decode cX3_addCourse 27 = .ok (.invokestatic 82, 3) := by decide +kernel
theorem dX3_addCourse_30 : decode cX3_addCourse 30 = .ok (.ifCond .eq 18, 3) := by decide +kernel
theorem dX3_addCourse_33 : decode cX3_addCourse 33 = .ok (.iload 4, 2) := by decide +kernel
theorem dX3_addCourse_35 : decode cX3_addCourse 35 = .ok (.iconst 1, 1) := by decide +kernel
theorem dX3_addCourse_36 : decode cX3_addCourse 36 = .ok (.bipush 40, 2) := by decide +kernel
theorem dX3_addCourse_38 : decode cX3_addCourse 38 = .ok (.invokestatic 82, 3) := by decide +kernel
theorem dX3_addCourse_41 : decode cX3_addCourse 41 = .ok (.ifCond .eq 7, 3) := by decide +kernel
theorem dX3_addCourse_44 : decode cX3_addCourse 44 = .ok (.iconst 1, 1) := by decide +kernel
theorem dX3_addCourse_45 : decode cX3_addCourse 45 = .ok (.goto 4, 3) := by decide +kernel
theorem dX3_addCourse_48 : decode cX3_addCourse 48 = .ok (.iconst 0, 1) := by decide +kernel
theorem dX3_addCourse_49 : decode cX3_addCourse 49 = .ok (.invokevirtual 86, 3) := by decide +kernel
theorem dX3_addCourse_52 : decode cX3_addCourse 52 = .ok (.ifCond .ne 5, 3) := by decide +kernel
theorem dX3_addCourse_55 : decode cX3_addCourse 55 = .ok (.iconst 0, 1) := by decide +kernel
theorem dX3_addCourse_56 : decode cX3_addCourse 56 = .ok (.ireturn, 1) := by decide +kernel
theorem dX3_addCourse_57 : decode cX3_addCourse 57 = .ok (.aload_n 0, 1) := by decide +kernel
theorem dX3_addCourse_58 : decode cX3_addCourse 58 = .ok (.getfield 78, 3) := by decide +kernel
theorem dX3_addCourse_61 : decode cX3_addCourse 61 = .ok (.bipush 10, 2) := by decide +kernel
theorem dX3_addCourse_63 : decode cX3_addCourse 63 = .ok (.if_icmp .ne 9, 3) := by decide +kernel
theorem dX3_addCourse_66 : decode cX3_addCourse 66 = .ok (.aload_n 0, 1) := by decide +kernel
theorem dX3_addCourse_67 : decode cX3_addCourse 67 = .ok (.iconst 2, 1) := by decide +kernel
theorem dX3_addCourse_68 : decode cX3_addCourse 68 = .ok (.invokevirtual 90, 3) := by decide +kernel
theorem dX3_addCourse_71 : decode cX3_addCourse 71 = .ok (.ireturn, 1) := by decide +kernel
theorem dX3_addCourse_72 : decode cX3_addCourse 72 = .ok (.aload_n 0, 1) := by decide +kernel
theorem dX3_addCourse_73 : decode cX3_addCourse 73 = .ok (.getfield 35, 3) := by decide +kernel
theorem dX3_addCourse_76 : decode cX3_addCourse 76 = .ok (.aload_n 0, 1) := by decide +kernel
theorem dX3_addCourse_77 : decode cX3_addCourse 77 = .ok (.getfield 78, 3) := by decide +kernel
theorem dX3_addCourse_80 : decode cX3_addCourse 80 = .ok (.iload_n 1, 1) := by decide +kernel
theorem dX3_addCourse_81 : decode cX3_addCourse 81 = .ok (.iastore, 1) := by decide +kernel
theorem dX3_addCourse_82 : decode cX3_addCourse 82 = .ok (.aload_n 0, 1) := by decide +kernel
theorem dX3_addCourse_83 : decode cX3_addCourse 83 = .ok (.getfield 38, 3) := by decide +kernel
theorem dX3_addCourse_86 : decode cX3_addCourse 86 = .ok (.aload_n 0, 1) := by decide +kernel
theorem dX3_addCourse_87 : decode cX3_addCourse 87 = .ok (.getfield 78, 3) := by decide +kernel
theorem dX3_addCourse_90 : decode cX3_addCourse 90 = .ok (.iload_n 2, 1) := by decide +kernel
theorem dX3_addCourse_91 : decode cX3_addCourse 91 = .ok (.iastore, 1) := by decide +kernel
theorem dX3_addCourse_92 : decode cX3_addCourse 92 = .ok (.aload_n 0, 1) := by decide +kernel
theorem dX3_addCourse_93 : decode cX3_addCourse 93 = .ok (.getfield 41, 3) := by decide +kernel
theorem dX3_addCourse_96 : decode cX3_addCourse 96 = .ok (.aload_n 0, 1) := by decide +kernel
theorem dX3_addCourse_97 : decode cX3_addCourse 97 = .ok (.getfield 78, 3) := by decide +kernel
theorem dX3_addCourse_100 : decode cX3_addCourse 100 = .ok (.iload_n 3, 1) := by decide +kernel
theorem dX3_addCourse_101 : decode cX3_addCourse 101 = .ok (.iastore, 1) := by decide +kernel
theorem dX3_addCourse_102 : decode cX3_addCourse 102 = .ok (.aload_n 0, 1) := by decide +kernel
theorem dX3_addCourse_103 : decode cX3_addCourse 103 = .ok (.getfield 44, 3) := by decide +kernel
theorem dX3_addCourse_106 : decode cX3_addCourse 106 = .ok (.aload_n 0, 1) := by decide +kernel
theorem dX3_addCourse_107 : decode cX3_addCourse 107 = .ok (.getfield 78, 3) := by decide +kernel
theorem dX3_addCourse_110 : decode cX3_addCourse 110 = .ok (.iload 4, 2) := by decide +kernel
theorem dX3_addCourse_112 : decode cX3_addCourse 112 = .ok (.iastore, 1) := by decide +kernel
theorem dX3_addCourse_113 : decode cX3_addCourse 113 = .ok (.aload_n 0, 1) := by decide +kernel
theorem dX3_addCourse_114 : decode cX3_addCourse 114 = .ok (.dup, 1) := by decide +kernel
theorem dX3_addCourse_115 : decode cX3_addCourse 115 = .ok (.getfield 78, 3) := by decide +kernel
theorem dX3_addCourse_118 : decode cX3_addCourse 118 = .ok (.iconst 1, 1) := by decide +kernel
theorem dX3_addCourse_119 : decode cX3_addCourse 119 = .ok (.iadd, 1) := by decide +kernel
theorem dX3_addCourse_120 : decode cX3_addCourse 120 = .ok (.putfield 78, 3) := by decide +kernel
theorem dX3_addCourse_123 : decode cX3_addCourse 123 = .ok (.aload_n 0, 1) := by decide +kernel
theorem dX3_addCourse_124 : decode cX3_addCourse 124 = .ok (.getfield 78, 3) := by decide +kernel
theorem dX3_addCourse_127 : decode cX3_addCourse 127 = .ok (.iconst 1, 1) := by decide +kernel
theorem dX3_addCourse_128 : decode cX3_addCourse 128 = .ok (.isub, 1) := by decide +kernel
theorem dX3_addCourse_129 : decode cX3_addCourse 129 = .ok (.ireturn, 1) := by decide +kernel
theorem dX3_meets_0 : decode cX3_meets 0 = .ok (.iconst 0, 1) := by decide +kernel
theorem dX3_meets_1 : decode cX3_meets 1 = .ok (.istore_n 3, 1) := by decide +kernel
theorem dX3_meets_2 : decode cX3_meets 2 = .ok (.iconst 0, 1) := by decide +kernel
theorem dX3_meets_3 : decode cX3_meets 3 = .ok (.istore 4, 2) := by decide +kernel
theorem dX3_meets_5 : decode cX3_meets 5 = .ok (.iload 4, 2) := by decide +kernel
theorem dX3_meets_7 : decode cX3_meets 7 = .ok (.aload_n 0, 1) := by decide +kernel
theorem dX3_meets_8 : decode cX3_meets 8 = .ok (.getfield 78, 3) := by decide +kernel
theorem dX3_meets_11 : decode cX3_meets 11 = .ok (.if_icmp .ge 66, 3) := by decide +kernel
theorem dX3_meets_14 : decode cX3_meets 14 = .ok (.iload_n 3, 1) := by decide +kernel
theorem dX3_meets_15 : decode cX3_meets 15 = .ok (.ifCond .ne 50, 3) := by decide +kernel
theorem dX3_meets_18 : decode cX3_meets 18 = .ok (.aload_n 0, 1) := by decide +kernel
theorem dX3_meets_19 : decode cX3_meets 19 = .ok (.getfield 47, 3) := by decide +kernel
theorem dX3_meets_22 : decode cX3_meets 22 = .ok (.bipush 8, 2) := by decide +kernel
theorem dX3_meets_24 : decode cX3_meets 24 = .ok (.iload 4, 2) := by decide +kernel
theorem dX3_meets_26 : decode cX3_meets 26 = .ok (.imul, 1) := by decide +kernel
theorem dX3_meets_27 : decode cX3_meets 27 = .ok (.iload_n 1, 1) := by decide +kernel
theorem dX3_meets_28 : decode cX3_meets 28 = .ok (.iadd, 1) := by decide +kernel
theorem dX3_meets_29 : decode cX3_meets 29 = .ok (.baload, 1) := by decide +kernel
theorem dX3_meets_30 : decode cX3_meets 30 = .ok (.ifCond .eq 39, 3) := by decide +kernel
theorem dX3_meets_33 : decode cX3_meets 33 = .ok (.aload_n 0, 1) := by decide +kernel
theorem dX3_meets_34 : decode cX3_meets 34 = .ok (.getfield 38, 3) := by decide +kernel
theorem dX3_meets_37 : decode cX3_meets 37 = .ok (.iload 4, 2) := by decide +kernel
theorem dX3_meets_39 : decode cX3_meets 39 = .ok (.iaload, 1) := by decide +kernel
theorem dX3_meets_40 : decode cX3_meets 40 = .ok (.aload_n 0, 1) := by decide +kernel
theorem dX3_meets_41 : decode cX3_meets 41 = .ok (.getfield 41, 3) := by decide +kernel
theorem dX3_meets_44 : decode cX3_meets 44 = .ok (.iload_n 2, 1) := by decide +kernel
theorem dX3_meets_45 : decode cX3_meets 45 = .ok (.iaload, 1) := by decide +kernel
theorem dX3_meets_46 : decode cX3_meets 46 = .ok (.if_icmp .gt 23, 3) := by decide +kernel
theorem dX3_meets_49 : decode cX3_meets 49 = .ok (.aload_n 0, 1) := by decide +kernel
theorem dX3_meets_50 : decode cX3_meets 50 = .ok (.getfield 38, 3) := by decide +kernel
theorem dX3_meets_53 : decode cX3_meets 53 = .ok (.iload_n 2, 1) := by decide +kernel
theorem dX3_meets_54 : decode cX3_meets 54 = .ok (.iaload, 1) := by decide +kernel
theorem dX3_meets_55 : decode cX3_meets 55 = .ok (.aload_n 0, 1) := by decide +kernel
theorem dX3_meets_56 : decode cX3_meets 56 = .ok (.getfield 41, 3) := by decide +kernel
theorem dX3_meets_59 : decode cX3_meets 59 = .ok (.iload 4, 2) := by decide +kernel
theorem dX3_meets_61 : decode cX3_meets 61 = .ok (.iaload, 1) := by decide +kernel
theorem dX3_meets_62 : decode cX3_meets 62 = .ok (.if_icmp .gt 7, 3) := by decide +kernel
theorem dX3_meets_65 : decode cX3_meets 65 = .ok (.iconst 1, 1) := by decide +kernel
theorem dX3_meets_66 : decode cX3_meets 66 = .ok (.goto 4, 3) := by decide +kernel
theorem dX3_meets_69 : decode cX3_meets 69 = .ok (.iconst 0, 1) := by decide +kernel
theorem dX3_meets_70 : decode cX3_meets 70 = .ok (.istore_n 3, 1) := by decide +kernel
theorem dX3_meets_71 : decode cX3_meets 71 = .ok (.iinc 4 1, 3) := by decide +kernel
theorem dX3_meets_74 : decode cX3_meets 74 = .ok (.goto (-69), 3) := by decide +kernel
theorem dX3_meets_77 : decode cX3_meets 77 = .ok (.iload_n 3, 1) := by decide +kernel
theorem dX3_meets_78 : decode cX3_meets 78 = .ok (.ireturn, 1) := by decide +kernel
theorem dX3_enrol_0 : decode cX3_enrol 0 = .ok (.aload_n 0, 1) := by decide +kernel
theorem dX3_enrol_1 : decode cX3_enrol 1 = .ok (.aload_n 0, 1) := by decide +kernel
theorem dX3_enrol_2 : decode cX3_enrol 2 = .ok (.iload_n 1, 1) := by decide +kernel
theorem dX3_enrol_3 : decode cX3_enrol 3 = .ok (.invokevirtual 94, 3) := by decide +kernel
theorem dX3_enrol_6 : decode cX3_enrol 6 = .ok (.ifCond .eq 15, 3) := by decide +kernel
theorem dX3_enrol_9 : decode cX3_enrol 9 = .ok (.aload_n 0, 1) := by decide +kernel
theorem dX3_enrol_10 : decode cX3_enrol 10 = .ok (.iload_n 2, 1) := by decide +kernel
theorem dX3_enrol_11 : decode cX3_enrol 11 = .ok (.invokevirtual 101, 3) := by decide +kernel
theorem dX3_enrol_14 : decode cX3_enrol 14 = .ok (.ifCond .eq 7, 3) := by decide +kernel
theorem dX3_enrol_17 : decode cX3_enrol 17 = .ok (.iconst 1, 1) := by decide +kernel
theorem dX3_enrol_18 : decode cX3_enrol 18 = .ok (.goto 4, 3) := by decide +kernel
theorem dX3_enrol_21 : decode cX3_enrol 21 = .ok (.iconst 0, 1) := by decide +kernel
theorem dX3_enrol_22 : decode cX3_enrol 22 = .ok (.invokevirtual 86, 3) := by decide +kernel
theorem dX3_enrol_25 : decode cX3_enrol 25 = .ok (.ifCond .ne 5, 3) := by decide +kernel
theorem dX3_enrol_28 : decode cX3_enrol 28 = .ok (.iconst 0, 1) := by decide +kernel
theorem dX3_enrol_29 : decode cX3_enrol 29 = .ok (.ireturn, 1) := by decide +kernel
theorem dX3_enrol_30 : decode cX3_enrol 30 = .ok (.aload_n 0, 1) := by decide +kernel
theorem dX3_enrol_31 : decode cX3_enrol 31 = .ok (.getfield 35, 3) := by decide +kernel
theorem dX3_enrol_34 : decode cX3_enrol 34 = .ok (.iload_n 2, 1) := by decide +kernel
theorem dX3_enrol_35 : decode cX3_enrol 35 = .ok (.iaload, 1) := by decide +kernel
theorem dX3_enrol_36 : decode cX3_enrol 36 = .ok (.ifCond .eq 25, 3) := by decide +kernel
theorem dX3_enrol_39 : decode cX3_enrol 39 = .ok (.aload_n 0, 1) := by decide +kernel
theorem dX3_enrol_40 : decode cX3_enrol 40 = .ok (.iload_n 1, 1) := by decide +kernel
theorem dX3_enrol_41 : decode cX3_enrol 41 = .ok (.iload_n 2, 1) := by decide +kernel
theorem dX3_enrol_42 : decode cX3_enrol 42 = .ok (.invokevirtual 104, 3) := by decide +kernel
theorem dX3_enrol_45 : decode cX3_enrol 45 = .ok (.ifCond .ne 16, 3) := by decide +kernel
theorem dX3_enrol_48 : decode cX3_enrol 48 = .ok (.aload_n 0, 1) := by decide +kernel
theorem dX3_enrol_49 : decode cX3_enrol 49 = .ok (.getfield 41, 3) := by decide +kernel
theorem dX3_enrol_52 : decode cX3_enrol 52 = .ok (.iload_n 2, 1) := by decide +kernel
theorem dX3_enrol_53 : decode cX3_enrol 53 = .ok (.iaload, 1) := by decide +kernel
theorem dX3_enrol_54 : decode cX3_enrol 54 = .ok (.aload_n 0, 1) := by decide +kernel
theorem dX3_enrol_55 : decode cX3_enrol 55 = .ok (.getfield 98, 3) := by decide +kernel
theorem dX3_enrol_58 : decode cX3_enrol 58 = .ok (.if_icmp .ge 9, 3) := by decide +kernel
theorem dX3_enrol_61 : decode cX3_enrol 61 = .ok (.aload_n 0, 1) := by decide +kernel
theorem dX3_enrol_62 : decode cX3_enrol 62 = .ok (.iconst 2, 1) := by decide +kernel
theorem dX3_enrol_63 : decode cX3_enrol 63 = .ok (.invokevirtual 90, 3) := by decide +kernel
theorem dX3_enrol_66 : decode cX3_enrol 66 = .ok (.ireturn, 1) := by decide +kernel
theorem dX3_enrol_67 : decode cX3_enrol 67 = .ok (.aload_n 0, 1) := by decide +kernel
theorem dX3_enrol_68 : decode cX3_enrol 68 = .ok (.getfield 47, 3) := by decide +kernel
theorem dX3_enrol_71 : decode cX3_enrol 71 = .ok (.bipush 8, 2) := by decide +kernel
theorem dX3_enrol_73 : decode cX3_enrol 73 = .ok (.iload_n 2, 1) := by decide +kernel
theorem dX3_enrol_74 : decode cX3_enrol 74 = .ok (.imul, 1) := by decide +kernel
theorem dX3_enrol_75 : decode cX3_enrol 75 = .ok (.iload_n 1, 1) := by decide +kernel
theorem dX3_enrol_76 : decode cX3_enrol 76 = .ok (.iadd, 1) := by decide +kernel
theorem dX3_enrol_77 : decode cX3_enrol 77 = .ok (.iconst 1, 1) := by decide +kernel
theorem dX3_enrol_78 : decode cX3_enrol 78 = .ok (.bastore, 1) := by decide +kernel
theorem dX3_enrol_79 : decode cX3_enrol 79 = .ok (.aload_n 0, 1) := by decide +kernel
theorem dX3_enrol_80 : decode cX3_enrol 80 = .ok (.getfield 35, 3) := by decide +kernel
theorem dX3_enrol_83 : decode cX3_enrol 83 = .ok (.iload_n 2, 1) := by decide +kernel
theorem dX3_enrol_84 : decode cX3_enrol 84 = .ok (.dup2, 1) := by decide +kernel
theorem dX3_enrol_85 : decode cX3_enrol 85 = .ok (.iaload, 1) := by decide +kernel
theorem dX3_enrol_86 : decode cX3_enrol 86 = .ok (.iconst 1, 1) := by decide +kernel
theorem dX3_enrol_87 : decode cX3_enrol 87 = .ok (.isub, 1) := by decide +kernel
theorem dX3_enrol_88 : decode cX3_enrol 88 = .ok (.iastore, 1) := by decide +kernel
theorem dX3_enrol_89 : decode cX3_enrol 89 = .ok (.aload_n 0, 1) := by decide +kernel
theorem dX3_enrol_90 : decode cX3_enrol 90 = .ok (.getfield 35, 3) := by decide +kernel
theorem dX3_enrol_93 : decode cX3_enrol 93 = .ok (.iload_n 2, 1) := by decide +kernel
theorem dX3_enrol_94 : decode cX3_enrol 94 = .ok (.iaload, 1) := by decide +kernel
theorem dX3_enrol_95 : decode cX3_enrol 95 = .ok (.ireturn, 1) := by decide +kernel
theorem dX3_setFloor_0 : decode cX3_setFloor 0 = .ok (.aload_n 0, 1) := by decide +kernel
theorem dX3_setFloor_1 : decode cX3_setFloor 1 = .ok (.iload_n 1, 1) := by decide +kernel
theorem dX3_setFloor_2 : decode cX3_setFloor 2 = .ok (.iconst 0, 1) := by decide +kernel
theorem dX3_setFloor_3 : decode cX3_setFloor 3 = .ok (.bipush 100, 2) := by decide +kernel
theorem dX3_setFloor_5 : decode cX3_setFloor 5 = .ok (.invokestatic 82, 3) := by decide +kernel
theorem dX3_setFloor_8 : decode cX3_setFloor 8 = .ok (.invokevirtual 86, 3) := by decide +kernel
theorem dX3_setFloor_11 : decode cX3_setFloor 11 = .ok (.ifCond .ne 5, 3) := by decide +kernel
theorem dX3_setFloor_14 : decode cX3_setFloor 14 = .ok (.iconst 0, 1) := by decide +kernel
theorem dX3_setFloor_15 : decode cX3_setFloor 15 = .ok (.ireturn, 1) := by decide +kernel
theorem dX3_setFloor_16 : decode cX3_setFloor 16 = .ok (.aload_n 0, 1) := by decide +kernel
theorem dX3_setFloor_17 : decode cX3_setFloor 17 = .ok (.getfield 50, 3) := by decide +kernel
theorem dX3_setFloor_20 : decode cX3_setFloor 20 = .ok (.istore_n 2, 1) := by decide +kernel
theorem dX3_setFloor_21 : decode cX3_setFloor 21 = .ok (.aload_n 0, 1) := by decide +kernel
theorem dX3_setFloor_22 : decode cX3_setFloor 22 = .ok (.iload_n 1, 1) := by decide +kernel
theorem dX3_setFloor_23 : decode cX3_setFloor 23 = .ok (.putfield 50, 3) := by decide +kernel
theorem dX3_setFloor_26 : decode cX3_setFloor 26 = .ok (.iload_n 2, 1) := by decide +kernel
theorem dX3_setFloor_27 : decode cX3_setFloor 27 = .ok (.ireturn, 1) := by decide +kernel
theorem dX3_workers_0 : decode cX3_workers 0 = .ok (.aload_n 0, 1) := by decide +kernel
theorem dX3_workers_1 : decode cX3_workers 1 = .ok (.iconst 0, 1) := by decide +kernel
theorem dX3_workers_2 : decode cX3_workers 2 = .ok (.putfield 72, 3) := by decide +kernel
theorem dX3_workers_5 : decode cX3_workers 5 = .ok (.aload_n 0, 1) := by decide +kernel
theorem dX3_workers_6 : decode cX3_workers 6 = .ok (.getfield 75, 3) := by decide +kernel
theorem dX3_workers_9 : decode cX3_workers 9 = .ok (.ireturn, 1) := by decide +kernel
theorem dX3_cutOf_0 : decode cX3_cutOf 0 = .ok (.iconst 0, 1) := by decide +kernel
theorem dX3_cutOf_1 : decode cX3_cutOf 1 = .ok (.istore_n 3, 1) := by decide +kernel
theorem dX3_cutOf_2 : decode cX3_cutOf 2 = .ok (.bipush 30, 2) := by decide +kernel
theorem dX3_cutOf_4 : decode cX3_cutOf 4 = .ok (.iload_n 1, 1) := by decide +kernel
theorem dX3_cutOf_5 : decode cX3_cutOf 5 = .ok (.imul, 1) := by decide +kernel
theorem dX3_cutOf_6 : decode cX3_cutOf 6 = .ok (.istore 4, 2) := by decide +kernel
theorem dX3_cutOf_8 : decode cX3_cutOf 8 = .ok (.iload 4, 2) := by decide +kernel
theorem dX3_cutOf_10 : decode cX3_cutOf 10 = .ok (.bipush 30, 2) := by decide +kernel
theorem dX3_cutOf_12 : decode cX3_cutOf 12 = .ok (.iload_n 1, 1) := by decide +kernel
theorem dX3_cutOf_13 : decode cX3_cutOf 13 = .ok (.imul, 1) := by decide +kernel
theorem dX3_cutOf_14 : decode cX3_cutOf 14 = .ok (.aload_n 0, 1) := by decide +kernel
theorem dX3_cutOf_15 : decode cX3_cutOf 15 = .ok (.getfield 17, 3) := by decide +kernel
theorem dX3_cutOf_18 : decode cX3_cutOf 18 = .ok (.iload_n 1, 1) := by decide +kernel
theorem dX3_cutOf_19 : decode cX3_cutOf 19 = .ok (.iaload, 1) := by decide +kernel
theorem dX3_cutOf_20 : decode cX3_cutOf 20 = .ok (.iadd, 1) := by decide +kernel
theorem dX3_cutOf_21 : decode cX3_cutOf 21 = .ok (.if_icmp .ge 43, 3) := by decide +kernel
theorem dX3_cutOf_24 : decode cX3_cutOf 24 = .ok (.iload_n 2, 1) := by decide +kernel
theorem dX3_cutOf_25 : decode cX3_cutOf 25 = .ok (.aload_n 0, 1) := by decide +kernel
theorem dX3_cutOf_26 : decode cX3_cutOf 26 = .ok (.getfield 20, 3) := by decide +kernel
theorem dX3_cutOf_29 : decode cX3_cutOf 29 = .ok (.iload 4, 2) := by decide +kernel
theorem dX3_cutOf_31 : decode cX3_cutOf 31 = .ok (.iaload, 1) := by decide +kernel
theorem dX3_cutOf_32 : decode cX3_cutOf 32 = .ok (.if_icmp .lt 24, 3) := by decide +kernel
theorem dX3_cutOf_35 : decode cX3_cutOf 35 = .ok (.iload_n 2, 1) := by decide +kernel
theorem dX3_cutOf_36 : decode cX3_cutOf 36 = .ok (.aload_n 0, 1) := by decide +kernel
theorem dX3_cutOf_37 : decode cX3_cutOf 37 = .ok (.getfield 23, 3) := by decide +kernel
theorem dX3_cutOf_40 : decode cX3_cutOf 40 = .ok (.iload 4, 2) := by decide +kernel
theorem dX3_cutOf_42 : decode cX3_cutOf 42 = .ok (.iaload, 1) := by decide +kernel
theorem dX3_cutOf_43 : decode cX3_cutOf 43 = .ok (.if_icmp .gt 13, 3) := by decide +kernel
theorem dX3_cutOf_46 : decode cX3_cutOf 46 = .ok (.aload_n 0, 1) := by decide +kernel
theorem dX3_cutOf_47 : decode cX3_cutOf 47 = .ok (.getfield 26, 3) := by decide +kernel
theorem dX3_cutOf_50 : decode cX3_cutOf 50 = .ok (.iload 4, 2) := by decide +kernel
theorem dX3_cutOf_52 : decode cX3_cutOf 52 = .ok (.iaload, 1) := by decide +kernel
theorem dX3_cutOf_53 : decode cX3_cutOf 53 = .ok (.goto 4, 3) := by decide +kernel
theorem dX3_cutOf_56 : decode cX3_cutOf 56 = .ok (.iload_n 3, 1) := by decide +kernel
theorem dX3_cutOf_57 : decode cX3_cutOf 57 = .ok (.istore_n 3, 1) := by decide +kernel
theorem dX3_cutOf_58 : decode cX3_cutOf 58 = .ok (.iinc 4 1, 3) := by decide +kernel
theorem dX3_cutOf_61 : decode cX3_cutOf 61 = .ok (.goto (-53), 3) := by decide +kernel
theorem dX3_cutOf_64 : decode cX3_cutOf 64 = .ok (.iload_n 3, 1) := by decide +kernel
theorem dX3_cutOf_65 : decode cX3_cutOf 65 = .ok (.ireturn, 1) := by decide +kernel
theorem dX3_cut_0 : decode cX3_cut 0 = .ok (.aload_n 0, 1) := by decide +kernel
theorem dX3_cut_1 : decode cX3_cut 1 = .ok (.aload_n 0, 1) := by decide +kernel
theorem dX3_cut_2 : decode cX3_cut 2 = .ok (.iload_n 1, 1) := by decide +kernel
theorem dX3_cut_3 : decode cX3_cut 3 = .ok (.invokevirtual 94, 3) := by decide +kernel
theorem dX3_cut_6 : decode cX3_cut 6 = .ok (.invokevirtual 86, 3) := by decide +kernel
theorem dX3_cut_9 : decode cX3_cut 9 = .ok (.ifCond .ne 5, 3) := by decide +kernel
theorem dX3_cut_12 : decode cX3_cut 12 = .ok (.iconst 0, 1) := by decide +kernel
theorem dX3_cut_13 : decode cX3_cut 13 = .ok (.ireturn, 1) := by decide +kernel
theorem dX3_cut_14 : decode cX3_cut 14 = .ok (.iload_n 2, 1) := by decide +kernel
theorem dX3_cut_15 : decode cX3_cut 15 = .ok (.iconst 0, 1) := by decide +kernel
theorem dX3_cut_16 : decode cX3_cut 16 = .ok (.sipush 200, 3) := by decide +kernel
theorem dX3_cut_19 : decode cX3_cut 19 = .ok (.invokestatic 82, 3) := by decide +kernel
theorem dX3_cut_22 : decode cX3_cut 22 = .ok (.ifCond .eq 12, 3) := by decide +kernel
theorem dX3_cut_25 : decode cX3_cut 25 = .ok (.aload_n 0, 1) := by decide +kernel
theorem dX3_cut_26 : decode cX3_cut 26 = .ok (.iload_n 1, 1) := by decide +kernel
theorem dX3_cut_27 : decode cX3_cut 27 = .ok (.iload_n 2, 1) := by decide +kernel
theorem dX3_cut_28 : decode cX3_cut 28 = .ok (.invokevirtual 108, 3) := by decide +kernel
theorem dX3_cut_31 : decode cX3_cut 31 = .ok (.goto 8, 3) := by decide +kernel
theorem dX3_cut_34 : decode cX3_cut 34 = .ok (.aload_n 0, 1) := by decide +kernel
theorem dX3_cut_35 : decode cX3_cut 35 = .ok (.iconst 2, 1) := by decide +kernel
theorem dX3_cut_36 : decode cX3_cut 36 = .ok (.invokevirtual 90, 3) := by decide +kernel
theorem dX3_cut_39 : decode cX3_cut 39 = .ok (.ireturn, 1) := by decide +kernel
theorem dX3_fills_0 : decode cX3_fills 0 = .ok (.iconst 0, 1) := by decide +kernel
theorem dX3_fills_1 : decode cX3_fills 1 = .ok (.istore_n 3, 1) := by decide +kernel
theorem dX3_fills_2 : decode cX3_fills 2 = .ok (.iconst 0, 1) := by decide +kernel
theorem dX3_fills_3 : decode cX3_fills 3 = .ok (.istore 4, 2) := by decide +kernel
theorem dX3_fills_5 : decode cX3_fills 5 = .ok (.iload 4, 2) := by decide +kernel
theorem dX3_fills_7 : decode cX3_fills 7 = .ok (.aload_n 0, 1) := by decide +kernel
theorem dX3_fills_8 : decode cX3_fills 8 = .ok (.getfield 78, 3) := by decide +kernel
theorem dX3_fills_11 : decode cX3_fills 11 = .ok (.if_icmp .ge 74, 3) := by decide +kernel
theorem dX3_fills_14 : decode cX3_fills 14 = .ok (.iload_n 3, 1) := by decide +kernel
theorem dX3_fills_15 : decode cX3_fills 15 = .ok (.ifCond .ne 58, 3) := by decide +kernel
theorem dX3_fills_18 : decode cX3_fills 18 = .ok (.aload_n 0, 1) := by decide +kernel
theorem dX3_fills_19 : decode cX3_fills 19 = .ok (.getfield 47, 3) := by decide +kernel
theorem dX3_fills_22 : decode cX3_fills 22 = .ok (.bipush 8, 2) := by decide +kernel
theorem dX3_fills_24 : decode cX3_fills 24 = .ok (.iload 4, 2) := by decide +kernel
theorem dX3_fills_26 : decode cX3_fills 26 = .ok (.imul, 1) := by decide +kernel
theorem dX3_fills_27 : decode cX3_fills 27 = .ok (.iload_n 1, 1) := by decide +kernel
theorem dX3_fills_28 : decode cX3_fills 28 = .ok (.iadd, 1) := by decide +kernel
theorem dX3_fills_29 : decode cX3_fills 29 = .ok (.baload, 1) := by decide +kernel
theorem dX3_fills_30 : decode cX3_fills 30 = .ok (.ifCond .eq 47, 3) := by decide +kernel
theorem dX3_fills_33 : decode cX3_fills 33 = .ok (.iload_n 2, 1) := by decide +kernel
theorem dX3_fills_34 : decode cX3_fills 34 = .ok (.aload_n 0, 1) := by decide +kernel
theorem dX3_fills_35 : decode cX3_fills 35 = .ok (.getfield 38, 3) := by decide +kernel
theorem dX3_fills_38 : decode cX3_fills 38 = .ok (.iload 4, 2) := by decide +kernel
theorem dX3_fills_40 : decode cX3_fills 40 = .ok (.iaload, 1) := by decide +kernel
theorem dX3_fills_41 : decode cX3_fills 41 = .ok (.if_icmp .lt 36, 3) := by decide +kernel
theorem dX3_fills_44 : decode cX3_fills 44 = .ok (.iload_n 2, 1) := by decide +kernel
theorem dX3_fills_45 : decode cX3_fills 45 = .ok (.aload_n 0, 1) := by decide +kernel
theorem dX3_fills_46 : decode cX3_fills 46 = .ok (.getfield 41, 3) := by decide +kernel
theorem dX3_fills_49 : decode cX3_fills 49 = .ok (.iload 4, 2) := by decide +kernel
theorem dX3_fills_51 : decode cX3_fills 51 = .ok (.iaload, 1) := by decide +kernel
theorem dX3_fills_52 : decode cX3_fills 52 = .ok (.if_icmp .gt 25, 3) := by decide +kernel
theorem dX3_fills_55 : decode cX3_fills 55 = .ok (.iconst 2, 1) := by decide +kernel
theorem dX3_fills_56 : decode cX3_fills 56 = .ok (.aload_n 0, 1) := by decide +kernel
theorem dX3_fills_57 : decode cX3_fills 57 = .ok (.getfield 44, 3) := by decide +kernel
theorem dX3_fills_60 : decode cX3_fills 60 = .ok (.iload 4, 2) := by decide +kernel
theorem dX3_fills_62 : decode cX3_fills 62 = .ok (.iaload, 1) := by decide +kernel
theorem dX3_fills_63 : decode cX3_fills 63 = .ok (.imul, 1) := by decide +kernel
theorem dX3_fills_64 : decode cX3_fills 64 = .ok (.aload_n 0, 1) := by decide +kernel
theorem dX3_fills_65 : decode cX3_fills 65 = .ok (.iload_n 1, 1) := by decide +kernel
theorem dX3_fills_66 : decode cX3_fills 66 = .ok (.iload_n 2, 1) := by decide +kernel
theorem dX3_fills_67 : decode cX3_fills 67 = .ok (.invokevirtual 108, 3) := by decide +kernel
theorem dX3_fills_70 : decode cX3_fills 70 = .ok (.if_icmp .lt 7, 3) := by decide +kernel
theorem dX3_fills_73 : decode cX3_fills 73 = .ok (.iconst 1, 1) := by decide +kernel
theorem dX3_fills_74 : decode cX3_fills 74 = .ok (.goto 4, 3) := by decide +kernel
theorem dX3_fills_77 : decode cX3_fills 77 = .ok (.iconst 0, 1) := by decide +kernel
theorem dX3_fills_78 : decode cX3_fills 78 = .ok (.istore_n 3, 1) := by decide +kernel
theorem dX3_fills_79 : decode cX3_fills 79 = .ok (.iinc 4 1, 3) := by decide +kernel
theorem dX3_fills_82 : decode cX3_fills 82 = .ok (.goto (-77), 3) := by decide +kernel
theorem dX3_fills_85 : decode cX3_fills 85 = .ok (.iload_n 3, 1) := by decide +kernel
theorem dX3_fills_86 : decode cX3_fills 86 = .ok (.ireturn, 1) := by decide +kernel
theorem dX3_isFilled_0 : decode cX3_isFilled 0 = .ok (.aload_n 0, 1) := by decide +kernel
theorem dX3_isFilled_1 : decode cX3_isFilled 1 = .ok (.aload_n 0, 1) := by decide +kernel
theorem dX3_isFilled_2 : decode cX3_isFilled 2 = .ok (.iload_n 1, 1) := by decide +kernel
theorem dX3_isFilled_3 : decode cX3_isFilled 3 = .ok (.invokevirtual 94, 3) := by decide +kernel
theorem dX3_isFilled_6 : decode cX3_isFilled 6 = .ok (.invokevirtual 86, 3) := by decide +kernel
theorem dX3_isFilled_9 : decode cX3_isFilled 9 = .ok (.ifCond .ne 5, 3) := by decide +kernel
theorem dX3_isFilled_12 : decode cX3_isFilled 12 = .ok (.iconst 0, 1) := by decide +kernel
theorem dX3_isFilled_13 : decode cX3_isFilled 13 = .ok (.ireturn, 1) := by decide +kernel
theorem dX3_isFilled_14 : decode cX3_isFilled 14 = .ok (.iload_n 2, 1) := by decide +kernel
theorem dX3_isFilled_15 : decode cX3_isFilled 15 = .ok (.iconst 0, 1) := by decide +kernel
theorem dX3_isFilled_16 : decode cX3_isFilled 16 = .ok (.sipush 200, 3) := by decide +kernel
theorem dX3_isFilled_19 : decode cX3_isFilled 19 = .ok (.invokestatic 82, 3) := by decide +kernel
theorem dX3_isFilled_22 : decode cX3_isFilled 22 = .ok (.ifCond .ne 11, 3) := by decide +kernel
theorem dX3_isFilled_25 : decode cX3_isFilled 25 = .ok (.aload_n 0, 1) := by decide +kernel
theorem dX3_isFilled_26 : decode cX3_isFilled 26 = .ok (.iconst 2, 1) := by decide +kernel
theorem dX3_isFilled_27 : decode cX3_isFilled 27 = .ok (.invokevirtual 90, 3) := by decide +kernel
theorem dX3_isFilled_30 : decode cX3_isFilled 30 = .ok (.pop, 1) := by decide +kernel
theorem dX3_isFilled_31 : decode cX3_isFilled 31 = .ok (.iconst 0, 1) := by decide +kernel
theorem dX3_isFilled_32 : decode cX3_isFilled 32 = .ok (.ireturn, 1) := by decide +kernel
theorem dX3_isFilled_33 : decode cX3_isFilled 33 = .ok (.aload_n 0, 1) := by decide +kernel
theorem dX3_isFilled_34 : decode cX3_isFilled 34 = .ok (.iload_n 1, 1) := by decide +kernel
theorem dX3_isFilled_35 : decode cX3_isFilled 35 = .ok (.iload_n 2, 1) := by decide +kernel
theorem dX3_isFilled_36 : decode cX3_isFilled 36 = .ok (.invokevirtual 112, 3) := by decide +kernel
theorem dX3_isFilled_39 : decode cX3_isFilled 39 = .ok (.ireturn, 1) := by decide +kernel
theorem dX3_percent_0 : decode cX3_percent 0 = .ok (.aload_n 0, 1) := by decide +kernel
theorem dX3_percent_1 : decode cX3_percent 1 = .ok (.iload_n 1, 1) := by decide +kernel
theorem dX3_percent_2 : decode cX3_percent 2 = .ok (.aload_n 0, 1) := by decide +kernel
theorem dX3_percent_3 : decode cX3_percent 3 = .ok (.getfield 98, 3) := by decide +kernel
theorem dX3_percent_6 : decode cX3_percent 6 = .ok (.invokevirtual 112, 3) := by decide +kernel
theorem dX3_percent_9 : decode cX3_percent 9 = .ok (.istore_n 2, 1) := by decide +kernel
theorem dX3_percent_10 : decode cX3_percent 10 = .ok (.aload_n 0, 1) := by decide +kernel
theorem dX3_percent_11 : decode cX3_percent 11 = .ok (.getfield 29, 3) := by decide +kernel
theorem dX3_percent_14 : decode cX3_percent 14 = .ok (.iload_n 1, 1) := by decide +kernel
theorem dX3_percent_15 : decode cX3_percent 15 = .ok (.iaload, 1) := by decide +kernel
theorem dX3_percent_16 : decode cX3_percent 16 = .ok (.istore_n 3, 1) := by decide +kernel
theorem dX3_percent_17 : decode cX3_percent 17 = .ok (.iload_n 3, 1) := by decide +kernel
theorem dX3_percent_18 : decode cX3_percent 18 = .ok (.bipush 24, 2) := by decide +kernel
theorem dX3_percent_20 : decode cX3_percent 20 = .ok (.if_icmp .lt 8, 3) := by decide +kernel
theorem dX3_percent_23 : decode cX3_percent 23 = .ok (.bipush 80, 2) := by decide +kernel
theorem dX3_percent_25 : decode cX3_percent 25 = .ok (.goto 16, 3) := by decide +kernel
theorem dX3_percent_28 : decode cX3_percent 28 = .ok (.iload_n 3, 1) := by decide +kernel
theorem dX3_percent_29 : decode cX3_percent 29 = .ok (.bipush 12, 2) := by decide +kernel
theorem dX3_percent_31 : decode cX3_percent 31 = .ok (.if_icmp .lt 8, 3) := by decide +kernel
theorem dX3_percent_34 : decode cX3_percent 34 = .ok (.bipush 70, 2) := by decide +kernel
theorem dX3_percent_36 : decode cX3_percent 36 = .ok (.goto 5, 3) := by decide +kernel
theorem dX3_percent_39 : decode cX3_percent 39 = .ok (.bipush 60, 2) := by decide +kernel
theorem dX3_percent_41 : decode cX3_percent 41 = .ok (.istore 4, 2) := by decide +kernel
theorem dX3_percent_43 : decode cX3_percent 43 = .ok (.iload 4, 2) := by decide +kernel
theorem dX3_percent_45 : decode cX3_percent 45 = .ok (.aload_n 0, 1) := by decide +kernel
theorem dX3_percent_46 : decode cX3_percent 46 = .ok (.getfield 13, 3) := by decide +kernel
theorem dX3_percent_49 : decode cX3_percent 49 = .ok (.iload_n 1, 1) := by decide +kernel
theorem dX3_percent_50 : decode cX3_percent 50 = .ok (.baload, 1) := by decide +kernel
theorem dX3_percent_51 : decode cX3_percent 51 = .ok (.ifCond .eq 8, 3) := by decide +kernel
theorem dX3_percent_54 : decode cX3_percent 54 = .ok (.bipush 7, 2) := by decide +kernel
theorem dX3_percent_56 : decode cX3_percent 56 = .ok (.goto 4, 3) := by decide +kernel
theorem dX3_percent_59 : decode cX3_percent 59 = .ok (.iconst 0, 1) := by decide +kernel
theorem dX3_percent_60 : decode cX3_percent 60 = .ok (.iadd, 1) := by decide +kernel
theorem dX3_percent_61 : decode cX3_percent 61 = .ok (.istore 4, 2) := by decide +kernel
theorem dX3_percent_63 : decode cX3_percent 63 = .ok (.iload 4, 2) := by decide +kernel
theorem dX3_percent_65 : decode cX3_percent 65 = .ok (.iload_n 2, 1) := by decide +kernel
theorem dX3_percent_66 : decode cX3_percent 66 = .ok (.ifCond .eq 7, 3) := by decide +kernel
theorem dX3_percent_69 : decode cX3_percent 69 = .ok (.iconst 5, 1) := by decide +kernel
theorem dX3_percent_70 : decode cX3_percent 70 = .ok (.goto 15, 3) := by decide +kernel
theorem dX3_percent_73 : decode cX3_percent 73 = .ok (.iload_n 3, 1) := by decide +kernel
theorem dX3_percent_74 : decode cX3_percent 74 = .ok (.bipush 12, 2) := by decide +kernel
theorem dX3_percent_76 : decode cX3_percent 76 = .ok (.if_icmp .lt 8, 3) := by decide +kernel
theorem dX3_percent_79 : decode cX3_percent 79 = .ok (.bipush (-10), 2) := by decide +kernel
theorem dX3_percent_81 : decode cX3_percent 81 = .ok (.goto 4, 3) := by decide +kernel
theorem dX3_percent_84 : decode cX3_percent 84 = .ok (.iconst 0, 1) := by decide +kernel
theorem dX3_percent_85 : decode cX3_percent 85 = .ok (.iadd, 1) := by decide +kernel
theorem dX3_percent_86 : decode cX3_percent 86 = .ok (.ireturn, 1) := by decide +kernel
theorem dX3_pays_0 : decode cX3_pays 0 = .ok (.sipush 201, 3) := by decide +kernel
theorem dX3_pays_3 : decode cX3_pays 3 = .ok (.iload_n 1, 1) := by decide +kernel
theorem dX3_pays_4 : decode cX3_pays 4 = .ok (.imul, 1) := by decide +kernel
theorem dX3_pays_5 : decode cX3_pays 5 = .ok (.aload_n 0, 1) := by decide +kernel
theorem dX3_pays_6 : decode cX3_pays 6 = .ok (.getfield 98, 3) := by decide +kernel
theorem dX3_pays_9 : decode cX3_pays 9 = .ok (.iadd, 1) := by decide +kernel
theorem dX3_pays_10 : decode cX3_pays 10 = .ok (.istore_n 2, 1) := by decide +kernel
theorem dX3_pays_11 : decode cX3_pays 11 = .ok (.aload_n 0, 1) := by decide +kernel
theorem dX3_pays_12 : decode cX3_pays 12 = .ok (.getfield 7, 3) := by decide +kernel
theorem dX3_pays_15 : decode cX3_pays 15 = .ok (.iload_n 1, 1) := by decide +kernel
theorem dX3_pays_16 : decode cX3_pays 16 = .ok (.iaload, 1) := by decide +kernel
theorem dX3_pays_17 : decode cX3_pays 17 = .ok (.istore_n 3, 1) := by decide +kernel
theorem dX3_pays_18 : decode cX3_pays 18 = .ok (.aload_n 0, 1) := by decide +kernel
theorem dX3_pays_19 : decode cX3_pays 19 = .ok (.iload_n 1, 1) := by decide +kernel
theorem dX3_pays_20 : decode cX3_pays 20 = .ok (.aload_n 0, 1) := by decide +kernel
theorem dX3_pays_21 : decode cX3_pays 21 = .ok (.getfield 98, 3) := by decide +kernel
theorem dX3_pays_24 : decode cX3_pays 24 = .ok (.invokevirtual 108, 3) := by decide +kernel
theorem dX3_pays_27 : decode cX3_pays 27 = .ok (.istore 4, 2) := by decide +kernel
theorem dX3_pays_29 : decode cX3_pays 29 = .ok (.iload_n 3, 1) := by decide +kernel
theorem dX3_pays_30 : decode cX3_pays 30 = .ok (.bipush 40, 2) := by decide +kernel
theorem dX3_pays_32 : decode cX3_pays 32 = .ok (.iload 4, 2) := by decide +kernel
theorem dX3_pays_34 : decode cX3_pays 34 = .ok (.isub, 1) := by decide +kernel
theorem dX3_pays_35 : decode cX3_pays 35 = .ok (.imul, 1) := by decide +kernel
theorem dX3_pays_36 : decode cX3_pays 36 = .ok (.bipush 40, 2) := by decide +kernel
theorem dX3_pays_38 : decode cX3_pays 38 = .ok (.idiv, 1) := by decide +kernel
theorem dX3_pays_39 : decode cX3_pays 39 = .ok (.istore 5, 2) := by decide +kernel
theorem dX3_pays_41 : decode cX3_pays 41 = .ok (.iload_n 3, 1) := by decide +kernel
theorem dX3_pays_42 : decode cX3_pays 42 = .ok (.iload 5, 2) := by decide +kernel
theorem dX3_pays_44 : decode cX3_pays 44 = .ok (.isub, 1) := by decide +kernel
theorem dX3_pays_45 : decode cX3_pays 45 = .ok (.aload_n 0, 1) := by decide +kernel
theorem dX3_pays_46 : decode cX3_pays 46 = .ok (.iload_n 1, 1) := by decide +kernel
theorem dX3_pays_47 : decode cX3_pays 47 = .ok (.invokevirtual 115, 3) := by decide +kernel
theorem dX3_pays_50 : decode cX3_pays 50 = .ok (.imul, 1) := by decide +kernel
theorem dX3_pays_51 : decode cX3_pays 51 = .ok (.bipush 100, 2) := by decide +kernel
theorem dX3_pays_53 : decode cX3_pays 53 = .ok (.idiv, 1) := by decide +kernel
theorem dX3_pays_54 : decode cX3_pays 54 = .ok (.istore 6, 2) := by decide +kernel
theorem dX3_pays_56 : decode cX3_pays 56 = .ok (.iload_n 3, 1) := by decide +kernel
theorem dX3_pays_57 : decode cX3_pays 57 = .ok (.aload_n 0, 1) := by decide +kernel
theorem dX3_pays_58 : decode cX3_pays 58 = .ok (.getfield 50, 3) := by decide +kernel
theorem dX3_pays_61 : decode cX3_pays 61 = .ok (.imul, 1) := by decide +kernel
theorem dX3_pays_62 : decode cX3_pays 62 = .ok (.bipush 100, 2) := by decide +kernel
theorem dX3_pays_64 : decode cX3_pays 64 = .ok (.idiv, 1) := by decide +kernel
theorem dX3_pays_65 : decode cX3_pays 65 = .ok (.istore 7, 2) := by decide +kernel
theorem dX3_pays_67 : decode cX3_pays 67 = .ok (.iload 5, 2) := by decide +kernel
theorem dX3_pays_69 : decode cX3_pays 69 = .ok (.iload 6, 2) := by decide +kernel
theorem dX3_pays_71 : decode cX3_pays 71 = .ok (.iadd, 1) := by decide +kernel
theorem dX3_pays_72 : decode cX3_pays 72 = .ok (.iload 7, 2) := by decide +kernel
theorem dX3_pays_74 : decode cX3_pays 74 = .ok (.if_icmp .ge 11, 3) := by decide +kernel
theorem dX3_pays_77 : decode cX3_pays 77 = .ok (.iload 7, 2) := by decide +kernel
theorem dX3_pays_79 : decode cX3_pays 79 = .ok (.iload 5, 2) := by decide +kernel
theorem dX3_pays_81 : decode cX3_pays 81 = .ok (.isub, 1) := by decide +kernel
theorem dX3_pays_82 : decode cX3_pays 82 = .ok (.goto 5, 3) := by decide +kernel
theorem dX3_pays_85 : decode cX3_pays 85 = .ok (.iload 6, 2) := by decide +kernel
theorem dX3_pays_87 : decode cX3_pays 87 = .ok (.istore 6, 2) := by decide +kernel
theorem dX3_pays_89 : decode cX3_pays 89 = .ok (.iload 5, 2) := by decide +kernel
theorem dX3_pays_91 : decode cX3_pays 91 = .ok (.iload 6, 2) := by decide +kernel
theorem dX3_pays_93 : decode cX3_pays 93 = .ok (.iadd, 1) := by decide +kernel
theorem dX3_pays_94 : decode cX3_pays 94 = .ok (.iload_n 3, 1) := by decide +kernel
theorem dX3_pays_95 : decode cX3_pays 95 = .ok (.if_icmp .le 10, 3) := by decide +kernel
theorem dX3_pays_98 : decode cX3_pays 98 = .ok (.iload_n 3, 1) := by decide +kernel
theorem dX3_pays_99 : decode cX3_pays 99 = .ok (.iload 5, 2) := by decide +kernel
theorem dX3_pays_101 : decode cX3_pays 101 = .ok (.isub, 1) := by decide +kernel
theorem dX3_pays_102 : decode cX3_pays 102 = .ok (.goto 5, 3) := by decide +kernel
theorem dX3_pays_105 : decode cX3_pays 105 = .ok (.iload 6, 2) := by decide +kernel
theorem dX3_pays_107 : decode cX3_pays 107 = .ok (.istore 6, 2) := by decide +kernel
theorem dX3_pays_109 : decode cX3_pays 109 = .ok (.aload_n 0, 1) := by decide +kernel
theorem dX3_pays_110 : decode cX3_pays 110 = .ok (.getfield 54, 3) := by decide +kernel
theorem dX3_pays_113 : decode cX3_pays 113 = .ok (.iload_n 2, 1) := by decide +kernel
theorem dX3_pays_114 : decode cX3_pays 114 = .ok (.iload 5, 2) := by decide +kernel
theorem dX3_pays_116 : decode cX3_pays 116 = .ok (.iastore, 1) := by decide +kernel
theorem dX3_pays_117 : decode cX3_pays 117 = .ok (.aload_n 0, 1) := by decide +kernel
theorem dX3_pays_118 : decode cX3_pays 118 = .ok (.getfield 57, 3) := by decide +kernel
theorem dX3_pays_121 : decode cX3_pays 121 = .ok (.iload_n 2, 1) := by decide +kernel
theorem dX3_pays_122 : decode cX3_pays 122 = .ok (.iload 6, 2) := by decide +kernel
theorem dX3_pays_124 : decode cX3_pays 124 = .ok (.iastore, 1) := by decide +kernel
theorem dX3_pays_125 : decode cX3_pays 125 = .ok (.aload_n 0, 1) := by decide +kernel
theorem dX3_pays_126 : decode cX3_pays 126 = .ok (.getfield 60, 3) := by decide +kernel
theorem dX3_pays_129 : decode cX3_pays 129 = .ok (.iload_n 2, 1) := by decide +kernel
theorem dX3_pays_130 : decode cX3_pays 130 = .ok (.iload 4, 2) := by decide +kernel
theorem dX3_pays_132 : decode cX3_pays 132 = .ok (.iastore, 1) := by decide +kernel
theorem dX3_pays_133 : decode cX3_pays 133 = .ok (.aload_n 0, 1) := by decide +kernel
theorem dX3_pays_134 : decode cX3_pays 134 = .ok (.getfield 29, 3) := by decide +kernel
theorem dX3_pays_137 : decode cX3_pays 137 = .ok (.iload_n 1, 1) := by decide +kernel
theorem dX3_pays_138 : decode cX3_pays 138 = .ok (.dup2, 1) := by decide +kernel
theorem dX3_pays_139 : decode cX3_pays 139 = .ok (.iaload, 1) := by decide +kernel
theorem dX3_pays_140 : decode cX3_pays 140 = .ok (.iload 4, 2) := by decide +kernel
theorem dX3_pays_142 : decode cX3_pays 142 = .ok (.ifCond .le 7, 3) := by decide +kernel
theorem dX3_pays_145 : decode cX3_pays 145 = .ok (.iconst 1, 1) := by decide +kernel
theorem dX3_pays_146 : decode cX3_pays 146 = .ok (.goto 4, 3) := by decide +kernel
theorem dX3_pays_149 : decode cX3_pays 149 = .ok (.iconst 0, 1) := by decide +kernel
theorem dX3_pays_150 : decode cX3_pays 150 = .ok (.iadd, 1) := by decide +kernel
theorem dX3_pays_151 : decode cX3_pays 151 = .ok (.iastore, 1) := by decide +kernel
theorem dX3_pays_152 : decode cX3_pays 152 = .ok (.iload 6, 2) := by decide +kernel
theorem dX3_pays_154 : decode cX3_pays 154 = .ok (.ireturn, 1) := by decide +kernel
theorem dX3_pass_0 : decode cX3_pass 0 = .ok (.aload_n 0, 1) := by decide +kernel
theorem dX3_pass_1 : decode cX3_pass 1 = .ok (.iload_n 1, 1) := by decide +kernel
theorem dX3_pass_2 : decode cX3_pass 2 = .ok (.iconst 1, 1) := by decide +kernel
theorem dX3_pass_3 : decode cX3_pass 3 = .ok (.bipush 60, 2) := by decide +kernel
theorem dX3_pass_5 : decode cX3_pass 5 = .ok (.invokestatic 82, 3) := by decide +kernel
theorem dX3_pass_8 : decode cX3_pass 8 = .ok (.invokevirtual 86, 3) := by decide +kernel
theorem dX3_pass_11 : decode cX3_pass 11 = .ok (.ifCond .ne 5, 3) := by decide +kernel
theorem dX3_pass_14 : decode cX3_pass 14 = .ok (.iconst 0, 1) := by decide +kernel
theorem dX3_pass_15 : decode cX3_pass 15 = .ok (.ireturn, 1) := by decide +kernel
theorem dX3_pass_16 : decode cX3_pass 16 = .ok (.aload_n 0, 1) := by decide +kernel
theorem dX3_pass_17 : decode cX3_pass 17 = .ok (.getfield 98, 3) := by decide +kernel
theorem dX3_pass_20 : decode cX3_pass 20 = .ok (.iload_n 1, 1) := by decide +kernel
theorem dX3_pass_21 : decode cX3_pass 21 = .ok (.iadd, 1) := by decide +kernel
theorem dX3_pass_22 : decode cX3_pass 22 = .ok (.sipush 201, 3) := by decide +kernel
theorem dX3_pass_25 : decode cX3_pass 25 = .ok (.if_icmp .le 9, 3) := by decide +kernel
theorem dX3_pass_28 : decode cX3_pass 28 = .ok (.aload_n 0, 1) := by decide +kernel
theorem dX3_pass_29 : decode cX3_pass 29 = .ok (.iconst 2, 1) := by decide +kernel
theorem dX3_pass_30 : decode cX3_pass 30 = .ok (.invokevirtual 90, 3) := by decide +kernel
theorem dX3_pass_33 : decode cX3_pass 33 = .ok (.ireturn, 1) := by decide +kernel
theorem dX3_pass_34 : decode cX3_pass 34 = .ok (.iconst 0, 1) := by decide +kernel
theorem dX3_pass_35 : decode cX3_pass 35 = .ok (.istore_n 2, 1) := by decide +kernel
theorem dX3_pass_36 : decode cX3_pass 36 = .ok (.iconst 0, 1) := by decide +kernel
theorem dX3_pass_37 : decode cX3_pass 37 = .ok (.istore_n 3, 1) := by decide +kernel
theorem dX3_pass_38 : decode cX3_pass 38 = .ok (.iload_n 3, 1) := by decide +kernel
theorem dX3_pass_39 : decode cX3_pass 39 = .ok (.iload_n 1, 1) := by decide +kernel
theorem dX3_pass_40 : decode cX3_pass 40 = .ok (.if_icmp .ge 46, 3) := by decide +kernel
theorem dX3_pass_43 : decode cX3_pass 43 = .ok (.iconst 0, 1) := by decide +kernel
theorem dX3_pass_44 : decode cX3_pass 44 = .ok (.istore 4, 2) := by decide +kernel
theorem dX3_pass_46 : decode cX3_pass 46 = .ok (.iload 4, 2) := by decide +kernel
theorem dX3_pass_48 : decode cX3_pass 48 = .ok (.aload_n 0, 1) := by decide +kernel
theorem dX3_pass_49 : decode cX3_pass 49 = .ok (.getfield 75, 3) := by decide +kernel
theorem dX3_pass_52 : decode cX3_pass 52 = .ok (.if_icmp .ge 18, 3) := by decide +kernel
theorem dX3_pass_55 : decode cX3_pass 55 = .ok (.iload_n 2, 1) := by decide +kernel
theorem dX3_pass_56 : decode cX3_pass 56 = .ok (.aload_n 0, 1) := by decide +kernel
theorem dX3_pass_57 : decode cX3_pass 57 = .ok (.iload 4, 2) := by decide +kernel
theorem dX3_pass_59 : decode cX3_pass 59 = .ok (.invokevirtual 118, 3) := by decide +kernel
theorem dX3_pass_62 : decode cX3_pass 62 = .ok (.iadd, 1) := by decide +kernel
theorem dX3_pass_63 : decode cX3_pass 63 = .ok (.istore_n 2, 1) := by decide +kernel
theorem dX3_pass_64 : decode cX3_pass 64 = .ok (.iinc 4 1, 3) := by decide +kernel
theorem dX3_pass_67 : decode cX3_pass 67 = .ok (.goto (-21), 3) := by decide +kernel
theorem dX3_pass_70 : decode cX3_pass 70 = .ok (.aload_n 0, 1) := by decide +kernel
theorem dX3_pass_71 : decode cX3_pass 71 = .ok (.dup, 1) := by decide +kernel
theorem dX3_pass_72 : decode cX3_pass 72 = .ok (.getfield 98, 3) := by decide +kernel
theorem dX3_pass_75 : decode cX3_pass 75 = .ok (.iconst 1, 1) := by decide +kernel
theorem dX3_pass_76 : decode cX3_pass 76 = .ok (.iadd, 1) := by decide +kernel
theorem dX3_pass_77 : decode cX3_pass 77 = .ok (.putfield 98, 3) := by decide +kernel
theorem dX3_pass_80 : decode cX3_pass 80 = .ok (.iinc 3 1, 3) := by decide +kernel
theorem dX3_pass_83 : decode cX3_pass 83 = .ok (.goto (-45), 3) := by decide +kernel
theorem dX3_pass_86 : decode cX3_pass 86 = .ok (.iload_n 2, 1) := by decide +kernel
theorem dX3_pass_87 : decode cX3_pass 87 = .ok (.ireturn, 1) := by decide +kernel
theorem dX3_week_0 : decode cX3_week 0 = .ok (.aload_n 0, 1) := by decide +kernel
theorem dX3_week_1 : decode cX3_week 1 = .ok (.iconst 0, 1) := by decide +kernel
theorem dX3_week_2 : decode cX3_week 2 = .ok (.putfield 72, 3) := by decide +kernel
theorem dX3_week_5 : decode cX3_week 5 = .ok (.aload_n 0, 1) := by decide +kernel
theorem dX3_week_6 : decode cX3_week 6 = .ok (.getfield 98, 3) := by decide +kernel
theorem dX3_week_9 : decode cX3_week 9 = .ok (.ireturn, 1) := by decide +kernel
theorem dX3_isPast_0 : decode cX3_isPast 0 = .ok (.iload_n 1, 1) := by decide +kernel
theorem dX3_isPast_1 : decode cX3_isPast 1 = .ok (.ifCond .lt 15, 3) := by decide +kernel
theorem dX3_isPast_4 : decode cX3_isPast 4 = .ok (.iload_n 1, 1) := by decide +kernel
theorem dX3_isPast_5 : decode cX3_isPast 5 = .ok (.aload_n 0, 1) := by decide +kernel
theorem dX3_isPast_6 : decode cX3_isPast 6 = .ok (.getfield 98, 3) := by decide +kernel
theorem dX3_isPast_9 : decode cX3_isPast 9 = .ok (.if_icmp .ge 7, 3) := by decide +kernel
theorem dX3_isPast_12 : decode cX3_isPast 12 = .ok (.iconst 1, 1) := by decide +kernel
theorem dX3_isPast_13 : decode cX3_isPast 13 = .ok (.goto 4, 3) := by decide +kernel
theorem dX3_isPast_16 : decode cX3_isPast 16 = .ok (.iconst 0, 1) := by decide +kernel
theorem dX3_isPast_17 : decode cX3_isPast 17 = .ok (.ireturn, 1) := by decide +kernel
theorem dX3_paid_0 : decode cX3_paid 0 = .ok (.aload_n 0, 1) := by decide +kernel
theorem dX3_paid_1 : decode cX3_paid 1 = .ok (.aload_n 0, 1) := by decide +kernel
theorem dX3_paid_2 : decode cX3_paid 2 = .ok (.iload_n 1, 1) := by decide +kernel
theorem dX3_paid_3 : decode cX3_paid 3 = .ok (.invokevirtual 94, 3) := by decide +kernel
theorem dX3_paid_6 : decode cX3_paid 6 = .ok (.invokevirtual 86, 3) := by decide +kernel
theorem dX3_paid_9 : decode cX3_paid 9 = .ok (.ifCond .ne 5, 3) := by decide +kernel
theorem dX3_paid_12 : decode cX3_paid 12 = .ok (.iconst 0, 1) := by decide +kernel
theorem dX3_paid_13 : decode cX3_paid 13 = .ok (.ireturn, 1) := by decide +kernel
theorem dX3_paid_14 : decode cX3_paid 14 = .ok (.aload_n 0, 1) := by decide +kernel
theorem dX3_paid_15 : decode cX3_paid 15 = .ok (.iload_n 2, 1) := by decide +kernel
theorem dX3_paid_16 : decode cX3_paid 16 = .ok (.invokevirtual 121, 3) := by decide +kernel
theorem dX3_paid_19 : decode cX3_paid 19 = .ok (.ifCond .eq 18, 3) := by decide +kernel
theorem dX3_paid_22 : decode cX3_paid 22 = .ok (.aload_n 0, 1) := by decide +kernel
theorem dX3_paid_23 : decode cX3_paid 23 = .ok (.getfield 54, 3) := by decide +kernel
theorem dX3_paid_26 : decode cX3_paid 26 = .ok (.sipush 201, 3) := by decide +kernel
theorem dX3_paid_29 : decode cX3_paid 29 = .ok (.iload_n 1, 1) := by decide +kernel
theorem dX3_paid_30 : decode cX3_paid 30 = .ok (.imul, 1) := by decide +kernel
theorem dX3_paid_31 : decode cX3_paid 31 = .ok (.iload_n 2, 1) := by decide +kernel
theorem dX3_paid_32 : decode cX3_paid 32 = .ok (.iadd, 1) := by decide +kernel
theorem dX3_paid_33 : decode cX3_paid 33 = .ok (.iaload, 1) := by decide +kernel
theorem dX3_paid_34 : decode cX3_paid 34 = .ok (.goto 8, 3) := by decide +kernel
theorem dX3_paid_37 : decode cX3_paid 37 = .ok (.aload_n 0, 1) := by decide +kernel
theorem dX3_paid_38 : decode cX3_paid 38 = .ok (.iconst 2, 1) := by decide +kernel
theorem dX3_paid_39 : decode cX3_paid 39 = .ok (.invokevirtual 90, 3) := by decide +kernel
theorem dX3_paid_42 : decode cX3_paid 42 = .ok (.ireturn, 1) := by decide +kernel
theorem dX3_madeUp_0 : decode cX3_madeUp 0 = .ok (.aload_n 0, 1) := by decide +kernel
theorem dX3_madeUp_1 : decode cX3_madeUp 1 = .ok (.aload_n 0, 1) := by decide +kernel
theorem dX3_madeUp_2 : decode cX3_madeUp 2 = .ok (.iload_n 1, 1) := by decide +kernel
theorem dX3_madeUp_3 : decode cX3_madeUp 3 = .ok (.invokevirtual 94, 3) := by decide +kernel
theorem dX3_madeUp_6 : decode cX3_madeUp 6 = .ok (.invokevirtual 86, 3) := by decide +kernel
theorem dX3_madeUp_9 : decode cX3_madeUp 9 = .ok (.ifCond .ne 5, 3) := by decide +kernel
theorem dX3_madeUp_12 : decode cX3_madeUp 12 = .ok (.iconst 0, 1) := by decide +kernel
theorem dX3_madeUp_13 : decode cX3_madeUp 13 = .ok (.ireturn, 1) := by decide +kernel
theorem dX3_madeUp_14 : decode cX3_madeUp 14 = .ok (.aload_n 0, 1) := by decide +kernel
theorem dX3_madeUp_15 : decode cX3_madeUp 15 = .ok (.iload_n 2, 1) := by decide +kernel
theorem dX3_madeUp_16 : decode cX3_madeUp 16 = .ok (.invokevirtual 121, 3) := by decide +kernel
theorem dX3_madeUp_19 : decode cX3_madeUp 19 = .ok (.ifCond .eq 18, 3) := by decide +kernel
theorem dX3_madeUp_22 : decode cX3_madeUp 22 = .ok (.aload_n 0, 1) := by decide +kernel
theorem dX3_madeUp_23 : decode cX3_madeUp 23 = .ok (.getfield 57, 3) := by decide +kernel
theorem dX3_madeUp_26 : decode cX3_madeUp 26 = .ok (.sipush 201, 3) := by decide +kernel
theorem dX3_madeUp_29 : decode cX3_madeUp 29 = .ok (.iload_n 1, 1) := by decide +kernel
theorem dX3_madeUp_30 : decode cX3_madeUp 30 = .ok (.imul, 1) := by decide +kernel
theorem dX3_madeUp_31 : decode cX3_madeUp 31 = .ok (.iload_n 2, 1) := by decide +kernel
theorem dX3_madeUp_32 : decode cX3_madeUp 32 = .ok (.iadd, 1) := by decide +kernel
theorem dX3_madeUp_33 : decode cX3_madeUp 33 = .ok (.iaload, 1) := by decide +kernel
theorem dX3_madeUp_34 : decode cX3_madeUp 34 = .ok (.goto 8, 3) := by decide +kernel
theorem dX3_madeUp_37 : decode cX3_madeUp 37 = .ok (.aload_n 0, 1) := by decide +kernel
theorem dX3_madeUp_38 : decode cX3_madeUp 38 = .ok (.iconst 2, 1) := by decide +kernel
theorem dX3_madeUp_39 : decode cX3_madeUp 39 = .ok (.invokevirtual 90, 3) := by decide +kernel
theorem dX3_madeUp_42 : decode cX3_madeUp 42 = .ok (.ireturn, 1) := by decide +kernel
theorem dX3_cutWeeks_0 : decode cX3_cutWeeks 0 = .ok (.aload_n 0, 1) := by decide +kernel
theorem dX3_cutWeeks_1 : decode cX3_cutWeeks 1 = .ok (.aload_n 0, 1) := by decide +kernel
theorem dX3_cutWeeks_2 : decode cX3_cutWeeks 2 = .ok (.iload_n 1, 1) := by decide +kernel
theorem dX3_cutWeeks_3 : decode cX3_cutWeeks 3 = .ok (.invokevirtual 94, 3) := by decide +kernel
theorem dX3_cutWeeks_6 : decode cX3_cutWeeks 6 = .ok (.invokevirtual 86, 3) := by decide +kernel
theorem dX3_cutWeeks_9 : decode cX3_cutWeeks 9 = .ok (.ifCond .eq 12, 3) := by decide +kernel
theorem dX3_cutWeeks_12 : decode cX3_cutWeeks 12 = .ok (.aload_n 0, 1) := by decide +kernel
theorem dX3_cutWeeks_13 : decode cX3_cutWeeks 13 = .ok (.getfield 29, 3) := by decide +kernel
theorem dX3_cutWeeks_16 : decode cX3_cutWeeks 16 = .ok (.iload_n 1, 1) := by decide +kernel
theorem dX3_cutWeeks_17 : decode cX3_cutWeeks 17 = .ok (.iaload, 1) := by decide +kernel
theorem dX3_cutWeeks_18 : decode cX3_cutWeeks 18 = .ok (.goto 4, 3) := by decide +kernel
theorem dX3_cutWeeks_21 : decode cX3_cutWeeks 21 = .ok (.iconst 0, 1) := by decide +kernel
theorem dX3_cutWeeks_22 : decode cX3_cutWeeks 22 = .ok (.ireturn, 1) := by decide +kernel
theorem dX3_door_0 : decode cX3_door 0 = .ok (.aload_n 0, 1) := by decide +kernel
theorem dX3_door_1 : decode cX3_door 1 = .ok (.aload_n 0, 1) := by decide +kernel
theorem dX3_door_2 : decode cX3_door 2 = .ok (.iload_n 1, 1) := by decide +kernel
theorem dX3_door_3 : decode cX3_door 3 = .ok (.invokevirtual 94, 3) := by decide +kernel
theorem dX3_door_6 : decode cX3_door 6 = .ok (.invokevirtual 86, 3) := by decide +kernel
theorem dX3_door_9 : decode cX3_door 9 = .ok (.ifCond .ne 4, 3) := by decide +kernel
theorem dX3_door_12 : decode cX3_door 12 = .ok (.return_, 1) := by decide +kernel
theorem dX3_door_13 : decode cX3_door 13 = .ok (.aload_n 0, 1) := by decide +kernel
theorem dX3_door_14 : decode cX3_door 14 = .ok (.iload_n 2, 1) := by decide +kernel
theorem dX3_door_15 : decode cX3_door 15 = .ok (.invokevirtual 121, 3) := by decide +kernel
theorem dX3_door_18 : decode cX3_door 18 = .ok (.ifCond .eq 13, 3) := by decide +kernel
theorem dX3_door_21 : decode cX3_door 21 = .ok (.iload_n 3, 1) := by decide +kernel
theorem dX3_door_22 : decode cX3_door 22 = .ok (.iconst 0, 1) := by decide +kernel
theorem dX3_door_23 : decode cX3_door 23 = .ok (.bipush 80, 2) := by decide +kernel
theorem dX3_door_25 : decode cX3_door 25 = .ok (.invokestatic 82, 3) := by decide +kernel
theorem dX3_door_28 : decode cX3_door 28 = .ok (.ifCond .ne 12, 3) := by decide +kernel
theorem dX3_door_31 : decode cX3_door 31 = .ok (.aload_n 0, 1) := by decide +kernel
theorem dX3_door_32 : decode cX3_door 32 = .ok (.iconst 2, 1) := by decide +kernel
theorem dX3_door_33 : decode cX3_door 33 = .ok (.invokevirtual 90, 3) := by decide +kernel
theorem dX3_door_36 : decode cX3_door 36 = .ok (.pop, 1) := by decide +kernel
theorem dX3_door_37 : decode cX3_door 37 = .ok (.goto 34, 3) := by decide +kernel
theorem dX3_door_40 : decode cX3_door 40 = .ok (.aload_n 0, 1) := by decide +kernel
theorem dX3_door_41 : decode cX3_door 41 = .ok (.getfield 69, 3) := by decide +kernel
theorem dX3_door_44 : decode cX3_door 44 = .ok (.iload_n 2, 1) := by decide +kernel
theorem dX3_door_45 : decode cX3_door 45 = .ok (.baload, 1) := by decide +kernel
theorem dX3_door_46 : decode cX3_door 46 = .ok (.ifCond .eq 12, 3) := by decide +kernel
theorem dX3_door_49 : decode cX3_door 49 = .ok (.aload_n 0, 1) := by decide +kernel
theorem dX3_door_50 : decode cX3_door 50 = .ok (.iconst 3, 1) := by decide +kernel
theorem dX3_door_51 : decode cX3_door 51 = .ok (.invokevirtual 90, 3) := by decide +kernel
theorem dX3_door_54 : decode cX3_door 54 = .ok (.pop, 1) := by decide +kernel
theorem dX3_door_55 : decode cX3_door 55 = .ok (.goto 16, 3) := by decide +kernel
theorem dX3_door_58 : decode cX3_door 58 = .ok (.aload_n 0, 1) := by decide +kernel
theorem dX3_door_59 : decode cX3_door 59 = .ok (.getfield 63, 3) := by decide +kernel
theorem dX3_door_62 : decode cX3_door 62 = .ok (.sipush 201, 3) := by decide +kernel
theorem dX3_door_65 : decode cX3_door 65 = .ok (.iload_n 1, 1) := by decide +kernel
theorem dX3_door_66 : decode cX3_door 66 = .ok (.imul, 1) := by decide +kernel
theorem dX3_door_67 : decode cX3_door 67 = .ok (.iload_n 2, 1) := by decide +kernel
theorem dX3_door_68 : decode cX3_door 68 = .ok (.iadd, 1) := by decide +kernel
theorem dX3_door_69 : decode cX3_door 69 = .ok (.iload_n 3, 1) := by decide +kernel
theorem dX3_door_70 : decode cX3_door 70 = .ok (.iastore, 1) := by decide +kernel
theorem dX3_door_71 : decode cX3_door 71 = .ok (.return_, 1) := by decide +kernel
theorem dX3_mail_0 : decode cX3_mail 0 = .ok (.aload_n 0, 1) := by decide +kernel
theorem dX3_mail_1 : decode cX3_mail 1 = .ok (.aload_n 0, 1) := by decide +kernel
theorem dX3_mail_2 : decode cX3_mail 2 = .ok (.iload_n 1, 1) := by decide +kernel
theorem dX3_mail_3 : decode cX3_mail 3 = .ok (.invokevirtual 94, 3) := by decide +kernel
theorem dX3_mail_6 : decode cX3_mail 6 = .ok (.invokevirtual 86, 3) := by decide +kernel
theorem dX3_mail_9 : decode cX3_mail 9 = .ok (.ifCond .ne 4, 3) := by decide +kernel
theorem dX3_mail_12 : decode cX3_mail 12 = .ok (.return_, 1) := by decide +kernel
theorem dX3_mail_13 : decode cX3_mail 13 = .ok (.aload_n 0, 1) := by decide +kernel
theorem dX3_mail_14 : decode cX3_mail 14 = .ok (.iload_n 2, 1) := by decide +kernel
theorem dX3_mail_15 : decode cX3_mail 15 = .ok (.invokevirtual 121, 3) := by decide +kernel
theorem dX3_mail_18 : decode cX3_mail 18 = .ok (.ifCond .ne 12, 3) := by decide +kernel
theorem dX3_mail_21 : decode cX3_mail 21 = .ok (.aload_n 0, 1) := by decide +kernel
theorem dX3_mail_22 : decode cX3_mail 22 = .ok (.iconst 2, 1) := by decide +kernel
theorem dX3_mail_23 : decode cX3_mail 23 = .ok (.invokevirtual 90, 3) := by decide +kernel
theorem dX3_mail_26 : decode cX3_mail 26 = .ok (.pop, 1) := by decide +kernel
theorem dX3_mail_27 : decode cX3_mail 27 = .ok (.goto 34, 3) := by decide +kernel
theorem dX3_mail_30 : decode cX3_mail 30 = .ok (.aload_n 0, 1) := by decide +kernel
theorem dX3_mail_31 : decode cX3_mail 31 = .ok (.getfield 69, 3) := by decide +kernel
theorem dX3_mail_34 : decode cX3_mail 34 = .ok (.iload_n 2, 1) := by decide +kernel
theorem dX3_mail_35 : decode cX3_mail 35 = .ok (.baload, 1) := by decide +kernel
theorem dX3_mail_36 : decode cX3_mail 36 = .ok (.ifCond .eq 12, 3) := by decide +kernel
theorem dX3_mail_39 : decode cX3_mail 39 = .ok (.aload_n 0, 1) := by decide +kernel
theorem dX3_mail_40 : decode cX3_mail 40 = .ok (.iconst 3, 1) := by decide +kernel
theorem dX3_mail_41 : decode cX3_mail 41 = .ok (.invokevirtual 90, 3) := by decide +kernel
theorem dX3_mail_44 : decode cX3_mail 44 = .ok (.pop, 1) := by decide +kernel
theorem dX3_mail_45 : decode cX3_mail 45 = .ok (.goto 16, 3) := by decide +kernel
theorem dX3_mail_48 : decode cX3_mail 48 = .ok (.aload_n 0, 1) := by decide +kernel
theorem dX3_mail_49 : decode cX3_mail 49 = .ok (.getfield 66, 3) := by decide +kernel
theorem dX3_mail_52 : decode cX3_mail 52 = .ok (.sipush 201, 3) := by decide +kernel
theorem dX3_mail_55 : decode cX3_mail 55 = .ok (.iload_n 1, 1) := by decide +kernel
theorem dX3_mail_56 : decode cX3_mail 56 = .ok (.imul, 1) := by decide +kernel
theorem dX3_mail_57 : decode cX3_mail 57 = .ok (.iload_n 2, 1) := by decide +kernel
theorem dX3_mail_58 : decode cX3_mail 58 = .ok (.iadd, 1) := by decide +kernel
theorem dX3_mail_59 : decode cX3_mail 59 = .ok (.iconst 1, 1) := by decide +kernel
theorem dX3_mail_60 : decode cX3_mail 60 = .ok (.bastore, 1) := by decide +kernel
theorem dX3_mail_61 : decode cX3_mail 61 = .ok (.return_, 1) := by decide +kernel
theorem dX3_check_0 : decode cX3_check 0 = .ok (.aload_n 0, 1) := by decide +kernel
theorem dX3_check_1 : decode cX3_check 1 = .ok (.aload_n 0, 1) := by decide +kernel
theorem dX3_check_2 : decode cX3_check 2 = .ok (.iload_n 1, 1) := by decide +kernel
theorem dX3_check_3 : decode cX3_check 3 = .ok (.invokevirtual 121, 3) := by decide +kernel
theorem dX3_check_6 : decode cX3_check 6 = .ok (.invokevirtual 86, 3) := by decide +kernel
theorem dX3_check_9 : decode cX3_check 9 = .ok (.ifCond .ne 5, 3) := by decide +kernel
theorem dX3_check_12 : decode cX3_check 12 = .ok (.iconst 0, 1) := by decide +kernel
theorem dX3_check_13 : decode cX3_check 13 = .ok (.ireturn, 1) := by decide +kernel
theorem dX3_check_14 : decode cX3_check 14 = .ok (.aload_n 0, 1) := by decide +kernel
theorem dX3_check_15 : decode cX3_check 15 = .ok (.getfield 69, 3) := by decide +kernel
theorem dX3_check_18 : decode cX3_check 18 = .ok (.iload_n 1, 1) := by decide +kernel
theorem dX3_check_19 : decode cX3_check 19 = .ok (.baload, 1) := by decide +kernel
theorem dX3_check_20 : decode cX3_check 20 = .ok (.ifCond .eq 9, 3) := by decide +kernel
theorem dX3_check_23 : decode cX3_check 23 = .ok (.aload_n 0, 1) := by decide +kernel
theorem dX3_check_24 : decode cX3_check 24 = .ok (.iconst 2, 1) := by decide +kernel
theorem dX3_check_25 : decode cX3_check 25 = .ok (.invokevirtual 90, 3) := by decide +kernel
theorem dX3_check_28 : decode cX3_check 28 = .ok (.ireturn, 1) := by decide +kernel
theorem dX3_check_29 : decode cX3_check 29 = .ok (.aload_n 0, 1) := by decide +kernel
theorem dX3_check_30 : decode cX3_check 30 = .ok (.getfield 69, 3) := by decide +kernel
theorem dX3_check_33 : decode cX3_check 33 = .ok (.iload_n 1, 1) := by decide +kernel
theorem dX3_check_34 : decode cX3_check 34 = .ok (.iconst 1, 1) := by decide +kernel
theorem dX3_check_35 : decode cX3_check 35 = .ok (.bastore, 1) := by decide +kernel
theorem dX3_check_36 : decode cX3_check 36 = .ok (.iconst 0, 1) := by decide +kernel
theorem dX3_check_37 : decode cX3_check 37 = .ok (.istore_n 2, 1) := by decide +kernel
theorem dX3_check_38 : decode cX3_check 38 = .ok (.iconst 0, 1) := by decide +kernel
theorem dX3_check_39 : decode cX3_check 39 = .ok (.istore_n 3, 1) := by decide +kernel
theorem dX3_check_40 : decode cX3_check 40 = .ok (.iload_n 3, 1) := by decide +kernel
theorem dX3_check_41 : decode cX3_check 41 = .ok (.aload_n 0, 1) := by decide +kernel
theorem dX3_check_42 : decode cX3_check 42 = .ok (.getfield 75, 3) := by decide +kernel
theorem dX3_check_45 : decode cX3_check 45 = .ok (.if_icmp .ge 136, 3) := by decide +kernel
theorem dX3_check_48 : decode cX3_check 48 = .ok (.sipush 201, 3) := by decide +kernel
theorem dX3_check_51 : decode cX3_check 51 = .ok (.iload_n 3, 1) := by decide +kernel
theorem dX3_check_52 : decode cX3_check 52 = .ok (.imul, 1) := by decide +kernel
theorem dX3_check_53 : decode cX3_check 53 = .ok (.iload_n 1, 1) := by decide +kernel
theorem dX3_check_54 : decode cX3_check 54 = .ok (.iadd, 1) := by decide +kernel
theorem dX3_check_55 : decode cX3_check 55 = .ok (.istore 4, 2) := by decide +kernel
theorem dX3_check_57 : decode cX3_check 57 = .ok (.aload_n 0, 1) := by decide +kernel
theorem dX3_check_58 : decode cX3_check 58 = .ok (.getfield 57, 3) := by decide +kernel
theorem dX3_check_61 : decode cX3_check 61 = .ok (.iload 4, 2) := by decide +kernel
theorem dX3_check_63 : decode cX3_check 63 = .ok (.iaload, 1) := by decide +kernel
theorem dX3_check_64 : decode cX3_check 64 = .ok (.istore 5, 2) := by decide +kernel
theorem dX3_check_66 : decode cX3_check 66 = .ok (.aload_n 0, 1) := by decide +kernel
theorem dX3_check_67 : decode cX3_check 67 = .ok (.getfield 63, 3) := by decide +kernel
theorem dX3_check_70 : decode cX3_check 70 = .ok (.iload 4, 2) := by decide +kernel
theorem dX3_check_72 : decode cX3_check 72 = .ok (.iaload, 1) := by decide +kernel
theorem dX3_check_73 : decode cX3_check 73 = .ok (.iconst (-1), 1) := by decide +kernel
theorem dX3_check_74 : decode cX3_check 74 = .ok (.if_icmp .eq 101, 3) := by decide +kernel
theorem dX3_check_77 : decode cX3_check 77 = .ok (.aload_n 0, 1) := by decide +kernel
theorem dX3_check_78 : decode cX3_check 78 = .ok (.getfield 63, 3) := by decide +kernel
theorem dX3_check_81 : decode cX3_check 81 = .ok (.iload 4, 2) := by decide +kernel
theorem dX3_check_83 : decode cX3_check 83 = .ok (.iaload, 1) := by decide +kernel
theorem dX3_check_84 : decode cX3_check 84 = .ok (.bipush 40, 2) := by decide +kernel
theorem dX3_check_86 : decode cX3_check 86 = .ok (.aload_n 0, 1) := by decide +kernel
theorem dX3_check_87 : decode cX3_check 87 = .ok (.getfield 60, 3) := by decide +kernel
theorem dX3_check_90 : decode cX3_check 90 = .ok (.iload 4, 2) := by decide +kernel
theorem dX3_check_92 : decode cX3_check 92 = .ok (.iaload, 1) := by decide +kernel
theorem dX3_check_93 : decode cX3_check 93 = .ok (.isub, 1) := by decide +kernel
theorem dX3_check_94 : decode cX3_check 94 = .ok (.iconst 2, 1) := by decide +kernel
theorem dX3_check_95 : decode cX3_check 95 = .ok (.iadd, 1) := by decide +kernel
theorem dX3_check_96 : decode cX3_check 96 = .ok (.if_icmp .le 79, 3) := by decide +kernel
theorem dX3_check_99 : decode cX3_check 99 = .ok (.iload 5, 2) := by decide +kernel
theorem dX3_check_101 : decode cX3_check 101 = .ok (.ifCond .le 74, 3) := by decide +kernel
theorem dX3_check_104 : decode cX3_check 104 = .ok (.aload_n 0, 1) := by decide +kernel
theorem dX3_check_105 : decode cX3_check 105 = .ok (.getfield 66, 3) := by decide +kernel
theorem dX3_check_108 : decode cX3_check 108 = .ok (.iload 4, 2) := by decide +kernel
theorem dX3_check_110 : decode cX3_check 110 = .ok (.baload, 1) := by decide +kernel
theorem dX3_check_111 : decode cX3_check 111 = .ok (.ifCond .eq 7, 3) := by decide +kernel
theorem dX3_check_114 : decode cX3_check 114 = .ok (.iconst 0, 1) := by decide +kernel
theorem dX3_check_115 : decode cX3_check 115 = .ok (.goto 7, 3) := by decide +kernel
theorem dX3_check_118 : decode cX3_check 118 = .ok (.iload 5, 2) := by decide +kernel
theorem dX3_check_120 : decode cX3_check 120 = .ok (.iconst 2, 1) := by decide +kernel
theorem dX3_check_121 : decode cX3_check 121 = .ok (.idiv, 1) := by decide +kernel
theorem dX3_check_122 : decode cX3_check 122 = .ok (.istore 6, 2) := by decide +kernel
theorem dX3_check_124 : decode cX3_check 124 = .ok (.aload_n 0, 1) := by decide +kernel
theorem dX3_check_125 : decode cX3_check 125 = .ok (.getfield 32, 3) := by decide +kernel
theorem dX3_check_128 : decode cX3_check 128 = .ok (.iload_n 3, 1) := by decide +kernel
theorem dX3_check_129 : decode cX3_check 129 = .ok (.dup2, 1) := by decide +kernel
theorem dX3_check_130 : decode cX3_check 130 = .ok (.iaload, 1) := by decide +kernel
theorem dX3_check_131 : decode cX3_check 131 = .ok (.iload 6, 2) := by decide +kernel
theorem dX3_check_133 : decode cX3_check 133 = .ok (.iadd, 1) := by decide +kernel
theorem dX3_check_134 : decode cX3_check 134 = .ok (.iastore, 1) := by decide +kernel
theorem dX3_check_135 : decode cX3_check 135 = .ok (.aload_n 0, 1) := by decide +kernel
theorem dX3_check_136 : decode cX3_check 136 = .ok (.dup, 1) := by decide +kernel
theorem dX3_check_137 : decode cX3_check 137 = .ok (.getfield 124, 3) := by decide +kernel
theorem dX3_check_140 : decode cX3_check 140 = .ok (.iload 5, 2) := by decide +kernel
theorem dX3_check_142 : decode cX3_check 142 = .ok (.iload 6, 2) := by decide +kernel
theorem dX3_check_144 : decode cX3_check 144 = .ok (.isub, 1) := by decide +kernel
theorem dX3_check_145 : decode cX3_check 145 = .ok (.aload_n 0, 1) := by decide +kernel
theorem dX3_check_146 : decode cX3_check 146 = .ok (.getfield 66, 3) := by decide +kernel
theorem dX3_check_149 : decode cX3_check 149 = .ok (.iload 4, 2) := by decide +kernel
theorem dX3_check_151 : decode cX3_check 151 = .ok (.baload, 1) := by decide +kernel
theorem dX3_check_152 : decode cX3_check 152 = .ok (.ifCond .eq 14, 3) := by decide +kernel
theorem dX3_check_155 : decode cX3_check 155 = .ok (.iload 5, 2) := by decide +kernel
theorem dX3_check_157 : decode cX3_check 157 = .ok (.bipush 10, 2) := by decide +kernel
theorem dX3_check_159 : decode cX3_check 159 = .ok (.imul, 1) := by decide +kernel
theorem dX3_check_160 : decode cX3_check 160 = .ok (.bipush 100, 2) := by decide +kernel
theorem dX3_check_162 : decode cX3_check 162 = .ok (.idiv, 1) := by decide +kernel
theorem dX3_check_163 : decode cX3_check 163 = .ok (.goto 4, 3) := by decide +kernel
theorem dX3_check_166 : decode cX3_check 166 = .ok (.iconst 0, 1) := by decide +kernel
theorem dX3_check_167 : decode cX3_check 167 = .ok (.iadd, 1) := by decide +kernel
theorem dX3_check_168 : decode cX3_check 168 = .ok (.iadd, 1) := by decide +kernel
theorem dX3_check_169 : decode cX3_check 169 = .ok (.putfield 124, 3) := by decide +kernel
theorem dX3_check_172 : decode cX3_check 172 = .ok (.iinc 2 1, 3) := by decide +kernel
theorem dX3_check_175 : decode cX3_check 175 = .ok (.iinc 3 1, 3) := by decide +kernel
theorem dX3_check_178 : decode cX3_check 178 = .ok (.goto (-138), 3) := by decide +kernel
theorem dX3_check_181 : decode cX3_check 181 = .ok (.iload_n 2, 1) := by decide +kernel
theorem dX3_check_182 : decode cX3_check 182 = .ok (.ireturn, 1) := by decide +kernel
theorem dX3_firmOwes_0 : decode cX3_firmOwes 0 = .ok (.aload_n 0, 1) := by decide +kernel
theorem dX3_firmOwes_1 : decode cX3_firmOwes 1 = .ok (.iconst 0, 1) := by decide +kernel
theorem dX3_firmOwes_2 : decode cX3_firmOwes 2 = .ok (.putfield 72, 3) := by decide +kernel
theorem dX3_firmOwes_5 : decode cX3_firmOwes 5 = .ok (.aload_n 0, 1) := by decide +kernel
theorem dX3_firmOwes_6 : decode cX3_firmOwes 6 = .ok (.getfield 124, 3) := by decide +kernel
theorem dX3_firmOwes_9 : decode cX3_firmOwes 9 = .ok (.ireturn, 1) := by decide +kernel
theorem dX3_owes_0 : decode cX3_owes 0 = .ok (.aload_n 0, 1) := by decide +kernel
theorem dX3_owes_1 : decode cX3_owes 1 = .ok (.aload_n 0, 1) := by decide +kernel
theorem dX3_owes_2 : decode cX3_owes 2 = .ok (.iload_n 1, 1) := by decide +kernel
theorem dX3_owes_3 : decode cX3_owes 3 = .ok (.invokevirtual 94, 3) := by decide +kernel
theorem dX3_owes_6 : decode cX3_owes 6 = .ok (.invokevirtual 86, 3) := by decide +kernel
theorem dX3_owes_9 : decode cX3_owes 9 = .ok (.ifCond .eq 12, 3) := by decide +kernel
theorem dX3_owes_12 : decode cX3_owes 12 = .ok (.aload_n 0, 1) := by decide +kernel
theorem dX3_owes_13 : decode cX3_owes 13 = .ok (.getfield 32, 3) := by decide +kernel
theorem dX3_owes_16 : decode cX3_owes 16 = .ok (.iload_n 1, 1) := by decide +kernel
theorem dX3_owes_17 : decode cX3_owes 17 = .ok (.iaload, 1) := by decide +kernel
theorem dX3_owes_18 : decode cX3_owes 18 = .ok (.goto 4, 3) := by decide +kernel
theorem dX3_owes_21 : decode cX3_owes 21 = .ok (.iconst 0, 1) := by decide +kernel
theorem dX3_owes_22 : decode cX3_owes 22 = .ok (.ireturn, 1) := by decide +kernel
theorem dX3_net_0 : decode cX3_net 0 = .ok (.aload_n 0, 1) := by decide +kernel
theorem dX3_net_1 : decode cX3_net 1 = .ok (.aload_n 0, 1) := by decide +kernel
theorem dX3_net_2 : decode cX3_net 2 = .ok (.iload_n 1, 1) := by decide +kernel
theorem dX3_net_3 : decode cX3_net 3 = .ok (.invokevirtual 94, 3) := by decide +kernel
theorem dX3_net_6 : decode cX3_net 6 = .ok (.invokevirtual 86, 3) := by decide +kernel
theorem dX3_net_9 : decode cX3_net 9 = .ok (.ifCond .ne 5, 3) := by decide +kernel
theorem dX3_net_12 : decode cX3_net 12 = .ok (.iconst 0, 1) := by decide +kernel
theorem dX3_net_13 : decode cX3_net 13 = .ok (.ireturn, 1) := by decide +kernel
theorem dX3_net_14 : decode cX3_net 14 = .ok (.aload_n 0, 1) := by decide +kernel
theorem dX3_net_15 : decode cX3_net 15 = .ok (.getfield 32, 3) := by decide +kernel
theorem dX3_net_18 : decode cX3_net 18 = .ok (.iload_n 1, 1) := by decide +kernel
theorem dX3_net_19 : decode cX3_net 19 = .ok (.iaload, 1) := by decide +kernel
theorem dX3_net_20 : decode cX3_net 20 = .ok (.ineg, 1) := by decide +kernel
theorem dX3_net_21 : decode cX3_net 21 = .ok (.istore_n 2, 1) := by decide +kernel
theorem dX3_net_22 : decode cX3_net 22 = .ok (.sipush 201, 3) := by decide +kernel
theorem dX3_net_25 : decode cX3_net 25 = .ok (.iload_n 1, 1) := by decide +kernel
theorem dX3_net_26 : decode cX3_net 26 = .ok (.imul, 1) := by decide +kernel
theorem dX3_net_27 : decode cX3_net 27 = .ok (.istore_n 3, 1) := by decide +kernel
theorem dX3_net_28 : decode cX3_net 28 = .ok (.iload_n 3, 1) := by decide +kernel
theorem dX3_net_29 : decode cX3_net 29 = .ok (.sipush 201, 3) := by decide +kernel
theorem dX3_net_32 : decode cX3_net 32 = .ok (.iload_n 1, 1) := by decide +kernel
theorem dX3_net_33 : decode cX3_net 33 = .ok (.imul, 1) := by decide +kernel
theorem dX3_net_34 : decode cX3_net 34 = .ok (.sipush 201, 3) := by decide +kernel
theorem dX3_net_37 : decode cX3_net 37 = .ok (.iadd, 1) := by decide +kernel
theorem dX3_net_38 : decode cX3_net 38 = .ok (.if_icmp .ge 25, 3) := by decide +kernel
theorem dX3_net_41 : decode cX3_net 41 = .ok (.iload_n 2, 1) := by decide +kernel
theorem dX3_net_42 : decode cX3_net 42 = .ok (.aload_n 0, 1) := by decide +kernel
theorem dX3_net_43 : decode cX3_net 43 = .ok (.getfield 54, 3) := by decide +kernel
theorem dX3_net_46 : decode cX3_net 46 = .ok (.iload_n 3, 1) := by decide +kernel
theorem dX3_net_47 : decode cX3_net 47 = .ok (.iaload, 1) := by decide +kernel
theorem dX3_net_48 : decode cX3_net 48 = .ok (.aload_n 0, 1) := by decide +kernel
theorem dX3_net_49 : decode cX3_net 49 = .ok (.getfield 57, 3) := by decide +kernel
theorem dX3_net_52 : decode cX3_net 52 = .ok (.iload_n 3, 1) := by decide +kernel
theorem dX3_net_53 : decode cX3_net 53 = .ok (.iaload, 1) := by decide +kernel
theorem dX3_net_54 : decode cX3_net 54 = .ok (.iadd, 1) := by decide +kernel
theorem dX3_net_55 : decode cX3_net 55 = .ok (.iadd, 1) := by decide +kernel
theorem dX3_net_56 : decode cX3_net 56 = .ok (.istore_n 2, 1) := by decide +kernel
theorem dX3_net_57 : decode cX3_net 57 = .ok (.iinc 3 1, 3) := by decide +kernel
theorem dX3_net_60 : decode cX3_net 60 = .ok (.goto (-32), 3) := by decide +kernel
theorem dX3_net_63 : decode cX3_net 63 = .ok (.iload_n 2, 1) := by decide +kernel
theorem dX3_net_64 : decode cX3_net 64 = .ok (.ireturn, 1) := by decide +kernel
theorem dJ9_max_7cf53_0 : decode cJ9_max_7cf53 0 = .ok (.iload_n 0, 1) := by decide +kernel
theorem dJ9_max_7cf53_1 : decode cJ9_max_7cf53 1 = .ok (.iload_n 1, 1) := by decide +kernel
theorem dJ9_max_7cf53_2 : decode cJ9_max_7cf53 2 = .ok (.if_icmp .lt 7, 3) := by decide +kernel
theorem dJ9_max_7cf53_5 : decode cJ9_max_7cf53 5 = .ok (.iload_n 0, 1) := by decide +kernel
theorem dJ9_max_7cf53_6 : decode cJ9_max_7cf53 6 = .ok (.goto 4, 3) := by decide +kernel
theorem dJ9_max_7cf53_9 : decode cJ9_max_7cf53 9 = .ok (.iload_n 1, 1) := by decide +kernel
theorem dJ9_max_7cf53_10 : decode cJ9_max_7cf53 10 = .ok (.ireturn, 1) := by decide +kernel
