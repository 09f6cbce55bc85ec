theorem dX0_init_0 : decode cX0_init 0 = .ok (.aload_n 0, 1) := by decide +kernel
theorem dX0_init_1 : decode cX0_init 1 = .ok (.invokespecial 3, 3) := by decide +kernel
theorem dX0_init_4 : decode cX0_init 4 = .ok (.aload_n 0, 1) := by decide +kernel
theorem dX0_init_5 : decode cX0_init 5 = .ok (.bipush 12, 2) := by decide +kernel
theorem dX0_init_7 : decode cX0_init 7 = .ok (.anewarray 9, 3) := by decide +kernel
theorem dX0_init_10 : decode cX0_init 10 = .ok (.putfield 11, 3) := by decide +kernel
theorem dX0_init_13 : decode cX0_init 13 = .ok (.aload_n 0, 1) := by decide +kernel
theorem dX0_init_14 : decode cX0_init 14 = .ok (.iconst 0, 1) := by decide +kernel
theorem dX0_init_15 : decode cX0_init 15 = .ok (.putfield 17, 3) := by decide +kernel
theorem dX0_init_18 : decode cX0_init 18 = .ok (.aload_n 0, 1) := by decide +kernel
theorem dX0_init_19 : decode cX0_init 19 = .ok (.iconst 0, 1) := by decide +kernel
theorem dX0_init_20 : decode cX0_init 20 = .ok (.putfield 21, 3) := by decide +kernel
theorem dX0_init_23 : decode cX0_init 23 = .ok (.return_, 1) := by decide +kernel
theorem dX0_takesAStep_0 : decode cX0_takesAStep 0 = .ok (.aload_n 0, 1) := by decide +kernel
theorem dX0_takesAStep_1 : decode cX0_takesAStep 1 = .ok (.getfield 21, 3) := by decide +kernel
theorem dX0_takesAStep_4 : decode cX0_takesAStep 4 = .ok (.ifCond .ne 19, 3) := by decide +kernel
theorem dX0_takesAStep_7 : decode cX0_takesAStep 7 = .ok (.aload_n 0, 1) := by decide +kernel
theorem dX0_takesAStep_8 : decode cX0_takesAStep 8 = .ok (.getfield 17, 3) := by decide +kernel
theorem dX0_takesAStep_11 : decode cX0_takesAStep 11 = .ok (.aload_n 0, 1) := by decide +kernel
theorem dX0_takesAStep_12 : decode cX0_takesAStep 12 = .ok (.getfield 11, 3) := by decide +kernel
theorem dX0_takesAStep_15 : decode cX0_takesAStep 15 = .ok (.arraylength, 1) := by decide +kernel
theorem dX0_takesAStep_16 : decode cX0_takesAStep 16 = .ok (.if_icmp .ge 7, 3) := by decide +kernel
theorem dX0_takesAStep_19 : decode cX0_takesAStep 19 = .ok (.iconst 1, 1) := by decide +kernel
theorem dX0_takesAStep_20 : decode cX0_takesAStep 20 = .ok (.goto 4, 3) := by decide +kernel
theorem dX0_takesAStep_23 : decode cX0_takesAStep 23 = .ok (.iconst 0, 1) := by decide +kernel
theorem dX0_takesAStep_24 : decode cX0_takesAStep 24 = .ok (.ireturn, 1) := by decide +kernel
theorem dX0_append_0 : decode cX0_append 0 = .ok (.aload_n 0, 1) := by decide +kernel
theorem dX0_append_1 : decode cX0_append 1 = .ok (.getfield 17, 3) := by decide +kernel
theorem dX0_append_4 : decode cX0_append 4 = .ok (.ifCond .lt 35, 3) := by decide +kernel
theorem dX0_append_7 : decode cX0_append 7 = .ok (.aload_n 0, 1) := by decide +kernel
theorem dX0_append_8 : decode cX0_append 8 = .ok (.getfield 17, 3) := by decide +kernel
theorem dX0_append_11 : decode cX0_append 11 = .ok (.aload_n 0, 1) := by decide +kernel
theorem dX0_append_12 : decode cX0_append 12 = .ok (.getfield 11, 3) := by decide +kernel
theorem dX0_append_15 : decode cX0_append 15 = .ok (.arraylength, 1) := by decide +kernel
theorem dX0_append_16 : decode cX0_append 16 = .ok (.if_icmp .ge 23, 3) := by decide +kernel
theorem dX0_append_19 : decode cX0_append 19 = .ok (.aload_n 0, 1) := by decide +kernel
theorem dX0_append_20 : decode cX0_append 20 = .ok (.getfield 11, 3) := by decide +kernel
theorem dX0_append_23 : decode cX0_append 23 = .ok (.aload_n 0, 1) := by decide +kernel
theorem dX0_append_24 : decode cX0_append 24 = .ok (.getfield 17, 3) := by decide +kernel
theorem dX0_append_27 : decode cX0_append 27 = .ok (.aload_n 1, 1) := by decide +kernel
theorem dX0_append_28 : decode cX0_append 28 = .ok (.aastore, 1) := by decide +kernel
theorem dX0_append_29 : decode cX0_append 29 = .ok (.aload_n 0, 1) := by decide +kernel
theorem dX0_append_30 : decode cX0_append 30 = .ok (.dup, 1) := by decide +kernel
theorem dX0_append_31 : decode cX0_append 31 = .ok (.getfield 17, 3) := by decide +kernel
theorem dX0_append_34 : decode cX0_append 34 = .ok (.iconst 1, 1) := by decide +kernel
theorem dX0_append_35 : decode cX0_append 35 = .ok (.iadd, 1) := by decide +kernel
theorem dX0_append_36 : decode cX0_append 36 = .ok (.putfield 17, 3) := by decide +kernel
theorem dX0_append_39 : decode cX0_append 39 = .ok (.return_, 1) := by decide +kernel
theorem dX0_stepAt_0 : decode cX0_stepAt 0 = .ok (.iload_n 1, 1) := by decide +kernel
theorem dX0_stepAt_1 : decode cX0_stepAt 1 = .ok (.ifCond .lt 20, 3) := by decide +kernel
theorem dX0_stepAt_4 : decode cX0_stepAt 4 = .ok (.iload_n 1, 1) := by decide +kernel
theorem dX0_stepAt_5 : decode cX0_stepAt 5 = .ok (.aload_n 0, 1) := by decide +kernel
theorem dX0_stepAt_6 : decode cX0_stepAt 6 = .ok (.getfield 17, 3) := by decide +kernel
theorem dX0_stepAt_9 : decode cX0_stepAt 9 = .ok (.if_icmp .ge 12, 3) := by decide +kernel
theorem dX0_stepAt_12 : decode cX0_stepAt 12 = .ok (.iload_n 1, 1) := by decide +kernel
theorem dX0_stepAt_13 : decode cX0_stepAt 13 = .ok (.aload_n 0, 1) := by decide +kernel
theorem dX0_stepAt_14 : decode cX0_stepAt 14 = .ok (.getfield 11, 3) := by decide +kernel
theorem dX0_stepAt_17 : decode cX0_stepAt 17 = .ok (.arraylength, 1) := by decide +kernel
theorem dX0_stepAt_18 : decode cX0_stepAt 18 = .ok (.if_icmp .lt 5, 3) := by decide +kernel
theorem dX0_stepAt_21 : decode cX0_stepAt 21 = .ok (.aconst_null, 1) := by decide +kernel
theorem dX0_stepAt_22 : decode cX0_stepAt 22 = .ok (.areturn, 1) := by decide +kernel
theorem dX0_stepAt_23 : decode cX0_stepAt 23 = .ok (.aload_n 0, 1) := by decide +kernel
theorem dX0_stepAt_24 : decode cX0_stepAt 24 = .ok (.getfield 11, 3) := by decide +kernel
theorem dX0_stepAt_27 : decode cX0_stepAt 27 = .ok (.iload_n 1, 1) := by decide +kernel
theorem dX0_stepAt_28 : decode cX0_stepAt 28 = .ok (.aaload, 1) := by decide +kernel
theorem dX0_stepAt_29 : decode cX0_stepAt 29 = .ok (.areturn, 1) := by decide +kernel
theorem dX1_init_0 : decode cX1_init 0 = .ok (.aload_n 0, 1) := by decide +kernel
theorem dX1_init_1 : decode cX1_init 1 = .ok (.invokespecial 3, 3) := by decide +kernel
theorem dX1_init_4 : decode cX1_init 4 = .ok (.aload_n 0, 1) := by decide +kernel
theorem dX1_init_5 : decode cX1_init 5 = .ok (.aload_n 1, 1) := by decide +kernel
theorem dX1_init_6 : decode cX1_init 6 = .ok (.putfield 9, 3) := by decide +kernel
theorem dX1_init_9 : decode cX1_init 9 = .ok (.aload_n 0, 1) := by decide +kernel
theorem dX1_init_10 : decode cX1_init 10 = .ok (.iload_n 3, 1) := by decide +kernel
theorem dX1_init_11 : decode cX1_init 11 = .ok (.putfield 15, 3) := by decide +kernel
theorem dX1_init_14 : decode cX1_init 14 = .ok (.aload_n 0, 1) := by decide +kernel
theorem dX1_init_15 : decode cX1_init 15 = .ok (.bipush 12, 2) := by decide +kernel
theorem dX1_init_17 : decode cX1_init 17 = .ok (.anewarray 19, 3) := by decide +kernel
theorem dX1_init_20 : decode cX1_init 20 = .ok (.putfield 21, 3) := by decide +kernel
theorem dX1_init_23 : decode cX1_init 23 = .ok (.aload_n 0, 1) := by decide +kernel
theorem dX1_init_24 : decode cX1_init 24 = .ok (.new 19, 3) := by decide +kernel
theorem dX1_init_27 : decode cX1_init 27 = .ok (.dup, 1) := by decide +kernel
theorem dX1_init_28 : decode cX1_init 28 = .ok (.aload_n 2, 1) := by decide +kernel
theorem dX1_init_29 : decode cX1_init 29 = .ok (.iconst 0, 1) := by decide +kernel
theorem dX1_init_30 : decode cX1_init 30 = .ok (.invokespecial 25, 3) := by decide +kernel
theorem dX1_init_33 : decode cX1_init 33 = .ok (.putfield 28, 3) := by decide +kernel
theorem dX1_init_36 : decode cX1_init 36 = .ok (.aload_n 0, 1) := by decide +kernel
theorem dX1_init_37 : decode cX1_init 37 = .ok (.getfield 21, 3) := by decide +kernel
theorem dX1_init_40 : decode cX1_init 40 = .ok (.iconst 0, 1) := by decide +kernel
theorem dX1_init_41 : decode cX1_init 41 = .ok (.aload_n 0, 1) := by decide +kernel
theorem dX1_init_42 : decode cX1_init 42 = .ok (.getfield 28, 3) := by decide +kernel
theorem dX1_init_45 : decode cX1_init 45 = .ok (.aastore, 1) := by decide +kernel
theorem dX1_init_46 : decode cX1_init 46 = .ok (.aload_n 0, 1) := by decide +kernel
theorem dX1_init_47 : decode cX1_init 47 = .ok (.iconst 1, 1) := by decide +kernel
theorem dX1_init_48 : decode cX1_init 48 = .ok (.putfield 32, 3) := by decide +kernel
theorem dX1_init_51 : decode cX1_init 51 = .ok (.aload_n 0, 1) := by decide +kernel
theorem dX1_init_52 : decode cX1_init 52 = .ok (.iconst 1, 1) := by decide +kernel
theorem dX1_init_53 : decode cX1_init 53 = .ok (.putfield 35, 3) := by decide +kernel
theorem dX1_init_56 : decode cX1_init 56 = .ok (.aload_n 0, 1) := by decide +kernel
theorem dX1_init_57 : decode cX1_init 57 = .ok (.iconst 0, 1) := by decide +kernel
theorem dX1_init_58 : decode cX1_init 58 = .ok (.putfield 38, 3) := by decide +kernel
theorem dX1_init_61 : decode cX1_init 61 = .ok (.aload_n 0, 1) := by decide +kernel
theorem dX1_init_62 : decode cX1_init 62 = .ok (.iconst 0, 1) := by decide +kernel
theorem dX1_init_63 : decode cX1_init 63 = .ok (.putfield 41, 3) := by decide +kernel
theorem dX1_init_66 : decode cX1_init 66 = .ok (.aload_n 0, 1) := by decide +kernel
theorem dX1_init_67 : decode cX1_init 67 = .ok (.iconst 0, 1) := by decide +kernel
theorem dX1_init_68 : decode cX1_init 68 = .ok (.putfield 44, 3) := by decide +kernel
theorem dX1_init_71 : decode cX1_init 71 = .ok (.aload_n 0, 1) := by decide +kernel
theorem dX1_init_72 : decode cX1_init 72 = .ok (.dconst 0, 1) := by decide +kernel
theorem dX1_init_73 : decode cX1_init 73 = .ok (.putfield 48, 3) := by decide +kernel
theorem dX1_init_76 : decode cX1_init 76 = .ok (.aload_n 0, 1) := by decide +kernel
theorem dX1_init_77 : decode cX1_init 77 = .ok (.iconst 0, 1) := by decide +kernel
theorem dX1_init_78 : decode cX1_init 78 = .ok (.putfield 52, 3) := by decide +kernel
theorem dX1_init_81 : decode cX1_init 81 = .ok (.aload_n 0, 1) := by decide +kernel
theorem dX1_init_82 : decode cX1_init 82 = .ok (.dconst 0, 1) := by decide +kernel
theorem dX1_init_83 : decode cX1_init 83 = .ok (.putfield 55, 3) := by decide +kernel
theorem dX1_init_86 : decode cX1_init 86 = .ok (.aload_n 0, 1) := by decide +kernel
theorem dX1_init_87 : decode cX1_init 87 = .ok (.dconst 0, 1) := by decide +kernel
theorem dX1_init_88 : decode cX1_init 88 = .ok (.putfield 58, 3) := by decide +kernel
theorem dX1_init_91 : decode cX1_init 91 = .ok (.aload_n 0, 1) := by decide +kernel
theorem dX1_init_92 : decode cX1_init 92 = .ok (.dconst 0, 1) := by decide +kernel
theorem dX1_init_93 : decode cX1_init 93 = .ok (.putfield 61, 3) := by decide +kernel
theorem dX1_init_96 : decode cX1_init 96 = .ok (.return_, 1) := by decide +kernel
theorem dX1_isOver_0 : decode cX1_isOver 0 = .ok (.aload_n 0, 1) := by decide +kernel
theorem dX1_isOver_1 : decode cX1_isOver 1 = .ok (.getfield 35, 3) := by decide +kernel
theorem dX1_isOver_4 : decode cX1_isOver 4 = .ok (.iconst 2, 1) := by decide +kernel
theorem dX1_isOver_5 : decode cX1_isOver 5 = .ok (.if_icmp .eq 19, 3) := by decide +kernel
theorem dX1_isOver_8 : decode cX1_isOver 8 = .ok (.aload_n 0, 1) := by decide +kernel
theorem dX1_isOver_9 : decode cX1_isOver 9 = .ok (.getfield 35, 3) := by decide +kernel
theorem dX1_isOver_12 : decode cX1_isOver 12 = .ok (.iconst 3, 1) := by decide +kernel
theorem dX1_isOver_13 : decode cX1_isOver 13 = .ok (.if_icmp .eq 11, 3) := by decide +kernel
theorem dX1_isOver_16 : decode cX1_isOver 16 = .ok (.aload_n 0, 1) := by decide +kernel
theorem dX1_isOver_17 : decode cX1_isOver 17 = .ok (.getfield 35, 3) := by decide +kernel
theorem dX1_isOver_20 : decode cX1_isOver 20 = .ok (.iconst 4, 1) := by decide +kernel
theorem dX1_isOver_21 : decode cX1_isOver 21 = .ok (.if_icmp .ne 7, 3) := by decide +kernel
theorem dX1_isOver_24 : decode cX1_isOver 24 = .ok (.iconst 1, 1) := by decide +kernel
theorem dX1_isOver_25 : decode cX1_isOver 25 = .ok (.goto 4, 3) := by decide +kernel
theorem dX1_isOver_28 : decode cX1_isOver 28 = .ok (.iconst 0, 1) := by decide +kernel
theorem dX1_isOver_29 : decode cX1_isOver 29 = .ok (.ireturn, 1) := by decide +kernel
theorem dX1_stayAt_0 : decode cX1_stayAt 0 = .ok (.iload_n 1, 1) := by decide +kernel
theorem dX1_stayAt_1 : decode cX1_stayAt 1 = .ok (.ifCond .lt 20, 3) := by decide +kernel
theorem dX1_stayAt_4 : decode cX1_stayAt 4 = .ok (.iload_n 1, 1) := by decide +kernel
theorem dX1_stayAt_5 : decode cX1_stayAt 5 = .ok (.aload_n 0, 1) := by decide +kernel
theorem dX1_stayAt_6 : decode cX1_stayAt 6 = .ok (.getfield 32, 3) := by decide +kernel
theorem dX1_stayAt_9 : decode cX1_stayAt 9 = .ok (.if_icmp .ge 12, 3) := by decide +kernel
theorem dX1_stayAt_12 : decode cX1_stayAt 12 = .ok (.iload_n 1, 1) := by decide +kernel
theorem dX1_stayAt_13 : decode cX1_stayAt 13 = .ok (.aload_n 0, 1) := by decide +kernel
theorem dX1_stayAt_14 : decode cX1_stayAt 14 = .ok (.getfield 21, 3) := by decide +kernel
theorem dX1_stayAt_17 : decode cX1_stayAt 17 = .ok (.arraylength, 1) := by decide +kernel
theorem dX1_stayAt_18 : decode cX1_stayAt 18 = .ok (.if_icmp .lt 5, 3) := by decide +kernel
theorem dX1_stayAt_21 : decode cX1_stayAt 21 = .ok (.aconst_null, 1) := by decide +kernel
theorem dX1_stayAt_22 : decode cX1_stayAt 22 = .ok (.areturn, 1) := by decide +kernel
theorem dX1_stayAt_23 : decode cX1_stayAt 23 = .ok (.aload_n 0, 1) := by decide +kernel
theorem dX1_stayAt_24 : decode cX1_stayAt 24 = .ok (.getfield 21, 3) := by decide +kernel
theorem dX1_stayAt_27 : decode cX1_stayAt 27 = .ok (.iload_n 1, 1) := by decide +kernel
theorem dX1_stayAt_28 : decode cX1_stayAt 28 = .ok (.aaload, 1) := by decide +kernel
theorem dX1_stayAt_29 : decode cX1_stayAt 29 = .ok (.areturn, 1) := by decide +kernel
theorem dX1_used_0 : decode cX1_used 0 = .ok (.iload_n 1, 1) := by decide +kernel
theorem dX1_used_1 : decode cX1_used 1 = .ok (.tableswitch 60 0 3 #[31, 36, 41, 46], 31) := by decide +kernel
theorem dX1_used_32 : decode cX1_used 32 = .ok (.aload_n 0, 1) := by decide +kernel
theorem dX1_used_33 : decode cX1_used 33 = .ok (.getfield 55, 3) := by decide +kernel
theorem dX1_used_36 : decode cX1_used 36 = .ok (.dreturn, 1) := by decide +kernel
theorem dX1_used_37 : decode cX1_used 37 = .ok (.aload_n 0, 1) := by decide +kernel
theorem dX1_used_38 : decode cX1_used 38 = .ok (.getfield 58, 3) := by decide +kernel
theorem dX1_used_41 : decode cX1_used 41 = .ok (.dreturn, 1) := by decide +kernel
theorem dX1_used_42 : decode cX1_used 42 = .ok (.aload_n 0, 1) := by decide +kernel
theorem dX1_used_43 : decode cX1_used 43 = .ok (.getfield 61, 3) := by decide +kernel
theorem dX1_used_46 : decode cX1_used 46 = .ok (.dreturn, 1) := by decide +kernel
theorem dX1_used_47 : decode cX1_used 47 = .ok (.ldc2_w 64, 3) := by decide +kernel
theorem dX1_used_50 : decode cX1_used 50 = .ok (.aload_n 0, 1) := by decide +kernel
theorem dX1_used_51 : decode cX1_used 51 = .ok (.getfield 58, 3) := by decide +kernel
theorem dX1_used_54 : decode cX1_used 54 = .ok (.dsub, 1) := by decide +kernel
theorem dX1_used_55 : decode cX1_used 55 = .ok (.aload_n 0, 1) := by decide +kernel
theorem dX1_used_56 : decode cX1_used 56 = .ok (.getfield 61, 3) := by decide +kernel
theorem dX1_used_59 : decode cX1_used 59 = .ok (.dadd, 1) := by decide +kernel
theorem dX1_used_60 : decode cX1_used 60 = .ok (.dreturn, 1) := by decide +kernel
theorem dX1_used_61 : decode cX1_used 61 = .ok (.ldc2_w 66, 3) := by decide +kernel
theorem dX1_used_64 : decode cX1_used 64 = .ok (.dreturn, 1) := by decide +kernel
theorem dX1_setInterface_0 : decode cX1_setInterface 0 = .ok (.aload_n 0, 1) := by decide +kernel
theorem dX1_setInterface_1 : decode cX1_setInterface 1 = .ok (.iconst 1, 1) := by decide +kernel
theorem dX1_setInterface_2 : decode cX1_setInterface 2 = .ok (.putfield 44, 3) := by decide +kernel
theorem dX1_setInterface_5 : decode cX1_setInterface 5 = .ok (.aload_n 0, 1) := by decide +kernel
theorem dX1_setInterface_6 : decode cX1_setInterface 6 = .ok (.dload_n 1, 1) := by decide +kernel
theorem dX1_setInterface_7 : decode cX1_setInterface 7 = .ok (.putfield 48, 3) := by decide +kernel
theorem dX1_setInterface_10 : decode cX1_setInterface 10 = .ok (.aload_n 0, 1) := by decide +kernel
theorem dX1_setInterface_11 : decode cX1_setInterface 11 = .ok (.iload_n 3, 1) := by decide +kernel
theorem dX1_setInterface_12 : decode cX1_setInterface 12 = .ok (.putfield 52, 3) := by decide +kernel
theorem dX1_setInterface_15 : decode cX1_setInterface 15 = .ok (.return_, 1) := by decide +kernel
theorem dX1_passSecond_0 : decode cX1_passSecond 0 = .ok (.aload_n 0, 1) := by decide +kernel
theorem dX1_passSecond_1 : decode cX1_passSecond 1 = .ok (.invokevirtual 68, 3) := by decide +kernel
theorem dX1_passSecond_4 : decode cX1_passSecond 4 = .ok (.ifCond .eq 4, 3) := by decide +kernel
theorem dX1_passSecond_7 : decode cX1_passSecond 7 = .ok (.return_, 1) := by decide +kernel
theorem dX1_passSecond_8 : decode cX1_passSecond 8 = .ok (.aload_n 0, 1) := by decide +kernel
theorem dX1_passSecond_9 : decode cX1_passSecond 9 = .ok (.getfield 28, 3) := by decide +kernel
theorem dX1_passSecond_12 : decode cX1_passSecond 12 = .ok (.getfield 72, 3) := by decide +kernel
theorem dX1_passSecond_15 : decode cX1_passSecond 15 = .ok (.dload_n 1, 1) := by decide +kernel
theorem dX1_passSecond_16 : decode cX1_passSecond 16 = .ok (.dload_n 3, 1) := by decide +kernel
theorem dX1_passSecond_17 : decode cX1_passSecond 17 = .ok (.dload 5, 2) := by decide +kernel
theorem dX1_passSecond_19 : decode cX1_passSecond 19 = .ok (.invokevirtual 76, 3) := by decide +kernel
theorem dX1_passSecond_22 : decode cX1_passSecond 22 = .ok (.istore 7, 2) := by decide +kernel
theorem dX1_passSecond_24 : decode cX1_passSecond 24 = .ok (.aload_n 0, 1) := by decide +kernel
theorem dX1_passSecond_25 : decode cX1_passSecond 25 = .ok (.dload 5, 2) := by decide +kernel
theorem dX1_passSecond_27 : decode cX1_passSecond 27 = .ok (.iload 7, 2) := by decide +kernel
theorem dX1_passSecond_29 : decode cX1_passSecond 29 = .ok (.invokevirtual 82, 3) := by decide +kernel
theorem dX1_passSecond_32 : decode cX1_passSecond 32 = .ok (.aload_n 0, 1) := by decide +kernel
theorem dX1_passSecond_33 : decode cX1_passSecond 33 = .ok (.dup, 1) := by decide +kernel
theorem dX1_passSecond_34 : decode cX1_passSecond 34 = .ok (.getfield 38, 3) := by decide +kernel
theorem dX1_passSecond_37 : decode cX1_passSecond 37 = .ok (.iconst 1, 1) := by decide +kernel
theorem dX1_passSecond_38 : decode cX1_passSecond 38 = .ok (.iadd, 1) := by decide +kernel
theorem dX1_passSecond_39 : decode cX1_passSecond 39 = .ok (.putfield 38, 3) := by decide +kernel
theorem dX1_passSecond_42 : decode cX1_passSecond 42 = .ok (.aload_n 0, 1) := by decide +kernel
theorem dX1_passSecond_43 : decode cX1_passSecond 43 = .ok (.getfield 35, 3) := by decide +kernel
theorem dX1_passSecond_46 : decode cX1_passSecond 46 = .ok (.ifCond .ne 11, 3) := by decide +kernel
theorem dX1_passSecond_49 : decode cX1_passSecond 49 = .ok (.aload_n 0, 1) := by decide +kernel
theorem dX1_passSecond_50 : decode cX1_passSecond 50 = .ok (.dload_n 1, 1) := by decide +kernel
theorem dX1_passSecond_51 : decode cX1_passSecond 51 = .ok (.invokevirtual 86, 3) := by decide +kernel
theorem dX1_passSecond_54 : decode cX1_passSecond 54 = .ok (.goto 19, 3) := by decide +kernel
theorem dX1_passSecond_57 : decode cX1_passSecond 57 = .ok (.iload 7, 2) := by decide +kernel
theorem dX1_passSecond_59 : decode cX1_passSecond 59 = .ok (.ifCond .eq 10, 3) := by decide +kernel
theorem dX1_passSecond_62 : decode cX1_passSecond 62 = .ok (.aload_n 0, 1) := by decide +kernel
theorem dX1_passSecond_63 : decode cX1_passSecond 63 = .ok (.invokevirtual 90, 3) := by decide +kernel
theorem dX1_passSecond_66 : decode cX1_passSecond 66 = .ok (.goto 7, 3) := by decide +kernel
theorem dX1_passSecond_69 : decode cX1_passSecond 69 = .ok (.aload_n 0, 1) := by decide +kernel
theorem dX1_passSecond_70 : decode cX1_passSecond 70 = .ok (.invokevirtual 93, 3) := by decide +kernel
theorem dX1_passSecond_73 : decode cX1_passSecond 73 = .ok (.return_, 1) := by decide +kernel
theorem dX1_use_0 : decode cX1_use 0 = .ok (.aload_n 0, 1) := by decide +kernel
theorem dX1_use_1 : decode cX1_use 1 = .ok (.getfield 28, 3) := by decide +kernel
theorem dX1_use_4 : decode cX1_use 4 = .ok (.getfield 72, 3) := by decide +kernel
theorem dX1_use_7 : decode cX1_use 7 = .ok (.invokevirtual 96, 3) := by decide +kernel
theorem dX1_use_10 : decode cX1_use 10 = .ok (.ifCond .eq 14, 3) := by decide +kernel
theorem dX1_use_13 : decode cX1_use 13 = .ok (.aload_n 0, 1) := by decide +kernel
theorem dX1_use_14 : decode cX1_use 14 = .ok (.dup, 1) := by decide +kernel
theorem dX1_use_15 : decode cX1_use 15 = .ok (.getfield 55, 3) := by decide +kernel
theorem dX1_use_18 : decode cX1_use 18 = .ok (.dload_n 1, 1) := by decide +kernel
theorem dX1_use_19 : decode cX1_use 19 = .ok (.dadd, 1) := by decide +kernel
theorem dX1_use_20 : decode cX1_use 20 = .ok (.putfield 55, 3) := by decide +kernel
theorem dX1_use_23 : decode cX1_use 23 = .ok (.return_, 1) := by decide +kernel
theorem dX1_use_24 : decode cX1_use 24 = .ok (.aload_n 0, 1) := by decide +kernel
theorem dX1_use_25 : decode cX1_use 25 = .ok (.dup, 1) := by decide +kernel
theorem dX1_use_26 : decode cX1_use 26 = .ok (.getfield 58, 3) := by decide +kernel
theorem dX1_use_29 : decode cX1_use 29 = .ok (.dload_n 1, 1) := by decide +kernel
theorem dX1_use_30 : decode cX1_use 30 = .ok (.dadd, 1) := by decide +kernel
theorem dX1_use_31 : decode cX1_use 31 = .ok (.putfield 58, 3) := by decide +kernel
theorem dX1_use_34 : decode cX1_use 34 = .ok (.aload_n 0, 1) := by decide +kernel
theorem dX1_use_35 : decode cX1_use 35 = .ok (.getfield 35, 3) := by decide +kernel
theorem dX1_use_38 : decode cX1_use 38 = .ok (.iconst 1, 1) := by decide +kernel
theorem dX1_use_39 : decode cX1_use 39 = .ok (.if_icmp .ne 25, 3) := by decide +kernel
theorem dX1_use_42 : decode cX1_use 42 = .ok (.aload_n 0, 1) := by decide +kernel
theorem dX1_use_43 : decode cX1_use 43 = .ok (.dup, 1) := by decide +kernel
theorem dX1_use_44 : decode cX1_use 44 = .ok (.getfield 61, 3) := by decide +kernel
theorem dX1_use_47 : decode cX1_use 47 = .ok (.iload_n 3, 1) := by decide +kernel
theorem dX1_use_48 : decode cX1_use 48 = .ok (.ifCond .eq 7, 3) := by decide +kernel
theorem dX1_use_51 : decode cX1_use 51 = .ok (.dload_n 1, 1) := by decide +kernel
theorem dX1_use_52 : decode cX1_use 52 = .ok (.goto 8, 3) := by decide +kernel
theorem dX1_use_55 : decode cX1_use 55 = .ok (.dload_n 1, 1) := by decide +kernel
theorem dX1_use_56 : decode cX1_use 56 = .ok (.ldc2_w 99, 3) := by decide +kernel
theorem dX1_use_59 : decode cX1_use 59 = .ok (.dmul, 1) := by decide +kernel
theorem dX1_use_60 : decode cX1_use 60 = .ok (.dadd, 1) := by decide +kernel
theorem dX1_use_61 : decode cX1_use 61 = .ok (.putfield 61, 3) := by decide +kernel
theorem dX1_use_64 : decode cX1_use 64 = .ok (.return_, 1) := by decide +kernel
theorem dX1_waitASecond_0 : decode cX1_waitASecond 0 = .ok (.aload_n 0, 1) := by decide +kernel
theorem dX1_waitASecond_1 : decode cX1_waitASecond 1 = .ok (.getfield 28, 3) := by decide +kernel
theorem dX1_waitASecond_4 : decode cX1_waitASecond 4 = .ok (.getfield 72, 3) := by decide +kernel
theorem dX1_waitASecond_7 : decode cX1_waitASecond 7 = .ok (.dload_n 1, 1) := by decide +kernel
theorem dX1_waitASecond_8 : decode cX1_waitASecond 8 = .ok (.aload_n 0, 1) := by decide +kernel
theorem dX1_waitASecond_9 : decode cX1_waitASecond 9 = .ok (.getfield 48, 3) := by decide +kernel
theorem dX1_waitASecond_12 : decode cX1_waitASecond 12 = .ok (.invokevirtual 101, 3) := by decide +kernel
theorem dX1_waitASecond_15 : decode cX1_waitASecond 15 = .ok (.ifCond .ne 12, 3) := by decide +kernel
theorem dX1_waitASecond_18 : decode cX1_waitASecond 18 = .ok (.aload_n 0, 1) := by decide +kernel
theorem dX1_waitASecond_19 : decode cX1_waitASecond 19 = .ok (.getfield 28, 3) := by decide +kernel
theorem dX1_waitASecond_22 : decode cX1_waitASecond 22 = .ok (.iconst 0, 1) := by decide +kernel
theorem dX1_waitASecond_23 : decode cX1_waitASecond 23 = .ok (.putfield 105, 3) := by decide +kernel
theorem dX1_waitASecond_26 : decode cX1_waitASecond 26 = .ok (.return_, 1) := by decide +kernel
theorem dX1_waitASecond_27 : decode cX1_waitASecond 27 = .ok (.aload_n 0, 1) := by decide +kernel
theorem dX1_waitASecond_28 : decode cX1_waitASecond 28 = .ok (.getfield 28, 3) := by decide +kernel
theorem dX1_waitASecond_31 : decode cX1_waitASecond 31 = .ok (.dup, 1) := by decide +kernel
theorem dX1_waitASecond_32 : decode cX1_waitASecond 32 = .ok (.getfield 105, 3) := by decide +kernel
theorem dX1_waitASecond_35 : decode cX1_waitASecond 35 = .ok (.iconst 1, 1) := by decide +kernel
theorem dX1_waitASecond_36 : decode cX1_waitASecond 36 = .ok (.iadd, 1) := by decide +kernel
theorem dX1_waitASecond_37 : decode cX1_waitASecond 37 = .ok (.putfield 105, 3) := by decide +kernel
theorem dX1_waitASecond_40 : decode cX1_waitASecond 40 = .ok (.aload_n 0, 1) := by decide +kernel
theorem dX1_waitASecond_41 : decode cX1_waitASecond 41 = .ok (.getfield 28, 3) := by decide +kernel
theorem dX1_waitASecond_44 : decode cX1_waitASecond 44 = .ok (.getfield 105, 3) := by decide +kernel
theorem dX1_waitASecond_47 : decode cX1_waitASecond 47 = .ok (.aload_n 0, 1) := by decide +kernel
theorem dX1_waitASecond_48 : decode cX1_waitASecond 48 = .ok (.getfield 52, 3) := by decide +kernel
theorem dX1_waitASecond_51 : decode cX1_waitASecond 51 = .ok (.if_icmp .lt 8, 3) := by decide +kernel
theorem dX1_waitASecond_54 : decode cX1_waitASecond 54 = .ok (.aload_n 0, 1) := by decide +kernel
theorem dX1_waitASecond_55 : decode cX1_waitASecond 55 = .ok (.iconst 1, 1) := by decide +kernel
theorem dX1_waitASecond_56 : decode cX1_waitASecond 56 = .ok (.putfield 35, 3) := by decide +kernel
theorem dX1_waitASecond_59 : decode cX1_waitASecond 59 = .ok (.return_, 1) := by decide +kernel
theorem dX1_countASecond_0 : decode cX1_countASecond 0 = .ok (.aload_n 0, 1) := by decide +kernel
theorem dX1_countASecond_1 : decode cX1_countASecond 1 = .ok (.getfield 28, 3) := by decide +kernel
theorem dX1_countASecond_4 : decode cX1_countASecond 4 = .ok (.iconst 0, 1) := by decide +kernel
theorem dX1_countASecond_5 : decode cX1_countASecond 5 = .ok (.putfield 108, 3) := by decide +kernel
theorem dX1_countASecond_8 : decode cX1_countASecond 8 = .ok (.aload_n 0, 1) := by decide +kernel
theorem dX1_countASecond_9 : decode cX1_countASecond 9 = .ok (.getfield 28, 3) := by decide +kernel
theorem dX1_countASecond_12 : decode cX1_countASecond 12 = .ok (.dup, 1) := by decide +kernel
theorem dX1_countASecond_13 : decode cX1_countASecond 13 = .ok (.getfield 111, 3) := by decide +kernel
theorem dX1_countASecond_16 : decode cX1_countASecond 16 = .ok (.iconst 1, 1) := by decide +kernel
theorem dX1_countASecond_17 : decode cX1_countASecond 17 = .ok (.iadd, 1) := by decide +kernel
theorem dX1_countASecond_18 : decode cX1_countASecond 18 = .ok (.putfield 111, 3) := by decide +kernel
theorem dX1_countASecond_21 : decode cX1_countASecond 21 = .ok (.aload_n 0, 1) := by decide +kernel
theorem dX1_countASecond_22 : decode cX1_countASecond 22 = .ok (.getfield 28, 3) := by decide +kernel
theorem dX1_countASecond_25 : decode cX1_countASecond 25 = .ok (.getfield 111, 3) := by decide +kernel
theorem dX1_countASecond_28 : decode cX1_countASecond 28 = .ok (.aload_n 0, 1) := by decide +kernel
theorem dX1_countASecond_29 : decode cX1_countASecond 29 = .ok (.getfield 28, 3) := by decide +kernel
theorem dX1_countASecond_32 : decode cX1_countASecond 32 = .ok (.getfield 72, 3) := by decide +kernel
theorem dX1_countASecond_35 : decode cX1_countASecond 35 = .ok (.getfield 114, 3) := by decide +kernel
theorem dX1_countASecond_38 : decode cX1_countASecond 38 = .ok (.if_icmp .ge 4, 3) := by decide +kernel
theorem dX1_countASecond_41 : decode cX1_countASecond 41 = .ok (.return_, 1) := by decide +kernel
theorem dX1_countASecond_42 : decode cX1_countASecond 42 = .ok (.aload_n 0, 1) := by decide +kernel
theorem dX1_countASecond_43 : decode cX1_countASecond 43 = .ok (.getfield 9, 3) := by decide +kernel
theorem dX1_countASecond_46 : decode cX1_countASecond 46 = .ok (.aload_n 0, 1) := by decide +kernel
theorem dX1_countASecond_47 : decode cX1_countASecond 47 = .ok (.getfield 32, 3) := by decide +kernel
theorem dX1_countASecond_50 : decode cX1_countASecond 50 = .ok (.invokevirtual 117, 3) := by decide +kernel
theorem dX1_countASecond_53 : decode cX1_countASecond 53 = .ok (.astore_n 1, 1) := by decide +kernel
theorem dX1_countASecond_54 : decode cX1_countASecond 54 = .ok (.aload_n 1, 1) := by decide +kernel
theorem dX1_countASecond_55 : decode cX1_countASecond 55 = .ok (.ifnonnull 11, 3) := by decide +kernel
theorem dX1_countASecond_58 : decode cX1_countASecond 58 = .ok (.aload_n 0, 1) := by decide +kernel
theorem dX1_countASecond_59 : decode cX1_countASecond 59 = .ok (.iconst 3, 1) := by decide +kernel
theorem dX1_countASecond_60 : decode cX1_countASecond 60 = .ok (.invokevirtual 123, 3) := by decide +kernel
theorem dX1_countASecond_63 : decode cX1_countASecond 63 = .ok (.goto 19, 3) := by decide +kernel
theorem dX1_countASecond_66 : decode cX1_countASecond 66 = .ok (.aload_n 0, 1) := by decide +kernel
theorem dX1_countASecond_67 : decode cX1_countASecond 67 = .ok (.getfield 28, 3) := by decide +kernel
theorem dX1_countASecond_70 : decode cX1_countASecond 70 = .ok (.aload_n 0, 1) := by decide +kernel
theorem dX1_countASecond_71 : decode cX1_countASecond 71 = .ok (.getfield 38, 3) := by decide +kernel
theorem dX1_countASecond_74 : decode cX1_countASecond 74 = .ok (.putfield 127, 3) := by decide +kernel
theorem dX1_countASecond_77 : decode cX1_countASecond 77 = .ok (.aload_n 0, 1) := by decide +kernel
theorem dX1_countASecond_78 : decode cX1_countASecond 78 = .ok (.aload_n 1, 1) := by decide +kernel
theorem dX1_countASecond_79 : decode cX1_countASecond 79 = .ok (.invokevirtual 130, 3) := by decide +kernel
theorem dX1_countASecond_82 : decode cX1_countASecond 82 = .ok (.return_, 1) := by decide +kernel
theorem dX1_begin_0 : decode cX1_begin 0 = .ok (.aload_n 0, 1) := by decide +kernel
theorem dX1_begin_1 : decode cX1_begin 1 = .ok (.getfield 32, 3) := by decide +kernel
theorem dX1_begin_4 : decode cX1_begin 4 = .ok (.ifCond .lt 15, 3) := by decide +kernel
theorem dX1_begin_7 : decode cX1_begin 7 = .ok (.aload_n 0, 1) := by decide +kernel
theorem dX1_begin_8 : decode cX1_begin 8 = .ok (.getfield 32, 3) := by decide +kernel
theorem dX1_begin_11 : decode cX1_begin 11 = .ok (.aload_n 0, 1) := by decide +kernel
theorem dX1_begin_12 : decode cX1_begin 12 = .ok (.getfield 21, 3) := by decide +kernel
theorem dX1_begin_15 : decode cX1_begin 15 = .ok (.arraylength, 1) := by decide +kernel
theorem dX1_begin_16 : decode cX1_begin 16 = .ok (.if_icmp .lt 4, 3) := by decide +kernel
theorem dX1_begin_19 : decode cX1_begin 19 = .ok (.return_, 1) := by decide +kernel
theorem dX1_begin_20 : decode cX1_begin 20 = .ok (.aload_n 0, 1) := by decide +kernel
theorem dX1_begin_21 : decode cX1_begin 21 = .ok (.new 19, 3) := by decide +kernel
theorem dX1_begin_24 : decode cX1_begin 24 = .ok (.dup, 1) := by decide +kernel
theorem dX1_begin_25 : decode cX1_begin 25 = .ok (.aload_n 1, 1) := by decide +kernel
theorem dX1_begin_26 : decode cX1_begin 26 = .ok (.aload_n 0, 1) := by decide +kernel
theorem dX1_begin_27 : decode cX1_begin 27 = .ok (.getfield 38, 3) := by decide +kernel
theorem dX1_begin_30 : decode cX1_begin 30 = .ok (.invokespecial 25, 3) := by decide +kernel
theorem dX1_begin_33 : decode cX1_begin 33 = .ok (.putfield 28, 3) := by decide +kernel
theorem dX1_begin_36 : decode cX1_begin 36 = .ok (.aload_n 0, 1) := by decide +kernel
theorem dX1_begin_37 : decode cX1_begin 37 = .ok (.getfield 21, 3) := by decide +kernel
theorem dX1_begin_40 : decode cX1_begin 40 = .ok (.aload_n 0, 1) := by decide +kernel
theorem dX1_begin_41 : decode cX1_begin 41 = .ok (.getfield 32, 3) := by decide +kernel
theorem dX1_begin_44 : decode cX1_begin 44 = .ok (.aload_n 0, 1) := by decide +kernel
theorem dX1_begin_45 : decode cX1_begin 45 = .ok (.getfield 28, 3) := by decide +kernel
theorem dX1_begin_48 : decode cX1_begin 48 = .ok (.aastore, 1) := by decide +kernel
theorem dX1_begin_49 : decode cX1_begin 49 = .ok (.aload_n 0, 1) := by decide +kernel
theorem dX1_begin_50 : decode cX1_begin 50 = .ok (.dup, 1) := by decide +kernel
theorem dX1_begin_51 : decode cX1_begin 51 = .ok (.getfield 32, 3) := by decide +kernel
theorem dX1_begin_54 : decode cX1_begin 54 = .ok (.iconst 1, 1) := by decide +kernel
theorem dX1_begin_55 : decode cX1_begin 55 = .ok (.iadd, 1) := by decide +kernel
theorem dX1_begin_56 : decode cX1_begin 56 = .ok (.putfield 32, 3) := by decide +kernel
theorem dX1_begin_59 : decode cX1_begin 59 = .ok (.aload_n 0, 1) := by decide +kernel
theorem dX1_begin_60 : decode cX1_begin 60 = .ok (.aload_n 0, 1) := by decide +kernel
theorem dX1_begin_61 : decode cX1_begin 61 = .ok (.getfield 44, 3) := by decide +kernel
theorem dX1_begin_64 : decode cX1_begin 64 = .ok (.ifCond .eq 7, 3) := by decide +kernel
theorem dX1_begin_67 : decode cX1_begin 67 = .ok (.iconst 0, 1) := by decide +kernel
theorem dX1_begin_68 : decode cX1_begin 68 = .ok (.goto 4, 3) := by decide +kernel
theorem dX1_begin_71 : decode cX1_begin 71 = .ok (.iconst 1, 1) := by decide +kernel
theorem dX1_begin_72 : decode cX1_begin 72 = .ok (.putfield 35, 3) := by decide +kernel
theorem dX1_begin_75 : decode cX1_begin 75 = .ok (.return_, 1) := by decide +kernel
theorem dX1_missASecond_0 : decode cX1_missASecond 0 = .ok (.aload_n 0, 1) := by decide +kernel
theorem dX1_missASecond_1 : decode cX1_missASecond 1 = .ok (.getfield 28, 3) := by decide +kernel
theorem dX1_missASecond_4 : decode cX1_missASecond 4 = .ok (.dup, 1) := by decide +kernel
theorem dX1_missASecond_5 : decode cX1_missASecond 5 = .ok (.getfield 108, 3) := by decide +kernel
theorem dX1_missASecond_8 : decode cX1_missASecond 8 = .ok (.iconst 1, 1) := by decide +kernel
theorem dX1_missASecond_9 : decode cX1_missASecond 9 = .ok (.iadd, 1) := by decide +kernel
theorem dX1_missASecond_10 : decode cX1_missASecond 10 = .ok (.putfield 108, 3) := by decide +kernel
theorem dX1_missASecond_13 : decode cX1_missASecond 13 = .ok (.aload_n 0, 1) := by decide +kernel
theorem dX1_missASecond_14 : decode cX1_missASecond 14 = .ok (.getfield 28, 3) := by decide +kernel
theorem dX1_missASecond_17 : decode cX1_missASecond 17 = .ok (.getfield 108, 3) := by decide +kernel
theorem dX1_missASecond_20 : decode cX1_missASecond 20 = .ok (.bipush 30, 2) := by decide +kernel
theorem dX1_missASecond_22 : decode cX1_missASecond 22 = .ok (.if_icmp .ge 4, 3) := by decide +kernel
theorem dX1_missASecond_25 : decode cX1_missASecond 25 = .ok (.return_, 1) := by decide +kernel
theorem dX1_missASecond_26 : decode cX1_missASecond 26 = .ok (.aload_n 0, 1) := by decide +kernel
theorem dX1_missASecond_27 : decode cX1_missASecond 27 = .ok (.dup, 1) := by decide +kernel
theorem dX1_missASecond_28 : decode cX1_missASecond 28 = .ok (.getfield 41, 3) := by decide +kernel
theorem dX1_missASecond_31 : decode cX1_missASecond 31 = .ok (.iconst 1, 1) := by decide +kernel
theorem dX1_missASecond_32 : decode cX1_missASecond 32 = .ok (.iadd, 1) := by decide +kernel
theorem dX1_missASecond_33 : decode cX1_missASecond 33 = .ok (.putfield 41, 3) := by decide +kernel
theorem dX1_missASecond_36 : decode cX1_missASecond 36 = .ok (.aload_n 0, 1) := by decide +kernel
theorem dX1_missASecond_37 : decode cX1_missASecond 37 = .ok (.getfield 28, 3) := by decide +kernel
theorem dX1_missASecond_40 : decode cX1_missASecond 40 = .ok (.dup, 1) := by decide +kernel
theorem dX1_missASecond_41 : decode cX1_missASecond 41 = .ok (.getfield 134, 3) := by decide +kernel
theorem dX1_missASecond_44 : decode cX1_missASecond 44 = .ok (.iconst 1, 1) := by decide +kernel
theorem dX1_missASecond_45 : decode cX1_missASecond 45 = .ok (.iadd, 1) := by decide +kernel
theorem dX1_missASecond_46 : decode cX1_missASecond 46 = .ok (.putfield 134, 3) := by decide +kernel
theorem dX1_missASecond_49 : decode cX1_missASecond 49 = .ok (.aload_n 0, 1) := by decide +kernel
theorem dX1_missASecond_50 : decode cX1_missASecond 50 = .ok (.getfield 28, 3) := by decide +kernel
theorem dX1_missASecond_53 : decode cX1_missASecond 53 = .ok (.iconst 0, 1) := by decide +kernel
theorem dX1_missASecond_54 : decode cX1_missASecond 54 = .ok (.putfield 111, 3) := by decide +kernel
theorem dX1_missASecond_57 : decode cX1_missASecond 57 = .ok (.aload_n 0, 1) := by decide +kernel
theorem dX1_missASecond_58 : decode cX1_missASecond 58 = .ok (.getfield 28, 3) := by decide +kernel
theorem dX1_missASecond_61 : decode cX1_missASecond 61 = .ok (.iconst 0, 1) := by decide +kernel
theorem dX1_missASecond_62 : decode cX1_missASecond 62 = .ok (.putfield 108, 3) := by decide +kernel
theorem dX1_missASecond_65 : decode cX1_missASecond 65 = .ok (.aload_n 0, 1) := by decide +kernel
theorem dX1_missASecond_66 : decode cX1_missASecond 66 = .ok (.getfield 28, 3) := by decide +kernel
theorem dX1_missASecond_69 : decode cX1_missASecond 69 = .ok (.getfield 134, 3) := by decide +kernel
theorem dX1_missASecond_72 : decode cX1_missASecond 72 = .ok (.iconst 3, 1) := by decide +kernel
theorem dX1_missASecond_73 : decode cX1_missASecond 73 = .ok (.if_icmp .lt 8, 3) := by decide +kernel
theorem dX1_missASecond_76 : decode cX1_missASecond 76 = .ok (.aload_n 0, 1) := by decide +kernel
theorem dX1_missASecond_77 : decode cX1_missASecond 77 = .ok (.iconst 2, 1) := by decide +kernel
theorem dX1_missASecond_78 : decode cX1_missASecond 78 = .ok (.invokevirtual 123, 3) := by decide +kernel
theorem dX1_missASecond_81 : decode cX1_missASecond 81 = .ok (.return_, 1) := by decide +kernel
theorem dX1_end_0 : decode cX1_end 0 = .ok (.aload_n 0, 1) := by decide +kernel
theorem dX1_end_1 : decode cX1_end 1 = .ok (.getfield 28, 3) := by decide +kernel
theorem dX1_end_4 : decode cX1_end 4 = .ok (.aload_n 0, 1) := by decide +kernel
theorem dX1_end_5 : decode cX1_end 5 = .ok (.getfield 38, 3) := by decide +kernel
theorem dX1_end_8 : decode cX1_end 8 = .ok (.putfield 127, 3) := by decide +kernel
theorem dX1_end_11 : decode cX1_end 11 = .ok (.aload_n 0, 1) := by decide +kernel
theorem dX1_end_12 : decode cX1_end 12 = .ok (.iload_n 1, 1) := by decide +kernel
theorem dX1_end_13 : decode cX1_end 13 = .ok (.putfield 35, 3) := by decide +kernel
theorem dX1_end_16 : decode cX1_end 16 = .ok (.return_, 1) := by decide +kernel
theorem dX2_init_0 : decode cX2_init 0 = .ok (.aload_n 0, 1) := by decide +kernel
theorem dX2_init_1 : decode cX2_init 1 = .ok (.invokespecial 3, 3) := by decide +kernel
theorem dX2_init_4 : decode cX2_init 4 = .ok (.aload_n 0, 1) := by decide +kernel
theorem dX2_init_5 : decode cX2_init 5 = .ok (.aload_n 1, 1) := by decide +kernel
theorem dX2_init_6 : decode cX2_init 6 = .ok (.putfield 9, 3) := by decide +kernel
theorem dX2_init_9 : decode cX2_init 9 = .ok (.aload_n 0, 1) := by decide +kernel
theorem dX2_init_10 : decode cX2_init 10 = .ok (.iload_n 2, 1) := by decide +kernel
theorem dX2_init_11 : decode cX2_init 11 = .ok (.putfield 15, 3) := by decide +kernel
theorem dX2_init_14 : decode cX2_init 14 = .ok (.aload_n 0, 1) := by decide +kernel
theorem dX2_init_15 : decode cX2_init 15 = .ok (.iconst (-1), 1) := by decide +kernel
theorem dX2_init_16 : decode cX2_init 16 = .ok (.putfield 19, 3) := by decide +kernel
theorem dX2_init_19 : decode cX2_init 19 = .ok (.aload_n 0, 1) := by decide +kernel
theorem dX2_init_20 : decode cX2_init 20 = .ok (.iconst 0, 1) := by decide +kernel
theorem dX2_init_21 : decode cX2_init 21 = .ok (.putfield 22, 3) := by decide +kernel
theorem dX2_init_24 : decode cX2_init 24 = .ok (.aload_n 0, 1) := by decide +kernel
theorem dX2_init_25 : decode cX2_init 25 = .ok (.iconst 0, 1) := by decide +kernel
theorem dX2_init_26 : decode cX2_init 26 = .ok (.putfield 25, 3) := by decide +kernel
theorem dX2_init_29 : decode cX2_init 29 = .ok (.aload_n 0, 1) := by decide +kernel
theorem dX2_init_30 : decode cX2_init 30 = .ok (.iconst 0, 1) := by decide +kernel
theorem dX2_init_31 : decode cX2_init 31 = .ok (.putfield 28, 3) := by decide +kernel
theorem dX2_init_34 : decode cX2_init 34 = .ok (.aload_n 0, 1) := by decide +kernel
theorem dX2_init_35 : decode cX2_init 35 = .ok (.iconst 0, 1) := by decide +kernel
theorem dX2_init_36 : decode cX2_init 36 = .ok (.putfield 31, 3) := by decide +kernel
theorem dX2_init_39 : decode cX2_init 39 = .ok (.return_, 1) := by decide +kernel
theorem dX2_told_0 : decode cX2_told 0 = .ok (.iload_n 1, 1) := by decide +kernel
theorem dX2_told_1 : decode cX2_told 1 = .ok (.tableswitch 54 0 3 #[31, 39, 44, 49], 31) := by decide +kernel
theorem dX2_told_32 : decode cX2_told 32 = .ok (.aload_n 0, 1) := by decide +kernel
theorem dX2_told_33 : decode cX2_told 33 = .ok (.getfield 9, 3) := by decide +kernel
theorem dX2_told_36 : decode cX2_told 36 = .ok (.getfield 34, 3) := by decide +kernel
theorem dX2_told_39 : decode cX2_told 39 = .ok (.ireturn, 1) := by decide +kernel
theorem dX2_told_40 : decode cX2_told 40 = .ok (.aload_n 0, 1) := by decide +kernel
theorem dX2_told_41 : decode cX2_told 41 = .ok (.getfield 31, 3) := by decide +kernel
theorem dX2_told_44 : decode cX2_told 44 = .ok (.ireturn, 1) := by decide +kernel
theorem dX2_told_45 : decode cX2_told 45 = .ok (.aload_n 0, 1) := by decide +kernel
theorem dX2_told_46 : decode cX2_told 46 = .ok (.getfield 15, 3) := by decide +kernel
theorem dX2_told_49 : decode cX2_told 49 = .ok (.ireturn, 1) := by decide +kernel
theorem dX2_told_50 : decode cX2_told 50 = .ok (.aload_n 0, 1) := by decide +kernel
theorem dX2_told_51 : decode cX2_told 51 = .ok (.getfield 19, 3) := by decide +kernel
theorem dX2_told_54 : decode cX2_told 54 = .ok (.ireturn, 1) := by decide +kernel
theorem dX2_told_55 : decode cX2_told 55 = .ok (.iconst (-1), 1) := by decide +kernel
theorem dX2_told_56 : decode cX2_told 56 = .ok (.ireturn, 1) := by decide +kernel
theorem dX3_init_0 : decode cX3_init 0 = .ok (.aload_n 0, 1) := by decide +kernel
theorem dX3_init_1 : decode cX3_init 1 = .ok (.invokespecial 3, 3) := by decide +kernel
theorem dX3_init_4 : decode cX3_init 4 = .ok (.aload_n 0, 1) := by decide +kernel
theorem dX3_init_5 : decode cX3_init 5 = .ok (.iload_n 1, 1) := by decide +kernel
theorem dX3_init_6 : decode cX3_init 6 = .ok (.putfield 9, 3) := by decide +kernel
theorem dX3_init_9 : decode cX3_init 9 = .ok (.aload_n 0, 1) := by decide +kernel
theorem dX3_init_10 : decode cX3_init 10 = .ok (.iload_n 2, 1) := by decide +kernel
theorem dX3_init_11 : decode cX3_init 11 = .ok (.putfield 15, 3) := by decide +kernel
theorem dX3_init_14 : decode cX3_init 14 = .ok (.aload_n 0, 1) := by decide +kernel
theorem dX3_init_15 : decode cX3_init 15 = .ok (.dload_n 3, 1) := by decide +kernel
theorem dX3_init_16 : decode cX3_init 16 = .ok (.putfield 18, 3) := by decide +kernel
theorem dX3_init_19 : decode cX3_init 19 = .ok (.aload_n 0, 1) := by decide +kernel
theorem dX3_init_20 : decode cX3_init 20 = .ok (.dload 5, 2) := by decide +kernel
theorem dX3_init_22 : decode cX3_init 22 = .ok (.putfield 22, 3) := by decide +kernel
theorem dX3_init_25 : decode cX3_init 25 = .ok (.return_, 1) := by decide +kernel
theorem dX3_usesWater_0 : decode cX3_usesWater 0 = .ok (.aload_n 0, 1) := by decide +kernel
theorem dX3_usesWater_1 : decode cX3_usesWater 1 = .ok (.getfield 9, 3) := by decide +kernel
theorem dX3_usesWater_4 : decode cX3_usesWater 4 = .ok (.ifCond .eq 11, 3) := by decide +kernel
theorem dX3_usesWater_7 : decode cX3_usesWater 7 = .ok (.aload_n 0, 1) := by decide +kernel
theorem dX3_usesWater_8 : decode cX3_usesWater 8 = .ok (.getfield 9, 3) := by decide +kernel
theorem dX3_usesWater_11 : decode cX3_usesWater 11 = .ok (.iconst 4, 1) := by decide +kernel
theorem dX3_usesWater_12 : decode cX3_usesWater 12 = .ok (.if_icmp .ne 7, 3) := by decide +kernel
theorem dX3_usesWater_15 : decode cX3_usesWater 15 = .ok (.iconst 1, 1) := by decide +kernel
theorem dX3_usesWater_16 : decode cX3_usesWater 16 = .ok (.goto 4, 3) := by decide +kernel
theorem dX3_usesWater_19 : decode cX3_usesWater 19 = .ok (.iconst 0, 1) := by decide +kernel
theorem dX3_usesWater_20 : decode cX3_usesWater 20 = .ok (.ireturn, 1) := by decide +kernel
theorem dX3_holds_0 : decode cX3_holds 0 = .ok (.aload_n 0, 1) := by decide +kernel
theorem dX3_holds_1 : decode cX3_holds 1 = .ok (.getfield 9, 3) := by decide +kernel
theorem dX3_holds_4 : decode cX3_holds 4 = .ok (.tableswitch 109 0 3 #[32, 54, 54, 85], 32) := by decide +kernel
theorem dX3_holds_36 : decode cX3_holds 36 = .ok (.dload 5, 2) := by decide +kernel
theorem dX3_holds_38 : decode cX3_holds 38 = .ok (.dconst 1, 1) := by decide +kernel
theorem dX3_holds_39 : decode cX3_holds 39 = .ok (.dcmp .l, 1) := by decide +kernel
theorem dX3_holds_40 : decode cX3_holds 40 = .ok (.ifCond .lt 16, 3) := by decide +kernel
theorem dX3_holds_43 : decode cX3_holds 43 = .ok (.dload_n 1, 1) := by decide +kernel
theorem dX3_holds_44 : decode cX3_holds 44 = .ok (.aload_n 0, 1) := by decide +kernel
theorem dX3_holds_45 : decode cX3_holds 45 = .ok (.getfield 18, 3) := by decide +kernel
theorem dX3_holds_48 : decode cX3_holds 48 = .ok (.dcmp .g, 1) := by decide +kernel
theorem dX3_holds_49 : decode cX3_holds 49 = .ok (.ifCond .gt 7, 3) := by decide +kernel
theorem dX3_holds_52 : decode cX3_holds 52 = .ok (.iconst 1, 1) := by decide +kernel
theorem dX3_holds_53 : decode cX3_holds 53 = .ok (.goto 4, 3) := by decide +kernel
theorem dX3_holds_56 : decode cX3_holds 56 = .ok (.iconst 0, 1) := by decide +kernel
theorem dX3_holds_57 : decode cX3_holds 57 = .ok (.ireturn, 1) := by decide +kernel
theorem dX3_holds_58 : decode cX3_holds 58 = .ok (.dload 5, 2) := by decide +kernel
theorem dX3_holds_60 : decode cX3_holds 60 = .ok (.dconst 1, 1) := by decide +kernel
theorem dX3_holds_61 : decode cX3_holds 61 = .ok (.dcmp .l, 1) := by decide +kernel
theorem dX3_holds_62 : decode cX3_holds 62 = .ok (.ifCond .lt 25, 3) := by decide +kernel
theorem dX3_holds_65 : decode cX3_holds 65 = .ok (.dload_n 1, 1) := by decide +kernel
theorem dX3_holds_66 : decode cX3_holds 66 = .ok (.aload_n 0, 1) := by decide +kernel
theorem dX3_holds_67 : decode cX3_holds 67 = .ok (.getfield 18, 3) := by decide +kernel
theorem dX3_holds_70 : decode cX3_holds 70 = .ok (.dcmp .l, 1) := by decide +kernel
theorem dX3_holds_71 : decode cX3_holds 71 = .ok (.ifCond .lt 16, 3) := by decide +kernel
theorem dX3_holds_74 : decode cX3_holds 74 = .ok (.dload_n 3, 1) := by decide +kernel
theorem dX3_holds_75 : decode cX3_holds 75 = .ok (.aload_n 0, 1) := by decide +kernel
theorem dX3_holds_76 : decode cX3_holds 76 = .ok (.getfield 22, 3) := by decide +kernel
theorem dX3_holds_79 : decode cX3_holds 79 = .ok (.dcmp .l, 1) := by decide +kernel
theorem dX3_holds_80 : decode cX3_holds 80 = .ok (.ifCond .lt 7, 3) := by decide +kernel
theorem dX3_holds_83 : decode cX3_holds 83 = .ok (.iconst 1, 1) := by decide +kernel
theorem dX3_holds_84 : decode cX3_holds 84 = .ok (.goto 4, 3) := by decide +kernel
theorem dX3_holds_87 : decode cX3_holds 87 = .ok (.iconst 0, 1) := by decide +kernel
theorem dX3_holds_88 : decode cX3_holds 88 = .ok (.ireturn, 1) := by decide +kernel
theorem dX3_holds_89 : decode cX3_holds 89 = .ok (.dload 5, 2) := by decide +kernel
theorem dX3_holds_91 : decode cX3_holds 91 = .ok (.ldc2_w 25, 3) := by decide +kernel
theorem dX3_holds_94 : decode cX3_holds 94 = .ok (.dcmp .l, 1) := by decide +kernel
theorem dX3_holds_95 : decode cX3_holds 95 = .ok (.ifCond .lt 16, 3) := by decide +kernel
theorem dX3_holds_98 : decode cX3_holds 98 = .ok (.dload_n 3, 1) := by decide +kernel
theorem dX3_holds_99 : decode cX3_holds 99 = .ok (.aload_n 0, 1) := by decide +kernel
theorem dX3_holds_100 : decode cX3_holds 100 = .ok (.getfield 22, 3) := by decide +kernel
theorem dX3_holds_103 : decode cX3_holds 103 = .ok (.dcmp .l, 1) := by decide +kernel
theorem dX3_holds_104 : decode cX3_holds 104 = .ok (.ifCond .lt 7, 3) := by decide +kernel
theorem dX3_holds_107 : decode cX3_holds 107 = .ok (.iconst 1, 1) := by decide +kernel
theorem dX3_holds_108 : decode cX3_holds 108 = .ok (.goto 4, 3) := by decide +kernel
theorem dX3_holds_111 : decode cX3_holds 111 = .ok (.iconst 0, 1) := by decide +kernel
theorem dX3_holds_112 : decode cX3_holds 112 = .ok (.ireturn, 1) := by decide +kernel
theorem dX3_holds_113 : decode cX3_holds 113 = .ok (.dload 5, 2) := by decide +kernel
theorem dX3_holds_115 : decode cX3_holds 115 = .ok (.ldc2_w 27, 3) := by decide +kernel
theorem dX3_holds_118 : decode cX3_holds 118 = .ok (.dcmp .g, 1) := by decide +kernel
theorem dX3_holds_119 : decode cX3_holds 119 = .ok (.ifCond .gt 7, 3) := by decide +kernel
theorem dX3_holds_122 : decode cX3_holds 122 = .ok (.iconst 1, 1) := by decide +kernel
theorem dX3_holds_123 : decode cX3_holds 123 = .ok (.goto 4, 3) := by decide +kernel
theorem dX3_holds_126 : decode cX3_holds 126 = .ok (.iconst 0, 1) := by decide +kernel
theorem dX3_holds_127 : decode cX3_holds 127 = .ok (.ireturn, 1) := by decide +kernel
theorem dX3_passesInterface_0 : decode cX3_passesInterface 0 = .ok (.aload_n 0, 1) := by decide +kernel
theorem dX3_passesInterface_1 : decode cX3_passesInterface 1 = .ok (.invokevirtual 29, 3) := by decide +kernel
theorem dX3_passesInterface_4 : decode cX3_passesInterface 4 = .ok (.ifCond .eq 17, 3) := by decide +kernel
theorem dX3_passesInterface_7 : decode cX3_passesInterface 7 = .ok (.dload_n 1, 1) := by decide +kernel
theorem dX3_passesInterface_8 : decode cX3_passesInterface 8 = .ok (.dload_n 3, 1) := by decide +kernel
theorem dX3_passesInterface_9 : decode cX3_passesInterface 9 = .ok (.dcmp .g, 1) := by decide +kernel
theorem dX3_passesInterface_10 : decode cX3_passesInterface 10 = .ok (.ifCond .gt 7, 3) := by decide +kernel
theorem dX3_passesInterface_13 : decode cX3_passesInterface 13 = .ok (.iconst 1, 1) := by decide +kernel
theorem dX3_passesInterface_14 : decode cX3_passesInterface 14 = .ok (.goto 18, 3) := by decide +kernel
theorem dX3_passesInterface_17 : decode cX3_passesInterface 17 = .ok (.iconst 0, 1) := by decide +kernel
theorem dX3_passesInterface_18 : decode cX3_passesInterface 18 = .ok (.goto 14, 3) := by decide +kernel
theorem dX3_passesInterface_21 : decode cX3_passesInterface 21 = .ok (.dload_n 1, 1) := by decide +kernel
theorem dX3_passesInterface_22 : decode cX3_passesInterface 22 = .ok (.dload_n 3, 1) := by decide +kernel
theorem dX3_passesInterface_23 : decode cX3_passesInterface 23 = .ok (.dcmp .l, 1) := by decide +kernel
theorem dX3_passesInterface_24 : decode cX3_passesInterface 24 = .ok (.ifCond .lt 7, 3) := by decide +kernel
theorem dX3_passesInterface_27 : decode cX3_passesInterface 27 = .ok (.iconst 1, 1) := by decide +kernel
theorem dX3_passesInterface_28 : decode cX3_passesInterface 28 = .ok (.goto 4, 3) := by decide +kernel
theorem dX3_passesInterface_31 : decode cX3_passesInterface 31 = .ok (.iconst 0, 1) := by decide +kernel
theorem dX3_passesInterface_32 : decode cX3_passesInterface 32 = .ok (.ireturn, 1) := by decide +kernel
theorem dX4_init_0 : decode cX4_init 0 = .ok (.aload_n 0, 1) := by decide +kernel
theorem dX4_init_1 : decode cX4_init 1 = .ok (.invokespecial 1, 3) := by decide +kernel
theorem dX4_init_4 : decode cX4_init 4 = .ok (.aload_n 0, 1) := by decide +kernel
theorem dX4_init_5 : decode cX4_init 5 = .ok (.bipush 10, 2) := by decide +kernel
theorem dX4_init_7 : decode cX4_init 7 = .ok (.anewarray 9, 3) := by decide +kernel
theorem dX4_init_10 : decode cX4_init 10 = .ok (.putfield 11, 3) := by decide +kernel
theorem dX4_init_13 : decode cX4_init 13 = .ok (.aload_n 0, 1) := by decide +kernel
theorem dX4_init_14 : decode cX4_init 14 = .ok (.bipush 30, 2) := by decide +kernel
theorem dX4_init_16 : decode cX4_init 16 = .ok (.anewarray 15, 3) := by decide +kernel
theorem dX4_init_19 : decode cX4_init 19 = .ok (.putfield 17, 3) := by decide +kernel
theorem dX4_init_22 : decode cX4_init 22 = .ok (.aload_n 0, 1) := by decide +kernel
theorem dX4_init_23 : decode cX4_init 23 = .ok (.iconst 0, 1) := by decide +kernel
theorem dX4_init_24 : decode cX4_init 24 = .ok (.putfield 21, 3) := by decide +kernel
theorem dX4_init_27 : decode cX4_init 27 = .ok (.aload_n 0, 1) := by decide +kernel
theorem dX4_init_28 : decode cX4_init 28 = .ok (.iconst 0, 1) := by decide +kernel
theorem dX4_init_29 : decode cX4_init 29 = .ok (.putfield 25, 3) := by decide +kernel
theorem dX4_init_32 : decode cX4_init 32 = .ok (.return_, 1) := by decide +kernel
theorem dX4_recipe_0 : decode cX4_recipe 0 = .ok (.aload_n 0, 1) := by decide +kernel
theorem dX4_recipe_1 : decode cX4_recipe 1 = .ok (.getfield 21, 3) := by decide +kernel
theorem dX4_recipe_4 : decode cX4_recipe 4 = .ok (.ifCond .lt 15, 3) := by decide +kernel
theorem dX4_recipe_7 : decode cX4_recipe 7 = .ok (.aload_n 0, 1) := by decide +kernel
theorem dX4_recipe_8 : decode cX4_recipe 8 = .ok (.getfield 21, 3) := by decide +kernel
theorem dX4_recipe_11 : decode cX4_recipe 11 = .ok (.aload_n 0, 1) := by decide +kernel
theorem dX4_recipe_12 : decode cX4_recipe 12 = .ok (.getfield 11, 3) := by decide +kernel
theorem dX4_recipe_15 : decode cX4_recipe 15 = .ok (.arraylength, 1) := by decide +kernel
theorem dX4_recipe_16 : decode cX4_recipe 16 = .ok (.if_icmp .lt 6, 3) := by decide +kernel
theorem dX4_recipe_19 : decode cX4_recipe 19 = .ok (.bipush (-2), 2) := by decide +kernel
theorem dX4_recipe_21 : decode cX4_recipe 21 = .ok (.ireturn, 1) := by decide +kernel
theorem dX4_recipe_22 : decode cX4_recipe 22 = .ok (.aload_n 0, 1) := by decide +kernel
theorem dX4_recipe_23 : decode cX4_recipe 23 = .ok (.getfield 21, 3) := by decide +kernel
theorem dX4_recipe_26 : decode cX4_recipe 26 = .ok (.istore_n 1, 1) := by decide +kernel
theorem dX4_recipe_27 : decode cX4_recipe 27 = .ok (.aload_n 0, 1) := by decide +kernel
theorem dX4_recipe_28 : decode cX4_recipe 28 = .ok (.getfield 11, 3) := by decide +kernel
theorem dX4_recipe_31 : decode cX4_recipe 31 = .ok (.iload_n 1, 1) := by decide +kernel
theorem dX4_recipe_32 : decode cX4_recipe 32 = .ok (.new 9, 3) := by decide +kernel
theorem dX4_recipe_35 : decode cX4_recipe 35 = .ok (.dup, 1) := by decide +kernel
theorem dX4_recipe_36 : decode cX4_recipe 36 = .ok (.invokespecial 28, 3) := by decide +kernel
theorem dX4_recipe_39 : decode cX4_recipe 39 = .ok (.aastore, 1) := by decide +kernel
theorem dX4_recipe_40 : decode cX4_recipe 40 = .ok (.aload_n 0, 1) := by decide +kernel
theorem dX4_recipe_41 : decode cX4_recipe 41 = .ok (.iload_n 1, 1) := by decide +kernel
theorem dX4_recipe_42 : decode cX4_recipe 42 = .ok (.iconst 1, 1) := by decide +kernel
theorem dX4_recipe_43 : decode cX4_recipe 43 = .ok (.iadd, 1) := by decide +kernel
theorem dX4_recipe_44 : decode cX4_recipe 44 = .ok (.putfield 21, 3) := by decide +kernel
theorem dX4_recipe_47 : decode cX4_recipe 47 = .ok (.iload_n 1, 1) := by decide +kernel
theorem dX4_recipe_48 : decode cX4_recipe 48 = .ok (.ireturn, 1) := by decide +kernel
theorem dX4_step_0 : decode cX4_step 0 = .ok (.aload_n 0, 1) := by decide +kernel
theorem dX4_step_1 : decode cX4_step 1 = .ok (.iload_n 1, 1) := by decide +kernel
theorem dX4_step_2 : decode cX4_step 2 = .ok (.invokevirtual 29, 3) := by decide +kernel
theorem dX4_step_5 : decode cX4_step 5 = .ok (.astore 8, 2) := by decide +kernel
theorem dX4_step_7 : decode cX4_step 7 = .ok (.aload 8, 2) := by decide +kernel
theorem dX4_step_9 : decode cX4_step 9 = .ok (.ifnull 11, 3) := by decide +kernel
theorem dX4_step_12 : decode cX4_step 12 = .ok (.aload 8, 2) := by decide +kernel
theorem dX4_step_14 : decode cX4_step 14 = .ok (.invokevirtual 33, 3) := by decide +kernel
theorem dX4_step_17 : decode cX4_step 17 = .ok (.ifCond .ne 5, 3) := by decide +kernel
theorem dX4_step_20 : decode cX4_step 20 = .ok (.iconst 0, 1) := by decide +kernel
theorem dX4_step_21 : decode cX4_step 21 = .ok (.ireturn, 1) := by decide +kernel
theorem dX4_step_22 : decode cX4_step 22 = .ok (.iload_n 2, 1) := by decide +kernel
theorem dX4_step_23 : decode cX4_step 23 = .ok (.ifCond .lt 20, 3) := by decide +kernel
theorem dX4_step_26 : decode cX4_step 26 = .ok (.iload_n 2, 1) := by decide +kernel
theorem dX4_step_27 : decode cX4_step 27 = .ok (.iconst 4, 1) := by decide +kernel
theorem dX4_step_28 : decode cX4_step 28 = .ok (.if_icmp .gt 15, 3) := by decide +kernel
theorem dX4_step_31 : decode cX4_step 31 = .ok (.iload_n 3, 1) := by decide +kernel
theorem dX4_step_32 : decode cX4_step 32 = .ok (.iconst 1, 1) := by decide +kernel
theorem dX4_step_33 : decode cX4_step 33 = .ok (.if_icmp .lt 10, 3) := by decide +kernel
theorem dX4_step_36 : decode cX4_step 36 = .ok (.iload_n 3, 1) := by decide +kernel
theorem dX4_step_37 : decode cX4_step 37 = .ok (.sipush 3600, 3) := by decide +kernel
theorem dX4_step_40 : decode cX4_step 40 = .ok (.if_icmp .le 5, 3) := by decide +kernel
theorem dX4_step_43 : decode cX4_step 43 = .ok (.iconst 0, 1) := by decide +kernel
theorem dX4_step_44 : decode cX4_step 44 = .ok (.ireturn, 1) := by decide +kernel
theorem dX4_step_45 : decode cX4_step 45 = .ok (.dload 4, 2) := by decide +kernel
theorem dX4_step_47 : decode cX4_step 47 = .ok (.dconst 0, 1) := by decide +kernel
theorem dX4_step_48 : decode cX4_step 48 = .ok (.ldc2_w 37, 3) := by decide +kernel
theorem dX4_step_51 : decode cX4_step 51 = .ok (.invokestatic 39, 3) := by decide +kernel
theorem dX4_step_54 : decode cX4_step 54 = .ok (.ifCond .eq 15, 3) := by decide +kernel
theorem dX4_step_57 : decode cX4_step 57 = .ok (.dload 6, 2) := by decide +kernel
theorem dX4_step_59 : decode cX4_step 59 = .ok (.dconst 0, 1) := by decide +kernel
theorem dX4_step_60 : decode cX4_step 60 = .ok (.ldc2_w 43, 3) := by decide +kernel
theorem dX4_step_63 : decode cX4_step 63 = .ok (.invokestatic 39, 3) := by decide +kernel
theorem dX4_step_66 : decode cX4_step 66 = .ok (.ifCond .ne 5, 3) := by decide +kernel
theorem dX4_step_69 : decode cX4_step 69 = .ok (.iconst 0, 1) := by decide +kernel
theorem dX4_step_70 : decode cX4_step 70 = .ok (.ireturn, 1) := by decide +kernel
theorem dX4_step_71 : decode cX4_step 71 = .ok (.aload 8, 2) := by decide +kernel
theorem dX4_step_73 : decode cX4_step 73 = .ok (.new 45, 3) := by decide +kernel
theorem dX4_step_76 : decode cX4_step 76 = .ok (.dup, 1) := by decide +kernel
theorem dX4_step_77 : decode cX4_step 77 = .ok (.iload_n 2, 1) := by decide +kernel
theorem dX4_step_78 : decode cX4_step 78 = .ok (.iload_n 3, 1) := by decide +kernel
theorem dX4_step_79 : decode cX4_step 79 = .ok (.dload 4, 2) := by decide +kernel
theorem dX4_step_81 : decode cX4_step 81 = .ok (.dload 6, 2) := by decide +kernel
theorem dX4_step_83 : decode cX4_step 83 = .ok (.invokespecial 47, 3) := by decide +kernel
theorem dX4_step_86 : decode cX4_step 86 = .ok (.invokevirtual 50, 3) := by decide +kernel
theorem dX4_step_89 : decode cX4_step 89 = .ok (.iconst 1, 1) := by decide +kernel
theorem dX4_step_90 : decode cX4_step 90 = .ok (.ireturn, 1) := by decide +kernel
theorem dX4_start_0 : decode cX4_start 0 = .ok (.aload_n 0, 1) := by decide +kernel
theorem dX4_start_1 : decode cX4_start 1 = .ok (.iload_n 1, 1) := by decide +kernel
theorem dX4_start_2 : decode cX4_start 2 = .ok (.invokevirtual 29, 3) := by decide +kernel
theorem dX4_start_5 : decode cX4_start 5 = .ok (.astore_n 3, 1) := by decide +kernel
theorem dX4_start_6 : decode cX4_start 6 = .ok (.aload_n 3, 1) := by decide +kernel
theorem dX4_start_7 : decode cX4_start 7 = .ok (.ifnull 14, 3) := by decide +kernel
theorem dX4_start_10 : decode cX4_start 10 = .ok (.iload_n 2, 1) := by decide +kernel
theorem dX4_start_11 : decode cX4_start 11 = .ok (.iconst 1, 1) := by decide +kernel
theorem dX4_start_12 : decode cX4_start 12 = .ok (.if_icmp .lt 9, 3) := by decide +kernel
theorem dX4_start_15 : decode cX4_start 15 = .ok (.iload_n 2, 1) := by decide +kernel
theorem dX4_start_16 : decode cX4_start 16 = .ok (.bipush 9, 2) := by decide +kernel
theorem dX4_start_18 : decode cX4_start 18 = .ok (.if_icmp .le 5, 3) := by decide +kernel
theorem dX4_start_21 : decode cX4_start 21 = .ok (.iconst (-1), 1) := by decide +kernel
theorem dX4_start_22 : decode cX4_start 22 = .ok (.ireturn, 1) := by decide +kernel
theorem dX4_start_23 : decode cX4_start 23 = .ok (.aload_n 3, 1) := by decide +kernel
theorem dX4_start_24 : decode cX4_start 24 = .ok (.iconst 0, 1) := by decide +kernel
theorem dX4_start_25 : decode cX4_start 25 = .ok (.invokevirtual 54, 3) := by decide +kernel
theorem dX4_start_28 : decode cX4_start 28 = .ok (.astore 4, 2) := by decide +kernel
theorem dX4_start_30 : decode cX4_start 30 = .ok (.aload 4, 2) := by decide +kernel
theorem dX4_start_32 : decode cX4_start 32 = .ok (.ifnonnull 5, 3) := by decide +kernel
theorem dX4_start_35 : decode cX4_start 35 = .ok (.iconst (-1), 1) := by decide +kernel
theorem dX4_start_36 : decode cX4_start 36 = .ok (.ireturn, 1) := by decide +kernel
theorem dX4_start_37 : decode cX4_start 37 = .ok (.aload_n 0, 1) := by decide +kernel
theorem dX4_start_38 : decode cX4_start 38 = .ok (.getfield 25, 3) := by decide +kernel
theorem dX4_start_41 : decode cX4_start 41 = .ok (.ifCond .lt 15, 3) := by decide +kernel
theorem dX4_start_44 : decode cX4_start 44 = .ok (.aload_n 0, 1) := by decide +kernel
theorem dX4_start_45 : decode cX4_start 45 = .ok (.getfield 25, 3) := by decide +kernel
theorem dX4_start_48 : decode cX4_start 48 = .ok (.aload_n 0, 1) := by decide +kernel
theorem dX4_start_49 : decode cX4_start 49 = .ok (.getfield 17, 3) := by decide +kernel
theorem dX4_start_52 : decode cX4_start 52 = .ok (.arraylength, 1) := by decide +kernel
theorem dX4_start_53 : decode cX4_start 53 = .ok (.if_icmp .lt 6, 3) := by decide +kernel
theorem dX4_start_56 : decode cX4_start 56 = .ok (.bipush (-2), 2) := by decide +kernel
theorem dX4_start_58 : decode cX4_start 58 = .ok (.ireturn, 1) := by decide +kernel
theorem dX4_start_59 : decode cX4_start 59 = .ok (.aload_n 0, 1) := by decide +kernel
theorem dX4_start_60 : decode cX4_start 60 = .ok (.getfield 25, 3) := by decide +kernel
theorem dX4_start_63 : decode cX4_start 63 = .ok (.istore 5, 2) := by decide +kernel
theorem dX4_start_65 : decode cX4_start 65 = .ok (.aload_n 0, 1) := by decide +kernel
theorem dX4_start_66 : decode cX4_start 66 = .ok (.getfield 17, 3) := by decide +kernel
theorem dX4_start_69 : decode cX4_start 69 = .ok (.iload 5, 2) := by decide +kernel
theorem dX4_start_71 : decode cX4_start 71 = .ok (.new 15, 3) := by decide +kernel
theorem dX4_start_74 : decode cX4_start 74 = .ok (.dup, 1) := by decide +kernel
theorem dX4_start_75 : decode cX4_start 75 = .ok (.aload_n 3, 1) := by decide +kernel
theorem dX4_start_76 : decode cX4_start 76 = .ok (.aload 4, 2) := by decide +kernel
theorem dX4_start_78 : decode cX4_start 78 = .ok (.iload_n 2, 1) := by decide +kernel
theorem dX4_start_79 : decode cX4_start 79 = .ok (.invokespecial 58, 3) := by decide +kernel
theorem dX4_start_82 : decode cX4_start 82 = .ok (.aastore, 1) := by decide +kernel
theorem dX4_start_83 : decode cX4_start 83 = .ok (.aload_n 0, 1) := by decide +kernel
theorem dX4_start_84 : decode cX4_start 84 = .ok (.iload 5, 2) := by decide +kernel
theorem dX4_start_86 : decode cX4_start 86 = .ok (.iconst 1, 1) := by decide +kernel
theorem dX4_start_87 : decode cX4_start 87 = .ok (.iadd, 1) := by decide +kernel
theorem dX4_start_88 : decode cX4_start 88 = .ok (.putfield 25, 3) := by decide +kernel
theorem dX4_start_91 : decode cX4_start 91 = .ok (.aload_n 3, 1) := by decide +kernel
theorem dX4_start_92 : decode cX4_start 92 = .ok (.iconst 1, 1) := by decide +kernel
theorem dX4_start_93 : decode cX4_start 93 = .ok (.putfield 61, 3) := by decide +kernel
theorem dX4_start_96 : decode cX4_start 96 = .ok (.iload 5, 2) := by decide +kernel
theorem dX4_start_98 : decode cX4_start 98 = .ok (.ireturn, 1) := by decide +kernel
theorem dX4_tick_0 : decode cX4_tick 0 = .ok (.aload_n 0, 1) := by decide +kernel
theorem dX4_tick_1 : decode cX4_tick 1 = .ok (.iload_n 1, 1) := by decide +kernel
theorem dX4_tick_2 : decode cX4_tick 2 = .ok (.invokevirtual 65, 3) := by decide +kernel
theorem dX4_tick_5 : decode cX4_tick 5 = .ok (.astore 8, 2) := by decide +kernel
theorem dX4_tick_7 : decode cX4_tick 7 = .ok (.aload 8, 2) := by decide +kernel
theorem dX4_tick_9 : decode cX4_tick 9 = .ok (.ifnonnull 5, 3) := by decide +kernel
theorem dX4_tick_12 : decode cX4_tick 12 = .ok (.iconst (-1), 1) := by decide +kernel
theorem dX4_tick_13 : decode cX4_tick 13 = .ok (.ireturn, 1) := by decide +kernel
theorem dX4_tick_14 : decode cX4_tick 14 = .ok (.dload_n 2, 1) := by decide +kernel
theorem dX4_tick_15 : decode cX4_tick 15 = .ok (.dconst 0, 1) := by decide +kernel
theorem dX4_tick_16 : decode cX4_tick 16 = .ok (.ldc2_w 69, 3) := by decide +kernel
theorem dX4_tick_19 : decode cX4_tick 19 = .ok (.invokestatic 39, 3) := by decide +kernel
theorem dX4_tick_22 : decode cX4_tick 22 = .ok (.ifCond .eq 29, 3) := by decide +kernel
theorem dX4_tick_25 : decode cX4_tick 25 = .ok (.dload 6, 2) := by decide +kernel
theorem dX4_tick_27 : decode cX4_tick 27 = .ok (.dconst 0, 1) := by decide +kernel
theorem dX4_tick_28 : decode cX4_tick 28 = .ok (.ldc2_w 69, 3) := by decide +kernel
theorem dX4_tick_31 : decode cX4_tick 31 = .ok (.invokestatic 39, 3) := by decide +kernel
theorem dX4_tick_34 : decode cX4_tick 34 = .ok (.ifCond .eq 17, 3) := by decide +kernel
theorem dX4_tick_37 : decode cX4_tick 37 = .ok (.dload 4, 2) := by decide +kernel
theorem dX4_tick_39 : decode cX4_tick 39 = .ok (.ldc2_w 71, 3) := by decide +kernel
theorem dX4_tick_42 : decode cX4_tick 42 = .ok (.ldc2_w 73, 3) := by decide +kernel
theorem dX4_tick_45 : decode cX4_tick 45 = .ok (.invokestatic 39, 3) := by decide +kernel
theorem dX4_tick_48 : decode cX4_tick 48 = .ok (.ifCond .ne 5, 3) := by decide +kernel
theorem dX4_tick_51 : decode cX4_tick 51 = .ok (.iconst (-1), 1) := by decide +kernel
theorem dX4_tick_52 : decode cX4_tick 52 = .ok (.ireturn, 1) := by decide +kernel
theorem dX4_tick_53 : decode cX4_tick 53 = .ok (.aload 8, 2) := by decide +kernel
theorem dX4_tick_55 : decode cX4_tick 55 = .ok (.dload_n 2, 1) := by decide +kernel
theorem dX4_tick_56 : decode cX4_tick 56 = .ok (.dload 4, 2) := by decide +kernel
theorem dX4_tick_58 : decode cX4_tick 58 = .ok (.dload 6, 2) := by decide +kernel
theorem dX4_tick_60 : decode cX4_tick 60 = .ok (.invokevirtual 75, 3) := by decide +kernel
theorem dX4_tick_63 : decode cX4_tick 63 = .ok (.aload 8, 2) := by decide +kernel
theorem dX4_tick_65 : decode cX4_tick 65 = .ok (.getfield 79, 3) := by decide +kernel
theorem dX4_tick_68 : decode cX4_tick 68 = .ok (.ireturn, 1) := by decide +kernel
theorem dX4_state_0 : decode cX4_state 0 = .ok (.aload_n 0, 1) := by decide +kernel
theorem dX4_state_1 : decode cX4_state 1 = .ok (.iload_n 1, 1) := by decide +kernel
theorem dX4_state_2 : decode cX4_state 2 = .ok (.invokevirtual 65, 3) := by decide +kernel
theorem dX4_state_5 : decode cX4_state 5 = .ok (.astore_n 2, 1) := by decide +kernel
theorem dX4_state_6 : decode cX4_state 6 = .ok (.aload_n 2, 1) := by decide +kernel
theorem dX4_state_7 : decode cX4_state 7 = .ok (.ifnonnull 7, 3) := by decide +kernel
theorem dX4_state_10 : decode cX4_state 10 = .ok (.iconst (-1), 1) := by decide +kernel
theorem dX4_state_11 : decode cX4_state 11 = .ok (.goto 7, 3) := by decide +kernel
theorem dX4_state_14 : decode cX4_state 14 = .ok (.aload_n 2, 1) := by decide +kernel
theorem dX4_state_15 : decode cX4_state 15 = .ok (.getfield 79, 3) := by decide +kernel
theorem dX4_state_18 : decode cX4_state 18 = .ok (.ireturn, 1) := by decide +kernel
theorem dX4_stepOf_0 : decode cX4_stepOf 0 = .ok (.aload_n 0, 1) := by decide +kernel
theorem dX4_stepOf_1 : decode cX4_stepOf 1 = .ok (.iload_n 1, 1) := by decide +kernel
theorem dX4_stepOf_2 : decode cX4_stepOf 2 = .ok (.invokevirtual 65, 3) := by decide +kernel
theorem dX4_stepOf_5 : decode cX4_stepOf 5 = .ok (.astore_n 2, 1) := by decide +kernel
theorem dX4_stepOf_6 : decode cX4_stepOf 6 = .ok (.aload_n 2, 1) := by decide +kernel
theorem dX4_stepOf_7 : decode cX4_stepOf 7 = .ok (.ifnonnull 7, 3) := by decide +kernel
theorem dX4_stepOf_10 : decode cX4_stepOf 10 = .ok (.iconst (-1), 1) := by decide +kernel
theorem dX4_stepOf_11 : decode cX4_stepOf 11 = .ok (.goto 9, 3) := by decide +kernel
theorem dX4_stepOf_14 : decode cX4_stepOf 14 = .ok (.aload_n 2, 1) := by decide +kernel
theorem dX4_stepOf_15 : decode cX4_stepOf 15 = .ok (.getfield 82, 3) := by decide +kernel
theorem dX4_stepOf_18 : decode cX4_stepOf 18 = .ok (.iconst 1, 1) := by decide +kernel
theorem dX4_stepOf_19 : decode cX4_stepOf 19 = .ok (.isub, 1) := by decide +kernel
theorem dX4_stepOf_20 : decode cX4_stepOf 20 = .ok (.ireturn, 1) := by decide +kernel
theorem dX4_counted_0 : decode cX4_counted 0 = .ok (.aload_n 0, 1) := by decide +kernel
theorem dX4_counted_1 : decode cX4_counted 1 = .ok (.iload_n 1, 1) := by decide +kernel
theorem dX4_counted_2 : decode cX4_counted 2 = .ok (.invokevirtual 65, 3) := by decide +kernel
theorem dX4_counted_5 : decode cX4_counted 5 = .ok (.astore_n 2, 1) := by decide +kernel
theorem dX4_counted_6 : decode cX4_counted 6 = .ok (.aload_n 2, 1) := by decide +kernel
theorem dX4_counted_7 : decode cX4_counted 7 = .ok (.ifnonnull 9, 3) := by decide +kernel
theorem dX4_counted_10 : decode cX4_counted 10 = .ok (.ldc2_w 85, 3) := by decide +kernel
theorem dX4_counted_13 : decode cX4_counted 13 = .ok (.goto 11, 3) := by decide +kernel
theorem dX4_counted_16 : decode cX4_counted 16 = .ok (.aload_n 2, 1) := by decide +kernel
theorem dX4_counted_17 : decode cX4_counted 17 = .ok (.getfield 87, 3) := by decide +kernel
theorem dX4_counted_20 : decode cX4_counted 20 = .ok (.getfield 91, 3) := by decide +kernel
theorem dX4_counted_23 : decode cX4_counted 23 = .ok (.i2l, 1) := by decide +kernel
theorem dX4_counted_24 : decode cX4_counted 24 = .ok (.lreturn, 1) := by decide +kernel
theorem dX4_failed_0 : decode cX4_failed 0 = .ok (.aload_n 0, 1) := by decide +kernel
theorem dX4_failed_1 : decode cX4_failed 1 = .ok (.iload_n 1, 1) := by decide +kernel
theorem dX4_failed_2 : decode cX4_failed 2 = .ok (.invokevirtual 65, 3) := by decide +kernel
theorem dX4_failed_5 : decode cX4_failed 5 = .ok (.astore_n 2, 1) := by decide +kernel
theorem dX4_failed_6 : decode cX4_failed 6 = .ok (.aload_n 2, 1) := by decide +kernel
theorem dX4_failed_7 : decode cX4_failed 7 = .ok (.ifnonnull 7, 3) := by decide +kernel
theorem dX4_failed_10 : decode cX4_failed 10 = .ok (.iconst (-1), 1) := by decide +kernel
theorem dX4_failed_11 : decode cX4_failed 11 = .ok (.goto 7, 3) := by decide +kernel
theorem dX4_failed_14 : decode cX4_failed 14 = .ok (.aload_n 2, 1) := by decide +kernel
theorem dX4_failed_15 : decode cX4_failed 15 = .ok (.getfield 96, 3) := by decide +kernel
theorem dX4_failed_18 : decode cX4_failed 18 = .ok (.ireturn, 1) := by decide +kernel
theorem dX4_cleaner_0 : decode cX4_cleaner 0 = .ok (.aload_n 0, 1) := by decide +kernel
theorem dX4_cleaner_1 : decode cX4_cleaner 1 = .ok (.iload_n 1, 1) := by decide +kernel
theorem dX4_cleaner_2 : decode cX4_cleaner 2 = .ok (.invokevirtual 65, 3) := by decide +kernel
theorem dX4_cleaner_5 : decode cX4_cleaner 5 = .ok (.astore_n 3, 1) := by decide +kernel
theorem dX4_cleaner_6 : decode cX4_cleaner 6 = .ok (.aload_n 3, 1) := by decide +kernel
theorem dX4_cleaner_7 : decode cX4_cleaner 7 = .ok (.ifnonnull 9, 3) := by decide +kernel
theorem dX4_cleaner_10 : decode cX4_cleaner 10 = .ok (.ldc2_w 99, 3) := by decide +kernel
theorem dX4_cleaner_13 : decode cX4_cleaner 13 = .ok (.goto 8, 3) := by decide +kernel
theorem dX4_cleaner_16 : decode cX4_cleaner 16 = .ok (.aload_n 3, 1) := by decide +kernel
theorem dX4_cleaner_17 : decode cX4_cleaner 17 = .ok (.iload_n 2, 1) := by decide +kernel
theorem dX4_cleaner_18 : decode cX4_cleaner 18 = .ok (.invokevirtual 101, 3) := by decide +kernel
theorem dX4_cleaner_21 : decode cX4_cleaner 21 = .ok (.dreturn, 1) := by decide +kernel
theorem dX4_interface2_0 : decode cX4_interface2 0 = .ok (.aload_n 0, 1) := by decide +kernel
theorem dX4_interface2_1 : decode cX4_interface2 1 = .ok (.iload_n 1, 1) := by decide +kernel
theorem dX4_interface2_2 : decode cX4_interface2 2 = .ok (.invokevirtual 65, 3) := by decide +kernel
theorem dX4_interface2_5 : decode cX4_interface2 5 = .ok (.astore 5, 2) := by decide +kernel
theorem dX4_interface2_7 : decode cX4_interface2 7 = .ok (.aload 5, 2) := by decide +kernel
theorem dX4_interface2_9 : decode cX4_interface2 9 = .ok (.ifnull 11, 3) := by decide +kernel
theorem dX4_interface2_12 : decode cX4_interface2 12 = .ok (.aload 5, 2) := by decide +kernel
theorem dX4_interface2_14 : decode cX4_interface2 14 = .ok (.invokevirtual 105, 3) := by decide +kernel
theorem dX4_interface2_17 : decode cX4_interface2 17 = .ok (.ifCond .eq 5, 3) := by decide +kernel
theorem dX4_interface2_20 : decode cX4_interface2 20 = .ok (.iconst 0, 1) := by decide +kernel
theorem dX4_interface2_21 : decode cX4_interface2 21 = .ok (.ireturn, 1) := by decide +kernel
theorem dX4_interface2_22 : decode cX4_interface2 22 = .ok (.dload_n 2, 1) := by decide +kernel
theorem dX4_interface2_23 : decode cX4_interface2 23 = .ok (.dconst 0, 1) := by decide +kernel
theorem dX4_interface2_24 : decode cX4_interface2 24 = .ok (.ldc2_w 37, 3) := by decide +kernel
theorem dX4_interface2_27 : decode cX4_interface2 27 = .ok (.invokestatic 39, 3) := by decide +kernel
theorem dX4_interface2_30 : decode cX4_interface2 30 = .ok (.ifCond .eq 17, 3) := by decide +kernel
theorem dX4_interface2_33 : decode cX4_interface2 33 = .ok (.iload 4, 2) := by decide +kernel
theorem dX4_interface2_35 : decode cX4_interface2 35 = .ok (.iconst 1, 1) := by decide +kernel
theorem dX4_interface2_36 : decode cX4_interface2 36 = .ok (.if_icmp .lt 11, 3) := by decide +kernel
theorem dX4_interface2_39 : decode cX4_interface2 39 = .ok (.iload 4, 2) := by decide +kernel
theorem dX4_interface2_41 : decode cX4_interface2 41 = .ok (.sipush 600, 3) := by decide +kernel
theorem dX4_interface2_44 : decode cX4_interface2 44 = .ok (.if_icmp .le 5, 3) := by decide +kernel
theorem dX4_interface2_47 : decode cX4_interface2 47 = .ok (.iconst 0, 1) := by decide +kernel
theorem dX4_interface2_48 : decode cX4_interface2 48 = .ok (.ireturn, 1) := by decide +kernel
theorem dX4_interface2_49 : decode cX4_interface2 49 = .ok (.aload 5, 2) := by decide +kernel
theorem dX4_interface2_51 : decode cX4_interface2 51 = .ok (.dload_n 2, 1) := by decide +kernel
theorem dX4_interface2_52 : decode cX4_interface2 52 = .ok (.iload 4, 2) := by decide +kernel
theorem dX4_interface2_54 : decode cX4_interface2 54 = .ok (.invokevirtual 108, 3) := by decide +kernel
theorem dX4_interface2_57 : decode cX4_interface2 57 = .ok (.iconst 1, 1) := by decide +kernel
theorem dX4_interface2_58 : decode cX4_interface2 58 = .ok (.ireturn, 1) := by decide +kernel
theorem dX4_level_0 : decode cX4_level 0 = .ok (.aload_n 0, 1) := by decide +kernel
theorem dX4_level_1 : decode cX4_level 1 = .ok (.iload_n 1, 1) := by decide +kernel
theorem dX4_level_2 : decode cX4_level 2 = .ok (.invokevirtual 65, 3) := by decide +kernel
theorem dX4_level_5 : decode cX4_level 5 = .ok (.astore_n 2, 1) := by decide +kernel
theorem dX4_level_6 : decode cX4_level 6 = .ok (.aload_n 2, 1) := by decide +kernel
theorem dX4_level_7 : decode cX4_level 7 = .ok (.ifnonnull 5, 3) := by decide +kernel
theorem dX4_level_10 : decode cX4_level 10 = .ok (.iconst (-1), 1) := by decide +kernel
theorem dX4_level_11 : decode cX4_level 11 = .ok (.ireturn, 1) := by decide +kernel
theorem dX4_level_12 : decode cX4_level 12 = .ok (.aload_n 2, 1) := by decide +kernel
theorem dX4_level_13 : decode cX4_level 13 = .ok (.getfield 79, 3) := by decide +kernel
theorem dX4_level_16 : decode cX4_level 16 = .ok (.iconst 3, 1) := by decide +kernel
theorem dX4_level_17 : decode cX4_level 17 = .ok (.if_icmp .ne 10, 3) := by decide +kernel
theorem dX4_level_20 : decode cX4_level 20 = .ok (.aload_n 2, 1) := by decide +kernel
theorem dX4_level_21 : decode cX4_level 21 = .ok (.getfield 112, 3) := by decide +kernel
theorem dX4_level_24 : decode cX4_level 24 = .ok (.goto 4, 3) := by decide +kernel
theorem dX4_level_27 : decode cX4_level 27 = .ok (.iconst 0, 1) := by decide +kernel
theorem dX4_level_28 : decode cX4_level 28 = .ok (.ireturn, 1) := by decide +kernel
theorem dX4_breakOff_0 : decode cX4_breakOff 0 = .ok (.aload_n 0, 1) := by decide +kernel
theorem dX4_breakOff_1 : decode cX4_breakOff 1 = .ok (.iload_n 1, 1) := by decide +kernel
theorem dX4_breakOff_2 : decode cX4_breakOff 2 = .ok (.invokevirtual 65, 3) := by decide +kernel
theorem dX4_breakOff_5 : decode cX4_breakOff 5 = .ok (.astore_n 2, 1) := by decide +kernel
theorem dX4_breakOff_6 : decode cX4_breakOff 6 = .ok (.aload_n 2, 1) := by decide +kernel
theorem dX4_breakOff_7 : decode cX4_breakOff 7 = .ok (.ifnull 10, 3) := by decide +kernel
theorem dX4_breakOff_10 : decode cX4_breakOff 10 = .ok (.aload_n 2, 1) := by decide +kernel
theorem dX4_breakOff_11 : decode cX4_breakOff 11 = .ok (.invokevirtual 105, 3) := by decide +kernel
theorem dX4_breakOff_14 : decode cX4_breakOff 14 = .ok (.ifCond .eq 5, 3) := by decide +kernel
theorem dX4_breakOff_17 : decode cX4_breakOff 17 = .ok (.iconst 0, 1) := by decide +kernel
theorem dX4_breakOff_18 : decode cX4_breakOff 18 = .ok (.ireturn, 1) := by decide +kernel
theorem dX4_breakOff_19 : decode cX4_breakOff 19 = .ok (.aload_n 2, 1) := by decide +kernel
theorem dX4_breakOff_20 : decode cX4_breakOff 20 = .ok (.iconst 4, 1) := by decide +kernel
theorem dX4_breakOff_21 : decode cX4_breakOff 21 = .ok (.invokevirtual 115, 3) := by decide +kernel
theorem dX4_breakOff_24 : decode cX4_breakOff 24 = .ok (.iconst 1, 1) := by decide +kernel
theorem dX4_breakOff_25 : decode cX4_breakOff 25 = .ok (.ireturn, 1) := by decide +kernel
theorem dX4_record_0 : decode cX4_record 0 = .ok (.aload_n 0, 1) := by decide +kernel
theorem dX4_record_1 : decode cX4_record 1 = .ok (.iload_n 1, 1) := by decide +kernel
theorem dX4_record_2 : decode cX4_record 2 = .ok (.invokevirtual 65, 3) := by decide +kernel
theorem dX4_record_5 : decode cX4_record 5 = .ok (.astore 4, 2) := by decide +kernel
theorem dX4_record_7 : decode cX4_record 7 = .ok (.aload 4, 2) := by decide +kernel
theorem dX4_record_9 : decode cX4_record 9 = .ok (.ifnonnull 5, 3) := by decide +kernel
theorem dX4_record_12 : decode cX4_record 12 = .ok (.iconst (-1), 1) := by decide +kernel
theorem dX4_record_13 : decode cX4_record 13 = .ok (.ireturn, 1) := by decide +kernel
theorem dX4_record_14 : decode cX4_record 14 = .ok (.aload 4, 2) := by decide +kernel
theorem dX4_record_16 : decode cX4_record 16 = .ok (.iload_n 2, 1) := by decide +kernel
theorem dX4_record_17 : decode cX4_record 17 = .ok (.invokevirtual 119, 3) := by decide +kernel
theorem dX4_record_20 : decode cX4_record 20 = .ok (.astore 5, 2) := by decide +kernel
theorem dX4_record_22 : decode cX4_record 22 = .ok (.aload 5, 2) := by decide +kernel
theorem dX4_record_24 : decode cX4_record 24 = .ok (.ifnonnull 7, 3) := by decide +kernel
theorem dX4_record_27 : decode cX4_record 27 = .ok (.iconst (-1), 1) := by decide +kernel
theorem dX4_record_28 : decode cX4_record 28 = .ok (.goto 9, 3) := by decide +kernel
theorem dX4_record_31 : decode cX4_record 31 = .ok (.aload 5, 2) := by decide +kernel
theorem dX4_record_33 : decode cX4_record 33 = .ok (.iload_n 3, 1) := by decide +kernel
theorem dX4_record_34 : decode cX4_record 34 = .ok (.invokevirtual 123, 3) := by decide +kernel
theorem dX4_record_37 : decode cX4_record 37 = .ok (.ireturn, 1) := by decide +kernel
theorem dX4_states_0 : decode cX4_states 0 = .ok (.iconst 5, 1) := by decide +kernel
theorem dX4_states_1 : decode cX4_states 1 = .ok (.ireturn, 1) := by decide +kernel
theorem dX4_recipeAt_0 : decode cX4_recipeAt 0 = .ok (.iload_n 1, 1) := by decide +kernel
theorem dX4_recipeAt_1 : decode cX4_recipeAt 1 = .ok (.ifCond .lt 20, 3) := by decide +kernel
theorem dX4_recipeAt_4 : decode cX4_recipeAt 4 = .ok (.iload_n 1, 1) := by decide +kernel
theorem dX4_recipeAt_5 : decode cX4_recipeAt 5 = .ok (.aload_n 0, 1) := by decide +kernel
theorem dX4_recipeAt_6 : decode cX4_recipeAt 6 = .ok (.getfield 21, 3) := by decide +kernel
theorem dX4_recipeAt_9 : decode cX4_recipeAt 9 = .ok (.if_icmp .ge 12, 3) := by decide +kernel
theorem dX4_recipeAt_12 : decode cX4_recipeAt 12 = .ok (.iload_n 1, 1) := by decide +kernel
theorem dX4_recipeAt_13 : decode cX4_recipeAt 13 = .ok (.aload_n 0, 1) := by decide +kernel
theorem dX4_recipeAt_14 : decode cX4_recipeAt 14 = .ok (.getfield 11, 3) := by decide +kernel
theorem dX4_recipeAt_17 : decode cX4_recipeAt 17 = .ok (.arraylength, 1) := by decide +kernel
theorem dX4_recipeAt_18 : decode cX4_recipeAt 18 = .ok (.if_icmp .lt 5, 3) := by decide +kernel
theorem dX4_recipeAt_21 : decode cX4_recipeAt 21 = .ok (.aconst_null, 1) := by decide +kernel
theorem dX4_recipeAt_22 : decode cX4_recipeAt 22 = .ok (.areturn, 1) := by decide +kernel
theorem dX4_recipeAt_23 : decode cX4_recipeAt 23 = .ok (.aload_n 0, 1) := by decide +kernel
theorem dX4_recipeAt_24 : decode cX4_recipeAt 24 = .ok (.getfield 11, 3) := by decide +kernel
theorem dX4_recipeAt_27 : decode cX4_recipeAt 27 = .ok (.iload_n 1, 1) := by decide +kernel
theorem dX4_recipeAt_28 : decode cX4_recipeAt 28 = .ok (.aaload, 1) := by decide +kernel
theorem dX4_recipeAt_29 : decode cX4_recipeAt 29 = .ok (.areturn, 1) := by decide +kernel
theorem dX4_runAt_0 : decode cX4_runAt 0 = .ok (.iload_n 1, 1) := by decide +kernel
theorem dX4_runAt_1 : decode cX4_runAt 1 = .ok (.ifCond .lt 20, 3) := by decide +kernel
theorem dX4_runAt_4 : decode cX4_runAt 4 = .ok (.iload_n 1, 1) := by decide +kernel
theorem dX4_runAt_5 : decode cX4_runAt 5 = .ok (.aload_n 0, 1) := by decide +kernel
theorem dX4_runAt_6 : decode cX4_runAt 6 = .ok (.getfield 25, 3) := by decide +kernel
theorem dX4_runAt_9 : decode cX4_runAt 9 = .ok (.if_icmp .ge 12, 3) := by decide +kernel
theorem dX4_runAt_12 : decode cX4_runAt 12 = .ok (.iload_n 1, 1) := by decide +kernel
theorem dX4_runAt_13 : decode cX4_runAt 13 = .ok (.aload_n 0, 1) := by decide +kernel
theorem dX4_runAt_14 : decode cX4_runAt 14 = .ok (.getfield 17, 3) := by decide +kernel
theorem dX4_runAt_17 : decode cX4_runAt 17 = .ok (.arraylength, 1) := by decide +kernel
theorem dX4_runAt_18 : decode cX4_runAt 18 = .ok (.if_icmp .lt 5, 3) := by decide +kernel
theorem dX4_runAt_21 : decode cX4_runAt 21 = .ok (.aconst_null, 1) := by decide +kernel
theorem dX4_runAt_22 : decode cX4_runAt 22 = .ok (.areturn, 1) := by decide +kernel
theorem dX4_runAt_23 : decode cX4_runAt 23 = .ok (.aload_n 0, 1) := by decide +kernel
theorem dX4_runAt_24 : decode cX4_runAt 24 = .ok (.getfield 17, 3) := by decide +kernel
theorem dX4_runAt_27 : decode cX4_runAt 27 = .ok (.iload_n 1, 1) := by decide +kernel
theorem dX4_runAt_28 : decode cX4_runAt 28 = .ok (.aaload, 1) := by decide +kernel
theorem dX4_runAt_29 : decode cX4_runAt 29 = .ok (.areturn, 1) := by decide +kernel
theorem dX4_within_0 : decode cX4_within 0 = .ok (.dload_n 0, 1) := by decide +kernel
theorem dX4_within_1 : decode cX4_within 1 = .ok (.dload_n 2, 1) := by decide +kernel
theorem dX4_within_2 : decode cX4_within 2 = .ok (.dcmp .l, 1) := by decide +kernel
theorem dX4_within_3 : decode cX4_within 3 = .ok (.ifCond .lt 14, 3) := by decide +kernel
theorem dX4_within_6 : decode cX4_within 6 = .ok (.dload_n 0, 1) := by decide +kernel
theorem dX4_within_7 : decode cX4_within 7 = .ok (.dload 4, 2) := by decide +kernel
theorem dX4_within_9 : decode cX4_within 9 = .ok (.dcmp .g, 1) := by decide +kernel
theorem dX4_within_10 : decode cX4_within 10 = .ok (.ifCond .gt 7, 3) := by decide +kernel
theorem dX4_within_13 : decode cX4_within 13 = .ok (.iconst 1, 1) := by decide +kernel
theorem dX4_within_14 : decode cX4_within 14 = .ok (.goto 4, 3) := by decide +kernel
theorem dX4_within_17 : decode cX4_within 17 = .ok (.iconst 0, 1) := by decide +kernel
theorem dX4_within_18 : decode cX4_within 18 = .ok (.ireturn, 1) := by decide +kernel
theorem dX5_init_0 : decode cX5_init 0 = .ok (.aload_n 0, 1) := by decide +kernel
theorem dX5_init_1 : decode cX5_init 1 = .ok (.invokespecial 1, 3) := by decide +kernel
theorem dX5_init_4 : decode cX5_init 4 = .ok (.aload_n 0, 1) := by decide +kernel
theorem dX5_init_5 : decode cX5_init 5 = .ok (.bipush 10, 2) := by decide +kernel
theorem dX5_init_7 : decode cX5_init 7 = .ok (.newarray .int, 2) := by decide +kernel
theorem dX5_init_9 : decode cX5_init 9 = .ok (.putfield 9, 3) := by decide +kernel
theorem dX5_init_12 : decode cX5_init 12 = .ok (.aload_n 0, 1) := by decide +kernel
theorem dX5_init_13 : decode cX5_init 13 = .ok (.bipush 10, 2) := by decide +kernel
theorem dX5_init_15 : decode cX5_init 15 = .ok (.newarray .boolean, 2) := by decide +kernel
theorem dX5_init_17 : decode cX5_init 17 = .ok (.putfield 13, 3) := by decide +kernel
theorem dX5_init_20 : decode cX5_init 20 = .ok (.aload_n 0, 1) := by decide +kernel
theorem dX5_init_21 : decode cX5_init 21 = .ok (.bipush 120, 2) := by decide +kernel
theorem dX5_init_23 : decode cX5_init 23 = .ok (.newarray .int, 2) := by decide +kernel
theorem dX5_init_25 : decode cX5_init 25 = .ok (.putfield 17, 3) := by decide +kernel
theorem dX5_init_28 : decode cX5_init 28 = .ok (.aload_n 0, 1) := by decide +kernel
theorem dX5_init_29 : decode cX5_init 29 = .ok (.bipush 120, 2) := by decide +kernel
theorem dX5_init_31 : decode cX5_init 31 = .ok (.newarray .int, 2) := by decide +kernel
theorem dX5_init_33 : decode cX5_init 33 = .ok (.putfield 20, 3) := by decide +kernel
theorem dX5_init_36 : decode cX5_init 36 = .ok (.aload_n 0, 1) := by decide +kernel
theorem dX5_init_37 : decode cX5_init 37 = .ok (.bipush 120, 2) := by decide +kernel
theorem dX5_init_39 : decode cX5_init 39 = .ok (.newarray .double, 2) := by decide +kernel
theorem dX5_init_41 : decode cX5_init 41 = .ok (.putfield 23, 3) := by decide +kernel
theorem dX5_init_44 : decode cX5_init 44 = .ok (.aload_n 0, 1) := by decide +kernel
theorem dX5_init_45 : decode cX5_init 45 = .ok (.bipush 120, 2) := by decide +kernel
theorem dX5_init_47 : decode cX5_init 47 = .ok (.newarray .double, 2) := by decide +kernel
theorem dX5_init_49 : decode cX5_init 49 = .ok (.putfield 27, 3) := by decide +kernel
theorem dX5_init_52 : decode cX5_init 52 = .ok (.aload_n 0, 1) := by decide +kernel
theorem dX5_init_53 : decode cX5_init 53 = .ok (.bipush 30, 2) := by decide +kernel
theorem dX5_init_55 : decode cX5_init 55 = .ok (.newarray .int, 2) := by decide +kernel
theorem dX5_init_57 : decode cX5_init 57 = .ok (.putfield 30, 3) := by decide +kernel
theorem dX5_init_60 : decode cX5_init 60 = .ok (.aload_n 0, 1) := by decide +kernel
theorem dX5_init_61 : decode cX5_init 61 = .ok (.bipush 30, 2) := by decide +kernel
theorem dX5_init_63 : decode cX5_init 63 = .ok (.newarray .int, 2) := by decide +kernel
theorem dX5_init_65 : decode cX5_init 65 = .ok (.putfield 33, 3) := by decide +kernel
theorem dX5_init_68 : decode cX5_init 68 = .ok (.aload_n 0, 1) := by decide +kernel
theorem dX5_init_69 : decode cX5_init 69 = .ok (.bipush 30, 2) := by decide +kernel
theorem dX5_init_71 : decode cX5_init 71 = .ok (.newarray .int, 2) := by decide +kernel
theorem dX5_init_73 : decode cX5_init 73 = .ok (.putfield 36, 3) := by decide +kernel
theorem dX5_init_76 : decode cX5_init 76 = .ok (.aload_n 0, 1) := by decide +kernel
theorem dX5_init_77 : decode cX5_init 77 = .ok (.bipush 30, 2) := by decide +kernel
theorem dX5_init_79 : decode cX5_init 79 = .ok (.newarray .int, 2) := by decide +kernel
theorem dX5_init_81 : decode cX5_init 81 = .ok (.putfield 39, 3) := by decide +kernel
theorem dX5_init_84 : decode cX5_init 84 = .ok (.aload_n 0, 1) := by decide +kernel
theorem dX5_init_85 : decode cX5_init 85 = .ok (.bipush 30, 2) := by decide +kernel
theorem dX5_init_87 : decode cX5_init 87 = .ok (.newarray .int, 2) := by decide +kernel
theorem dX5_init_89 : decode cX5_init 89 = .ok (.putfield 42, 3) := by decide +kernel
theorem dX5_init_92 : decode cX5_init 92 = .ok (.aload_n 0, 1) := by decide +kernel
theorem dX5_init_93 : decode cX5_init 93 = .ok (.bipush 30, 2) := by decide +kernel
theorem dX5_init_95 : decode cX5_init 95 = .ok (.newarray .int, 2) := by decide +kernel
theorem dX5_init_97 : decode cX5_init 97 = .ok (.putfield 45, 3) := by decide +kernel
theorem dX5_init_100 : decode cX5_init 100 = .ok (.aload_n 0, 1) := by decide +kernel
theorem dX5_init_101 : decode cX5_init 101 = .ok (.bipush 30, 2) := by decide +kernel
theorem dX5_init_103 : decode cX5_init 103 = .ok (.newarray .int, 2) := by decide +kernel
theorem dX5_init_105 : decode cX5_init 105 = .ok (.putfield 48, 3) := by decide +kernel
theorem dX5_init_108 : decode cX5_init 108 = .ok (.aload_n 0, 1) := by decide +kernel
theorem dX5_init_109 : decode cX5_init 109 = .ok (.bipush 30, 2) := by decide +kernel
theorem dX5_init_111 : decode cX5_init 111 = .ok (.newarray .int, 2) := by decide +kernel
theorem dX5_init_113 : decode cX5_init 113 = .ok (.putfield 51, 3) := by decide +kernel
theorem dX5_init_116 : decode cX5_init 116 = .ok (.aload_n 0, 1) := by decide +kernel
theorem dX5_init_117 : decode cX5_init 117 = .ok (.bipush 30, 2) := by decide +kernel
theorem dX5_init_119 : decode cX5_init 119 = .ok (.newarray .double, 2) := by decide +kernel
theorem dX5_init_121 : decode cX5_init 121 = .ok (.putfield 54, 3) := by decide +kernel
theorem dX5_init_124 : decode cX5_init 124 = .ok (.aload_n 0, 1) := by decide +kernel
theorem dX5_init_125 : decode cX5_init 125 = .ok (.bipush 30, 2) := by decide +kernel
theorem dX5_init_127 : decode cX5_init 127 = .ok (.newarray .int, 2) := by decide +kernel
theorem dX5_init_129 : decode cX5_init 129 = .ok (.putfield 57, 3) := by decide +kernel
theorem dX5_init_132 : decode cX5_init 132 = .ok (.aload_n 0, 1) := by decide +kernel
theorem dX5_init_133 : decode cX5_init 133 = .ok (.bipush 30, 2) := by decide +kernel
theorem dX5_init_135 : decode cX5_init 135 = .ok (.newarray .double, 2) := by decide +kernel
theorem dX5_init_137 : decode cX5_init 137 = .ok (.putfield 60, 3) := by decide +kernel
theorem dX5_init_140 : decode cX5_init 140 = .ok (.aload_n 0, 1) := by decide +kernel
theorem dX5_init_141 : decode cX5_init 141 = .ok (.bipush 30, 2) := by decide +kernel
theorem dX5_init_143 : decode cX5_init 143 = .ok (.newarray .double, 2) := by decide +kernel
theorem dX5_init_145 : decode cX5_init 145 = .ok (.putfield 63, 3) := by decide +kernel
theorem dX5_init_148 : decode cX5_init 148 = .ok (.aload_n 0, 1) := by decide +kernel
theorem dX5_init_149 : decode cX5_init 149 = .ok (.bipush 30, 2) := by decide +kernel
theorem dX5_init_151 : decode cX5_init 151 = .ok (.newarray .double, 2) := by decide +kernel
theorem dX5_init_153 : decode cX5_init 153 = .ok (.putfield 66, 3) := by decide +kernel
theorem dX5_init_156 : decode cX5_init 156 = .ok (.aload_n 0, 1) := by decide +kernel
theorem dX5_init_157 : decode cX5_init 157 = .ok (.sipush 360, 3) := by decide +kernel
theorem dX5_init_160 : decode cX5_init 160 = .ok (.newarray .int, 2) := by decide +kernel
theorem dX5_init_162 : decode cX5_init 162 = .ok (.putfield 69, 3) := by decide +kernel
theorem dX5_init_165 : decode cX5_init 165 = .ok (.aload_n 0, 1) := by decide +kernel
theorem dX5_init_166 : decode cX5_init 166 = .ok (.sipush 360, 3) := by decide +kernel
theorem dX5_init_169 : decode cX5_init 169 = .ok (.newarray .int, 2) := by decide +kernel
theorem dX5_init_171 : decode cX5_init 171 = .ok (.putfield 72, 3) := by decide +kernel
theorem dX5_init_174 : decode cX5_init 174 = .ok (.aload_n 0, 1) := by decide +kernel
theorem dX5_init_175 : decode cX5_init 175 = .ok (.sipush 360, 3) := by decide +kernel
theorem dX5_init_178 : decode cX5_init 178 = .ok (.newarray .int, 2) := by decide +kernel
theorem dX5_init_180 : decode cX5_init 180 = .ok (.putfield 75, 3) := by decide +kernel
theorem dX5_init_183 : decode cX5_init 183 = .ok (.return_, 1) := by decide +kernel
theorem dX5_recipe_0 : decode cX5_recipe 0 = .ok (.aload_n 0, 1) := by decide +kernel
theorem dX5_recipe_1 : decode cX5_recipe 1 = .ok (.getfield 78, 3) := by decide +kernel
theorem dX5_recipe_4 : decode cX5_recipe 4 = .ok (.bipush 10, 2) := by decide +kernel
theorem dX5_recipe_6 : decode cX5_recipe 6 = .ok (.if_icmp .ne 6, 3) := by decide +kernel
theorem dX5_recipe_9 : decode cX5_recipe 9 = .ok (.bipush (-2), 2) := by decide +kernel
theorem dX5_recipe_11 : decode cX5_recipe 11 = .ok (.ireturn, 1) := by decide +kernel
theorem dX5_recipe_12 : decode cX5_recipe 12 = .ok (.aload_n 0, 1) := by decide +kernel
theorem dX5_recipe_13 : decode cX5_recipe 13 = .ok (.dup, 1) := by decide +kernel
theorem dX5_recipe_14 : decode cX5_recipe 14 = .ok (.getfield 78, 3) := by decide +kernel
theorem dX5_recipe_17 : decode cX5_recipe 17 = .ok (.iconst 1, 1) := by decide +kernel
theorem dX5_recipe_18 : decode cX5_recipe 18 = .ok (.iadd, 1) := by decide +kernel
theorem dX5_recipe_19 : decode cX5_recipe 19 = .ok (.putfield 78, 3) := by decide +kernel
theorem dX5_recipe_22 : decode cX5_recipe 22 = .ok (.aload_n 0, 1) := by decide +kernel
theorem dX5_recipe_23 : decode cX5_recipe 23 = .ok (.getfield 78, 3) := by decide +kernel
theorem dX5_recipe_26 : decode cX5_recipe 26 = .ok (.iconst 1, 1) := by decide +kernel
theorem dX5_recipe_27 : decode cX5_recipe 27 = .ok (.isub, 1) := by decide +kernel
theorem dX5_recipe_28 : decode cX5_recipe 28 = .ok (.ireturn, 1) := by decide +kernel
theorem dX5_step_0 : decode cX5_step 0 = .ok (.iload_n 1, 1) := by decide +kernel
theorem dX5_step_1 : decode cX5_step 1 = .ok (.ifCond .lt 35, 3) := by decide +kernel
theorem dX5_step_4 : decode cX5_step 4 = .ok (.iload_n 1, 1) := by decide +kernel
theorem dX5_step_5 : decode cX5_step 5 = .ok (.aload_n 0, 1) := by decide +kernel
theorem dX5_step_6 : decode cX5_step 6 = .ok (.getfield 78, 3) := by decide +kernel
theorem dX5_step_9 : decode cX5_step 9 = .ok (.if_icmp .ge 27, 3) := by decide +kernel
theorem dX5_step_12 : decode cX5_step 12 = .ok (.aload_n 0, 1) := by decide +kernel
theorem dX5_step_13 : decode cX5_step 13 = .ok (.getfield 13, 3) := by decide +kernel
theorem dX5_step_16 : decode cX5_step 16 = .ok (.iload_n 1, 1) := by decide +kernel
theorem dX5_step_17 : decode cX5_step 17 = .ok (.baload, 1) := by decide +kernel
theorem dX5_step_18 : decode cX5_step 18 = .ok (.ifCond .ne 18, 3) := by decide +kernel
theorem dX5_step_21 : decode cX5_step 21 = .ok (.aload_n 0, 1) := by decide +kernel
theorem dX5_step_22 : decode cX5_step 22 = .ok (.getfield 9, 3) := by decide +kernel
theorem dX5_step_25 : decode cX5_step 25 = .ok (.iload_n 1, 1) := by decide +kernel
theorem dX5_step_26 : decode cX5_step 26 = .ok (.iaload, 1) := by decide +kernel
theorem dX5_step_27 : decode cX5_step 27 = .ok (.bipush 12, 2) := by decide +kernel
theorem dX5_step_29 : decode cX5_step 29 = .ok (.if_icmp .ge 7, 3) := by decide +kernel
theorem dX5_step_32 : decode cX5_step 32 = .ok (.iconst 1, 1) := by decide +kernel
theorem dX5_step_33 : decode cX5_step 33 = .ok (.goto 4, 3) := by decide +kernel
theorem dX5_step_36 : decode cX5_step 36 = .ok (.iconst 0, 1) := by decide +kernel
theorem dX5_step_37 : decode cX5_step 37 = .ok (.istore 8, 2) := by decide +kernel
theorem dX5_step_39 : decode cX5_step 39 = .ok (.iload 8, 2) := by decide +kernel
theorem dX5_step_41 : decode cX5_step 41 = .ok (.ifCond .eq 56, 3) := by decide +kernel
theorem dX5_step_44 : decode cX5_step 44 = .ok (.iload_n 2, 1) := by decide +kernel
theorem dX5_step_45 : decode cX5_step 45 = .ok (.ifCond .lt 52, 3) := by decide +kernel
theorem dX5_step_48 : decode cX5_step 48 = .ok (.iload_n 2, 1) := by decide +kernel
theorem dX5_step_49 : decode cX5_step 49 = .ok (.iconst 4, 1) := by decide +kernel
theorem dX5_step_50 : decode cX5_step 50 = .ok (.if_icmp .gt 47, 3) := by decide +kernel
theorem dX5_step_53 : decode cX5_step 53 = .ok (.iload_n 3, 1) := by decide +kernel
theorem dX5_step_54 : decode cX5_step 54 = .ok (.iconst 1, 1) := by decide +kernel
theorem dX5_step_55 : decode cX5_step 55 = .ok (.if_icmp .lt 42, 3) := by decide +kernel
theorem dX5_step_58 : decode cX5_step 58 = .ok (.iload_n 3, 1) := by decide +kernel
theorem dX5_step_59 : decode cX5_step 59 = .ok (.sipush 3600, 3) := by decide +kernel
theorem dX5_step_62 : decode cX5_step 62 = .ok (.if_icmp .gt 35, 3) := by decide +kernel
theorem dX5_step_65 : decode cX5_step 65 = .ok (.dload 4, 2) := by decide +kernel
theorem dX5_step_67 : decode cX5_step 67 = .ok (.dconst 0, 1) := by decide +kernel
theorem dX5_step_68 : decode cX5_step 68 = .ok (.dcmp .l, 1) := by decide +kernel
theorem dX5_step_69 : decode cX5_step 69 = .ok (.ifCond .lt 28, 3) := by decide +kernel
theorem dX5_step_72 : decode cX5_step 72 = .ok (.dload 4, 2) := by decide +kernel
theorem dX5_step_74 : decode cX5_step 74 = .ok (.ldc2_w 82, 3) := by decide +kernel
theorem dX5_step_77 : decode cX5_step 77 = .ok (.dcmp .g, 1) := by decide +kernel
theorem dX5_step_78 : decode cX5_step 78 = .ok (.ifCond .gt 19, 3) := by decide +kernel
theorem dX5_step_81 : decode cX5_step 81 = .ok (.dload 6, 2) := by decide +kernel
theorem dX5_step_83 : decode cX5_step 83 = .ok (.dconst 0, 1) := by decide +kernel
theorem dX5_step_84 : decode cX5_step 84 = .ok (.dcmp .l, 1) := by decide +kernel
theorem dX5_step_85 : decode cX5_step 85 = .ok (.ifCond .lt 12, 3) := by decide +kernel
theorem dX5_step_88 : decode cX5_step 88 = .ok (.dload 6, 2) := by decide +kernel
theorem dX5_step_90 : decode cX5_step 90 = .ok (.ldc2_w 84, 3) := by decide +kernel
theorem dX5_step_93 : decode cX5_step 93 = .ok (.dcmp .g, 1) := by decide +kernel
theorem dX5_step_94 : decode cX5_step 94 = .ok (.ifCond .le 5, 3) := by decide +kernel
theorem dX5_step_97 : decode cX5_step 97 = .ok (.iconst 0, 1) := by decide +kernel
theorem dX5_step_98 : decode cX5_step 98 = .ok (.ireturn, 1) := by decide +kernel
theorem dX5_step_99 : decode cX5_step 99 = .ok (.bipush 12, 2) := by decide +kernel
theorem dX5_step_101 : decode cX5_step 101 = .ok (.iload_n 1, 1) := by decide +kernel
theorem dX5_step_102 : decode cX5_step 102 = .ok (.imul, 1) := by decide +kernel
theorem dX5_step_103 : decode cX5_step 103 = .ok (.aload_n 0, 1) := by decide +kernel
theorem dX5_step_104 : decode cX5_step 104 = .ok (.getfield 9, 3) := by decide +kernel
theorem dX5_step_107 : decode cX5_step 107 = .ok (.iload_n 1, 1) := by decide +kernel
theorem dX5_step_108 : decode cX5_step 108 = .ok (.iaload, 1) := by decide +kernel
theorem dX5_step_109 : decode cX5_step 109 = .ok (.iadd, 1) := by decide +kernel
theorem dX5_step_110 : decode cX5_step 110 = .ok (.istore 9, 2) := by decide +kernel
theorem dX5_step_112 : decode cX5_step 112 = .ok (.aload_n 0, 1) := by decide +kernel
theorem dX5_step_113 : decode cX5_step 113 = .ok (.getfield 17, 3) := by decide +kernel
theorem dX5_step_116 : decode cX5_step 116 = .ok (.iload 9, 2) := by decide +kernel
theorem dX5_step_118 : decode cX5_step 118 = .ok (.iload_n 2, 1) := by decide +kernel
theorem dX5_step_119 : decode cX5_step 119 = .ok (.iastore, 1) := by decide +kernel
theorem dX5_step_120 : decode cX5_step 120 = .ok (.aload_n 0, 1) := by decide +kernel
theorem dX5_step_121 : decode cX5_step 121 = .ok (.getfield 20, 3) := by decide +kernel
theorem dX5_step_124 : decode cX5_step 124 = .ok (.iload 9, 2) := by decide +kernel
theorem dX5_step_126 : decode cX5_step 126 = .ok (.iload_n 3, 1) := by decide +kernel
theorem dX5_step_127 : decode cX5_step 127 = .ok (.iastore, 1) := by decide +kernel
theorem dX5_step_128 : decode cX5_step 128 = .ok (.aload_n 0, 1) := by decide +kernel
theorem dX5_step_129 : decode cX5_step 129 = .ok (.getfield 23, 3) := by decide +kernel
theorem dX5_step_132 : decode cX5_step 132 = .ok (.iload 9, 2) := by decide +kernel
theorem dX5_step_134 : decode cX5_step 134 = .ok (.dload 4, 2) := by decide +kernel
theorem dX5_step_136 : decode cX5_step 136 = .ok (.dastore, 1) := by decide +kernel
theorem dX5_step_137 : decode cX5_step 137 = .ok (.aload_n 0, 1) := by decide +kernel
theorem dX5_step_138 : decode cX5_step 138 = .ok (.getfield 27, 3) := by decide +kernel
theorem dX5_step_141 : decode cX5_step 141 = .ok (.iload 9, 2) := by decide +kernel
theorem dX5_step_143 : decode cX5_step 143 = .ok (.dload 6, 2) := by decide +kernel
theorem dX5_step_145 : decode cX5_step 145 = .ok (.dastore, 1) := by decide +kernel
theorem dX5_step_146 : decode cX5_step 146 = .ok (.aload_n 0, 1) := by decide +kernel
theorem dX5_step_147 : decode cX5_step 147 = .ok (.getfield 9, 3) := by decide +kernel
theorem dX5_step_150 : decode cX5_step 150 = .ok (.iload_n 1, 1) := by decide +kernel
theorem dX5_step_151 : decode cX5_step 151 = .ok (.dup2, 1) := by decide +kernel
theorem dX5_step_152 : decode cX5_step 152 = .ok (.iaload, 1) := by decide +kernel
theorem dX5_step_153 : decode cX5_step 153 = .ok (.iconst 1, 1) := by decide +kernel
theorem dX5_step_154 : decode cX5_step 154 = .ok (.iadd, 1) := by decide +kernel
theorem dX5_step_155 : decode cX5_step 155 = .ok (.iastore, 1) := by decide +kernel
theorem dX5_step_156 : decode cX5_step 156 = .ok (.iconst 1, 1) := by decide +kernel
theorem dX5_step_157 : decode cX5_step 157 = .ok (.ireturn, 1) := by decide +kernel
theorem dX5_start_0 : decode cX5_start 0 = .ok (.iload_n 1, 1) := by decide +kernel
theorem dX5_start_1 : decode cX5_start 1 = .ok (.ifCond .lt 31, 3) := by decide +kernel
theorem dX5_start_4 : decode cX5_start 4 = .ok (.iload_n 1, 1) := by decide +kernel
theorem dX5_start_5 : decode cX5_start 5 = .ok (.aload_n 0, 1) := by decide +kernel
theorem dX5_start_6 : decode cX5_start 6 = .ok (.getfield 78, 3) := by decide +kernel
theorem dX5_start_9 : decode cX5_start 9 = .ok (.if_icmp .ge 23, 3) := by decide +kernel
theorem dX5_start_12 : decode cX5_start 12 = .ok (.aload_n 0, 1) := by decide +kernel
theorem dX5_start_13 : decode cX5_start 13 = .ok (.getfield 9, 3) := by decide +kernel
theorem dX5_start_16 : decode cX5_start 16 = .ok (.iload_n 1, 1) := by decide +kernel
theorem dX5_start_17 : decode cX5_start 17 = .ok (.iaload, 1) := by decide +kernel
theorem dX5_start_18 : decode cX5_start 18 = .ok (.ifCond .eq 14, 3) := by decide +kernel
theorem dX5_start_21 : decode cX5_start 21 = .ok (.iload_n 2, 1) := by decide +kernel
theorem dX5_start_22 : decode cX5_start 22 = .ok (.iconst 1, 1) := by decide +kernel
theorem dX5_start_23 : decode cX5_start 23 = .ok (.if_icmp .lt 9, 3) := by decide +kernel
theorem dX5_start_26 : decode cX5_start 26 = .ok (.iload_n 2, 1) := by decide +kernel
theorem dX5_start_27 : decode cX5_start 27 = .ok (.bipush 9, 2) := by decide +kernel
theorem dX5_start_29 : decode cX5_start 29 = .ok (.if_icmp .le 5, 3) := by decide +kernel
theorem dX5_start_32 : decode cX5_start 32 = .ok (.iconst (-1), 1) := by decide +kernel
theorem dX5_start_33 : decode cX5_start 33 = .ok (.ireturn, 1) := by decide +kernel
theorem dX5_start_34 : decode cX5_start 34 = .ok (.aload_n 0, 1) := by decide +kernel
theorem dX5_start_35 : decode cX5_start 35 = .ok (.getfield 86, 3) := by decide +kernel
theorem dX5_start_38 : decode cX5_start 38 = .ok (.bipush 30, 2) := by decide +kernel
theorem dX5_start_40 : decode cX5_start 40 = .ok (.if_icmp .ne 6, 3) := by decide +kernel
theorem dX5_start_43 : decode cX5_start 43 = .ok (.bipush (-2), 2) := by decide +kernel
theorem dX5_start_45 : decode cX5_start 45 = .ok (.ireturn, 1) := by decide +kernel
theorem dX5_start_46 : decode cX5_start 46 = .ok (.aload_n 0, 1) := by decide +kernel
theorem dX5_start_47 : decode cX5_start 47 = .ok (.getfield 13, 3) := by decide +kernel
theorem dX5_start_50 : decode cX5_start 50 = .ok (.iload_n 1, 1) := by decide +kernel
theorem dX5_start_51 : decode cX5_start 51 = .ok (.iconst 1, 1) := by decide +kernel
theorem dX5_start_52 : decode cX5_start 52 = .ok (.bastore, 1) := by decide +kernel
theorem dX5_start_53 : decode cX5_start 53 = .ok (.aload_n 0, 1) := by decide +kernel
theorem dX5_start_54 : decode cX5_start 54 = .ok (.getfield 30, 3) := by decide +kernel
theorem dX5_start_57 : decode cX5_start 57 = .ok (.aload_n 0, 1) := by decide +kernel
theorem dX5_start_58 : decode cX5_start 58 = .ok (.getfield 86, 3) := by decide +kernel
theorem dX5_start_61 : decode cX5_start 61 = .ok (.iload_n 1, 1) := by decide +kernel
theorem dX5_start_62 : decode cX5_start 62 = .ok (.iastore, 1) := by decide +kernel
theorem dX5_start_63 : decode cX5_start 63 = .ok (.aload_n 0, 1) := by decide +kernel
theorem dX5_start_64 : decode cX5_start 64 = .ok (.getfield 33, 3) := by decide +kernel
theorem dX5_start_67 : decode cX5_start 67 = .ok (.aload_n 0, 1) := by decide +kernel
theorem dX5_start_68 : decode cX5_start 68 = .ok (.getfield 86, 3) := by decide +kernel
theorem dX5_start_71 : decode cX5_start 71 = .ok (.iload_n 2, 1) := by decide +kernel
theorem dX5_start_72 : decode cX5_start 72 = .ok (.iastore, 1) := by decide +kernel
theorem dX5_start_73 : decode cX5_start 73 = .ok (.aload_n 0, 1) := by decide +kernel
theorem dX5_start_74 : decode cX5_start 74 = .ok (.getfield 36, 3) := by decide +kernel
theorem dX5_start_77 : decode cX5_start 77 = .ok (.aload_n 0, 1) := by decide +kernel
theorem dX5_start_78 : decode cX5_start 78 = .ok (.getfield 86, 3) := by decide +kernel
theorem dX5_start_81 : decode cX5_start 81 = .ok (.iconst 1, 1) := by decide +kernel
theorem dX5_start_82 : decode cX5_start 82 = .ok (.iastore, 1) := by decide +kernel
theorem dX5_start_83 : decode cX5_start 83 = .ok (.aload_n 0, 1) := by decide +kernel
theorem dX5_start_84 : decode cX5_start 84 = .ok (.getfield 75, 3) := by decide +kernel
theorem dX5_start_87 : decode cX5_start 87 = .ok (.bipush 12, 2) := by decide +kernel
theorem dX5_start_89 : decode cX5_start 89 = .ok (.aload_n 0, 1) := by decide +kernel
theorem dX5_start_90 : decode cX5_start 90 = .ok (.getfield 86, 3) := by decide +kernel
theorem dX5_start_93 : decode cX5_start 93 = .ok (.imul, 1) := by decide +kernel
theorem dX5_start_94 : decode cX5_start 94 = .ok (.iconst (-1), 1) := by decide +kernel
theorem dX5_start_95 : decode cX5_start 95 = .ok (.iastore, 1) := by decide +kernel
theorem dX5_start_96 : decode cX5_start 96 = .ok (.aload_n 0, 1) := by decide +kernel
theorem dX5_start_97 : decode cX5_start 97 = .ok (.dup, 1) := by decide +kernel
theorem dX5_start_98 : decode cX5_start 98 = .ok (.getfield 86, 3) := by decide +kernel
theorem dX5_start_101 : decode cX5_start 101 = .ok (.iconst 1, 1) := by decide +kernel
theorem dX5_start_102 : decode cX5_start 102 = .ok (.iadd, 1) := by decide +kernel
theorem dX5_start_103 : decode cX5_start 103 = .ok (.putfield 86, 3) := by decide +kernel
theorem dX5_start_106 : decode cX5_start 106 = .ok (.aload_n 0, 1) := by decide +kernel
theorem dX5_start_107 : decode cX5_start 107 = .ok (.getfield 86, 3) := by decide +kernel
theorem dX5_start_110 : decode cX5_start 110 = .ok (.iconst 1, 1) := by decide +kernel
theorem dX5_start_111 : decode cX5_start 111 = .ok (.isub, 1) := by decide +kernel
theorem dX5_start_112 : decode cX5_start 112 = .ok (.ireturn, 1) := by decide +kernel
theorem dX5_isRun_0 : decode cX5_isRun 0 = .ok (.iload_n 1, 1) := by decide +kernel
theorem dX5_isRun_1 : decode cX5_isRun 1 = .ok (.ifCond .lt 15, 3) := by decide +kernel
theorem dX5_isRun_4 : decode cX5_isRun 4 = .ok (.iload_n 1, 1) := by decide +kernel
theorem dX5_isRun_5 : decode cX5_isRun 5 = .ok (.aload_n 0, 1) := by decide +kernel
theorem dX5_isRun_6 : decode cX5_isRun 6 = .ok (.getfield 86, 3) := by decide +kernel
theorem dX5_isRun_9 : decode cX5_isRun 9 = .ok (.if_icmp .ge 7, 3) := by decide +kernel
theorem dX5_isRun_12 : decode cX5_isRun 12 = .ok (.iconst 1, 1) := by decide +kernel
theorem dX5_isRun_13 : decode cX5_isRun 13 = .ok (.goto 4, 3) := by decide +kernel
theorem dX5_isRun_16 : decode cX5_isRun 16 = .ok (.iconst 0, 1) := by decide +kernel
theorem dX5_isRun_17 : decode cX5_isRun 17 = .ok (.ireturn, 1) := by decide +kernel
theorem dX5_isOn_0 : decode cX5_isOn 0 = .ok (.aload_n 0, 1) := by decide +kernel
theorem dX5_isOn_1 : decode cX5_isOn 1 = .ok (.iload_n 1, 1) := by decide +kernel
theorem dX5_isOn_2 : decode cX5_isOn 2 = .ok (.invokevirtual 89, 3) := by decide +kernel
theorem dX5_isOn_5 : decode cX5_isOn 5 = .ok (.ifCond .eq 17, 3) := by decide +kernel
theorem dX5_isOn_8 : decode cX5_isOn 8 = .ok (.aload_n 0, 1) := by decide +kernel
theorem dX5_isOn_9 : decode cX5_isOn 9 = .ok (.getfield 36, 3) := by decide +kernel
theorem dX5_isOn_12 : decode cX5_isOn 12 = .ok (.iload_n 1, 1) := by decide +kernel
theorem dX5_isOn_13 : decode cX5_isOn 13 = .ok (.iaload, 1) := by decide +kernel
theorem dX5_isOn_14 : decode cX5_isOn 14 = .ok (.iconst 2, 1) := by decide +kernel
theorem dX5_isOn_15 : decode cX5_isOn 15 = .ok (.if_icmp .ge 7, 3) := by decide +kernel
theorem dX5_isOn_18 : decode cX5_isOn 18 = .ok (.iconst 1, 1) := by decide +kernel
theorem dX5_isOn_19 : decode cX5_isOn 19 = .ok (.goto 4, 3) := by decide +kernel
theorem dX5_isOn_22 : decode cX5_isOn 22 = .ok (.iconst 0, 1) := by decide +kernel
theorem dX5_isOn_23 : decode cX5_isOn 23 = .ok (.ireturn, 1) := by decide +kernel
theorem dX5_place_0 : decode cX5_place 0 = .ok (.bipush 12, 2) := by decide +kernel
theorem dX5_place_2 : decode cX5_place 2 = .ok (.aload_n 0, 1) := by decide +kernel
theorem dX5_place_3 : decode cX5_place 3 = .ok (.getfield 30, 3) := by decide +kernel
theorem dX5_place_6 : decode cX5_place 6 = .ok (.iload_n 1, 1) := by decide +kernel
theorem dX5_place_7 : decode cX5_place 7 = .ok (.iaload, 1) := by decide +kernel
theorem dX5_place_8 : decode cX5_place 8 = .ok (.imul, 1) := by decide +kernel
theorem dX5_place_9 : decode cX5_place 9 = .ok (.aload_n 0, 1) := by decide +kernel
theorem dX5_place_10 : decode cX5_place 10 = .ok (.getfield 39, 3) := by decide +kernel
theorem dX5_place_13 : decode cX5_place 13 = .ok (.iload_n 1, 1) := by decide +kernel
theorem dX5_place_14 : decode cX5_place 14 = .ok (.iaload, 1) := by decide +kernel
theorem dX5_place_15 : decode cX5_place 15 = .ok (.iadd, 1) := by decide +kernel
theorem dX5_place_16 : decode cX5_place 16 = .ok (.ireturn, 1) := by decide +kernel
theorem dX5_isHeld_0 : decode cX5_isHeld 0 = .ok (.aload_n 0, 1) := by decide +kernel
theorem dX5_isHeld_1 : decode cX5_isHeld 1 = .ok (.getfield 17, 3) := by decide +kernel
theorem dX5_isHeld_4 : decode cX5_isHeld 4 = .ok (.iload_n 1, 1) := by decide +kernel
theorem dX5_isHeld_5 : decode cX5_isHeld 5 = .ok (.iaload, 1) := by decide +kernel
theorem dX5_isHeld_6 : decode cX5_isHeld 6 = .ok (.tableswitch 100 0 4 #[34, 100, 100, 58, 85], 34) := by decide +kernel
theorem dX5_isHeld_40 : decode cX5_isHeld 40 = .ok (.dload 6, 2) := by decide +kernel
theorem dX5_isHeld_42 : decode cX5_isHeld 42 = .ok (.dconst 1, 1) := by decide +kernel
theorem dX5_isHeld_43 : decode cX5_isHeld 43 = .ok (.dcmp .l, 1) := by decide +kernel
theorem dX5_isHeld_44 : decode cX5_isHeld 44 = .ok (.ifCond .lt 18, 3) := by decide +kernel
theorem dX5_isHeld_47 : decode cX5_isHeld 47 = .ok (.dload_n 2, 1) := by decide +kernel
theorem dX5_isHeld_48 : decode cX5_isHeld 48 = .ok (.aload_n 0, 1) := by decide +kernel
theorem dX5_isHeld_49 : decode cX5_isHeld 49 = .ok (.getfield 23, 3) := by decide +kernel
theorem dX5_isHeld_52 : decode cX5_isHeld 52 = .ok (.iload_n 1, 1) := by decide +kernel
theorem dX5_isHeld_53 : decode cX5_isHeld 53 = .ok (.daload, 1) := by decide +kernel
theorem dX5_isHeld_54 : decode cX5_isHeld 54 = .ok (.dcmp .g, 1) := by decide +kernel
theorem dX5_isHeld_55 : decode cX5_isHeld 55 = .ok (.ifCond .gt 7, 3) := by decide +kernel
theorem dX5_isHeld_58 : decode cX5_isHeld 58 = .ok (.iconst 1, 1) := by decide +kernel
theorem dX5_isHeld_59 : decode cX5_isHeld 59 = .ok (.goto 4, 3) := by decide +kernel
theorem dX5_isHeld_62 : decode cX5_isHeld 62 = .ok (.iconst 0, 1) := by decide +kernel
theorem dX5_isHeld_63 : decode cX5_isHeld 63 = .ok (.ireturn, 1) := by decide +kernel
theorem dX5_isHeld_64 : decode cX5_isHeld 64 = .ok (.dload 6, 2) := by decide +kernel
theorem dX5_isHeld_66 : decode cX5_isHeld 66 = .ok (.ldc2_w 93, 3) := by decide +kernel
theorem dX5_isHeld_69 : decode cX5_isHeld 69 = .ok (.dcmp .l, 1) := by decide +kernel
theorem dX5_isHeld_70 : decode cX5_isHeld 70 = .ok (.ifCond .lt 19, 3) := by decide +kernel
theorem dX5_isHeld_73 : decode cX5_isHeld 73 = .ok (.dload 4, 2) := by decide +kernel
theorem dX5_isHeld_75 : decode cX5_isHeld 75 = .ok (.aload_n 0, 1) := by decide +kernel
theorem dX5_isHeld_76 : decode cX5_isHeld 76 = .ok (.getfield 27, 3) := by decide +kernel
theorem dX5_isHeld_79 : decode cX5_isHeld 79 = .ok (.iload_n 1, 1) := by decide +kernel
theorem dX5_isHeld_80 : decode cX5_isHeld 80 = .ok (.daload, 1) := by decide +kernel
theorem dX5_isHeld_81 : decode cX5_isHeld 81 = .ok (.dcmp .l, 1) := by decide +kernel
theorem dX5_isHeld_82 : decode cX5_isHeld 82 = .ok (.ifCond .lt 7, 3) := by decide +kernel
theorem dX5_isHeld_85 : decode cX5_isHeld 85 = .ok (.iconst 1, 1) := by decide +kernel
theorem dX5_isHeld_86 : decode cX5_isHeld 86 = .ok (.goto 4, 3) := by decide +kernel
theorem dX5_isHeld_89 : decode cX5_isHeld 89 = .ok (.iconst 0, 1) := by decide +kernel
theorem dX5_isHeld_90 : decode cX5_isHeld 90 = .ok (.ireturn, 1) := by decide +kernel
theorem dX5_isHeld_91 : decode cX5_isHeld 91 = .ok (.dload 6, 2) := by decide +kernel
theorem dX5_isHeld_93 : decode cX5_isHeld 93 = .ok (.ldc2_w 95, 3) := by decide +kernel
theorem dX5_isHeld_96 : decode cX5_isHeld 96 = .ok (.dcmp .g, 1) := by decide +kernel
theorem dX5_isHeld_97 : decode cX5_isHeld 97 = .ok (.ifCond .gt 7, 3) := by decide +kernel
theorem dX5_isHeld_100 : decode cX5_isHeld 100 = .ok (.iconst 1, 1) := by decide +kernel
theorem dX5_isHeld_101 : decode cX5_isHeld 101 = .ok (.goto 4, 3) := by decide +kernel
theorem dX5_isHeld_104 : decode cX5_isHeld 104 = .ok (.iconst 0, 1) := by decide +kernel
theorem dX5_isHeld_105 : decode cX5_isHeld 105 = .ok (.ireturn, 1) := by decide +kernel
theorem dX5_isHeld_106 : decode cX5_isHeld 106 = .ok (.dload 6, 2) := by decide +kernel
theorem dX5_isHeld_108 : decode cX5_isHeld 108 = .ok (.dconst 1, 1) := by decide +kernel
theorem dX5_isHeld_109 : decode cX5_isHeld 109 = .ok (.dcmp .l, 1) := by decide +kernel
theorem dX5_isHeld_110 : decode cX5_isHeld 110 = .ok (.ifCond .lt 30, 3) := by decide +kernel
theorem dX5_isHeld_113 : decode cX5_isHeld 113 = .ok (.dload_n 2, 1) := by decide +kernel
theorem dX5_isHeld_114 : decode cX5_isHeld 114 = .ok (.aload_n 0, 1) := by decide +kernel
theorem dX5_isHeld_115 : decode cX5_isHeld 115 = .ok (.getfield 23, 3) := by decide +kernel
theorem dX5_isHeld_118 : decode cX5_isHeld 118 = .ok (.iload_n 1, 1) := by decide +kernel
theorem dX5_isHeld_119 : decode cX5_isHeld 119 = .ok (.daload, 1) := by decide +kernel
theorem dX5_isHeld_120 : decode cX5_isHeld 120 = .ok (.dcmp .l, 1) := by decide +kernel
theorem dX5_isHeld_121 : decode cX5_isHeld 121 = .ok (.ifCond .lt 19, 3) := by decide +kernel
theorem dX5_isHeld_124 : decode cX5_isHeld 124 = .ok (.dload 4, 2) := by decide +kernel
theorem dX5_isHeld_126 : decode cX5_isHeld 126 = .ok (.aload_n 0, 1) := by decide +kernel
theorem dX5_isHeld_127 : decode cX5_isHeld 127 = .ok (.getfield 27, 3) := by decide +kernel
theorem dX5_isHeld_130 : decode cX5_isHeld 130 = .ok (.iload_n 1, 1) := by decide +kernel
theorem dX5_isHeld_131 : decode cX5_isHeld 131 = .ok (.daload, 1) := by decide +kernel
theorem dX5_isHeld_132 : decode cX5_isHeld 132 = .ok (.dcmp .l, 1) := by decide +kernel
theorem dX5_isHeld_133 : decode cX5_isHeld 133 = .ok (.ifCond .lt 7, 3) := by decide +kernel
theorem dX5_isHeld_136 : decode cX5_isHeld 136 = .ok (.iconst 1, 1) := by decide +kernel
theorem dX5_isHeld_137 : decode cX5_isHeld 137 = .ok (.goto 4, 3) := by decide +kernel
theorem dX5_isHeld_140 : decode cX5_isHeld 140 = .ok (.iconst 0, 1) := by decide +kernel
theorem dX5_isHeld_141 : decode cX5_isHeld 141 = .ok (.ireturn, 1) := by decide +kernel
theorem dX5_tick_0 : decode cX5_tick 0 = .ok (.aload_n 0, 1) := by decide +kernel
theorem dX5_tick_1 : decode cX5_tick 1 = .ok (.iload_n 1, 1) := by decide +kernel
theorem dX5_tick_2 : decode cX5_tick 2 = .ok (.invokevirtual 89, 3) := by decide +kernel
theorem dX5_tick_5 : decode cX5_tick 5 = .ok (.ifCond .eq 51, 3) := by decide +kernel
theorem dX5_tick_8 : decode cX5_tick 8 = .ok (.dload_n 2, 1) := by decide +kernel
theorem dX5_tick_9 : decode cX5_tick 9 = .ok (.dconst 0, 1) := by decide +kernel
theorem dX5_tick_10 : decode cX5_tick 10 = .ok (.dcmp .l, 1) := by decide +kernel
theorem dX5_tick_11 : decode cX5_tick 11 = .ok (.ifCond .lt 45, 3) := by decide +kernel
theorem dX5_tick_14 : decode cX5_tick 14 = .ok (.dload_n 2, 1) := by decide +kernel
theorem dX5_tick_15 : decode cX5_tick 15 = .ok (.ldc2_w 97, 3) := by decide +kernel
theorem dX5_tick_18 : decode cX5_tick 18 = .ok (.dcmp .g, 1) := by decide +kernel
theorem dX5_tick_19 : decode cX5_tick 19 = .ok (.ifCond .gt 37, 3) := by decide +kernel
theorem dX5_tick_22 : decode cX5_tick 22 = .ok (.dload 6, 2) := by decide +kernel
theorem dX5_tick_24 : decode cX5_tick 24 = .ok (.dconst 0, 1) := by decide +kernel
theorem dX5_tick_25 : decode cX5_tick 25 = .ok (.dcmp .l, 1) := by decide +kernel
theorem dX5_tick_26 : decode cX5_tick 26 = .ok (.ifCond .lt 30, 3) := by decide +kernel
theorem dX5_tick_29 : decode cX5_tick 29 = .ok (.dload 6, 2) := by decide +kernel
theorem dX5_tick_31 : decode cX5_tick 31 = .ok (.ldc2_w 97, 3) := by decide +kernel
theorem dX5_tick_34 : decode cX5_tick 34 = .ok (.dcmp .g, 1) := by decide +kernel
theorem dX5_tick_35 : decode cX5_tick 35 = .ok (.ifCond .gt 21, 3) := by decide +kernel
theorem dX5_tick_38 : decode cX5_tick 38 = .ok (.dload 4, 2) := by decide +kernel
theorem dX5_tick_40 : decode cX5_tick 40 = .ok (.ldc2_w 99, 3) := by decide +kernel
theorem dX5_tick_43 : decode cX5_tick 43 = .ok (.dcmp .l, 1) := by decide +kernel
theorem dX5_tick_44 : decode cX5_tick 44 = .ok (.ifCond .lt 12, 3) := by decide +kernel
theorem dX5_tick_47 : decode cX5_tick 47 = .ok (.dload 4, 2) := by decide +kernel
theorem dX5_tick_49 : decode cX5_tick 49 = .ok (.ldc2_w 101, 3) := by decide +kernel
theorem dX5_tick_52 : decode cX5_tick 52 = .ok (.dcmp .g, 1) := by decide +kernel
theorem dX5_tick_53 : decode cX5_tick 53 = .ok (.ifCond .le 5, 3) := by decide +kernel
theorem dX5_tick_56 : decode cX5_tick 56 = .ok (.iconst (-1), 1) := by decide +kernel
theorem dX5_tick_57 : decode cX5_tick 57 = .ok (.ireturn, 1) := by decide +kernel
theorem dX5_tick_58 : decode cX5_tick 58 = .ok (.aload_n 0, 1) := by decide +kernel
theorem dX5_tick_59 : decode cX5_tick 59 = .ok (.iload_n 1, 1) := by decide +kernel
theorem dX5_tick_60 : decode cX5_tick 60 = .ok (.invokevirtual 103, 3) := by decide +kernel
theorem dX5_tick_63 : decode cX5_tick 63 = .ok (.ifCond .ne 10, 3) := by decide +kernel
theorem dX5_tick_66 : decode cX5_tick 66 = .ok (.aload_n 0, 1) := by decide +kernel
theorem dX5_tick_67 : decode cX5_tick 67 = .ok (.getfield 36, 3) := by decide +kernel
theorem dX5_tick_70 : decode cX5_tick 70 = .ok (.iload_n 1, 1) := by decide +kernel
theorem dX5_tick_71 : decode cX5_tick 71 = .ok (.iaload, 1) := by decide +kernel
theorem dX5_tick_72 : decode cX5_tick 72 = .ok (.ireturn, 1) := by decide +kernel
theorem dX5_tick_73 : decode cX5_tick 73 = .ok (.aload_n 0, 1) := by decide +kernel
theorem dX5_tick_74 : decode cX5_tick 74 = .ok (.iload_n 1, 1) := by decide +kernel
theorem dX5_tick_75 : decode cX5_tick 75 = .ok (.invokevirtual 106, 3) := by decide +kernel
theorem dX5_tick_78 : decode cX5_tick 78 = .ok (.istore 8, 2) := by decide +kernel
theorem dX5_tick_80 : decode cX5_tick 80 = .ok (.aload_n 0, 1) := by decide +kernel
theorem dX5_tick_81 : decode cX5_tick 81 = .ok (.getfield 17, 3) := by decide +kernel
theorem dX5_tick_84 : decode cX5_tick 84 = .ok (.iload 8, 2) := by decide +kernel
theorem dX5_tick_86 : decode cX5_tick 86 = .ok (.iaload, 1) := by decide +kernel
theorem dX5_tick_87 : decode cX5_tick 87 = .ok (.ifCond .eq 14, 3) := by decide +kernel
theorem dX5_tick_90 : decode cX5_tick 90 = .ok (.aload_n 0, 1) := by decide +kernel
theorem dX5_tick_91 : decode cX5_tick 91 = .ok (.getfield 17, 3) := by decide +kernel
theorem dX5_tick_94 : decode cX5_tick 94 = .ok (.iload 8, 2) := by decide +kernel
theorem dX5_tick_96 : decode cX5_tick 96 = .ok (.iaload, 1) := by decide +kernel
theorem dX5_tick_97 : decode cX5_tick 97 = .ok (.iconst 4, 1) := by decide +kernel
theorem dX5_tick_98 : decode cX5_tick 98 = .ok (.if_icmp .ne 7, 3) := by decide +kernel
theorem dX5_tick_101 : decode cX5_tick 101 = .ok (.iconst 1, 1) := by decide +kernel
theorem dX5_tick_102 : decode cX5_tick 102 = .ok (.goto 4, 3) := by decide +kernel
theorem dX5_tick_105 : decode cX5_tick 105 = .ok (.iconst 0, 1) := by decide +kernel
theorem dX5_tick_106 : decode cX5_tick 106 = .ok (.istore 9, 2) := by decide +kernel
theorem dX5_tick_108 : decode cX5_tick 108 = .ok (.aload_n 0, 1) := by decide +kernel
theorem dX5_tick_109 : decode cX5_tick 109 = .ok (.getfield 36, 3) := by decide +kernel
theorem dX5_tick_112 : decode cX5_tick 112 = .ok (.iload_n 1, 1) := by decide +kernel
theorem dX5_tick_113 : decode cX5_tick 113 = .ok (.iaload, 1) := by decide +kernel
theorem dX5_tick_114 : decode cX5_tick 114 = .ok (.ifCond .ne 7, 3) := by decide +kernel
theorem dX5_tick_117 : decode cX5_tick 117 = .ok (.iconst 1, 1) := by decide +kernel
theorem dX5_tick_118 : decode cX5_tick 118 = .ok (.goto 4, 3) := by decide +kernel
theorem dX5_tick_121 : decode cX5_tick 121 = .ok (.iconst 0, 1) := by decide +kernel
theorem dX5_tick_122 : decode cX5_tick 122 = .ok (.istore 10, 2) := by decide +kernel
theorem dX5_tick_124 : decode cX5_tick 124 = .ok (.iload 10, 2) := by decide +kernel
theorem dX5_tick_126 : decode cX5_tick 126 = .ok (.ifCond .ne 21, 3) := by decide +kernel
theorem dX5_tick_129 : decode cX5_tick 129 = .ok (.aload_n 0, 1) := by decide +kernel
theorem dX5_tick_130 : decode cX5_tick 130 = .ok (.iload 8, 2) := by decide +kernel
theorem dX5_tick_132 : decode cX5_tick 132 = .ok (.dload_n 2, 1) := by decide +kernel
theorem dX5_tick_133 : decode cX5_tick 133 = .ok (.dload 4, 2) := by decide +kernel
theorem dX5_tick_135 : decode cX5_tick 135 = .ok (.dload 6, 2) := by decide +kernel
theorem dX5_tick_137 : decode cX5_tick 137 = .ok (.invokevirtual 110, 3) := by decide +kernel
theorem dX5_tick_140 : decode cX5_tick 140 = .ok (.ifCond .eq 7, 3) := by decide +kernel
theorem dX5_tick_143 : decode cX5_tick 143 = .ok (.iconst 1, 1) := by decide +kernel
theorem dX5_tick_144 : decode cX5_tick 144 = .ok (.goto 4, 3) := by decide +kernel
theorem dX5_tick_147 : decode cX5_tick 147 = .ok (.iconst 0, 1) := by decide +kernel
theorem dX5_tick_148 : decode cX5_tick 148 = .ok (.istore 11, 2) := by decide +kernel
theorem dX5_tick_150 : decode cX5_tick 150 = .ok (.iload 9, 2) := by decide +kernel
theorem dX5_tick_152 : decode cX5_tick 152 = .ok (.ifCond .eq 21, 3) := by decide +kernel
theorem dX5_tick_155 : decode cX5_tick 155 = .ok (.aload_n 0, 1) := by decide +kernel
theorem dX5_tick_156 : decode cX5_tick 156 = .ok (.getfield 60, 3) := by decide +kernel
theorem dX5_tick_159 : decode cX5_tick 159 = .ok (.iload_n 1, 1) := by decide +kernel
theorem dX5_tick_160 : decode cX5_tick 160 = .ok (.aload_n 0, 1) := by decide +kernel
theorem dX5_tick_161 : decode cX5_tick 161 = .ok (.getfield 60, 3) := by decide +kernel
theorem dX5_tick_164 : decode cX5_tick 164 = .ok (.iload_n 1, 1) := by decide +kernel
theorem dX5_tick_165 : decode cX5_tick 165 = .ok (.daload, 1) := by decide +kernel
theorem dX5_tick_166 : decode cX5_tick 166 = .ok (.dload 6, 2) := by decide +kernel
theorem dX5_tick_168 : decode cX5_tick 168 = .ok (.dadd, 1) := by decide +kernel
theorem dX5_tick_169 : decode cX5_tick 169 = .ok (.dastore, 1) := by decide +kernel
theorem dX5_tick_170 : decode cX5_tick 170 = .ok (.goto 56, 3) := by decide +kernel
theorem dX5_tick_173 : decode cX5_tick 173 = .ok (.aload_n 0, 1) := by decide +kernel
theorem dX5_tick_174 : decode cX5_tick 174 = .ok (.getfield 63, 3) := by decide +kernel
theorem dX5_tick_177 : decode cX5_tick 177 = .ok (.iload_n 1, 1) := by decide +kernel
theorem dX5_tick_178 : decode cX5_tick 178 = .ok (.aload_n 0, 1) := by decide +kernel
theorem dX5_tick_179 : decode cX5_tick 179 = .ok (.getfield 63, 3) := by decide +kernel
theorem dX5_tick_182 : decode cX5_tick 182 = .ok (.iload_n 1, 1) := by decide +kernel
theorem dX5_tick_183 : decode cX5_tick 183 = .ok (.daload, 1) := by decide +kernel
theorem dX5_tick_184 : decode cX5_tick 184 = .ok (.dload 6, 2) := by decide +kernel
theorem dX5_tick_186 : decode cX5_tick 186 = .ok (.dadd, 1) := by decide +kernel
theorem dX5_tick_187 : decode cX5_tick 187 = .ok (.dastore, 1) := by decide +kernel
theorem dX5_tick_188 : decode cX5_tick 188 = .ok (.aload_n 0, 1) := by decide +kernel
theorem dX5_tick_189 : decode cX5_tick 189 = .ok (.getfield 66, 3) := by decide +kernel
theorem dX5_tick_192 : decode cX5_tick 192 = .ok (.iload_n 1, 1) := by decide +kernel
theorem dX5_tick_193 : decode cX5_tick 193 = .ok (.aload_n 0, 1) := by decide +kernel
theorem dX5_tick_194 : decode cX5_tick 194 = .ok (.getfield 66, 3) := by decide +kernel
theorem dX5_tick_197 : decode cX5_tick 197 = .ok (.iload_n 1, 1) := by decide +kernel
theorem dX5_tick_198 : decode cX5_tick 198 = .ok (.daload, 1) := by decide +kernel
theorem dX5_tick_199 : decode cX5_tick 199 = .ok (.iload 10, 2) := by decide +kernel
theorem dX5_tick_201 : decode cX5_tick 201 = .ok (.ifCond .eq 7, 3) := by decide +kernel
theorem dX5_tick_204 : decode cX5_tick 204 = .ok (.dconst 0, 1) := by decide +kernel
theorem dX5_tick_205 : decode cX5_tick 205 = .ok (.goto 19, 3) := by decide +kernel
theorem dX5_tick_208 : decode cX5_tick 208 = .ok (.iload 11, 2) := by decide +kernel
theorem dX5_tick_210 : decode cX5_tick 210 = .ok (.ifCond .eq 8, 3) := by decide +kernel
theorem dX5_tick_213 : decode cX5_tick 213 = .ok (.dload 6, 2) := by decide +kernel
theorem dX5_tick_215 : decode cX5_tick 215 = .ok (.goto 9, 3) := by decide +kernel
theorem dX5_tick_218 : decode cX5_tick 218 = .ok (.dload 6, 2) := by decide +kernel
theorem dX5_tick_220 : decode cX5_tick 220 = .ok (.ldc2_w 93, 3) := by decide +kernel
theorem dX5_tick_223 : decode cX5_tick 223 = .ok (.dmul, 1) := by decide +kernel
theorem dX5_tick_224 : decode cX5_tick 224 = .ok (.dadd, 1) := by decide +kernel
theorem dX5_tick_225 : decode cX5_tick 225 = .ok (.dastore, 1) := by decide +kernel
theorem dX5_tick_226 : decode cX5_tick 226 = .ok (.aload_n 0, 1) := by decide +kernel
theorem dX5_tick_227 : decode cX5_tick 227 = .ok (.getfield 42, 3) := by decide +kernel
theorem dX5_tick_230 : decode cX5_tick 230 = .ok (.iload_n 1, 1) := by decide +kernel
theorem dX5_tick_231 : decode cX5_tick 231 = .ok (.dup2, 1) := by decide +kernel
theorem dX5_tick_232 : decode cX5_tick 232 = .ok (.iaload, 1) := by decide +kernel
theorem dX5_tick_233 : decode cX5_tick 233 = .ok (.iconst 1, 1) := by decide +kernel
theorem dX5_tick_234 : decode cX5_tick 234 = .ok (.iadd, 1) := by decide +kernel
theorem dX5_tick_235 : decode cX5_tick 235 = .ok (.iastore, 1) := by decide +kernel
theorem dX5_tick_236 : decode cX5_tick 236 = .ok (.iload 10, 2) := by decide +kernel
theorem dX5_tick_238 : decode cX5_tick 238 = .ok (.ifCond .eq 97, 3) := by decide +kernel
theorem dX5_tick_241 : decode cX5_tick 241 = .ok (.iload 9, 2) := by decide +kernel
theorem dX5_tick_243 : decode cX5_tick 243 = .ok (.ifCond .eq 22, 3) := by decide +kernel
theorem dX5_tick_246 : decode cX5_tick 246 = .ok (.dload_n 2, 1) := by decide +kernel
theorem dX5_tick_247 : decode cX5_tick 247 = .ok (.aload_n 0, 1) := by decide +kernel
theorem dX5_tick_248 : decode cX5_tick 248 = .ok (.getfield 54, 3) := by decide +kernel
theorem dX5_tick_251 : decode cX5_tick 251 = .ok (.iload_n 1, 1) := by decide +kernel
theorem dX5_tick_252 : decode cX5_tick 252 = .ok (.daload, 1) := by decide +kernel
theorem dX5_tick_253 : decode cX5_tick 253 = .ok (.dcmp .g, 1) := by decide +kernel
theorem dX5_tick_254 : decode cX5_tick 254 = .ok (.ifCond .gt 7, 3) := by decide +kernel
theorem dX5_tick_257 : decode cX5_tick 257 = .ok (.iconst 1, 1) := by decide +kernel
theorem dX5_tick_258 : decode cX5_tick 258 = .ok (.goto 23, 3) := by decide +kernel
theorem dX5_tick_261 : decode cX5_tick 261 = .ok (.iconst 0, 1) := by decide +kernel
theorem dX5_tick_262 : decode cX5_tick 262 = .ok (.goto 19, 3) := by decide +kernel
theorem dX5_tick_265 : decode cX5_tick 265 = .ok (.dload_n 2, 1) := by decide +kernel
theorem dX5_tick_266 : decode cX5_tick 266 = .ok (.aload_n 0, 1) := by decide +kernel
theorem dX5_tick_267 : decode cX5_tick 267 = .ok (.getfield 54, 3) := by decide +kernel
theorem dX5_tick_270 : decode cX5_tick 270 = .ok (.iload_n 1, 1) := by decide +kernel
theorem dX5_tick_271 : decode cX5_tick 271 = .ok (.daload, 1) := by decide +kernel
theorem dX5_tick_272 : decode cX5_tick 272 = .ok (.dcmp .l, 1) := by decide +kernel
theorem dX5_tick_273 : decode cX5_tick 273 = .ok (.ifCond .lt 7, 3) := by decide +kernel
theorem dX5_tick_276 : decode cX5_tick 276 = .ok (.iconst 1, 1) := by decide +kernel
theorem dX5_tick_277 : decode cX5_tick 277 = .ok (.goto 4, 3) := by decide +kernel
theorem dX5_tick_280 : decode cX5_tick 280 = .ok (.iconst 0, 1) := by decide +kernel
theorem dX5_tick_281 : decode cX5_tick 281 = .ok (.istore 12, 2) := by decide +kernel
theorem dX5_tick_283 : decode cX5_tick 283 = .ok (.aload_n 0, 1) := by decide +kernel
theorem dX5_tick_284 : decode cX5_tick 284 = .ok (.getfield 51, 3) := by decide +kernel
theorem dX5_tick_287 : decode cX5_tick 287 = .ok (.iload_n 1, 1) := by decide +kernel
theorem dX5_tick_288 : decode cX5_tick 288 = .ok (.iload 12, 2) := by decide +kernel
theorem dX5_tick_290 : decode cX5_tick 290 = .ok (.ifCond .eq 14, 3) := by decide +kernel
theorem dX5_tick_293 : decode cX5_tick 293 = .ok (.aload_n 0, 1) := by decide +kernel
theorem dX5_tick_294 : decode cX5_tick 294 = .ok (.getfield 51, 3) := by decide +kernel
theorem dX5_tick_297 : decode cX5_tick 297 = .ok (.iload_n 1, 1) := by decide +kernel
theorem dX5_tick_298 : decode cX5_tick 298 = .ok (.iaload, 1) := by decide +kernel
theorem dX5_tick_299 : decode cX5_tick 299 = .ok (.iconst 1, 1) := by decide +kernel
theorem dX5_tick_300 : decode cX5_tick 300 = .ok (.iadd, 1) := by decide +kernel
theorem dX5_tick_301 : decode cX5_tick 301 = .ok (.goto 4, 3) := by decide +kernel
theorem dX5_tick_304 : decode cX5_tick 304 = .ok (.iconst 0, 1) := by decide +kernel
theorem dX5_tick_305 : decode cX5_tick 305 = .ok (.iastore, 1) := by decide +kernel
theorem dX5_tick_306 : decode cX5_tick 306 = .ok (.aload_n 0, 1) := by decide +kernel
theorem dX5_tick_307 : decode cX5_tick 307 = .ok (.getfield 36, 3) := by decide +kernel
theorem dX5_tick_310 : decode cX5_tick 310 = .ok (.iload_n 1, 1) := by decide +kernel
theorem dX5_tick_311 : decode cX5_tick 311 = .ok (.aload_n 0, 1) := by decide +kernel
theorem dX5_tick_312 : decode cX5_tick 312 = .ok (.getfield 51, 3) := by decide +kernel
theorem dX5_tick_315 : decode cX5_tick 315 = .ok (.iload_n 1, 1) := by decide +kernel
theorem dX5_tick_316 : decode cX5_tick 316 = .ok (.iaload, 1) := by decide +kernel
theorem dX5_tick_317 : decode cX5_tick 317 = .ok (.aload_n 0, 1) := by decide +kernel
theorem dX5_tick_318 : decode cX5_tick 318 = .ok (.getfield 57, 3) := by decide +kernel
theorem dX5_tick_321 : decode cX5_tick 321 = .ok (.iload_n 1, 1) := by decide +kernel
theorem dX5_tick_322 : decode cX5_tick 322 = .ok (.iaload, 1) := by decide +kernel
theorem dX5_tick_323 : decode cX5_tick 323 = .ok (.if_icmp .lt 7, 3) := by decide +kernel
theorem dX5_tick_326 : decode cX5_tick 326 = .ok (.iconst 1, 1) := by decide +kernel
theorem dX5_tick_327 : decode cX5_tick 327 = .ok (.goto 4, 3) := by decide +kernel
theorem dX5_tick_330 : decode cX5_tick 330 = .ok (.iconst 0, 1) := by decide +kernel
theorem dX5_tick_331 : decode cX5_tick 331 = .ok (.iastore, 1) := by decide +kernel
theorem dX5_tick_332 : decode cX5_tick 332 = .ok (.goto 75, 3) := by decide +kernel
theorem dX5_tick_335 : decode cX5_tick 335 = .ok (.iload 11, 2) := by decide +kernel
theorem dX5_tick_337 : decode cX5_tick 337 = .ok (.ifCond .eq 44, 3) := by decide +kernel
theorem dX5_tick_340 : decode cX5_tick 340 = .ok (.aload_n 0, 1) := by decide +kernel
theorem dX5_tick_341 : decode cX5_tick 341 = .ok (.getfield 48, 3) := by decide +kernel
theorem dX5_tick_344 : decode cX5_tick 344 = .ok (.iload_n 1, 1) := by decide +kernel
theorem dX5_tick_345 : decode cX5_tick 345 = .ok (.iconst 0, 1) := by decide +kernel
theorem dX5_tick_346 : decode cX5_tick 346 = .ok (.iastore, 1) := by decide +kernel
theorem dX5_tick_347 : decode cX5_tick 347 = .ok (.aload_n 0, 1) := by decide +kernel
theorem dX5_tick_348 : decode cX5_tick 348 = .ok (.getfield 45, 3) := by decide +kernel
theorem dX5_tick_351 : decode cX5_tick 351 = .ok (.iload_n 1, 1) := by decide +kernel
theorem dX5_tick_352 : decode cX5_tick 352 = .ok (.dup2, 1) := by decide +kernel
theorem dX5_tick_353 : decode cX5_tick 353 = .ok (.iaload, 1) := by decide +kernel
theorem dX5_tick_354 : decode cX5_tick 354 = .ok (.iconst 1, 1) := by decide +kernel
theorem dX5_tick_355 : decode cX5_tick 355 = .ok (.iadd, 1) := by decide +kernel
theorem dX5_tick_356 : decode cX5_tick 356 = .ok (.iastore, 1) := by decide +kernel
theorem dX5_tick_357 : decode cX5_tick 357 = .ok (.aload_n 0, 1) := by decide +kernel
theorem dX5_tick_358 : decode cX5_tick 358 = .ok (.getfield 45, 3) := by decide +kernel
theorem dX5_tick_361 : decode cX5_tick 361 = .ok (.iload_n 1, 1) := by decide +kernel
theorem dX5_tick_362 : decode cX5_tick 362 = .ok (.iaload, 1) := by decide +kernel
theorem dX5_tick_363 : decode cX5_tick 363 = .ok (.aload_n 0, 1) := by decide +kernel
theorem dX5_tick_364 : decode cX5_tick 364 = .ok (.getfield 20, 3) := by decide +kernel
theorem dX5_tick_367 : decode cX5_tick 367 = .ok (.iload 8, 2) := by decide +kernel
theorem dX5_tick_369 : decode cX5_tick 369 = .ok (.iaload, 1) := by decide +kernel
theorem dX5_tick_370 : decode cX5_tick 370 = .ok (.if_icmp .ne 37, 3) := by decide +kernel
theorem dX5_tick_373 : decode cX5_tick 373 = .ok (.aload_n 0, 1) := by decide +kernel
theorem dX5_tick_374 : decode cX5_tick 374 = .ok (.iload_n 1, 1) := by decide +kernel
theorem dX5_tick_375 : decode cX5_tick 375 = .ok (.invokevirtual 114, 3) := by decide +kernel
theorem dX5_tick_378 : decode cX5_tick 378 = .ok (.goto 29, 3) := by decide +kernel
theorem dX5_tick_381 : decode cX5_tick 381 = .ok (.aload_n 0, 1) := by decide +kernel
theorem dX5_tick_382 : decode cX5_tick 382 = .ok (.getfield 48, 3) := by decide +kernel
theorem dX5_tick_385 : decode cX5_tick 385 = .ok (.iload_n 1, 1) := by decide +kernel
theorem dX5_tick_386 : decode cX5_tick 386 = .ok (.dup2, 1) := by decide +kernel
theorem dX5_tick_387 : decode cX5_tick 387 = .ok (.iaload, 1) := by decide +kernel
theorem dX5_tick_388 : decode cX5_tick 388 = .ok (.iconst 1, 1) := by decide +kernel
theorem dX5_tick_389 : decode cX5_tick 389 = .ok (.iadd, 1) := by decide +kernel
theorem dX5_tick_390 : decode cX5_tick 390 = .ok (.iastore, 1) := by decide +kernel
theorem dX5_tick_391 : decode cX5_tick 391 = .ok (.aload_n 0, 1) := by decide +kernel
theorem dX5_tick_392 : decode cX5_tick 392 = .ok (.getfield 48, 3) := by decide +kernel
theorem dX5_tick_395 : decode cX5_tick 395 = .ok (.iload_n 1, 1) := by decide +kernel
theorem dX5_tick_396 : decode cX5_tick 396 = .ok (.iaload, 1) := by decide +kernel
theorem dX5_tick_397 : decode cX5_tick 397 = .ok (.bipush 30, 2) := by decide +kernel
theorem dX5_tick_399 : decode cX5_tick 399 = .ok (.if_icmp .ne 8, 3) := by decide +kernel
theorem dX5_tick_402 : decode cX5_tick 402 = .ok (.aload_n 0, 1) := by decide +kernel
theorem dX5_tick_403 : decode cX5_tick 403 = .ok (.iload_n 1, 1) := by decide +kernel
theorem dX5_tick_404 : decode cX5_tick 404 = .ok (.invokevirtual 118, 3) := by decide +kernel
theorem dX5_tick_407 : decode cX5_tick 407 = .ok (.aload_n 0, 1) := by decide +kernel
theorem dX5_tick_408 : decode cX5_tick 408 = .ok (.getfield 36, 3) := by decide +kernel
theorem dX5_tick_411 : decode cX5_tick 411 = .ok (.iload_n 1, 1) := by decide +kernel
theorem dX5_tick_412 : decode cX5_tick 412 = .ok (.iaload, 1) := by decide +kernel
theorem dX5_tick_413 : decode cX5_tick 413 = .ok (.ireturn, 1) := by decide +kernel
theorem dX5_end_0 : decode cX5_end 0 = .ok (.aload_n 0, 1) := by decide +kernel
theorem dX5_end_1 : decode cX5_end 1 = .ok (.getfield 75, 3) := by decide +kernel
theorem dX5_end_4 : decode cX5_end 4 = .ok (.bipush 12, 2) := by decide +kernel
theorem dX5_end_6 : decode cX5_end 6 = .ok (.iload_n 1, 1) := by decide +kernel
theorem dX5_end_7 : decode cX5_end 7 = .ok (.imul, 1) := by decide +kernel
theorem dX5_end_8 : decode cX5_end 8 = .ok (.aload_n 0, 1) := by decide +kernel
theorem dX5_end_9 : decode cX5_end 9 = .ok (.getfield 39, 3) := by decide +kernel
theorem dX5_end_12 : decode cX5_end 12 = .ok (.iload_n 1, 1) := by decide +kernel
theorem dX5_end_13 : decode cX5_end 13 = .ok (.iaload, 1) := by decide +kernel
theorem dX5_end_14 : decode cX5_end 14 = .ok (.iadd, 1) := by decide +kernel
theorem dX5_end_15 : decode cX5_end 15 = .ok (.aload_n 0, 1) := by decide +kernel
theorem dX5_end_16 : decode cX5_end 16 = .ok (.getfield 42, 3) := by decide +kernel
theorem dX5_end_19 : decode cX5_end 19 = .ok (.iload_n 1, 1) := by decide +kernel
theorem dX5_end_20 : decode cX5_end 20 = .ok (.iaload, 1) := by decide +kernel
theorem dX5_end_21 : decode cX5_end 21 = .ok (.iastore, 1) := by decide +kernel
theorem dX5_end_22 : decode cX5_end 22 = .ok (.aload_n 0, 1) := by decide +kernel
theorem dX5_end_23 : decode cX5_end 23 = .ok (.getfield 39, 3) := by decide +kernel
theorem dX5_end_26 : decode cX5_end 26 = .ok (.iload_n 1, 1) := by decide +kernel
theorem dX5_end_27 : decode cX5_end 27 = .ok (.iaload, 1) := by decide +kernel
theorem dX5_end_28 : decode cX5_end 28 = .ok (.iconst 1, 1) := by decide +kernel
theorem dX5_end_29 : decode cX5_end 29 = .ok (.iadd, 1) := by decide +kernel
theorem dX5_end_30 : decode cX5_end 30 = .ok (.aload_n 0, 1) := by decide +kernel
theorem dX5_end_31 : decode cX5_end 31 = .ok (.getfield 9, 3) := by decide +kernel
theorem dX5_end_34 : decode cX5_end 34 = .ok (.aload_n 0, 1) := by decide +kernel
theorem dX5_end_35 : decode cX5_end 35 = .ok (.getfield 30, 3) := by decide +kernel
theorem dX5_end_38 : decode cX5_end 38 = .ok (.iload_n 1, 1) := by decide +kernel
theorem dX5_end_39 : decode cX5_end 39 = .ok (.iaload, 1) := by decide +kernel
theorem dX5_end_40 : decode cX5_end 40 = .ok (.iaload, 1) := by decide +kernel
theorem dX5_end_41 : decode cX5_end 41 = .ok (.if_icmp .ne 11, 3) := by decide +kernel
theorem dX5_end_44 : decode cX5_end 44 = .ok (.aload_n 0, 1) := by decide +kernel
theorem dX5_end_45 : decode cX5_end 45 = .ok (.getfield 36, 3) := by decide +kernel
theorem dX5_end_48 : decode cX5_end 48 = .ok (.iload_n 1, 1) := by decide +kernel
theorem dX5_end_49 : decode cX5_end 49 = .ok (.iconst 3, 1) := by decide +kernel
theorem dX5_end_50 : decode cX5_end 50 = .ok (.iastore, 1) := by decide +kernel
theorem dX5_end_51 : decode cX5_end 51 = .ok (.return_, 1) := by decide +kernel
theorem dX5_end_52 : decode cX5_end 52 = .ok (.aload_n 0, 1) := by decide +kernel
theorem dX5_end_53 : decode cX5_end 53 = .ok (.getfield 39, 3) := by decide +kernel
theorem dX5_end_56 : decode cX5_end 56 = .ok (.iload_n 1, 1) := by decide +kernel
theorem dX5_end_57 : decode cX5_end 57 = .ok (.dup2, 1) := by decide +kernel
theorem dX5_end_58 : decode cX5_end 58 = .ok (.iaload, 1) := by decide +kernel
theorem dX5_end_59 : decode cX5_end 59 = .ok (.iconst 1, 1) := by decide +kernel
theorem dX5_end_60 : decode cX5_end 60 = .ok (.iadd, 1) := by decide +kernel
theorem dX5_end_61 : decode cX5_end 61 = .ok (.iastore, 1) := by decide +kernel
theorem dX5_end_62 : decode cX5_end 62 = .ok (.aload_n 0, 1) := by decide +kernel
theorem dX5_end_63 : decode cX5_end 63 = .ok (.getfield 72, 3) := by decide +kernel
theorem dX5_end_66 : decode cX5_end 66 = .ok (.bipush 12, 2) := by decide +kernel
theorem dX5_end_68 : decode cX5_end 68 = .ok (.iload_n 1, 1) := by decide +kernel
theorem dX5_end_69 : decode cX5_end 69 = .ok (.imul, 1) := by decide +kernel
theorem dX5_end_70 : decode cX5_end 70 = .ok (.aload_n 0, 1) := by decide +kernel
theorem dX5_end_71 : decode cX5_end 71 = .ok (.getfield 39, 3) := by decide +kernel
theorem dX5_end_74 : decode cX5_end 74 = .ok (.iload_n 1, 1) := by decide +kernel
theorem dX5_end_75 : decode cX5_end 75 = .ok (.iaload, 1) := by decide +kernel
theorem dX5_end_76 : decode cX5_end 76 = .ok (.iadd, 1) := by decide +kernel
theorem dX5_end_77 : decode cX5_end 77 = .ok (.aload_n 0, 1) := by decide +kernel
theorem dX5_end_78 : decode cX5_end 78 = .ok (.getfield 42, 3) := by decide +kernel
theorem dX5_end_81 : decode cX5_end 81 = .ok (.iload_n 1, 1) := by decide +kernel
theorem dX5_end_82 : decode cX5_end 82 = .ok (.iaload, 1) := by decide +kernel
theorem dX5_end_83 : decode cX5_end 83 = .ok (.iastore, 1) := by decide +kernel
theorem dX5_end_84 : decode cX5_end 84 = .ok (.aload_n 0, 1) := by decide +kernel
theorem dX5_end_85 : decode cX5_end 85 = .ok (.getfield 75, 3) := by decide +kernel
theorem dX5_end_88 : decode cX5_end 88 = .ok (.bipush 12, 2) := by decide +kernel
theorem dX5_end_90 : decode cX5_end 90 = .ok (.iload_n 1, 1) := by decide +kernel
theorem dX5_end_91 : decode cX5_end 91 = .ok (.imul, 1) := by decide +kernel
theorem dX5_end_92 : decode cX5_end 92 = .ok (.aload_n 0, 1) := by decide +kernel
theorem dX5_end_93 : decode cX5_end 93 = .ok (.getfield 39, 3) := by decide +kernel
theorem dX5_end_96 : decode cX5_end 96 = .ok (.iload_n 1, 1) := by decide +kernel
theorem dX5_end_97 : decode cX5_end 97 = .ok (.iaload, 1) := by decide +kernel
theorem dX5_end_98 : decode cX5_end 98 = .ok (.iadd, 1) := by decide +kernel
theorem dX5_end_99 : decode cX5_end 99 = .ok (.iconst (-1), 1) := by decide +kernel
theorem dX5_end_100 : decode cX5_end 100 = .ok (.iastore, 1) := by decide +kernel
theorem dX5_end_101 : decode cX5_end 101 = .ok (.aload_n 0, 1) := by decide +kernel
theorem dX5_end_102 : decode cX5_end 102 = .ok (.getfield 45, 3) := by decide +kernel
theorem dX5_end_105 : decode cX5_end 105 = .ok (.iload_n 1, 1) := by decide +kernel
theorem dX5_end_106 : decode cX5_end 106 = .ok (.iconst 0, 1) := by decide +kernel
theorem dX5_end_107 : decode cX5_end 107 = .ok (.iastore, 1) := by decide +kernel
theorem dX5_end_108 : decode cX5_end 108 = .ok (.aload_n 0, 1) := by decide +kernel
theorem dX5_end_109 : decode cX5_end 109 = .ok (.getfield 48, 3) := by decide +kernel
theorem dX5_end_112 : decode cX5_end 112 = .ok (.iload_n 1, 1) := by decide +kernel
theorem dX5_end_113 : decode cX5_end 113 = .ok (.iconst 0, 1) := by decide +kernel
theorem dX5_end_114 : decode cX5_end 114 = .ok (.iastore, 1) := by decide +kernel
theorem dX5_end_115 : decode cX5_end 115 = .ok (.aload_n 0, 1) := by decide +kernel
theorem dX5_end_116 : decode cX5_end 116 = .ok (.getfield 51, 3) := by decide +kernel
theorem dX5_end_119 : decode cX5_end 119 = .ok (.iload_n 1, 1) := by decide +kernel
theorem dX5_end_120 : decode cX5_end 120 = .ok (.iconst 0, 1) := by decide +kernel
theorem dX5_end_121 : decode cX5_end 121 = .ok (.iastore, 1) := by decide +kernel
theorem dX5_end_122 : decode cX5_end 122 = .ok (.aload_n 0, 1) := by decide +kernel
theorem dX5_end_123 : decode cX5_end 123 = .ok (.getfield 36, 3) := by decide +kernel
theorem dX5_end_126 : decode cX5_end 126 = .ok (.iload_n 1, 1) := by decide +kernel
theorem dX5_end_127 : decode cX5_end 127 = .ok (.aload_n 0, 1) := by decide +kernel
theorem dX5_end_128 : decode cX5_end 128 = .ok (.getfield 57, 3) := by decide +kernel
theorem dX5_end_131 : decode cX5_end 131 = .ok (.iload_n 1, 1) := by decide +kernel
theorem dX5_end_132 : decode cX5_end 132 = .ok (.iaload, 1) := by decide +kernel
theorem dX5_end_133 : decode cX5_end 133 = .ok (.ifCond .le 7, 3) := by decide +kernel
theorem dX5_end_136 : decode cX5_end 136 = .ok (.iconst 0, 1) := by decide +kernel
theorem dX5_end_137 : decode cX5_end 137 = .ok (.goto 4, 3) := by decide +kernel
theorem dX5_end_140 : decode cX5_end 140 = .ok (.iconst 1, 1) := by decide +kernel
theorem dX5_end_141 : decode cX5_end 141 = .ok (.iastore, 1) := by decide +kernel
theorem dX5_end_142 : decode cX5_end 142 = .ok (.return_, 1) := by decide +kernel
theorem dX5_miss_0 : decode cX5_miss 0 = .ok (.bipush 12, 2) := by decide +kernel
theorem dX5_miss_2 : decode cX5_miss 2 = .ok (.iload_n 1, 1) := by decide +kernel
theorem dX5_miss_3 : decode cX5_miss 3 = .ok (.imul, 1) := by decide +kernel
theorem dX5_miss_4 : decode cX5_miss 4 = .ok (.aload_n 0, 1) := by decide +kernel
theorem dX5_miss_5 : decode cX5_miss 5 = .ok (.getfield 39, 3) := by decide +kernel
theorem dX5_miss_8 : decode cX5_miss 8 = .ok (.iload_n 1, 1) := by decide +kernel
theorem dX5_miss_9 : decode cX5_miss 9 = .ok (.iaload, 1) := by decide +kernel
theorem dX5_miss_10 : decode cX5_miss 10 = .ok (.iadd, 1) := by decide +kernel
theorem dX5_miss_11 : decode cX5_miss 11 = .ok (.istore_n 2, 1) := by decide +kernel
theorem dX5_miss_12 : decode cX5_miss 12 = .ok (.aload_n 0, 1) := by decide +kernel
theorem dX5_miss_13 : decode cX5_miss 13 = .ok (.getfield 45, 3) := by decide +kernel
theorem dX5_miss_16 : decode cX5_miss 16 = .ok (.iload_n 1, 1) := by decide +kernel
theorem dX5_miss_17 : decode cX5_miss 17 = .ok (.iconst 0, 1) := by decide +kernel
theorem dX5_miss_18 : decode cX5_miss 18 = .ok (.iastore, 1) := by decide +kernel
theorem dX5_miss_19 : decode cX5_miss 19 = .ok (.aload_n 0, 1) := by decide +kernel
theorem dX5_miss_20 : decode cX5_miss 20 = .ok (.getfield 48, 3) := by decide +kernel
theorem dX5_miss_23 : decode cX5_miss 23 = .ok (.iload_n 1, 1) := by decide +kernel
theorem dX5_miss_24 : decode cX5_miss 24 = .ok (.iconst 0, 1) := by decide +kernel
theorem dX5_miss_25 : decode cX5_miss 25 = .ok (.iastore, 1) := by decide +kernel
theorem dX5_miss_26 : decode cX5_miss 26 = .ok (.aload_n 0, 1) := by decide +kernel
theorem dX5_miss_27 : decode cX5_miss 27 = .ok (.getfield 69, 3) := by decide +kernel
theorem dX5_miss_30 : decode cX5_miss 30 = .ok (.iload_n 2, 1) := by decide +kernel
theorem dX5_miss_31 : decode cX5_miss 31 = .ok (.dup2, 1) := by decide +kernel
theorem dX5_miss_32 : decode cX5_miss 32 = .ok (.iaload, 1) := by decide +kernel
theorem dX5_miss_33 : decode cX5_miss 33 = .ok (.iconst 1, 1) := by decide +kernel
theorem dX5_miss_34 : decode cX5_miss 34 = .ok (.iadd, 1) := by decide +kernel
theorem dX5_miss_35 : decode cX5_miss 35 = .ok (.iastore, 1) := by decide +kernel
theorem dX5_miss_36 : decode cX5_miss 36 = .ok (.aload_n 0, 1) := by decide +kernel
theorem dX5_miss_37 : decode cX5_miss 37 = .ok (.getfield 69, 3) := by decide +kernel
theorem dX5_miss_40 : decode cX5_miss 40 = .ok (.iload_n 2, 1) := by decide +kernel
theorem dX5_miss_41 : decode cX5_miss 41 = .ok (.iaload, 1) := by decide +kernel
theorem dX5_miss_42 : decode cX5_miss 42 = .ok (.iconst 3, 1) := by decide +kernel
theorem dX5_miss_43 : decode cX5_miss 43 = .ok (.if_icmp .ne 22, 3) := by decide +kernel
theorem dX5_miss_46 : decode cX5_miss 46 = .ok (.aload_n 0, 1) := by decide +kernel
theorem dX5_miss_47 : decode cX5_miss 47 = .ok (.getfield 36, 3) := by decide +kernel
theorem dX5_miss_50 : decode cX5_miss 50 = .ok (.iload_n 1, 1) := by decide +kernel
theorem dX5_miss_51 : decode cX5_miss 51 = .ok (.iconst 2, 1) := by decide +kernel
theorem dX5_miss_52 : decode cX5_miss 52 = .ok (.iastore, 1) := by decide +kernel
theorem dX5_miss_53 : decode cX5_miss 53 = .ok (.aload_n 0, 1) := by decide +kernel
theorem dX5_miss_54 : decode cX5_miss 54 = .ok (.getfield 75, 3) := by decide +kernel
theorem dX5_miss_57 : decode cX5_miss 57 = .ok (.iload_n 2, 1) := by decide +kernel
theorem dX5_miss_58 : decode cX5_miss 58 = .ok (.aload_n 0, 1) := by decide +kernel
theorem dX5_miss_59 : decode cX5_miss 59 = .ok (.getfield 42, 3) := by decide +kernel
theorem dX5_miss_62 : decode cX5_miss 62 = .ok (.iload_n 1, 1) := by decide +kernel
theorem dX5_miss_63 : decode cX5_miss 63 = .ok (.iaload, 1) := by decide +kernel
theorem dX5_miss_64 : decode cX5_miss 64 = .ok (.iastore, 1) := by decide +kernel
theorem dX5_miss_65 : decode cX5_miss 65 = .ok (.return_, 1) := by decide +kernel
theorem dX5_state_0 : decode cX5_state 0 = .ok (.aload_n 0, 1) := by decide +kernel
theorem dX5_state_1 : decode cX5_state 1 = .ok (.iload_n 1, 1) := by decide +kernel
theorem dX5_state_2 : decode cX5_state 2 = .ok (.invokevirtual 89, 3) := by decide +kernel
theorem dX5_state_5 : decode cX5_state 5 = .ok (.ifCond .eq 12, 3) := by decide +kernel
theorem dX5_state_8 : decode cX5_state 8 = .ok (.aload_n 0, 1) := by decide +kernel
theorem dX5_state_9 : decode cX5_state 9 = .ok (.getfield 36, 3) := by decide +kernel
theorem dX5_state_12 : decode cX5_state 12 = .ok (.iload_n 1, 1) := by decide +kernel
theorem dX5_state_13 : decode cX5_state 13 = .ok (.iaload, 1) := by decide +kernel
theorem dX5_state_14 : decode cX5_state 14 = .ok (.goto 4, 3) := by decide +kernel
theorem dX5_state_17 : decode cX5_state 17 = .ok (.iconst (-1), 1) := by decide +kernel
theorem dX5_state_18 : decode cX5_state 18 = .ok (.ireturn, 1) := by decide +kernel
theorem dX5_stepOf_0 : decode cX5_stepOf 0 = .ok (.aload_n 0, 1) := by decide +kernel
theorem dX5_stepOf_1 : decode cX5_stepOf 1 = .ok (.iload_n 1, 1) := by decide +kernel
theorem dX5_stepOf_2 : decode cX5_stepOf 2 = .ok (.invokevirtual 89, 3) := by decide +kernel
theorem dX5_stepOf_5 : decode cX5_stepOf 5 = .ok (.ifCond .eq 12, 3) := by decide +kernel
theorem dX5_stepOf_8 : decode cX5_stepOf 8 = .ok (.aload_n 0, 1) := by decide +kernel
theorem dX5_stepOf_9 : decode cX5_stepOf 9 = .ok (.getfield 39, 3) := by decide +kernel
theorem dX5_stepOf_12 : decode cX5_stepOf 12 = .ok (.iload_n 1, 1) := by decide +kernel
theorem dX5_stepOf_13 : decode cX5_stepOf 13 = .ok (.iaload, 1) := by decide +kernel
theorem dX5_stepOf_14 : decode cX5_stepOf 14 = .ok (.goto 4, 3) := by decide +kernel
theorem dX5_stepOf_17 : decode cX5_stepOf 17 = .ok (.iconst (-1), 1) := by decide +kernel
theorem dX5_stepOf_18 : decode cX5_stepOf 18 = .ok (.ireturn, 1) := by decide +kernel
theorem dX5_counted_0 : decode cX5_counted 0 = .ok (.aload_n 0, 1) := by decide +kernel
theorem dX5_counted_1 : decode cX5_counted 1 = .ok (.iload_n 1, 1) := by decide +kernel
theorem dX5_counted_2 : decode cX5_counted 2 = .ok (.invokevirtual 89, 3) := by decide +kernel
theorem dX5_counted_5 : decode cX5_counted 5 = .ok (.ifCond .eq 13, 3) := by decide +kernel
theorem dX5_counted_8 : decode cX5_counted 8 = .ok (.aload_n 0, 1) := by decide +kernel
theorem dX5_counted_9 : decode cX5_counted 9 = .ok (.getfield 45, 3) := by decide +kernel
theorem dX5_counted_12 : decode cX5_counted 12 = .ok (.iload_n 1, 1) := by decide +kernel
theorem dX5_counted_13 : decode cX5_counted 13 = .ok (.iaload, 1) := by decide +kernel
theorem dX5_counted_14 : decode cX5_counted 14 = .ok (.i2l, 1) := by decide +kernel
theorem dX5_counted_15 : decode cX5_counted 15 = .ok (.goto 6, 3) := by decide +kernel
theorem dX5_counted_18 : decode cX5_counted 18 = .ok (.ldc2_w 121, 3) := by decide +kernel
theorem dX5_counted_21 : decode cX5_counted 21 = .ok (.lreturn, 1) := by decide +kernel
theorem dX5_failed_0 : decode cX5_failed 0 = .ok (.aload_n 0, 1) := by decide +kernel
theorem dX5_failed_1 : decode cX5_failed 1 = .ok (.iload_n 1, 1) := by decide +kernel
theorem dX5_failed_2 : decode cX5_failed 2 = .ok (.invokevirtual 89, 3) := by decide +kernel
theorem dX5_failed_5 : decode cX5_failed 5 = .ok (.ifCond .ne 5, 3) := by decide +kernel
theorem dX5_failed_8 : decode cX5_failed 8 = .ok (.iconst (-1), 1) := by decide +kernel
theorem dX5_failed_9 : decode cX5_failed 9 = .ok (.ireturn, 1) := by decide +kernel
theorem dX5_failed_10 : decode cX5_failed 10 = .ok (.iconst 0, 1) := by decide +kernel
theorem dX5_failed_11 : decode cX5_failed 11 = .ok (.istore_n 2, 1) := by decide +kernel
theorem dX5_failed_12 : decode cX5_failed 12 = .ok (.iconst 0, 1) := by decide +kernel
theorem dX5_failed_13 : decode cX5_failed 13 = .ok (.istore_n 3, 1) := by decide +kernel
theorem dX5_failed_14 : decode cX5_failed 14 = .ok (.iload_n 3, 1) := by decide +kernel
theorem dX5_failed_15 : decode cX5_failed 15 = .ok (.bipush 12, 2) := by decide +kernel
theorem dX5_failed_17 : decode cX5_failed 17 = .ok (.if_icmp .ge 23, 3) := by decide +kernel
theorem dX5_failed_20 : decode cX5_failed 20 = .ok (.iload_n 2, 1) := by decide +kernel
theorem dX5_failed_21 : decode cX5_failed 21 = .ok (.aload_n 0, 1) := by decide +kernel
theorem dX5_failed_22 : decode cX5_failed 22 = .ok (.getfield 69, 3) := by decide +kernel
theorem dX5_failed_25 : decode cX5_failed 25 = .ok (.bipush 12, 2) := by decide +kernel
theorem dX5_failed_27 : decode cX5_failed 27 = .ok (.iload_n 1, 1) := by decide +kernel
theorem dX5_failed_28 : decode cX5_failed 28 = .ok (.imul, 1) := by decide +kernel
theorem dX5_failed_29 : decode cX5_failed 29 = .ok (.iload_n 3, 1) := by decide +kernel
theorem dX5_failed_30 : decode cX5_failed 30 = .ok (.iadd, 1) := by decide +kernel
theorem dX5_failed_31 : decode cX5_failed 31 = .ok (.iaload, 1) := by decide +kernel
theorem dX5_failed_32 : decode cX5_failed 32 = .ok (.iadd, 1) := by decide +kernel
theorem dX5_failed_33 : decode cX5_failed 33 = .ok (.istore_n 2, 1) := by decide +kernel
theorem dX5_failed_34 : decode cX5_failed 34 = .ok (.iinc 3 1, 3) := by decide +kernel
theorem dX5_failed_37 : decode cX5_failed 37 = .ok (.goto (-23), 3) := by decide +kernel
theorem dX5_failed_40 : decode cX5_failed 40 = .ok (.iload_n 2, 1) := by decide +kernel
theorem dX5_failed_41 : decode cX5_failed 41 = .ok (.ireturn, 1) := by decide +kernel
theorem dX5_cleaner_0 : decode cX5_cleaner 0 = .ok (.aload_n 0, 1) := by decide +kernel
theorem dX5_cleaner_1 : decode cX5_cleaner 1 = .ok (.iload_n 1, 1) := by decide +kernel
theorem dX5_cleaner_2 : decode cX5_cleaner 2 = .ok (.invokevirtual 89, 3) := by decide +kernel
theorem dX5_cleaner_5 : decode cX5_cleaner 5 = .ok (.ifCond .eq 12, 3) := by decide +kernel
theorem dX5_cleaner_8 : decode cX5_cleaner 8 = .ok (.iload_n 2, 1) := by decide +kernel
theorem dX5_cleaner_9 : decode cX5_cleaner 9 = .ok (.ifCond .lt 8, 3) := by decide +kernel
theorem dX5_cleaner_12 : decode cX5_cleaner 12 = .ok (.iload_n 2, 1) := by decide +kernel
theorem dX5_cleaner_13 : decode cX5_cleaner 13 = .ok (.iconst 3, 1) := by decide +kernel
theorem dX5_cleaner_14 : decode cX5_cleaner 14 = .ok (.if_icmp .le 7, 3) := by decide +kernel
theorem dX5_cleaner_17 : decode cX5_cleaner 17 = .ok (.ldc2_w 123, 3) := by decide +kernel
theorem dX5_cleaner_20 : decode cX5_cleaner 20 = .ok (.dreturn, 1) := by decide +kernel
theorem dX5_cleaner_21 : decode cX5_cleaner 21 = .ok (.iload_n 2, 1) := by decide +kernel
theorem dX5_cleaner_22 : decode cX5_cleaner 22 = .ok (.ifCond .ne 12, 3) := by decide +kernel
theorem dX5_cleaner_25 : decode cX5_cleaner 25 = .ok (.aload_n 0, 1) := by decide +kernel
theorem dX5_cleaner_26 : decode cX5_cleaner 26 = .ok (.getfield 60, 3) := by decide +kernel
theorem dX5_cleaner_29 : decode cX5_cleaner 29 = .ok (.iload_n 1, 1) := by decide +kernel
theorem dX5_cleaner_30 : decode cX5_cleaner 30 = .ok (.daload, 1) := by decide +kernel
theorem dX5_cleaner_31 : decode cX5_cleaner 31 = .ok (.goto 48, 3) := by decide +kernel
theorem dX5_cleaner_34 : decode cX5_cleaner 34 = .ok (.iload_n 2, 1) := by decide +kernel
theorem dX5_cleaner_35 : decode cX5_cleaner 35 = .ok (.iconst 1, 1) := by decide +kernel
theorem dX5_cleaner_36 : decode cX5_cleaner 36 = .ok (.if_icmp .ne 12, 3) := by decide +kernel
theorem dX5_cleaner_39 : decode cX5_cleaner 39 = .ok (.aload_n 0, 1) := by decide +kernel
theorem dX5_cleaner_40 : decode cX5_cleaner 40 = .ok (.getfield 63, 3) := by decide +kernel
theorem dX5_cleaner_43 : decode cX5_cleaner 43 = .ok (.iload_n 1, 1) := by decide +kernel
theorem dX5_cleaner_44 : decode cX5_cleaner 44 = .ok (.daload, 1) := by decide +kernel
theorem dX5_cleaner_45 : decode cX5_cleaner 45 = .ok (.goto 34, 3) := by decide +kernel
theorem dX5_cleaner_48 : decode cX5_cleaner 48 = .ok (.iload_n 2, 1) := by decide +kernel
theorem dX5_cleaner_49 : decode cX5_cleaner 49 = .ok (.iconst 2, 1) := by decide +kernel
theorem dX5_cleaner_50 : decode cX5_cleaner 50 = .ok (.if_icmp .ne 12, 3) := by decide +kernel
theorem dX5_cleaner_53 : decode cX5_cleaner 53 = .ok (.aload_n 0, 1) := by decide +kernel
theorem dX5_cleaner_54 : decode cX5_cleaner 54 = .ok (.getfield 66, 3) := by decide +kernel
theorem dX5_cleaner_57 : decode cX5_cleaner 57 = .ok (.iload_n 1, 1) := by decide +kernel
theorem dX5_cleaner_58 : decode cX5_cleaner 58 = .ok (.daload, 1) := by decide +kernel
theorem dX5_cleaner_59 : decode cX5_cleaner 59 = .ok (.goto 20, 3) := by decide +kernel
theorem dX5_cleaner_62 : decode cX5_cleaner 62 = .ok (.ldc2_w 97, 3) := by decide +kernel
theorem dX5_cleaner_65 : decode cX5_cleaner 65 = .ok (.aload_n 0, 1) := by decide +kernel
theorem dX5_cleaner_66 : decode cX5_cleaner 66 = .ok (.getfield 63, 3) := by decide +kernel
theorem dX5_cleaner_69 : decode cX5_cleaner 69 = .ok (.iload_n 1, 1) := by decide +kernel
theorem dX5_cleaner_70 : decode cX5_cleaner 70 = .ok (.daload, 1) := by decide +kernel
theorem dX5_cleaner_71 : decode cX5_cleaner 71 = .ok (.dsub, 1) := by decide +kernel
theorem dX5_cleaner_72 : decode cX5_cleaner 72 = .ok (.aload_n 0, 1) := by decide +kernel
theorem dX5_cleaner_73 : decode cX5_cleaner 73 = .ok (.getfield 66, 3) := by decide +kernel
theorem dX5_cleaner_76 : decode cX5_cleaner 76 = .ok (.iload_n 1, 1) := by decide +kernel
theorem dX5_cleaner_77 : decode cX5_cleaner 77 = .ok (.daload, 1) := by decide +kernel
theorem dX5_cleaner_78 : decode cX5_cleaner 78 = .ok (.dadd, 1) := by decide +kernel
theorem dX5_cleaner_79 : decode cX5_cleaner 79 = .ok (.dreturn, 1) := by decide +kernel
theorem dX5_interface2_0 : decode cX5_interface2 0 = .ok (.aload_n 0, 1) := by decide +kernel
theorem dX5_interface2_1 : decode cX5_interface2 1 = .ok (.iload_n 1, 1) := by decide +kernel
theorem dX5_interface2_2 : decode cX5_interface2 2 = .ok (.invokevirtual 103, 3) := by decide +kernel
theorem dX5_interface2_5 : decode cX5_interface2 5 = .ok (.ifCond .eq 31, 3) := by decide +kernel
theorem dX5_interface2_8 : decode cX5_interface2 8 = .ok (.dload_n 2, 1) := by decide +kernel
theorem dX5_interface2_9 : decode cX5_interface2 9 = .ok (.dconst 0, 1) := by decide +kernel
theorem dX5_interface2_10 : decode cX5_interface2 10 = .ok (.dcmp .l, 1) := by decide +kernel
theorem dX5_interface2_11 : decode cX5_interface2 11 = .ok (.ifCond .lt 25, 3) := by decide +kernel
theorem dX5_interface2_14 : decode cX5_interface2 14 = .ok (.dload_n 2, 1) := by decide +kernel
theorem dX5_interface2_15 : decode cX5_interface2 15 = .ok (.ldc2_w 82, 3) := by decide +kernel
theorem dX5_interface2_18 : decode cX5_interface2 18 = .ok (.dcmp .g, 1) := by decide +kernel
theorem dX5_interface2_19 : decode cX5_interface2 19 = .ok (.ifCond .gt 17, 3) := by decide +kernel
theorem dX5_interface2_22 : decode cX5_interface2 22 = .ok (.iload 4, 2) := by decide +kernel
theorem dX5_interface2_24 : decode cX5_interface2 24 = .ok (.iconst 1, 1) := by decide +kernel
theorem dX5_interface2_25 : decode cX5_interface2 25 = .ok (.if_icmp .lt 11, 3) := by decide +kernel
theorem dX5_interface2_28 : decode cX5_interface2 28 = .ok (.iload 4, 2) := by decide +kernel
theorem dX5_interface2_30 : decode cX5_interface2 30 = .ok (.sipush 600, 3) := by decide +kernel
theorem dX5_interface2_33 : decode cX5_interface2 33 = .ok (.if_icmp .le 5, 3) := by decide +kernel
theorem dX5_interface2_36 : decode cX5_interface2 36 = .ok (.iconst 0, 1) := by decide +kernel
theorem dX5_interface2_37 : decode cX5_interface2 37 = .ok (.ireturn, 1) := by decide +kernel
theorem dX5_interface2_38 : decode cX5_interface2 38 = .ok (.aload_n 0, 1) := by decide +kernel
theorem dX5_interface2_39 : decode cX5_interface2 39 = .ok (.getfield 54, 3) := by decide +kernel
theorem dX5_interface2_42 : decode cX5_interface2 42 = .ok (.iload_n 1, 1) := by decide +kernel
theorem dX5_interface2_43 : decode cX5_interface2 43 = .ok (.dload_n 2, 1) := by decide +kernel
theorem dX5_interface2_44 : decode cX5_interface2 44 = .ok (.dastore, 1) := by decide +kernel
theorem dX5_interface2_45 : decode cX5_interface2 45 = .ok (.aload_n 0, 1) := by decide +kernel
theorem dX5_interface2_46 : decode cX5_interface2 46 = .ok (.getfield 57, 3) := by decide +kernel
theorem dX5_interface2_49 : decode cX5_interface2 49 = .ok (.iload_n 1, 1) := by decide +kernel
theorem dX5_interface2_50 : decode cX5_interface2 50 = .ok (.iload 4, 2) := by decide +kernel
theorem dX5_interface2_52 : decode cX5_interface2 52 = .ok (.iastore, 1) := by decide +kernel
theorem dX5_interface2_53 : decode cX5_interface2 53 = .ok (.iconst 1, 1) := by decide +kernel
theorem dX5_interface2_54 : decode cX5_interface2 54 = .ok (.ireturn, 1) := by decide +kernel
theorem dX5_level_0 : decode cX5_level 0 = .ok (.aload_n 0, 1) := by decide +kernel
theorem dX5_level_1 : decode cX5_level 1 = .ok (.iload_n 1, 1) := by decide +kernel
theorem dX5_level_2 : decode cX5_level 2 = .ok (.invokevirtual 89, 3) := by decide +kernel
theorem dX5_level_5 : decode cX5_level 5 = .ok (.ifCond .ne 7, 3) := by decide +kernel
theorem dX5_level_8 : decode cX5_level 8 = .ok (.iconst (-1), 1) := by decide +kernel
theorem dX5_level_9 : decode cX5_level 9 = .ok (.goto 23, 3) := by decide +kernel
theorem dX5_level_12 : decode cX5_level 12 = .ok (.aload_n 0, 1) := by decide +kernel
theorem dX5_level_13 : decode cX5_level 13 = .ok (.getfield 36, 3) := by decide +kernel
theorem dX5_level_16 : decode cX5_level 16 = .ok (.iload_n 1, 1) := by decide +kernel
theorem dX5_level_17 : decode cX5_level 17 = .ok (.iaload, 1) := by decide +kernel
theorem dX5_level_18 : decode cX5_level 18 = .ok (.iconst 3, 1) := by decide +kernel
theorem dX5_level_19 : decode cX5_level 19 = .ok (.if_icmp .ne 12, 3) := by decide +kernel
theorem dX5_level_22 : decode cX5_level 22 = .ok (.aload_n 0, 1) := by decide +kernel
theorem dX5_level_23 : decode cX5_level 23 = .ok (.getfield 33, 3) := by decide +kernel
theorem dX5_level_26 : decode cX5_level 26 = .ok (.iload_n 1, 1) := by decide +kernel
theorem dX5_level_27 : decode cX5_level 27 = .ok (.iaload, 1) := by decide +kernel
theorem dX5_level_28 : decode cX5_level 28 = .ok (.goto 4, 3) := by decide +kernel
theorem dX5_level_31 : decode cX5_level 31 = .ok (.iconst 0, 1) := by decide +kernel
theorem dX5_level_32 : decode cX5_level 32 = .ok (.ireturn, 1) := by decide +kernel
theorem dX5_breakOff_0 : decode cX5_breakOff 0 = .ok (.aload_n 0, 1) := by decide +kernel
theorem dX5_breakOff_1 : decode cX5_breakOff 1 = .ok (.iload_n 1, 1) := by decide +kernel
theorem dX5_breakOff_2 : decode cX5_breakOff 2 = .ok (.invokevirtual 103, 3) := by decide +kernel
theorem dX5_breakOff_5 : decode cX5_breakOff 5 = .ok (.ifCond .ne 5, 3) := by decide +kernel
theorem dX5_breakOff_8 : decode cX5_breakOff 8 = .ok (.iconst 0, 1) := by decide +kernel
theorem dX5_breakOff_9 : decode cX5_breakOff 9 = .ok (.ireturn, 1) := by decide +kernel
theorem dX5_breakOff_10 : decode cX5_breakOff 10 = .ok (.aload_n 0, 1) := by decide +kernel
theorem dX5_breakOff_11 : decode cX5_breakOff 11 = .ok (.getfield 36, 3) := by decide +kernel
theorem dX5_breakOff_14 : decode cX5_breakOff 14 = .ok (.iload_n 1, 1) := by decide +kernel
theorem dX5_breakOff_15 : decode cX5_breakOff 15 = .ok (.iconst 4, 1) := by decide +kernel
theorem dX5_breakOff_16 : decode cX5_breakOff 16 = .ok (.iastore, 1) := by decide +kernel
theorem dX5_breakOff_17 : decode cX5_breakOff 17 = .ok (.aload_n 0, 1) := by decide +kernel
theorem dX5_breakOff_18 : decode cX5_breakOff 18 = .ok (.getfield 75, 3) := by decide +kernel
theorem dX5_breakOff_21 : decode cX5_breakOff 21 = .ok (.bipush 12, 2) := by decide +kernel
theorem dX5_breakOff_23 : decode cX5_breakOff 23 = .ok (.iload_n 1, 1) := by decide +kernel
theorem dX5_breakOff_24 : decode cX5_breakOff 24 = .ok (.imul, 1) := by decide +kernel
theorem dX5_breakOff_25 : decode cX5_breakOff 25 = .ok (.aload_n 0, 1) := by decide +kernel
theorem dX5_breakOff_26 : decode cX5_breakOff 26 = .ok (.getfield 39, 3) := by decide +kernel
theorem dX5_breakOff_29 : decode cX5_breakOff 29 = .ok (.iload_n 1, 1) := by decide +kernel
theorem dX5_breakOff_30 : decode cX5_breakOff 30 = .ok (.iaload, 1) := by decide +kernel
theorem dX5_breakOff_31 : decode cX5_breakOff 31 = .ok (.iadd, 1) := by decide +kernel
theorem dX5_breakOff_32 : decode cX5_breakOff 32 = .ok (.aload_n 0, 1) := by decide +kernel
theorem dX5_breakOff_33 : decode cX5_breakOff 33 = .ok (.getfield 42, 3) := by decide +kernel
theorem dX5_breakOff_36 : decode cX5_breakOff 36 = .ok (.iload_n 1, 1) := by decide +kernel
theorem dX5_breakOff_37 : decode cX5_breakOff 37 = .ok (.iaload, 1) := by decide +kernel
theorem dX5_breakOff_38 : decode cX5_breakOff 38 = .ok (.iastore, 1) := by decide +kernel
theorem dX5_breakOff_39 : decode cX5_breakOff 39 = .ok (.iconst 1, 1) := by decide +kernel
theorem dX5_breakOff_40 : decode cX5_breakOff 40 = .ok (.ireturn, 1) := by decide +kernel
theorem dX5_record_0 : decode cX5_record 0 = .ok (.aload_n 0, 1) := by decide +kernel
theorem dX5_record_1 : decode cX5_record 1 = .ok (.iload_n 1, 1) := by decide +kernel
theorem dX5_record_2 : decode cX5_record 2 = .ok (.invokevirtual 89, 3) := by decide +kernel
theorem dX5_record_5 : decode cX5_record 5 = .ok (.ifCond .eq 17, 3) := by decide +kernel
theorem dX5_record_8 : decode cX5_record 8 = .ok (.iload_n 2, 1) := by decide +kernel
theorem dX5_record_9 : decode cX5_record 9 = .ok (.ifCond .lt 13, 3) := by decide +kernel
theorem dX5_record_12 : decode cX5_record 12 = .ok (.iload_n 2, 1) := by decide +kernel
theorem dX5_record_13 : decode cX5_record 13 = .ok (.aload_n 0, 1) := by decide +kernel
theorem dX5_record_14 : decode cX5_record 14 = .ok (.getfield 39, 3) := by decide +kernel
theorem dX5_record_17 : decode cX5_record 17 = .ok (.iload_n 1, 1) := by decide +kernel
theorem dX5_record_18 : decode cX5_record 18 = .ok (.iaload, 1) := by decide +kernel
theorem dX5_record_19 : decode cX5_record 19 = .ok (.if_icmp .le 5, 3) := by decide +kernel
theorem dX5_record_22 : decode cX5_record 22 = .ok (.iconst (-1), 1) := by decide +kernel
theorem dX5_record_23 : decode cX5_record 23 = .ok (.ireturn, 1) := by decide +kernel
theorem dX5_record_24 : decode cX5_record 24 = .ok (.iload_n 3, 1) := by decide +kernel
theorem dX5_record_25 : decode cX5_record 25 = .ok (.tableswitch 84 0 3 #[31, 48, 60, 72], 31) := by decide +kernel
theorem dX5_record_56 : decode cX5_record 56 = .ok (.aload_n 0, 1) := by decide +kernel
theorem dX5_record_57 : decode cX5_record 57 = .ok (.getfield 17, 3) := by decide +kernel
theorem dX5_record_60 : decode cX5_record 60 = .ok (.bipush 12, 2) := by decide +kernel
theorem dX5_record_62 : decode cX5_record 62 = .ok (.aload_n 0, 1) := by decide +kernel
theorem dX5_record_63 : decode cX5_record 63 = .ok (.getfield 30, 3) := by decide +kernel
theorem dX5_record_66 : decode cX5_record 66 = .ok (.iload_n 1, 1) := by decide +kernel
theorem dX5_record_67 : decode cX5_record 67 = .ok (.iaload, 1) := by decide +kernel
theorem dX5_record_68 : decode cX5_record 68 = .ok (.imul, 1) := by decide +kernel
theorem dX5_record_69 : decode cX5_record 69 = .ok (.iload_n 2, 1) := by decide +kernel
theorem dX5_record_70 : decode cX5_record 70 = .ok (.iadd, 1) := by decide +kernel
theorem dX5_record_71 : decode cX5_record 71 = .ok (.iaload, 1) := by decide +kernel
theorem dX5_record_72 : decode cX5_record 72 = .ok (.ireturn, 1) := by decide +kernel
theorem dX5_record_73 : decode cX5_record 73 = .ok (.aload_n 0, 1) := by decide +kernel
theorem dX5_record_74 : decode cX5_record 74 = .ok (.getfield 69, 3) := by decide +kernel
theorem dX5_record_77 : decode cX5_record 77 = .ok (.bipush 12, 2) := by decide +kernel
theorem dX5_record_79 : decode cX5_record 79 = .ok (.iload_n 1, 1) := by decide +kernel
theorem dX5_record_80 : decode cX5_record 80 = .ok (.imul, 1) := by decide +kernel
theorem dX5_record_81 : decode cX5_record 81 = .ok (.iload_n 2, 1) := by decide +kernel
theorem dX5_record_82 : decode cX5_record 82 = .ok (.iadd, 1) := by decide +kernel
theorem dX5_record_83 : decode cX5_record 83 = .ok (.iaload, 1) := by decide +kernel
theorem dX5_record_84 : decode cX5_record 84 = .ok (.ireturn, 1) := by decide +kernel
theorem dX5_record_85 : decode cX5_record 85 = .ok (.aload_n 0, 1) := by decide +kernel
theorem dX5_record_86 : decode cX5_record 86 = .ok (.getfield 72, 3) := by decide +kernel
theorem dX5_record_89 : decode cX5_record 89 = .ok (.bipush 12, 2) := by decide +kernel
theorem dX5_record_91 : decode cX5_record 91 = .ok (.iload_n 1, 1) := by decide +kernel
theorem dX5_record_92 : decode cX5_record 92 = .ok (.imul, 1) := by decide +kernel
theorem dX5_record_93 : decode cX5_record 93 = .ok (.iload_n 2, 1) := by decide +kernel
theorem dX5_record_94 : decode cX5_record 94 = .ok (.iadd, 1) := by decide +kernel
theorem dX5_record_95 : decode cX5_record 95 = .ok (.iaload, 1) := by decide +kernel
theorem dX5_record_96 : decode cX5_record 96 = .ok (.ireturn, 1) := by decide +kernel
theorem dX5_record_97 : decode cX5_record 97 = .ok (.aload_n 0, 1) := by decide +kernel
theorem dX5_record_98 : decode cX5_record 98 = .ok (.getfield 75, 3) := by decide +kernel
theorem dX5_record_101 : decode cX5_record 101 = .ok (.bipush 12, 2) := by decide +kernel
theorem dX5_record_103 : decode cX5_record 103 = .ok (.iload_n 1, 1) := by decide +kernel
theorem dX5_record_104 : decode cX5_record 104 = .ok (.imul, 1) := by decide +kernel
theorem dX5_record_105 : decode cX5_record 105 = .ok (.iload_n 2, 1) := by decide +kernel
theorem dX5_record_106 : decode cX5_record 106 = .ok (.iadd, 1) := by decide +kernel
theorem dX5_record_107 : decode cX5_record 107 = .ok (.iaload, 1) := by decide +kernel
theorem dX5_record_108 : decode cX5_record 108 = .ok (.ireturn, 1) := by decide +kernel
theorem dX5_record_109 : decode cX5_record 109 = .ok (.iconst (-1), 1) := by decide +kernel
theorem dX5_record_110 : decode cX5_record 110 = .ok (.ireturn, 1) := by decide +kernel
theorem dX5_states_0 : decode cX5_states 0 = .ok (.iconst 5, 1) := by decide +kernel
theorem dX5_states_1 : decode cX5_states 1 = .ok (.ireturn, 1) := by decide +kernel
