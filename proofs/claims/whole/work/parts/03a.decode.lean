theorem dX0_init_0 : decode cX0_init 0 = .ok (.aload_n 0, 1) := by decide +kernel
theorem dX0_init_1 : decode cX0_init 1 = .ok (.invokespecial 3, 3) := by decide +kernel
theorem dX0_init_4 : decode cX0_init 4 = .ok (.aload_n 0, 1) := by decide +kernel
theorem dX0_init_5 : decode cX0_init 5 = .ok (.new 9, 3) := by decide +kernel
theorem dX0_init_8 : decode cX0_init 8 = .ok (.dup, 1) := by decide +kernel
theorem dX0_init_9 : decode cX0_init 9 = .ok (.invokespecial 11, 3) := by decide +kernel
theorem dX0_init_12 : decode cX0_init 12 = .ok (.putfield 12, 3) := by decide +kernel
theorem dX0_init_15 : decode cX0_init 15 = .ok (.aload_n 0, 1) := by decide +kernel
theorem dX0_init_16 : decode cX0_init 16 = .ok (.new 18, 3) := by decide +kernel
theorem dX0_init_19 : decode cX0_init 19 = .ok (.dup, 1) := by decide +kernel
theorem dX0_init_20 : decode cX0_init 20 = .ok (.invokespecial 20, 3) := by decide +kernel
theorem dX0_init_23 : decode cX0_init 23 = .ok (.putfield 21, 3) := by decide +kernel
theorem dX0_init_26 : decode cX0_init 26 = .ok (.aload_n 0, 1) := by decide +kernel
theorem dX0_init_27 : decode cX0_init 27 = .ok (.iconst 0, 1) := by decide +kernel
theorem dX0_init_28 : decode cX0_init 28 = .ok (.putfield 25, 3) := by decide +kernel
theorem dX0_init_31 : decode cX0_init 31 = .ok (.aload_n 0, 1) := by decide +kernel
theorem dX0_init_32 : decode cX0_init 32 = .ok (.iconst (-1), 1) := by decide +kernel
theorem dX0_init_33 : decode cX0_init 33 = .ok (.putfield 29, 3) := by decide +kernel
theorem dX0_init_36 : decode cX0_init 36 = .ok (.aload_n 0, 1) := by decide +kernel
theorem dX0_init_37 : decode cX0_init 37 = .ok (.iconst (-1), 1) := by decide +kernel
theorem dX0_init_38 : decode cX0_init 38 = .ok (.putfield 32, 3) := by decide +kernel
theorem dX0_init_41 : decode cX0_init 41 = .ok (.aload_n 0, 1) := by decide +kernel
theorem dX0_init_42 : decode cX0_init 42 = .ok (.iconst 0, 1) := by decide +kernel
theorem dX0_init_43 : decode cX0_init 43 = .ok (.putfield 35, 3) := by decide +kernel
theorem dX0_init_46 : decode cX0_init 46 = .ok (.aload_n 0, 1) := by decide +kernel
theorem dX0_init_47 : decode cX0_init 47 = .ok (.iconst 0, 1) := by decide +kernel
theorem dX0_init_48 : decode cX0_init 48 = .ok (.putfield 39, 3) := by decide +kernel
theorem dX0_init_51 : decode cX0_init 51 = .ok (.aload_n 0, 1) := by decide +kernel
theorem dX0_init_52 : decode cX0_init 52 = .ok (.iconst (-1), 1) := by decide +kernel
theorem dX0_init_53 : decode cX0_init 53 = .ok (.putfield 42, 3) := by decide +kernel
theorem dX0_init_56 : decode cX0_init 56 = .ok (.aload_n 0, 1) := by decide +kernel
theorem dX0_init_57 : decode cX0_init 57 = .ok (.iconst 0, 1) := by decide +kernel
theorem dX0_init_58 : decode cX0_init 58 = .ok (.putfield 45, 3) := by decide +kernel
theorem dX0_init_61 : decode cX0_init 61 = .ok (.return_, 1) := by decide +kernel
theorem dX0_copyFrom_0 : decode cX0_copyFrom 0 = .ok (.aload_n 0, 1) := by decide +kernel
theorem dX0_copyFrom_1 : decode cX0_copyFrom 1 = .ok (.getfield 12, 3) := by decide +kernel
theorem dX0_copyFrom_4 : decode cX0_copyFrom 4 = .ok (.aload_n 1, 1) := by decide +kernel
theorem dX0_copyFrom_5 : decode cX0_copyFrom 5 = .ok (.getfield 12, 3) := by decide +kernel
theorem dX0_copyFrom_8 : decode cX0_copyFrom 8 = .ok (.invokevirtual 48, 3) := by decide +kernel
theorem dX0_copyFrom_11 : decode cX0_copyFrom 11 = .ok (.aload_n 0, 1) := by decide +kernel
theorem dX0_copyFrom_12 : decode cX0_copyFrom 12 = .ok (.getfield 21, 3) := by decide +kernel
theorem dX0_copyFrom_15 : decode cX0_copyFrom 15 = .ok (.aload_n 1, 1) := by decide +kernel
theorem dX0_copyFrom_16 : decode cX0_copyFrom 16 = .ok (.getfield 21, 3) := by decide +kernel
theorem dX0_copyFrom_19 : decode cX0_copyFrom 19 = .ok (.invokevirtual 52, 3) := by decide +kernel
theorem dX0_copyFrom_22 : decode cX0_copyFrom 22 = .ok (.aload_n 0, 1) := by decide +kernel
theorem dX0_copyFrom_23 : decode cX0_copyFrom 23 = .ok (.aload_n 1, 1) := by decide +kernel
theorem dX0_copyFrom_24 : decode cX0_copyFrom 24 = .ok (.getfield 25, 3) := by decide +kernel
theorem dX0_copyFrom_27 : decode cX0_copyFrom 27 = .ok (.putfield 25, 3) := by decide +kernel
theorem dX0_copyFrom_30 : decode cX0_copyFrom 30 = .ok (.aload_n 0, 1) := by decide +kernel
theorem dX0_copyFrom_31 : decode cX0_copyFrom 31 = .ok (.aload_n 1, 1) := by decide +kernel
theorem dX0_copyFrom_32 : decode cX0_copyFrom 32 = .ok (.getfield 29, 3) := by decide +kernel
theorem dX0_copyFrom_35 : decode cX0_copyFrom 35 = .ok (.putfield 29, 3) := by decide +kernel
theorem dX0_copyFrom_38 : decode cX0_copyFrom 38 = .ok (.aload_n 0, 1) := by decide +kernel
theorem dX0_copyFrom_39 : decode cX0_copyFrom 39 = .ok (.aload_n 1, 1) := by decide +kernel
theorem dX0_copyFrom_40 : decode cX0_copyFrom 40 = .ok (.getfield 32, 3) := by decide +kernel
theorem dX0_copyFrom_43 : decode cX0_copyFrom 43 = .ok (.putfield 32, 3) := by decide +kernel
theorem dX0_copyFrom_46 : decode cX0_copyFrom 46 = .ok (.aload_n 0, 1) := by decide +kernel
theorem dX0_copyFrom_47 : decode cX0_copyFrom 47 = .ok (.aload_n 1, 1) := by decide +kernel
theorem dX0_copyFrom_48 : decode cX0_copyFrom 48 = .ok (.getfield 35, 3) := by decide +kernel
theorem dX0_copyFrom_51 : decode cX0_copyFrom 51 = .ok (.putfield 35, 3) := by decide +kernel
theorem dX0_copyFrom_54 : decode cX0_copyFrom 54 = .ok (.aload_n 0, 1) := by decide +kernel
theorem dX0_copyFrom_55 : decode cX0_copyFrom 55 = .ok (.aload_n 1, 1) := by decide +kernel
theorem dX0_copyFrom_56 : decode cX0_copyFrom 56 = .ok (.getfield 39, 3) := by decide +kernel
theorem dX0_copyFrom_59 : decode cX0_copyFrom 59 = .ok (.putfield 39, 3) := by decide +kernel
theorem dX0_copyFrom_62 : decode cX0_copyFrom 62 = .ok (.aload_n 0, 1) := by decide +kernel
theorem dX0_copyFrom_63 : decode cX0_copyFrom 63 = .ok (.aload_n 1, 1) := by decide +kernel
theorem dX0_copyFrom_64 : decode cX0_copyFrom 64 = .ok (.getfield 42, 3) := by decide +kernel
theorem dX0_copyFrom_67 : decode cX0_copyFrom 67 = .ok (.putfield 42, 3) := by decide +kernel
theorem dX0_copyFrom_70 : decode cX0_copyFrom 70 = .ok (.aload_n 0, 1) := by decide +kernel
theorem dX0_copyFrom_71 : decode cX0_copyFrom 71 = .ok (.aload_n 1, 1) := by decide +kernel
theorem dX0_copyFrom_72 : decode cX0_copyFrom 72 = .ok (.getfield 45, 3) := by decide +kernel
theorem dX0_copyFrom_75 : decode cX0_copyFrom 75 = .ok (.putfield 45, 3) := by decide +kernel
theorem dX0_copyFrom_78 : decode cX0_copyFrom 78 = .ok (.return_, 1) := by decide +kernel
theorem dX0_switchMode_0 : decode cX0_switchMode 0 = .ok (.iload_n 1, 1) := by decide +kernel
theorem dX0_switchMode_1 : decode cX0_switchMode 1 = .ok (.iconst 0, 1) := by decide +kernel
theorem dX0_switchMode_2 : decode cX0_switchMode 2 = .ok (.iconst 1, 1) := by decide +kernel
theorem dX0_switchMode_3 : decode cX0_switchMode 3 = .ok (.invokestatic 55, 3) := by decide +kernel
theorem dX0_switchMode_6 : decode cX0_switchMode 6 = .ok (.ifCond .ne 6, 3) := by decide +kernel
theorem dX0_switchMode_9 : decode cX0_switchMode 9 = .ok (.bipush (-2), 2) := by decide +kernel
theorem dX0_switchMode_11 : decode cX0_switchMode 11 = .ok (.ireturn, 1) := by decide +kernel
theorem dX0_switchMode_12 : decode cX0_switchMode 12 = .ok (.aload_n 0, 1) := by decide +kernel
theorem dX0_switchMode_13 : decode cX0_switchMode 13 = .ok (.getfield 39, 3) := by decide +kernel
theorem dX0_switchMode_16 : decode cX0_switchMode 16 = .ok (.istore_n 2, 1) := by decide +kernel
theorem dX0_switchMode_17 : decode cX0_switchMode 17 = .ok (.aload_n 0, 1) := by decide +kernel
theorem dX0_switchMode_18 : decode cX0_switchMode 18 = .ok (.invokevirtual 59, 3) := by decide +kernel
theorem dX0_switchMode_21 : decode cX0_switchMode 21 = .ok (.pop, 1) := by decide +kernel
theorem dX0_switchMode_22 : decode cX0_switchMode 22 = .ok (.aload_n 0, 1) := by decide +kernel
theorem dX0_switchMode_23 : decode cX0_switchMode 23 = .ok (.iload_n 1, 1) := by decide +kernel
theorem dX0_switchMode_24 : decode cX0_switchMode 24 = .ok (.putfield 39, 3) := by decide +kernel
theorem dX0_switchMode_27 : decode cX0_switchMode 27 = .ok (.iload_n 2, 1) := by decide +kernel
theorem dX0_switchMode_28 : decode cX0_switchMode 28 = .ok (.ireturn, 1) := by decide +kernel
theorem dX0_restart_0 : decode cX0_restart 0 = .ok (.aload_n 0, 1) := by decide +kernel
theorem dX0_restart_1 : decode cX0_restart 1 = .ok (.getfield 25, 3) := by decide +kernel
theorem dX0_restart_4 : decode cX0_restart 4 = .ok (.istore_n 1, 1) := by decide +kernel
theorem dX0_restart_5 : decode cX0_restart 5 = .ok (.aload_n 0, 1) := by decide +kernel
theorem dX0_restart_6 : decode cX0_restart 6 = .ok (.iconst 0, 1) := by decide +kernel
theorem dX0_restart_7 : decode cX0_restart 7 = .ok (.putfield 25, 3) := by decide +kernel
theorem dX0_restart_10 : decode cX0_restart 10 = .ok (.aload_n 0, 1) := by decide +kernel
theorem dX0_restart_11 : decode cX0_restart 11 = .ok (.iconst (-1), 1) := by decide +kernel
theorem dX0_restart_12 : decode cX0_restart 12 = .ok (.putfield 29, 3) := by decide +kernel
theorem dX0_restart_15 : decode cX0_restart 15 = .ok (.aload_n 0, 1) := by decide +kernel
theorem dX0_restart_16 : decode cX0_restart 16 = .ok (.iconst (-1), 1) := by decide +kernel
theorem dX0_restart_17 : decode cX0_restart 17 = .ok (.putfield 32, 3) := by decide +kernel
theorem dX0_restart_20 : decode cX0_restart 20 = .ok (.aload_n 0, 1) := by decide +kernel
theorem dX0_restart_21 : decode cX0_restart 21 = .ok (.iconst 0, 1) := by decide +kernel
theorem dX0_restart_22 : decode cX0_restart 22 = .ok (.putfield 35, 3) := by decide +kernel
theorem dX0_restart_25 : decode cX0_restart 25 = .ok (.iload_n 1, 1) := by decide +kernel
theorem dX0_restart_26 : decode cX0_restart 26 = .ok (.ireturn, 1) := by decide +kernel
theorem dX0_leaveFamily_0 : decode cX0_leaveFamily 0 = .ok (.aload_n 0, 1) := by decide +kernel
theorem dX0_leaveFamily_1 : decode cX0_leaveFamily 1 = .ok (.aload_n 0, 1) := by decide +kernel
theorem dX0_leaveFamily_2 : decode cX0_leaveFamily 2 = .ok (.getfield 32, 3) := by decide +kernel
theorem dX0_leaveFamily_5 : decode cX0_leaveFamily 5 = .ok (.putfield 29, 3) := by decide +kernel
theorem dX0_leaveFamily_8 : decode cX0_leaveFamily 8 = .ok (.aload_n 0, 1) := by decide +kernel
theorem dX0_leaveFamily_9 : decode cX0_leaveFamily 9 = .ok (.iconst (-1), 1) := by decide +kernel
theorem dX0_leaveFamily_10 : decode cX0_leaveFamily 10 = .ok (.putfield 32, 3) := by decide +kernel
theorem dX0_leaveFamily_13 : decode cX0_leaveFamily 13 = .ok (.aload_n 0, 1) := by decide +kernel
theorem dX0_leaveFamily_14 : decode cX0_leaveFamily 14 = .ok (.getfield 29, 3) := by decide +kernel
theorem dX0_leaveFamily_17 : decode cX0_leaveFamily 17 = .ok (.iconst (-1), 1) := by decide +kernel
theorem dX0_leaveFamily_18 : decode cX0_leaveFamily 18 = .ok (.if_icmp .ne 8, 3) := by decide +kernel
theorem dX0_leaveFamily_21 : decode cX0_leaveFamily 21 = .ok (.aload_n 0, 1) := by decide +kernel
theorem dX0_leaveFamily_22 : decode cX0_leaveFamily 22 = .ok (.iconst 1, 1) := by decide +kernel
theorem dX0_leaveFamily_23 : decode cX0_leaveFamily 23 = .ok (.putfield 35, 3) := by decide +kernel
theorem dX0_leaveFamily_26 : decode cX0_leaveFamily 26 = .ok (.aload_n 0, 1) := by decide +kernel
theorem dX0_leaveFamily_27 : decode cX0_leaveFamily 27 = .ok (.getfield 29, 3) := by decide +kernel
theorem dX0_leaveFamily_30 : decode cX0_leaveFamily 30 = .ok (.ireturn, 1) := by decide +kernel
theorem dX0_aimAtFamily_0 : decode cX0_aimAtFamily 0 = .ok (.iload_n 1, 1) := by decide +kernel
theorem dX0_aimAtFamily_1 : decode cX0_aimAtFamily 1 = .ok (.iconst 0, 1) := by decide +kernel
theorem dX0_aimAtFamily_2 : decode cX0_aimAtFamily 2 = .ok (.bipush 15, 2) := by decide +kernel
theorem dX0_aimAtFamily_4 : decode cX0_aimAtFamily 4 = .ok (.invokestatic 55, 3) := by decide +kernel
theorem dX0_aimAtFamily_7 : decode cX0_aimAtFamily 7 = .ok (.ifCond .ne 6, 3) := by decide +kernel
theorem dX0_aimAtFamily_10 : decode cX0_aimAtFamily 10 = .ok (.bipush (-2), 2) := by decide +kernel
theorem dX0_aimAtFamily_12 : decode cX0_aimAtFamily 12 = .ok (.ireturn, 1) := by decide +kernel
theorem dX0_aimAtFamily_13 : decode cX0_aimAtFamily 13 = .ok (.aload_n 0, 1) := by decide +kernel
theorem dX0_aimAtFamily_14 : decode cX0_aimAtFamily 14 = .ok (.invokevirtual 59, 3) := by decide +kernel
theorem dX0_aimAtFamily_17 : decode cX0_aimAtFamily 17 = .ok (.pop, 1) := by decide +kernel
theorem dX0_aimAtFamily_18 : decode cX0_aimAtFamily 18 = .ok (.aload_n 0, 1) := by decide +kernel
theorem dX0_aimAtFamily_19 : decode cX0_aimAtFamily 19 = .ok (.iload_n 1, 1) := by decide +kernel
theorem dX0_aimAtFamily_20 : decode cX0_aimAtFamily 20 = .ok (.putfield 25, 3) := by decide +kernel
theorem dX0_aimAtFamily_23 : decode cX0_aimAtFamily 23 = .ok (.aload_n 0, 1) := by decide +kernel
theorem dX0_aimAtFamily_24 : decode cX0_aimAtFamily 24 = .ok (.bipush 16, 2) := by decide +kernel
theorem dX0_aimAtFamily_26 : decode cX0_aimAtFamily 26 = .ok (.putfield 29, 3) := by decide +kernel
theorem dX0_aimAtFamily_29 : decode cX0_aimAtFamily 29 = .ok (.aload_n 0, 1) := by decide +kernel
theorem dX0_aimAtFamily_30 : decode cX0_aimAtFamily 30 = .ok (.getfield 25, 3) := by decide +kernel
theorem dX0_aimAtFamily_33 : decode cX0_aimAtFamily 33 = .ok (.ireturn, 1) := by decide +kernel
theorem dX0_disturb_0 : decode cX0_disturb 0 = .ok (.iload_n 1, 1) := by decide +kernel
theorem dX0_disturb_1 : decode cX0_disturb 1 = .ok (.iconst (-1), 1) := by decide +kernel
theorem dX0_disturb_2 : decode cX0_disturb 2 = .ok (.bipush 31, 2) := by decide +kernel
theorem dX0_disturb_4 : decode cX0_disturb 4 = .ok (.invokestatic 55, 3) := by decide +kernel
theorem dX0_disturb_7 : decode cX0_disturb 7 = .ok (.ifCond .ne 6, 3) := by decide +kernel
theorem dX0_disturb_10 : decode cX0_disturb 10 = .ok (.bipush (-2), 2) := by decide +kernel
theorem dX0_disturb_12 : decode cX0_disturb 12 = .ok (.ireturn, 1) := by decide +kernel
theorem dX0_disturb_13 : decode cX0_disturb 13 = .ok (.aload_n 0, 1) := by decide +kernel
theorem dX0_disturb_14 : decode cX0_disturb 14 = .ok (.getfield 42, 3) := by decide +kernel
theorem dX0_disturb_17 : decode cX0_disturb 17 = .ok (.istore_n 2, 1) := by decide +kernel
theorem dX0_disturb_18 : decode cX0_disturb 18 = .ok (.aload_n 0, 1) := by decide +kernel
theorem dX0_disturb_19 : decode cX0_disturb 19 = .ok (.iload_n 1, 1) := by decide +kernel
theorem dX0_disturb_20 : decode cX0_disturb 20 = .ok (.putfield 42, 3) := by decide +kernel
theorem dX0_disturb_23 : decode cX0_disturb 23 = .ok (.iload_n 2, 1) := by decide +kernel
theorem dX0_disturb_24 : decode cX0_disturb 24 = .ok (.ireturn, 1) := by decide +kernel
theorem dX0_searchPass_0 : decode cX0_searchPass 0 = .ok (.aload_n 0, 1) := by decide +kernel
theorem dX0_searchPass_1 : decode cX0_searchPass 1 = .ok (.getfield 35, 3) := by decide +kernel
theorem dX0_searchPass_4 : decode cX0_searchPass 4 = .ok (.ifCond .eq 10, 3) := by decide +kernel
theorem dX0_searchPass_7 : decode cX0_searchPass 7 = .ok (.aload_n 0, 1) := by decide +kernel
theorem dX0_searchPass_8 : decode cX0_searchPass 8 = .ok (.bipush (-8), 2) := by decide +kernel
theorem dX0_searchPass_10 : decode cX0_searchPass 10 = .ok (.invokevirtual 63, 3) := by decide +kernel
theorem dX0_searchPass_13 : decode cX0_searchPass 13 = .ok (.ireturn, 1) := by decide +kernel
theorem dX0_searchPass_14 : decode cX0_searchPass 14 = .ok (.aload_n 0, 1) := by decide +kernel
theorem dX0_searchPass_15 : decode cX0_searchPass 15 = .ok (.getfield 12, 3) := by decide +kernel
theorem dX0_searchPass_18 : decode cX0_searchPass 18 = .ok (.getfield 67, 3) := by decide +kernel
theorem dX0_searchPass_21 : decode cX0_searchPass 21 = .ok (.ifCond .ne 10, 3) := by decide +kernel
theorem dX0_searchPass_24 : decode cX0_searchPass 24 = .ok (.aload_n 0, 1) := by decide +kernel
theorem dX0_searchPass_25 : decode cX0_searchPass 25 = .ok (.bipush (-5), 2) := by decide +kernel
theorem dX0_searchPass_27 : decode cX0_searchPass 27 = .ok (.invokevirtual 63, 3) := by decide +kernel
theorem dX0_searchPass_30 : decode cX0_searchPass 30 = .ok (.ireturn, 1) := by decide +kernel
theorem dX0_searchPass_31 : decode cX0_searchPass 31 = .ok (.aload_n 0, 1) := by decide +kernel
theorem dX0_searchPass_32 : decode cX0_searchPass 32 = .ok (.getfield 39, 3) := by decide +kernel
theorem dX0_searchPass_35 : decode cX0_searchPass 35 = .ok (.ifCond .ne 13, 3) := by decide +kernel
theorem dX0_searchPass_38 : decode cX0_searchPass 38 = .ok (.aload_n 0, 1) := by decide +kernel
theorem dX0_searchPass_39 : decode cX0_searchPass 39 = .ok (.getfield 12, 3) := by decide +kernel
theorem dX0_searchPass_42 : decode cX0_searchPass 42 = .ok (.invokevirtual 70, 3) := by decide +kernel
theorem dX0_searchPass_45 : decode cX0_searchPass 45 = .ok (.goto 10, 3) := by decide +kernel
theorem dX0_searchPass_48 : decode cX0_searchPass 48 = .ok (.aload_n 0, 1) := by decide +kernel
theorem dX0_searchPass_49 : decode cX0_searchPass 49 = .ok (.getfield 12, 3) := by decide +kernel
theorem dX0_searchPass_52 : decode cX0_searchPass 52 = .ok (.invokevirtual 73, 3) := by decide +kernel
theorem dX0_searchPass_55 : decode cX0_searchPass 55 = .ok (.istore_n 1, 1) := by decide +kernel
theorem dX0_searchPass_56 : decode cX0_searchPass 56 = .ok (.iconst (-1), 1) := by decide +kernel
theorem dX0_searchPass_57 : decode cX0_searchPass 57 = .ok (.istore_n 2, 1) := by decide +kernel
theorem dX0_searchPass_58 : decode cX0_searchPass 58 = .ok (.iconst 0, 1) := by decide +kernel
theorem dX0_searchPass_59 : decode cX0_searchPass 59 = .ok (.istore_n 3, 1) := by decide +kernel
theorem dX0_searchPass_60 : decode cX0_searchPass 60 = .ok (.iload_n 3, 1) := by decide +kernel
theorem dX0_searchPass_61 : decode cX0_searchPass 61 = .ok (.bipush 16, 2) := by decide +kernel
theorem dX0_searchPass_63 : decode cX0_searchPass 63 = .ok (.if_icmp .ge 139, 3) := by decide +kernel
theorem dX0_searchPass_66 : decode cX0_searchPass 66 = .ok (.aload_n 0, 1) := by decide +kernel
theorem dX0_searchPass_67 : decode cX0_searchPass 67 = .ok (.getfield 12, 3) := by decide +kernel
theorem dX0_searchPass_70 : decode cX0_searchPass 70 = .ok (.iload_n 3, 1) := by decide +kernel
theorem dX0_searchPass_71 : decode cX0_searchPass 71 = .ok (.invokevirtual 76, 3) := by decide +kernel
theorem dX0_searchPass_74 : decode cX0_searchPass 74 = .ok (.istore 4, 2) := by decide +kernel
theorem dX0_searchPass_76 : decode cX0_searchPass 76 = .ok (.aload_n 0, 1) := by decide +kernel
theorem dX0_searchPass_77 : decode cX0_searchPass 77 = .ok (.iload_n 1, 1) := by decide +kernel
theorem dX0_searchPass_78 : decode cX0_searchPass 78 = .ok (.iload 4, 2) := by decide +kernel
theorem dX0_searchPass_80 : decode cX0_searchPass 80 = .ok (.iconst (-1), 1) := by decide +kernel
theorem dX0_searchPass_81 : decode cX0_searchPass 81 = .ok (.ixor, 1) := by decide +kernel
theorem dX0_searchPass_82 : decode cX0_searchPass 82 = .ok (.iand, 1) := by decide +kernel
theorem dX0_searchPass_83 : decode cX0_searchPass 83 = .ok (.ifCond .ne 7, 3) := by decide +kernel
theorem dX0_searchPass_86 : decode cX0_searchPass 86 = .ok (.iconst 1, 1) := by decide +kernel
theorem dX0_searchPass_87 : decode cX0_searchPass 87 = .ok (.goto 4, 3) := by decide +kernel
theorem dX0_searchPass_90 : decode cX0_searchPass 90 = .ok (.iconst 0, 1) := by decide +kernel
theorem dX0_searchPass_91 : decode cX0_searchPass 91 = .ok (.iconst 2, 1) := by decide +kernel
theorem dX0_searchPass_92 : decode cX0_searchPass 92 = .ok (.iload_n 3, 1) := by decide +kernel
theorem dX0_searchPass_93 : decode cX0_searchPass 93 = .ok (.imul, 1) := by decide +kernel
theorem dX0_searchPass_94 : decode cX0_searchPass 94 = .ok (.invokevirtual 79, 3) := by decide +kernel
theorem dX0_searchPass_97 : decode cX0_searchPass 97 = .ok (.istore 5, 2) := by decide +kernel
theorem dX0_searchPass_99 : decode cX0_searchPass 99 = .ok (.aload_n 0, 1) := by decide +kernel
theorem dX0_searchPass_100 : decode cX0_searchPass 100 = .ok (.iload_n 1, 1) := by decide +kernel
theorem dX0_searchPass_101 : decode cX0_searchPass 101 = .ok (.iload 4, 2) := by decide +kernel
theorem dX0_searchPass_103 : decode cX0_searchPass 103 = .ok (.iand, 1) := by decide +kernel
theorem dX0_searchPass_104 : decode cX0_searchPass 104 = .ok (.ifCond .ne 7, 3) := by decide +kernel
theorem dX0_searchPass_107 : decode cX0_searchPass 107 = .ok (.iconst 1, 1) := by decide +kernel
theorem dX0_searchPass_108 : decode cX0_searchPass 108 = .ok (.goto 4, 3) := by decide +kernel
theorem dX0_searchPass_111 : decode cX0_searchPass 111 = .ok (.iconst 0, 1) := by decide +kernel
theorem dX0_searchPass_112 : decode cX0_searchPass 112 = .ok (.iconst 2, 1) := by decide +kernel
theorem dX0_searchPass_113 : decode cX0_searchPass 113 = .ok (.iload_n 3, 1) := by decide +kernel
theorem dX0_searchPass_114 : decode cX0_searchPass 114 = .ok (.imul, 1) := by decide +kernel
theorem dX0_searchPass_115 : decode cX0_searchPass 115 = .ok (.iconst 1, 1) := by decide +kernel
theorem dX0_searchPass_116 : decode cX0_searchPass 116 = .ok (.iadd, 1) := by decide +kernel
theorem dX0_searchPass_117 : decode cX0_searchPass 117 = .ok (.invokevirtual 79, 3) := by decide +kernel
theorem dX0_searchPass_120 : decode cX0_searchPass 120 = .ok (.istore 6, 2) := by decide +kernel
theorem dX0_searchPass_122 : decode cX0_searchPass 122 = .ok (.iload 5, 2) := by decide +kernel
theorem dX0_searchPass_124 : decode cX0_searchPass 124 = .ok (.iconst 1, 1) := by decide +kernel
theorem dX0_searchPass_125 : decode cX0_searchPass 125 = .ok (.if_icmp .ne 16, 3) := by decide +kernel
theorem dX0_searchPass_128 : decode cX0_searchPass 128 = .ok (.iload 6, 2) := by decide +kernel
theorem dX0_searchPass_130 : decode cX0_searchPass 130 = .ok (.iconst 1, 1) := by decide +kernel
theorem dX0_searchPass_131 : decode cX0_searchPass 131 = .ok (.if_icmp .ne 10, 3) := by decide +kernel
theorem dX0_searchPass_134 : decode cX0_searchPass 134 = .ok (.aload_n 0, 1) := by decide +kernel
theorem dX0_searchPass_135 : decode cX0_searchPass 135 = .ok (.bipush (-6), 2) := by decide +kernel
theorem dX0_searchPass_137 : decode cX0_searchPass 137 = .ok (.invokevirtual 63, 3) := by decide +kernel
theorem dX0_searchPass_140 : decode cX0_searchPass 140 = .ok (.ireturn, 1) := by decide +kernel
theorem dX0_searchPass_141 : decode cX0_searchPass 141 = .ok (.iload 5, 2) := by decide +kernel
theorem dX0_searchPass_143 : decode cX0_searchPass 143 = .ok (.istore 7, 2) := by decide +kernel
theorem dX0_searchPass_145 : decode cX0_searchPass 145 = .ok (.iload 5, 2) := by decide +kernel
theorem dX0_searchPass_147 : decode cX0_searchPass 147 = .ok (.iload 6, 2) := by decide +kernel
theorem dX0_searchPass_149 : decode cX0_searchPass 149 = .ok (.if_icmp .ne 22, 3) := by decide +kernel
theorem dX0_searchPass_152 : decode cX0_searchPass 152 = .ok (.aload_n 0, 1) := by decide +kernel
theorem dX0_searchPass_153 : decode cX0_searchPass 153 = .ok (.iload_n 3, 1) := by decide +kernel
theorem dX0_searchPass_154 : decode cX0_searchPass 154 = .ok (.invokevirtual 83, 3) := by decide +kernel
theorem dX0_searchPass_157 : decode cX0_searchPass 157 = .ok (.istore 7, 2) := by decide +kernel
theorem dX0_searchPass_159 : decode cX0_searchPass 159 = .ok (.iload 7, 2) := by decide +kernel
theorem dX0_searchPass_161 : decode cX0_searchPass 161 = .ok (.ifCond .ne 10, 3) := by decide +kernel
theorem dX0_searchPass_164 : decode cX0_searchPass 164 = .ok (.iload_n 3, 1) := by decide +kernel
theorem dX0_searchPass_165 : decode cX0_searchPass 165 = .ok (.istore_n 2, 1) := by decide +kernel
theorem dX0_searchPass_166 : decode cX0_searchPass 166 = .ok (.aload_n 0, 1) := by decide +kernel
theorem dX0_searchPass_167 : decode cX0_searchPass 167 = .ok (.iload_n 3, 1) := by decide +kernel
theorem dX0_searchPass_168 : decode cX0_searchPass 168 = .ok (.invokevirtual 86, 3) := by decide +kernel
theorem dX0_searchPass_171 : decode cX0_searchPass 171 = .ok (.aload_n 0, 1) := by decide +kernel
theorem dX0_searchPass_172 : decode cX0_searchPass 172 = .ok (.iload 7, 2) := by decide +kernel
theorem dX0_searchPass_174 : decode cX0_searchPass 174 = .ok (.iload_n 3, 1) := by decide +kernel
theorem dX0_searchPass_175 : decode cX0_searchPass 175 = .ok (.invokevirtual 90, 3) := by decide +kernel
theorem dX0_searchPass_178 : decode cX0_searchPass 178 = .ok (.iload_n 1, 1) := by decide +kernel
theorem dX0_searchPass_179 : decode cX0_searchPass 179 = .ok (.iload 7, 2) := by decide +kernel
theorem dX0_searchPass_181 : decode cX0_searchPass 181 = .ok (.iconst 1, 1) := by decide +kernel
theorem dX0_searchPass_182 : decode cX0_searchPass 182 = .ok (.if_icmp .ne 8, 3) := by decide +kernel
theorem dX0_searchPass_185 : decode cX0_searchPass 185 = .ok (.iload 4, 2) := by decide +kernel
theorem dX0_searchPass_187 : decode cX0_searchPass 187 = .ok (.goto 7, 3) := by decide +kernel
theorem dX0_searchPass_190 : decode cX0_searchPass 190 = .ok (.iload 4, 2) := by decide +kernel
theorem dX0_searchPass_192 : decode cX0_searchPass 192 = .ok (.iconst (-1), 1) := by decide +kernel
theorem dX0_searchPass_193 : decode cX0_searchPass 193 = .ok (.ixor, 1) := by decide +kernel
theorem dX0_searchPass_194 : decode cX0_searchPass 194 = .ok (.iand, 1) := by decide +kernel
theorem dX0_searchPass_195 : decode cX0_searchPass 195 = .ok (.istore_n 1, 1) := by decide +kernel
theorem dX0_searchPass_196 : decode cX0_searchPass 196 = .ok (.iinc 3 1, 3) := by decide +kernel
theorem dX0_searchPass_199 : decode cX0_searchPass 199 = .ok (.goto (-139), 3) := by decide +kernel
theorem dX0_searchPass_202 : decode cX0_searchPass 202 = .ok (.aload_n 0, 1) := by decide +kernel
theorem dX0_searchPass_203 : decode cX0_searchPass 203 = .ok (.iload_n 2, 1) := by decide +kernel
theorem dX0_searchPass_204 : decode cX0_searchPass 204 = .ok (.putfield 29, 3) := by decide +kernel
theorem dX0_searchPass_207 : decode cX0_searchPass 207 = .ok (.aload_n 0, 1) := by decide +kernel
theorem dX0_searchPass_208 : decode cX0_searchPass 208 = .ok (.iload_n 2, 1) := by decide +kernel
theorem dX0_searchPass_209 : decode cX0_searchPass 209 = .ok (.iconst (-1), 1) := by decide +kernel
theorem dX0_searchPass_210 : decode cX0_searchPass 210 = .ok (.if_icmp .ne 7, 3) := by decide +kernel
theorem dX0_searchPass_213 : decode cX0_searchPass 213 = .ok (.iconst 1, 1) := by decide +kernel
theorem dX0_searchPass_214 : decode cX0_searchPass 214 = .ok (.goto 4, 3) := by decide +kernel
theorem dX0_searchPass_217 : decode cX0_searchPass 217 = .ok (.iconst 0, 1) := by decide +kernel
theorem dX0_searchPass_218 : decode cX0_searchPass 218 = .ok (.putfield 35, 3) := by decide +kernel
theorem dX0_searchPass_221 : decode cX0_searchPass 221 = .ok (.aload_n 0, 1) := by decide +kernel
theorem dX0_searchPass_222 : decode cX0_searchPass 222 = .ok (.getfield 25, 3) := by decide +kernel
theorem dX0_searchPass_225 : decode cX0_searchPass 225 = .ok (.sipush 4095, 3) := by decide +kernel
theorem dX0_searchPass_228 : decode cX0_searchPass 228 = .ok (.iand, 1) := by decide +kernel
theorem dX0_searchPass_229 : decode cX0_searchPass 229 = .ok (.invokestatic 94, 3) := by decide +kernel
theorem dX0_searchPass_232 : decode cX0_searchPass 232 = .ok (.aload_n 0, 1) := by decide +kernel
theorem dX0_searchPass_233 : decode cX0_searchPass 233 = .ok (.getfield 25, 3) := by decide +kernel
theorem dX0_searchPass_236 : decode cX0_searchPass 236 = .ok (.bipush 12, 2) := by decide +kernel
theorem dX0_searchPass_238 : decode cX0_searchPass 238 = .ok (.ishr, 1) := by decide +kernel
theorem dX0_searchPass_239 : decode cX0_searchPass 239 = .ok (.if_icmp .eq 10, 3) := by decide +kernel
theorem dX0_searchPass_242 : decode cX0_searchPass 242 = .ok (.aload_n 0, 1) := by decide +kernel
theorem dX0_searchPass_243 : decode cX0_searchPass 243 = .ok (.bipush (-7), 2) := by decide +kernel
theorem dX0_searchPass_245 : decode cX0_searchPass 245 = .ok (.invokevirtual 63, 3) := by decide +kernel
theorem dX0_searchPass_248 : decode cX0_searchPass 248 = .ok (.ireturn, 1) := by decide +kernel
theorem dX0_searchPass_249 : decode cX0_searchPass 249 = .ok (.aload_n 0, 1) := by decide +kernel
theorem dX0_searchPass_250 : decode cX0_searchPass 250 = .ok (.getfield 21, 3) := by decide +kernel
theorem dX0_searchPass_253 : decode cX0_searchPass 253 = .ok (.aload_n 0, 1) := by decide +kernel
theorem dX0_searchPass_254 : decode cX0_searchPass 254 = .ok (.getfield 25, 3) := by decide +kernel
theorem dX0_searchPass_257 : decode cX0_searchPass 257 = .ok (.invokevirtual 97, 3) := by decide +kernel
theorem dX0_searchPass_260 : decode cX0_searchPass 260 = .ok (.aload_n 0, 1) := by decide +kernel
theorem dX0_searchPass_261 : decode cX0_searchPass 261 = .ok (.getfield 25, 3) := by decide +kernel
theorem dX0_searchPass_264 : decode cX0_searchPass 264 = .ok (.ireturn, 1) := by decide +kernel
theorem dX0_mixInto_0 : decode cX0_mixInto 0 = .ok (.aload_n 0, 1) := by decide +kernel
theorem dX0_mixInto_1 : decode cX0_mixInto 1 = .ok (.getfield 12, 3) := by decide +kernel
theorem dX0_mixInto_4 : decode cX0_mixInto 4 = .ok (.lload_n 1, 1) := by decide +kernel
theorem dX0_mixInto_5 : decode cX0_mixInto 5 = .ok (.invokevirtual 100, 3) := by decide +kernel
theorem dX0_mixInto_8 : decode cX0_mixInto 8 = .ok (.lstore_n 3, 1) := by decide +kernel
theorem dX0_mixInto_9 : decode cX0_mixInto 9 = .ok (.lload_n 3, 1) := by decide +kernel
theorem dX0_mixInto_10 : decode cX0_mixInto 10 = .ok (.aload_n 0, 1) := by decide +kernel
theorem dX0_mixInto_11 : decode cX0_mixInto 11 = .ok (.getfield 25, 3) := by decide +kernel
theorem dX0_mixInto_14 : decode cX0_mixInto 14 = .ok (.invokestatic 104, 3) := by decide +kernel
theorem dX0_mixInto_17 : decode cX0_mixInto 17 = .ok (.lstore_n 3, 1) := by decide +kernel
theorem dX0_mixInto_18 : decode cX0_mixInto 18 = .ok (.lload_n 3, 1) := by decide +kernel
theorem dX0_mixInto_19 : decode cX0_mixInto 19 = .ok (.aload_n 0, 1) := by decide +kernel
theorem dX0_mixInto_20 : decode cX0_mixInto 20 = .ok (.getfield 29, 3) := by decide +kernel
theorem dX0_mixInto_23 : decode cX0_mixInto 23 = .ok (.invokestatic 104, 3) := by decide +kernel
theorem dX0_mixInto_26 : decode cX0_mixInto 26 = .ok (.lstore_n 3, 1) := by decide +kernel
theorem dX0_mixInto_27 : decode cX0_mixInto 27 = .ok (.lload_n 3, 1) := by decide +kernel
theorem dX0_mixInto_28 : decode cX0_mixInto 28 = .ok (.aload_n 0, 1) := by decide +kernel
theorem dX0_mixInto_29 : decode cX0_mixInto 29 = .ok (.getfield 32, 3) := by decide +kernel
theorem dX0_mixInto_32 : decode cX0_mixInto 32 = .ok (.invokestatic 104, 3) := by decide +kernel
theorem dX0_mixInto_35 : decode cX0_mixInto 35 = .ok (.lstore_n 3, 1) := by decide +kernel
theorem dX0_mixInto_36 : decode cX0_mixInto 36 = .ok (.lload_n 3, 1) := by decide +kernel
theorem dX0_mixInto_37 : decode cX0_mixInto 37 = .ok (.aload_n 0, 1) := by decide +kernel
theorem dX0_mixInto_38 : decode cX0_mixInto 38 = .ok (.getfield 35, 3) := by decide +kernel
theorem dX0_mixInto_41 : decode cX0_mixInto 41 = .ok (.ifCond .eq 7, 3) := by decide +kernel
theorem dX0_mixInto_44 : decode cX0_mixInto 44 = .ok (.iconst 1, 1) := by decide +kernel
theorem dX0_mixInto_45 : decode cX0_mixInto 45 = .ok (.goto 4, 3) := by decide +kernel
theorem dX0_mixInto_48 : decode cX0_mixInto 48 = .ok (.iconst 0, 1) := by decide +kernel
theorem dX0_mixInto_49 : decode cX0_mixInto 49 = .ok (.invokestatic 104, 3) := by decide +kernel
theorem dX0_mixInto_52 : decode cX0_mixInto 52 = .ok (.lstore_n 3, 1) := by decide +kernel
theorem dX0_mixInto_53 : decode cX0_mixInto 53 = .ok (.lload_n 3, 1) := by decide +kernel
theorem dX0_mixInto_54 : decode cX0_mixInto 54 = .ok (.aload_n 0, 1) := by decide +kernel
theorem dX0_mixInto_55 : decode cX0_mixInto 55 = .ok (.getfield 39, 3) := by decide +kernel
theorem dX0_mixInto_58 : decode cX0_mixInto 58 = .ok (.invokestatic 104, 3) := by decide +kernel
theorem dX0_mixInto_61 : decode cX0_mixInto 61 = .ok (.lstore_n 3, 1) := by decide +kernel
theorem dX0_mixInto_62 : decode cX0_mixInto 62 = .ok (.lload_n 3, 1) := by decide +kernel
theorem dX0_mixInto_63 : decode cX0_mixInto 63 = .ok (.aload_n 0, 1) := by decide +kernel
theorem dX0_mixInto_64 : decode cX0_mixInto 64 = .ok (.getfield 42, 3) := by decide +kernel
theorem dX0_mixInto_67 : decode cX0_mixInto 67 = .ok (.invokestatic 104, 3) := by decide +kernel
theorem dX0_mixInto_70 : decode cX0_mixInto 70 = .ok (.lstore_n 3, 1) := by decide +kernel
theorem dX0_mixInto_71 : decode cX0_mixInto 71 = .ok (.lload_n 3, 1) := by decide +kernel
theorem dX0_mixInto_72 : decode cX0_mixInto 72 = .ok (.aload_n 0, 1) := by decide +kernel
theorem dX0_mixInto_73 : decode cX0_mixInto 73 = .ok (.getfield 45, 3) := by decide +kernel
theorem dX0_mixInto_76 : decode cX0_mixInto 76 = .ok (.invokestatic 104, 3) := by decide +kernel
theorem dX0_mixInto_79 : decode cX0_mixInto 79 = .ok (.lstore_n 3, 1) := by decide +kernel
theorem dX0_mixInto_80 : decode cX0_mixInto 80 = .ok (.aload_n 0, 1) := by decide +kernel
theorem dX0_mixInto_81 : decode cX0_mixInto 81 = .ok (.getfield 21, 3) := by decide +kernel
theorem dX0_mixInto_84 : decode cX0_mixInto 84 = .ok (.lload_n 3, 1) := by decide +kernel
theorem dX0_mixInto_85 : decode cX0_mixInto 85 = .ok (.invokevirtual 108, 3) := by decide +kernel
theorem dX0_mixInto_88 : decode cX0_mixInto 88 = .ok (.lreturn, 1) := by decide +kernel
theorem dX0_fail_0 : decode cX0_fail 0 = .ok (.aload_n 0, 1) := by decide +kernel
theorem dX0_fail_1 : decode cX0_fail 1 = .ok (.invokevirtual 59, 3) := by decide +kernel
theorem dX0_fail_4 : decode cX0_fail 4 = .ok (.pop, 1) := by decide +kernel
theorem dX0_fail_5 : decode cX0_fail 5 = .ok (.iload_n 1, 1) := by decide +kernel
theorem dX0_fail_6 : decode cX0_fail 6 = .ok (.ireturn, 1) := by decide +kernel
theorem dX0_readSlot_0 : decode cX0_readSlot 0 = .ok (.aload_n 0, 1) := by decide +kernel
theorem dX0_readSlot_1 : decode cX0_readSlot 1 = .ok (.dup, 1) := by decide +kernel
theorem dX0_readSlot_2 : decode cX0_readSlot 2 = .ok (.getfield 45, 3) := by decide +kernel
theorem dX0_readSlot_5 : decode cX0_readSlot 5 = .ok (.iconst 1, 1) := by decide +kernel
theorem dX0_readSlot_6 : decode cX0_readSlot 6 = .ok (.iadd, 1) := by decide +kernel
theorem dX0_readSlot_7 : decode cX0_readSlot 7 = .ok (.putfield 45, 3) := by decide +kernel
theorem dX0_readSlot_10 : decode cX0_readSlot 10 = .ok (.iload_n 2, 1) := by decide +kernel
theorem dX0_readSlot_11 : decode cX0_readSlot 11 = .ok (.aload_n 0, 1) := by decide +kernel
theorem dX0_readSlot_12 : decode cX0_readSlot 12 = .ok (.getfield 42, 3) := by decide +kernel
theorem dX0_readSlot_15 : decode cX0_readSlot 15 = .ok (.if_icmp .eq 5, 3) := by decide +kernel
theorem dX0_readSlot_18 : decode cX0_readSlot 18 = .ok (.iload_n 1, 1) := by decide +kernel
theorem dX0_readSlot_19 : decode cX0_readSlot 19 = .ok (.ireturn, 1) := by decide +kernel
theorem dX0_readSlot_20 : decode cX0_readSlot 20 = .ok (.aload_n 0, 1) := by decide +kernel
theorem dX0_readSlot_21 : decode cX0_readSlot 21 = .ok (.iconst (-1), 1) := by decide +kernel
theorem dX0_readSlot_22 : decode cX0_readSlot 22 = .ok (.putfield 42, 3) := by decide +kernel
theorem dX0_readSlot_25 : decode cX0_readSlot 25 = .ok (.iconst 1, 1) := by decide +kernel
theorem dX0_readSlot_26 : decode cX0_readSlot 26 = .ok (.iload_n 1, 1) := by decide +kernel
theorem dX0_readSlot_27 : decode cX0_readSlot 27 = .ok (.isub, 1) := by decide +kernel
theorem dX0_readSlot_28 : decode cX0_readSlot 28 = .ok (.ireturn, 1) := by decide +kernel
theorem dX0_writeSlot_0 : decode cX0_writeSlot 0 = .ok (.aload_n 0, 1) := by decide +kernel
theorem dX0_writeSlot_1 : decode cX0_writeSlot 1 = .ok (.dup, 1) := by decide +kernel
theorem dX0_writeSlot_2 : decode cX0_writeSlot 2 = .ok (.getfield 45, 3) := by decide +kernel
theorem dX0_writeSlot_5 : decode cX0_writeSlot 5 = .ok (.iconst 1, 1) := by decide +kernel
theorem dX0_writeSlot_6 : decode cX0_writeSlot 6 = .ok (.iadd, 1) := by decide +kernel
theorem dX0_writeSlot_7 : decode cX0_writeSlot 7 = .ok (.putfield 45, 3) := by decide +kernel
theorem dX0_writeSlot_10 : decode cX0_writeSlot 10 = .ok (.aload_n 0, 1) := by decide +kernel
theorem dX0_writeSlot_11 : decode cX0_writeSlot 11 = .ok (.aload_n 0, 1) := by decide +kernel
theorem dX0_writeSlot_12 : decode cX0_writeSlot 12 = .ok (.getfield 25, 3) := by decide +kernel
theorem dX0_writeSlot_15 : decode cX0_writeSlot 15 = .ok (.iconst 1, 1) := by decide +kernel
theorem dX0_writeSlot_16 : decode cX0_writeSlot 16 = .ok (.iload_n 2, 1) := by decide +kernel
theorem dX0_writeSlot_17 : decode cX0_writeSlot 17 = .ok (.ishl, 1) := by decide +kernel
theorem dX0_writeSlot_18 : decode cX0_writeSlot 18 = .ok (.iconst (-1), 1) := by decide +kernel
theorem dX0_writeSlot_19 : decode cX0_writeSlot 19 = .ok (.ixor, 1) := by decide +kernel
theorem dX0_writeSlot_20 : decode cX0_writeSlot 20 = .ok (.iand, 1) := by decide +kernel
theorem dX0_writeSlot_21 : decode cX0_writeSlot 21 = .ok (.iload_n 1, 1) := by decide +kernel
theorem dX0_writeSlot_22 : decode cX0_writeSlot 22 = .ok (.iload_n 2, 1) := by decide +kernel
theorem dX0_writeSlot_23 : decode cX0_writeSlot 23 = .ok (.ishl, 1) := by decide +kernel
theorem dX0_writeSlot_24 : decode cX0_writeSlot 24 = .ok (.ior, 1) := by decide +kernel
theorem dX0_writeSlot_25 : decode cX0_writeSlot 25 = .ok (.putfield 25, 3) := by decide +kernel
theorem dX0_writeSlot_28 : decode cX0_writeSlot 28 = .ok (.return_, 1) := by decide +kernel
theorem dX0_directionAt_0 : decode cX0_directionAt 0 = .ok (.iload_n 1, 1) := by decide +kernel
theorem dX0_directionAt_1 : decode cX0_directionAt 1 = .ok (.aload_n 0, 1) := by decide +kernel
theorem dX0_directionAt_2 : decode cX0_directionAt 2 = .ok (.getfield 29, 3) := by decide +kernel
theorem dX0_directionAt_5 : decode cX0_directionAt 5 = .ok (.if_icmp .ge 12, 3) := by decide +kernel
theorem dX0_directionAt_8 : decode cX0_directionAt 8 = .ok (.aload_n 0, 1) := by decide +kernel
theorem dX0_directionAt_9 : decode cX0_directionAt 9 = .ok (.getfield 25, 3) := by decide +kernel
theorem dX0_directionAt_12 : decode cX0_directionAt 12 = .ok (.iload_n 1, 1) := by decide +kernel
theorem dX0_directionAt_13 : decode cX0_directionAt 13 = .ok (.invokestatic 109, 3) := by decide +kernel
theorem dX0_directionAt_16 : decode cX0_directionAt 16 = .ok (.ireturn, 1) := by decide +kernel
theorem dX0_directionAt_17 : decode cX0_directionAt 17 = .ok (.iload_n 1, 1) := by decide +kernel
theorem dX0_directionAt_18 : decode cX0_directionAt 18 = .ok (.aload_n 0, 1) := by decide +kernel
theorem dX0_directionAt_19 : decode cX0_directionAt 19 = .ok (.getfield 29, 3) := by decide +kernel
theorem dX0_directionAt_22 : decode cX0_directionAt 22 = .ok (.if_icmp .ne 7, 3) := by decide +kernel
theorem dX0_directionAt_25 : decode cX0_directionAt 25 = .ok (.iconst 1, 1) := by decide +kernel
theorem dX0_directionAt_26 : decode cX0_directionAt 26 = .ok (.goto 4, 3) := by decide +kernel
theorem dX0_directionAt_29 : decode cX0_directionAt 29 = .ok (.iconst 0, 1) := by decide +kernel
theorem dX0_directionAt_30 : decode cX0_directionAt 30 = .ok (.ireturn, 1) := by decide +kernel
theorem dX0_noteFamilyZero_0 : decode cX0_noteFamilyZero 0 = .ok (.iload_n 1, 1) := by decide +kernel
theorem dX0_noteFamilyZero_1 : decode cX0_noteFamilyZero 1 = .ok (.iconst 3, 1) := by decide +kernel
theorem dX0_noteFamilyZero_2 : decode cX0_noteFamilyZero 2 = .ok (.if_icmp .gt 8, 3) := by decide +kernel
theorem dX0_noteFamilyZero_5 : decode cX0_noteFamilyZero 5 = .ok (.aload_n 0, 1) := by decide +kernel
theorem dX0_noteFamilyZero_6 : decode cX0_noteFamilyZero 6 = .ok (.iload_n 1, 1) := by decide +kernel
theorem dX0_noteFamilyZero_7 : decode cX0_noteFamilyZero 7 = .ok (.putfield 32, 3) := by decide +kernel
theorem dX0_noteFamilyZero_10 : decode cX0_noteFamilyZero 10 = .ok (.return_, 1) := by decide +kernel
theorem dX1_init_0 : decode cX1_init 0 = .ok (.aload_n 0, 1) := by decide +kernel
theorem dX1_init_1 : decode cX1_init 1 = .ok (.invokespecial 5, 3) := by decide +kernel
theorem dX1_init_4 : decode cX1_init 4 = .ok (.aload_n 0, 1) := by decide +kernel
theorem dX1_init_5 : decode cX1_init 5 = .ok (.bipush 120, 2) := by decide +kernel
theorem dX1_init_7 : decode cX1_init 7 = .ok (.newarray .byte, 2) := by decide +kernel
theorem dX1_init_9 : decode cX1_init 9 = .ok (.putfield 11, 3) := by decide +kernel
theorem dX1_init_12 : decode cX1_init 12 = .ok (.aload_n 0, 1) := by decide +kernel
theorem dX1_init_13 : decode cX1_init 13 = .ok (.bipush 60, 2) := by decide +kernel
theorem dX1_init_15 : decode cX1_init 15 = .ok (.newarray .byte, 2) := by decide +kernel
theorem dX1_init_17 : decode cX1_init 17 = .ok (.putfield 15, 3) := by decide +kernel
theorem dX1_init_20 : decode cX1_init 20 = .ok (.aload_n 0, 1) := by decide +kernel
theorem dX1_init_21 : decode cX1_init 21 = .ok (.sipush 180, 3) := by decide +kernel
theorem dX1_init_24 : decode cX1_init 24 = .ok (.newarray .int, 2) := by decide +kernel
theorem dX1_init_26 : decode cX1_init 26 = .ok (.putfield 18, 3) := by decide +kernel
theorem dX1_init_29 : decode cX1_init 29 = .ok (.aload_n 0, 1) := by decide +kernel
theorem dX1_init_30 : decode cX1_init 30 = .ok (.iconst 0, 1) := by decide +kernel
theorem dX1_init_31 : decode cX1_init 31 = .ok (.putfield 22, 3) := by decide +kernel
theorem dX1_init_34 : decode cX1_init 34 = .ok (.aload_n 0, 1) := by decide +kernel
theorem dX1_init_35 : decode cX1_init 35 = .ok (.iconst 0, 1) := by decide +kernel
theorem dX1_init_36 : decode cX1_init 36 = .ok (.putfield 26, 3) := by decide +kernel
theorem dX1_init_39 : decode cX1_init 39 = .ok (.aload_n 0, 1) := by decide +kernel
theorem dX1_init_40 : decode cX1_init 40 = .ok (.iconst 0, 1) := by decide +kernel
theorem dX1_init_41 : decode cX1_init 41 = .ok (.putfield 29, 3) := by decide +kernel
theorem dX1_init_44 : decode cX1_init 44 = .ok (.return_, 1) := by decide +kernel
theorem dX1_hasRoom_0 : decode cX1_hasRoom 0 = .ok (.aload_n 0, 1) := by decide +kernel
theorem dX1_hasRoom_1 : decode cX1_hasRoom 1 = .ok (.getfield 22, 3) := by decide +kernel
theorem dX1_hasRoom_4 : decode cX1_hasRoom 4 = .ok (.bipush 120, 2) := by decide +kernel
theorem dX1_hasRoom_6 : decode cX1_hasRoom 6 = .ok (.if_icmp .ge 7, 3) := by decide +kernel
theorem dX1_hasRoom_9 : decode cX1_hasRoom 9 = .ok (.iconst 1, 1) := by decide +kernel
theorem dX1_hasRoom_10 : decode cX1_hasRoom 10 = .ok (.goto 4, 3) := by decide +kernel
theorem dX1_hasRoom_13 : decode cX1_hasRoom 13 = .ok (.iconst 0, 1) := by decide +kernel
theorem dX1_hasRoom_14 : decode cX1_hasRoom 14 = .ok (.ireturn, 1) := by decide +kernel
theorem dX1_put_0 : decode cX1_put 0 = .ok (.aload_n 0, 1) := by decide +kernel
theorem dX1_put_1 : decode cX1_put 1 = .ok (.invokevirtual 32, 3) := by decide +kernel
theorem dX1_put_4 : decode cX1_put 4 = .ok (.ifCond .eq 24, 3) := by decide +kernel
theorem dX1_put_7 : decode cX1_put 7 = .ok (.aload_n 0, 1) := by decide +kernel
theorem dX1_put_8 : decode cX1_put 8 = .ok (.getfield 11, 3) := by decide +kernel
theorem dX1_put_11 : decode cX1_put 11 = .ok (.aload_n 0, 1) := by decide +kernel
theorem dX1_put_12 : decode cX1_put 12 = .ok (.getfield 22, 3) := by decide +kernel
theorem dX1_put_15 : decode cX1_put 15 = .ok (.iload_n 1, 1) := by decide +kernel
theorem dX1_put_16 : decode cX1_put 16 = .ok (.i2b, 1) := by decide +kernel
theorem dX1_put_17 : decode cX1_put 17 = .ok (.bastore, 1) := by decide +kernel
theorem dX1_put_18 : decode cX1_put 18 = .ok (.aload_n 0, 1) := by decide +kernel
theorem dX1_put_19 : decode cX1_put 19 = .ok (.dup, 1) := by decide +kernel
theorem dX1_put_20 : decode cX1_put 20 = .ok (.getfield 22, 3) := by decide +kernel
theorem dX1_put_23 : decode cX1_put 23 = .ok (.iconst 1, 1) := by decide +kernel
theorem dX1_put_24 : decode cX1_put 24 = .ok (.iadd, 1) := by decide +kernel
theorem dX1_put_25 : decode cX1_put 25 = .ok (.putfield 22, 3) := by decide +kernel
theorem dX1_put_28 : decode cX1_put 28 = .ok (.aload_n 0, 1) := by decide +kernel
theorem dX1_put_29 : decode cX1_put 29 = .ok (.getfield 22, 3) := by decide +kernel
theorem dX1_put_32 : decode cX1_put 32 = .ok (.ireturn, 1) := by decide +kernel
theorem dX1_empty_0 : decode cX1_empty 0 = .ok (.aload_n 0, 1) := by decide +kernel
theorem dX1_empty_1 : decode cX1_empty 1 = .ok (.getfield 22, 3) := by decide +kernel
theorem dX1_empty_4 : decode cX1_empty 4 = .ok (.istore_n 1, 1) := by decide +kernel
theorem dX1_empty_5 : decode cX1_empty 5 = .ok (.aload_n 0, 1) := by decide +kernel
theorem dX1_empty_6 : decode cX1_empty 6 = .ok (.iconst 0, 1) := by decide +kernel
theorem dX1_empty_7 : decode cX1_empty 7 = .ok (.putfield 22, 3) := by decide +kernel
theorem dX1_empty_10 : decode cX1_empty 10 = .ok (.iload_n 1, 1) := by decide +kernel
theorem dX1_empty_11 : decode cX1_empty 11 = .ok (.ireturn, 1) := by decide +kernel
theorem dX1_letterOf_0 : decode cX1_letterOf 0 = .ok (.iload_n 1, 1) := by decide +kernel
theorem dX1_letterOf_1 : decode cX1_letterOf 1 = .ok (.iconst 0, 1) := by decide +kernel
theorem dX1_letterOf_2 : decode cX1_letterOf 2 = .ok (.bipush 59, 2) := by decide +kernel
theorem dX1_letterOf_4 : decode cX1_letterOf 4 = .ok (.invokestatic 36, 3) := by decide +kernel
theorem dX1_letterOf_7 : decode cX1_letterOf 7 = .ok (.ifCond .eq 12, 3) := by decide +kernel
theorem dX1_letterOf_10 : decode cX1_letterOf 10 = .ok (.aload_n 0, 1) := by decide +kernel
theorem dX1_letterOf_11 : decode cX1_letterOf 11 = .ok (.getfield 15, 3) := by decide +kernel
theorem dX1_letterOf_14 : decode cX1_letterOf 14 = .ok (.iload_n 1, 1) := by decide +kernel
theorem dX1_letterOf_15 : decode cX1_letterOf 15 = .ok (.baload, 1) := by decide +kernel
theorem dX1_letterOf_16 : decode cX1_letterOf 16 = .ok (.goto 4, 3) := by decide +kernel
theorem dX1_letterOf_19 : decode cX1_letterOf 19 = .ok (.iconst (-1), 1) := by decide +kernel
theorem dX1_letterOf_20 : decode cX1_letterOf 20 = .ok (.ireturn, 1) := by decide +kernel
theorem dX1_numberOf_0 : decode cX1_numberOf 0 = .ok (.iload_n 1, 1) := by decide +kernel
theorem dX1_numberOf_1 : decode cX1_numberOf 1 = .ok (.iconst 0, 1) := by decide +kernel
theorem dX1_numberOf_2 : decode cX1_numberOf 2 = .ok (.bipush 59, 2) := by decide +kernel
theorem dX1_numberOf_4 : decode cX1_numberOf 4 = .ok (.invokestatic 36, 3) := by decide +kernel
theorem dX1_numberOf_7 : decode cX1_numberOf 7 = .ok (.ifCond .eq 16, 3) := by decide +kernel
theorem dX1_numberOf_10 : decode cX1_numberOf 10 = .ok (.iload_n 2, 1) := by decide +kernel
theorem dX1_numberOf_11 : decode cX1_numberOf 11 = .ok (.iconst 0, 1) := by decide +kernel
theorem dX1_numberOf_12 : decode cX1_numberOf 12 = .ok (.iconst 2, 1) := by decide +kernel
theorem dX1_numberOf_13 : decode cX1_numberOf 13 = .ok (.invokestatic 36, 3) := by decide +kernel
theorem dX1_numberOf_16 : decode cX1_numberOf 16 = .ok (.ifCond .eq 7, 3) := by decide +kernel
theorem dX1_numberOf_19 : decode cX1_numberOf 19 = .ok (.iconst 1, 1) := by decide +kernel
theorem dX1_numberOf_20 : decode cX1_numberOf 20 = .ok (.goto 4, 3) := by decide +kernel
theorem dX1_numberOf_23 : decode cX1_numberOf 23 = .ok (.iconst 0, 1) := by decide +kernel
theorem dX1_numberOf_24 : decode cX1_numberOf 24 = .ok (.istore_n 3, 1) := by decide +kernel
theorem dX1_numberOf_25 : decode cX1_numberOf 25 = .ok (.iload_n 3, 1) := by decide +kernel
theorem dX1_numberOf_26 : decode cX1_numberOf 26 = .ok (.ifCond .eq 16, 3) := by decide +kernel
theorem dX1_numberOf_29 : decode cX1_numberOf 29 = .ok (.aload_n 0, 1) := by decide +kernel
theorem dX1_numberOf_30 : decode cX1_numberOf 30 = .ok (.getfield 18, 3) := by decide +kernel
theorem dX1_numberOf_33 : decode cX1_numberOf 33 = .ok (.iload_n 1, 1) := by decide +kernel
theorem dX1_numberOf_34 : decode cX1_numberOf 34 = .ok (.iconst 3, 1) := by decide +kernel
theorem dX1_numberOf_35 : decode cX1_numberOf 35 = .ok (.imul, 1) := by decide +kernel
theorem dX1_numberOf_36 : decode cX1_numberOf 36 = .ok (.iload_n 2, 1) := by decide +kernel
theorem dX1_numberOf_37 : decode cX1_numberOf 37 = .ok (.iadd, 1) := by decide +kernel
theorem dX1_numberOf_38 : decode cX1_numberOf 38 = .ok (.iaload, 1) := by decide +kernel
theorem dX1_numberOf_39 : decode cX1_numberOf 39 = .ok (.goto 4, 3) := by decide +kernel
theorem dX1_numberOf_42 : decode cX1_numberOf 42 = .ok (.iconst 0, 1) := by decide +kernel
theorem dX1_numberOf_43 : decode cX1_numberOf 43 = .ok (.ireturn, 1) := by decide +kernel
theorem dX1_parse_0 : decode cX1_parse 0 = .ok (.aload_n 0, 1) := by decide +kernel
theorem dX1_parse_1 : decode cX1_parse 1 = .ok (.iconst 0, 1) := by decide +kernel
theorem dX1_parse_2 : decode cX1_parse 2 = .ok (.putfield 26, 3) := by decide +kernel
theorem dX1_parse_5 : decode cX1_parse 5 = .ok (.aload_n 0, 1) := by decide +kernel
theorem dX1_parse_6 : decode cX1_parse 6 = .ok (.iconst 0, 1) := by decide +kernel
theorem dX1_parse_7 : decode cX1_parse 7 = .ok (.putfield 29, 3) := by decide +kernel
theorem dX1_parse_10 : decode cX1_parse 10 = .ok (.aload_n 0, 1) := by decide +kernel
theorem dX1_parse_11 : decode cX1_parse 11 = .ok (.invokevirtual 40, 3) := by decide +kernel
theorem dX1_parse_14 : decode cX1_parse 14 = .ok (.iconst 0, 1) := by decide +kernel
theorem dX1_parse_15 : decode cX1_parse 15 = .ok (.istore_n 1, 1) := by decide +kernel
theorem dX1_parse_16 : decode cX1_parse 16 = .ok (.iload_n 1, 1) := by decide +kernel
theorem dX1_parse_17 : decode cX1_parse 17 = .ok (.bipush 60, 2) := by decide +kernel
theorem dX1_parse_19 : decode cX1_parse 19 = .ok (.if_icmp .ge 33, 3) := by decide +kernel
theorem dX1_parse_22 : decode cX1_parse 22 = .ok (.aload_n 0, 1) := by decide +kernel
theorem dX1_parse_23 : decode cX1_parse 23 = .ok (.invokevirtual 43, 3) := by decide +kernel
theorem dX1_parse_26 : decode cX1_parse 26 = .ok (.ifCond .eq 26, 3) := by decide +kernel
theorem dX1_parse_29 : decode cX1_parse 29 = .ok (.aload_n 0, 1) := by decide +kernel
theorem dX1_parse_30 : decode cX1_parse 30 = .ok (.invokevirtual 40, 3) := by decide +kernel
theorem dX1_parse_33 : decode cX1_parse 33 = .ok (.aload_n 0, 1) := by decide +kernel
theorem dX1_parse_34 : decode cX1_parse 34 = .ok (.getfield 29, 3) := by decide +kernel
theorem dX1_parse_37 : decode cX1_parse 37 = .ok (.aload_n 0, 1) := by decide +kernel
theorem dX1_parse_38 : decode cX1_parse 38 = .ok (.getfield 22, 3) := by decide +kernel
theorem dX1_parse_41 : decode cX1_parse 41 = .ok (.if_icmp .ne 5, 3) := by decide +kernel
theorem dX1_parse_44 : decode cX1_parse 44 = .ok (.iconst (-1), 1) := by decide +kernel
theorem dX1_parse_45 : decode cX1_parse 45 = .ok (.ireturn, 1) := by decide +kernel
theorem dX1_parse_46 : decode cX1_parse 46 = .ok (.iinc 1 1, 3) := by decide +kernel
theorem dX1_parse_49 : decode cX1_parse 49 = .ok (.goto (-33), 3) := by decide +kernel
theorem dX1_parse_52 : decode cX1_parse 52 = .ok (.aload_n 0, 1) := by decide +kernel
theorem dX1_parse_53 : decode cX1_parse 53 = .ok (.getfield 29, 3) := by decide +kernel
theorem dX1_parse_56 : decode cX1_parse 56 = .ok (.ireturn, 1) := by decide +kernel
theorem dX1_readCommand_0 : decode cX1_readCommand 0 = .ok (.aload_n 0, 1) := by decide +kernel
theorem dX1_readCommand_1 : decode cX1_readCommand 1 = .ok (.invokevirtual 46, 3) := by decide +kernel
theorem dX1_readCommand_4 : decode cX1_readCommand 4 = .ok (.istore_n 1, 1) := by decide +kernel
theorem dX1_readCommand_5 : decode cX1_readCommand 5 = .ok (.iload_n 1, 1) := by decide +kernel
theorem dX1_readCommand_6 : decode cX1_readCommand 6 = .ok (.invokestatic 50, 3) := by decide +kernel
theorem dX1_readCommand_9 : decode cX1_readCommand 9 = .ok (.istore_n 2, 1) := by decide +kernel
theorem dX1_readCommand_10 : decode cX1_readCommand 10 = .ok (.iload_n 2, 1) := by decide +kernel
theorem dX1_readCommand_11 : decode cX1_readCommand 11 = .ok (.iconst (-1), 1) := by decide +kernel
theorem dX1_readCommand_12 : decode cX1_readCommand 12 = .ok (.if_icmp .eq 12, 3) := by decide +kernel
theorem dX1_readCommand_15 : decode cX1_readCommand 15 = .ok (.aload_n 0, 1) := by decide +kernel
theorem dX1_readCommand_16 : decode cX1_readCommand 16 = .ok (.getfield 26, 3) := by decide +kernel
theorem dX1_readCommand_19 : decode cX1_readCommand 19 = .ok (.bipush 60, 2) := by decide +kernel
theorem dX1_readCommand_21 : decode cX1_readCommand 21 = .ok (.if_icmp .lt 5, 3) := by decide +kernel
theorem dX1_readCommand_24 : decode cX1_readCommand 24 = .ok (.iconst 0, 1) := by decide +kernel
theorem dX1_readCommand_25 : decode cX1_readCommand 25 = .ok (.ireturn, 1) := by decide +kernel
theorem dX1_readCommand_26 : decode cX1_readCommand 26 = .ok (.aload_n 0, 1) := by decide +kernel
theorem dX1_readCommand_27 : decode cX1_readCommand 27 = .ok (.dup, 1) := by decide +kernel
theorem dX1_readCommand_28 : decode cX1_readCommand 28 = .ok (.getfield 29, 3) := by decide +kernel
theorem dX1_readCommand_31 : decode cX1_readCommand 31 = .ok (.iconst 1, 1) := by decide +kernel
theorem dX1_readCommand_32 : decode cX1_readCommand 32 = .ok (.iadd, 1) := by decide +kernel
theorem dX1_readCommand_33 : decode cX1_readCommand 33 = .ok (.putfield 29, 3) := by decide +kernel
theorem dX1_readCommand_36 : decode cX1_readCommand 36 = .ok (.aload_n 0, 1) := by decide +kernel
theorem dX1_readCommand_37 : decode cX1_readCommand 37 = .ok (.getfield 15, 3) := by decide +kernel
theorem dX1_readCommand_40 : decode cX1_readCommand 40 = .ok (.aload_n 0, 1) := by decide +kernel
theorem dX1_readCommand_41 : decode cX1_readCommand 41 = .ok (.getfield 26, 3) := by decide +kernel
theorem dX1_readCommand_44 : decode cX1_readCommand 44 = .ok (.iload_n 1, 1) := by decide +kernel
theorem dX1_readCommand_45 : decode cX1_readCommand 45 = .ok (.i2b, 1) := by decide +kernel
theorem dX1_readCommand_46 : decode cX1_readCommand 46 = .ok (.bastore, 1) := by decide +kernel
theorem dX1_readCommand_47 : decode cX1_readCommand 47 = .ok (.iconst 0, 1) := by decide +kernel
theorem dX1_readCommand_48 : decode cX1_readCommand 48 = .ok (.istore_n 3, 1) := by decide +kernel
theorem dX1_readCommand_49 : decode cX1_readCommand 49 = .ok (.iload_n 3, 1) := by decide +kernel
theorem dX1_readCommand_50 : decode cX1_readCommand 50 = .ok (.iload_n 2, 1) := by decide +kernel
theorem dX1_readCommand_51 : decode cX1_readCommand 51 = .ok (.if_icmp .ge 28, 3) := by decide +kernel
theorem dX1_readCommand_54 : decode cX1_readCommand 54 = .ok (.aload_n 0, 1) := by decide +kernel
theorem dX1_readCommand_55 : decode cX1_readCommand 55 = .ok (.invokevirtual 40, 3) := by decide +kernel
theorem dX1_readCommand_58 : decode cX1_readCommand 58 = .ok (.aload_n 0, 1) := by decide +kernel
theorem dX1_readCommand_59 : decode cX1_readCommand 59 = .ok (.iload_n 3, 1) := by decide +kernel
theorem dX1_readCommand_60 : decode cX1_readCommand 60 = .ok (.iload_n 1, 1) := by decide +kernel
theorem dX1_readCommand_61 : decode cX1_readCommand 61 = .ok (.iload_n 3, 1) := by decide +kernel
theorem dX1_readCommand_62 : decode cX1_readCommand 62 = .ok (.invokestatic 54, 3) := by decide +kernel
theorem dX1_readCommand_65 : decode cX1_readCommand 65 = .ok (.invokevirtual 58, 3) := by decide +kernel
theorem dX1_readCommand_68 : decode cX1_readCommand 68 = .ok (.ifCond .ne 5, 3) := by decide +kernel
theorem dX1_readCommand_71 : decode cX1_readCommand 71 = .ok (.iconst 0, 1) := by decide +kernel
theorem dX1_readCommand_72 : decode cX1_readCommand 72 = .ok (.ireturn, 1) := by decide +kernel
theorem dX1_readCommand_73 : decode cX1_readCommand 73 = .ok (.iinc 3 1, 3) := by decide +kernel
theorem dX1_readCommand_76 : decode cX1_readCommand 76 = .ok (.goto (-27), 3) := by decide +kernel
theorem dX1_readCommand_79 : decode cX1_readCommand 79 = .ok (.aload_n 0, 1) := by decide +kernel
theorem dX1_readCommand_80 : decode cX1_readCommand 80 = .ok (.invokevirtual 40, 3) := by decide +kernel
theorem dX1_readCommand_83 : decode cX1_readCommand 83 = .ok (.aload_n 0, 1) := by decide +kernel
theorem dX1_readCommand_84 : decode cX1_readCommand 84 = .ok (.invokevirtual 46, 3) := by decide +kernel
theorem dX1_readCommand_87 : decode cX1_readCommand 87 = .ok (.bipush 59, 2) := by decide +kernel
theorem dX1_readCommand_89 : decode cX1_readCommand 89 = .ok (.if_icmp .eq 5, 3) := by decide +kernel
theorem dX1_readCommand_92 : decode cX1_readCommand 92 = .ok (.iconst 0, 1) := by decide +kernel
theorem dX1_readCommand_93 : decode cX1_readCommand 93 = .ok (.ireturn, 1) := by decide +kernel
theorem dX1_readCommand_94 : decode cX1_readCommand 94 = .ok (.aload_n 0, 1) := by decide +kernel
theorem dX1_readCommand_95 : decode cX1_readCommand 95 = .ok (.dup, 1) := by decide +kernel
theorem dX1_readCommand_96 : decode cX1_readCommand 96 = .ok (.getfield 29, 3) := by decide +kernel
theorem dX1_readCommand_99 : decode cX1_readCommand 99 = .ok (.iconst 1, 1) := by decide +kernel
theorem dX1_readCommand_100 : decode cX1_readCommand 100 = .ok (.iadd, 1) := by decide +kernel
theorem dX1_readCommand_101 : decode cX1_readCommand 101 = .ok (.putfield 29, 3) := by decide +kernel
theorem dX1_readCommand_104 : decode cX1_readCommand 104 = .ok (.aload_n 0, 1) := by decide +kernel
theorem dX1_readCommand_105 : decode cX1_readCommand 105 = .ok (.dup, 1) := by decide +kernel
theorem dX1_readCommand_106 : decode cX1_readCommand 106 = .ok (.getfield 26, 3) := by decide +kernel
theorem dX1_readCommand_109 : decode cX1_readCommand 109 = .ok (.iconst 1, 1) := by decide +kernel
theorem dX1_readCommand_110 : decode cX1_readCommand 110 = .ok (.iadd, 1) := by decide +kernel
theorem dX1_readCommand_111 : decode cX1_readCommand 111 = .ok (.putfield 26, 3) := by decide +kernel
theorem dX1_readCommand_114 : decode cX1_readCommand 114 = .ok (.iconst 1, 1) := by decide +kernel
theorem dX1_readCommand_115 : decode cX1_readCommand 115 = .ok (.ireturn, 1) := by decide +kernel
theorem dX1_readNumber_0 : decode cX1_readNumber 0 = .ok (.iload_n 2, 1) := by decide +kernel
theorem dX1_readNumber_1 : decode cX1_readNumber 1 = .ok (.ifCond .eq 16, 3) := by decide +kernel
theorem dX1_readNumber_4 : decode cX1_readNumber 4 = .ok (.aload_n 0, 1) := by decide +kernel
theorem dX1_readNumber_5 : decode cX1_readNumber 5 = .ok (.invokevirtual 46, 3) := by decide +kernel
theorem dX1_readNumber_8 : decode cX1_readNumber 8 = .ok (.bipush 45, 2) := by decide +kernel
theorem dX1_readNumber_10 : decode cX1_readNumber 10 = .ok (.if_icmp .ne 7, 3) := by decide +kernel
theorem dX1_readNumber_13 : decode cX1_readNumber 13 = .ok (.iconst 1, 1) := by decide +kernel
theorem dX1_readNumber_14 : decode cX1_readNumber 14 = .ok (.goto 4, 3) := by decide +kernel
theorem dX1_readNumber_17 : decode cX1_readNumber 17 = .ok (.iconst 0, 1) := by decide +kernel
theorem dX1_readNumber_18 : decode cX1_readNumber 18 = .ok (.istore_n 3, 1) := by decide +kernel
theorem dX1_readNumber_19 : decode cX1_readNumber 19 = .ok (.iload_n 3, 1) := by decide +kernel
theorem dX1_readNumber_20 : decode cX1_readNumber 20 = .ok (.ifCond .eq 13, 3) := by decide +kernel
theorem dX1_readNumber_23 : decode cX1_readNumber 23 = .ok (.aload_n 0, 1) := by decide +kernel
theorem dX1_readNumber_24 : decode cX1_readNumber 24 = .ok (.dup, 1) := by decide +kernel
theorem dX1_readNumber_25 : decode cX1_readNumber 25 = .ok (.getfield 29, 3) := by decide +kernel
theorem dX1_readNumber_28 : decode cX1_readNumber 28 = .ok (.iconst 1, 1) := by decide +kernel
theorem dX1_readNumber_29 : decode cX1_readNumber 29 = .ok (.iadd, 1) := by decide +kernel
theorem dX1_readNumber_30 : decode cX1_readNumber 30 = .ok (.putfield 29, 3) := by decide +kernel
theorem dX1_readNumber_33 : decode cX1_readNumber 33 = .ok (.iconst 0, 1) := by decide +kernel
theorem dX1_readNumber_34 : decode cX1_readNumber 34 = .ok (.istore 4, 2) := by decide +kernel
theorem dX1_readNumber_36 : decode cX1_readNumber 36 = .ok (.iconst 0, 1) := by decide +kernel
theorem dX1_readNumber_37 : decode cX1_readNumber 37 = .ok (.istore 5, 2) := by decide +kernel
theorem dX1_readNumber_39 : decode cX1_readNumber 39 = .ok (.iload 5, 2) := by decide +kernel
theorem dX1_readNumber_41 : decode cX1_readNumber 41 = .ok (.iconst 3, 1) := by decide +kernel
theorem dX1_readNumber_42 : decode cX1_readNumber 42 = .ok (.if_icmp .ge 44, 3) := by decide +kernel
theorem dX1_readNumber_45 : decode cX1_readNumber 45 = .ok (.aload_n 0, 1) := by decide +kernel
theorem dX1_readNumber_46 : decode cX1_readNumber 46 = .ok (.invokevirtual 46, 3) := by decide +kernel
theorem dX1_readNumber_49 : decode cX1_readNumber 49 = .ok (.invokestatic 62, 3) := by decide +kernel
theorem dX1_readNumber_52 : decode cX1_readNumber 52 = .ok (.ifCond .eq 34, 3) := by decide +kernel
theorem dX1_readNumber_55 : decode cX1_readNumber 55 = .ok (.bipush 10, 2) := by decide +kernel
theorem dX1_readNumber_57 : decode cX1_readNumber 57 = .ok (.iload 4, 2) := by decide +kernel
theorem dX1_readNumber_59 : decode cX1_readNumber 59 = .ok (.imul, 1) := by decide +kernel
theorem dX1_readNumber_60 : decode cX1_readNumber 60 = .ok (.aload_n 0, 1) := by decide +kernel
theorem dX1_readNumber_61 : decode cX1_readNumber 61 = .ok (.invokevirtual 46, 3) := by decide +kernel
theorem dX1_readNumber_64 : decode cX1_readNumber 64 = .ok (.iadd, 1) := by decide +kernel
theorem dX1_readNumber_65 : decode cX1_readNumber 65 = .ok (.bipush 48, 2) := by decide +kernel
theorem dX1_readNumber_67 : decode cX1_readNumber 67 = .ok (.isub, 1) := by decide +kernel
theorem dX1_readNumber_68 : decode cX1_readNumber 68 = .ok (.istore 4, 2) := by decide +kernel
theorem dX1_readNumber_70 : decode cX1_readNumber 70 = .ok (.aload_n 0, 1) := by decide +kernel
theorem dX1_readNumber_71 : decode cX1_readNumber 71 = .ok (.dup, 1) := by decide +kernel
theorem dX1_readNumber_72 : decode cX1_readNumber 72 = .ok (.getfield 29, 3) := by decide +kernel
theorem dX1_readNumber_75 : decode cX1_readNumber 75 = .ok (.iconst 1, 1) := by decide +kernel
theorem dX1_readNumber_76 : decode cX1_readNumber 76 = .ok (.iadd, 1) := by decide +kernel
theorem dX1_readNumber_77 : decode cX1_readNumber 77 = .ok (.putfield 29, 3) := by decide +kernel
theorem dX1_readNumber_80 : decode cX1_readNumber 80 = .ok (.iinc 5 1, 3) := by decide +kernel
theorem dX1_readNumber_83 : decode cX1_readNumber 83 = .ok (.goto (-44), 3) := by decide +kernel
theorem dX1_readNumber_86 : decode cX1_readNumber 86 = .ok (.aload_n 0, 1) := by decide +kernel
theorem dX1_readNumber_87 : decode cX1_readNumber 87 = .ok (.getfield 18, 3) := by decide +kernel
theorem dX1_readNumber_90 : decode cX1_readNumber 90 = .ok (.aload_n 0, 1) := by decide +kernel
theorem dX1_readNumber_91 : decode cX1_readNumber 91 = .ok (.getfield 26, 3) := by decide +kernel
theorem dX1_readNumber_94 : decode cX1_readNumber 94 = .ok (.iconst 3, 1) := by decide +kernel
theorem dX1_readNumber_95 : decode cX1_readNumber 95 = .ok (.imul, 1) := by decide +kernel
theorem dX1_readNumber_96 : decode cX1_readNumber 96 = .ok (.iload_n 1, 1) := by decide +kernel
theorem dX1_readNumber_97 : decode cX1_readNumber 97 = .ok (.iadd, 1) := by decide +kernel
theorem dX1_readNumber_98 : decode cX1_readNumber 98 = .ok (.iload_n 3, 1) := by decide +kernel
theorem dX1_readNumber_99 : decode cX1_readNumber 99 = .ok (.ifCond .eq 9, 3) := by decide +kernel
theorem dX1_readNumber_102 : decode cX1_readNumber 102 = .ok (.iload 4, 2) := by decide +kernel
theorem dX1_readNumber_104 : decode cX1_readNumber 104 = .ok (.ineg, 1) := by decide +kernel
theorem dX1_readNumber_105 : decode cX1_readNumber 105 = .ok (.goto 5, 3) := by decide +kernel
theorem dX1_readNumber_108 : decode cX1_readNumber 108 = .ok (.iload 4, 2) := by decide +kernel
theorem dX1_readNumber_110 : decode cX1_readNumber 110 = .ok (.iastore, 1) := by decide +kernel
theorem dX1_readNumber_111 : decode cX1_readNumber 111 = .ok (.iload 5, 2) := by decide +kernel
theorem dX1_readNumber_113 : decode cX1_readNumber 113 = .ok (.ifCond .le 17, 3) := by decide +kernel
theorem dX1_readNumber_116 : decode cX1_readNumber 116 = .ok (.aload_n 0, 1) := by decide +kernel
theorem dX1_readNumber_117 : decode cX1_readNumber 117 = .ok (.invokevirtual 46, 3) := by decide +kernel
theorem dX1_readNumber_120 : decode cX1_readNumber 120 = .ok (.invokestatic 62, 3) := by decide +kernel
theorem dX1_readNumber_123 : decode cX1_readNumber 123 = .ok (.ifCond .ne 7, 3) := by decide +kernel
theorem dX1_readNumber_126 : decode cX1_readNumber 126 = .ok (.iconst 1, 1) := by decide +kernel
theorem dX1_readNumber_127 : decode cX1_readNumber 127 = .ok (.goto 4, 3) := by decide +kernel
theorem dX1_readNumber_130 : decode cX1_readNumber 130 = .ok (.iconst 0, 1) := by decide +kernel
theorem dX1_readNumber_131 : decode cX1_readNumber 131 = .ok (.ireturn, 1) := by decide +kernel
theorem dX1_skipSpaces_0 : decode cX1_skipSpaces 0 = .ok (.aload_n 0, 1) := by decide +kernel
theorem dX1_skipSpaces_1 : decode cX1_skipSpaces 1 = .ok (.getfield 29, 3) := by decide +kernel
theorem dX1_skipSpaces_4 : decode cX1_skipSpaces 4 = .ok (.aload_n 0, 1) := by decide +kernel
theorem dX1_skipSpaces_5 : decode cX1_skipSpaces 5 = .ok (.getfield 22, 3) := by decide +kernel
theorem dX1_skipSpaces_8 : decode cX1_skipSpaces 8 = .ok (.if_icmp .ge 25, 3) := by decide +kernel
theorem dX1_skipSpaces_11 : decode cX1_skipSpaces 11 = .ok (.aload_n 0, 1) := by decide +kernel
theorem dX1_skipSpaces_12 : decode cX1_skipSpaces 12 = .ok (.invokevirtual 46, 3) := by decide +kernel
theorem dX1_skipSpaces_15 : decode cX1_skipSpaces 15 = .ok (.bipush 32, 2) := by decide +kernel
theorem dX1_skipSpaces_17 : decode cX1_skipSpaces 17 = .ok (.if_icmp .ne 16, 3) := by decide +kernel
theorem dX1_skipSpaces_20 : decode cX1_skipSpaces 20 = .ok (.aload_n 0, 1) := by decide +kernel
theorem dX1_skipSpaces_21 : decode cX1_skipSpaces 21 = .ok (.dup, 1) := by decide +kernel
theorem dX1_skipSpaces_22 : decode cX1_skipSpaces 22 = .ok (.getfield 29, 3) := by decide +kernel
theorem dX1_skipSpaces_25 : decode cX1_skipSpaces 25 = .ok (.iconst 1, 1) := by decide +kernel
theorem dX1_skipSpaces_26 : decode cX1_skipSpaces 26 = .ok (.iadd, 1) := by decide +kernel
theorem dX1_skipSpaces_27 : decode cX1_skipSpaces 27 = .ok (.putfield 29, 3) := by decide +kernel
theorem dX1_skipSpaces_30 : decode cX1_skipSpaces 30 = .ok (.goto (-30), 3) := by decide +kernel
theorem dX1_skipSpaces_33 : decode cX1_skipSpaces 33 = .ok (.return_, 1) := by decide +kernel
theorem dX1_byteAtCursor_0 : decode cX1_byteAtCursor 0 = .ok (.aload_n 0, 1) := by decide +kernel
theorem dX1_byteAtCursor_1 : decode cX1_byteAtCursor 1 = .ok (.getfield 29, 3) := by decide +kernel
theorem dX1_byteAtCursor_4 : decode cX1_byteAtCursor 4 = .ok (.aload_n 0, 1) := by decide +kernel
theorem dX1_byteAtCursor_5 : decode cX1_byteAtCursor 5 = .ok (.getfield 22, 3) := by decide +kernel
theorem dX1_byteAtCursor_8 : decode cX1_byteAtCursor 8 = .ok (.if_icmp .ge 15, 3) := by decide +kernel
theorem dX1_byteAtCursor_11 : decode cX1_byteAtCursor 11 = .ok (.aload_n 0, 1) := by decide +kernel
theorem dX1_byteAtCursor_12 : decode cX1_byteAtCursor 12 = .ok (.getfield 11, 3) := by decide +kernel
theorem dX1_byteAtCursor_15 : decode cX1_byteAtCursor 15 = .ok (.aload_n 0, 1) := by decide +kernel
theorem dX1_byteAtCursor_16 : decode cX1_byteAtCursor 16 = .ok (.getfield 29, 3) := by decide +kernel
theorem dX1_byteAtCursor_19 : decode cX1_byteAtCursor 19 = .ok (.baload, 1) := by decide +kernel
theorem dX1_byteAtCursor_20 : decode cX1_byteAtCursor 20 = .ok (.goto 4, 3) := by decide +kernel
theorem dX1_byteAtCursor_23 : decode cX1_byteAtCursor 23 = .ok (.iconst (-1), 1) := by decide +kernel
theorem dX1_byteAtCursor_24 : decode cX1_byteAtCursor 24 = .ok (.ireturn, 1) := by decide +kernel
theorem dX1_isDigit_0 : decode cX1_isDigit 0 = .ok (.iload_n 0, 1) := by decide +kernel
theorem dX1_isDigit_1 : decode cX1_isDigit 1 = .ok (.bipush 48, 2) := by decide +kernel
theorem dX1_isDigit_3 : decode cX1_isDigit 3 = .ok (.if_icmp .lt 13, 3) := by decide +kernel
theorem dX1_isDigit_6 : decode cX1_isDigit 6 = .ok (.iload_n 0, 1) := by decide +kernel
theorem dX1_isDigit_7 : decode cX1_isDigit 7 = .ok (.bipush 57, 2) := by decide +kernel
theorem dX1_isDigit_9 : decode cX1_isDigit 9 = .ok (.if_icmp .gt 7, 3) := by decide +kernel
theorem dX1_isDigit_12 : decode cX1_isDigit 12 = .ok (.iconst 1, 1) := by decide +kernel
theorem dX1_isDigit_13 : decode cX1_isDigit 13 = .ok (.goto 4, 3) := by decide +kernel
theorem dX1_isDigit_16 : decode cX1_isDigit 16 = .ok (.iconst 0, 1) := by decide +kernel
theorem dX1_isDigit_17 : decode cX1_isDigit 17 = .ok (.ireturn, 1) := by decide +kernel
theorem dX1_numbersNeeded_0 : decode cX1_numbersNeeded 0 = .ok (.iload_n 0, 1) := by decide +kernel
theorem dX1_numbersNeeded_1 : decode cX1_numbersNeeded 1 = .ok (.tableswitch 107 100 120 #[103, 107, 107, 107, 107, 107, 107, 99, 105, 101, 99, 107, 107, 107, 99, 107, 107, 107, 103, 107, 101], 99) := by decide +kernel
theorem dX1_numbersNeeded_100 : decode cX1_numbersNeeded 100 = .ok (.iconst 0, 1) := by decide +kernel
theorem dX1_numbersNeeded_101 : decode cX1_numbersNeeded 101 = .ok (.ireturn, 1) := by decide +kernel
theorem dX1_numbersNeeded_102 : decode cX1_numbersNeeded 102 = .ok (.iconst 1, 1) := by decide +kernel
theorem dX1_numbersNeeded_103 : decode cX1_numbersNeeded 103 = .ok (.ireturn, 1) := by decide +kernel
theorem dX1_numbersNeeded_104 : decode cX1_numbersNeeded 104 = .ok (.iconst 2, 1) := by decide +kernel
theorem dX1_numbersNeeded_105 : decode cX1_numbersNeeded 105 = .ok (.ireturn, 1) := by decide +kernel
theorem dX1_numbersNeeded_106 : decode cX1_numbersNeeded 106 = .ok (.iconst 3, 1) := by decide +kernel
theorem dX1_numbersNeeded_107 : decode cX1_numbersNeeded 107 = .ok (.ireturn, 1) := by decide +kernel
theorem dX1_numbersNeeded_108 : decode cX1_numbersNeeded 108 = .ok (.iconst (-1), 1) := by decide +kernel
theorem dX1_numbersNeeded_109 : decode cX1_numbersNeeded 109 = .ok (.ireturn, 1) := by decide +kernel
theorem dX1_mayBeNegative_0 : decode cX1_mayBeNegative 0 = .ok (.iload_n 0, 1) := by decide +kernel
theorem dX1_mayBeNegative_1 : decode cX1_mayBeNegative 1 = .ok (.bipush 118, 2) := by decide +kernel
theorem dX1_mayBeNegative_3 : decode cX1_mayBeNegative 3 = .ok (.if_icmp .ne 8, 3) := by decide +kernel
theorem dX1_mayBeNegative_6 : decode cX1_mayBeNegative 6 = .ok (.iload_n 1, 1) := by decide +kernel
theorem dX1_mayBeNegative_7 : decode cX1_mayBeNegative 7 = .ok (.iconst 1, 1) := by decide +kernel
theorem dX1_mayBeNegative_8 : decode cX1_mayBeNegative 8 = .ok (.if_icmp .eq 14, 3) := by decide +kernel
theorem dX1_mayBeNegative_11 : decode cX1_mayBeNegative 11 = .ok (.iload_n 0, 1) := by decide +kernel
theorem dX1_mayBeNegative_12 : decode cX1_mayBeNegative 12 = .ok (.bipush 108, 2) := by decide +kernel
theorem dX1_mayBeNegative_14 : decode cX1_mayBeNegative 14 = .ok (.if_icmp .ne 12, 3) := by decide +kernel
theorem dX1_mayBeNegative_17 : decode cX1_mayBeNegative 17 = .ok (.iload_n 1, 1) := by decide +kernel
theorem dX1_mayBeNegative_18 : decode cX1_mayBeNegative 18 = .ok (.iconst 2, 1) := by decide +kernel
theorem dX1_mayBeNegative_19 : decode cX1_mayBeNegative 19 = .ok (.if_icmp .ne 7, 3) := by decide +kernel
theorem dX1_mayBeNegative_22 : decode cX1_mayBeNegative 22 = .ok (.iconst 1, 1) := by decide +kernel
theorem dX1_mayBeNegative_23 : decode cX1_mayBeNegative 23 = .ok (.goto 4, 3) := by decide +kernel
theorem dX1_mayBeNegative_26 : decode cX1_mayBeNegative 26 = .ok (.iconst 0, 1) := by decide +kernel
theorem dX1_mayBeNegative_27 : decode cX1_mayBeNegative 27 = .ok (.ireturn, 1) := by decide +kernel
theorem dX2_init_0 : decode cX2_init 0 = .ok (.aload_n 0, 1) := by decide +kernel
theorem dX2_init_1 : decode cX2_init 1 = .ok (.invokespecial 3, 3) := by decide +kernel
theorem dX2_init_4 : decode cX2_init 4 = .ok (.aload_n 0, 1) := by decide +kernel
theorem dX2_init_5 : decode cX2_init 5 = .ok (.bipush 8, 2) := by decide +kernel
theorem dX2_init_7 : decode cX2_init 7 = .ok (.newarray .int, 2) := by decide +kernel
theorem dX2_init_9 : decode cX2_init 9 = .ok (.putfield 11, 3) := by decide +kernel
theorem dX2_init_12 : decode cX2_init 12 = .ok (.aload_n 0, 1) := by decide +kernel
theorem dX2_init_13 : decode cX2_init 13 = .ok (.bipush 8, 2) := by decide +kernel
theorem dX2_init_15 : decode cX2_init 15 = .ok (.newarray .int, 2) := by decide +kernel
theorem dX2_init_17 : decode cX2_init 17 = .ok (.putfield 15, 3) := by decide +kernel
theorem dX2_init_20 : decode cX2_init 20 = .ok (.aload_n 0, 1) := by decide +kernel
theorem dX2_init_21 : decode cX2_init 21 = .ok (.bipush 8, 2) := by decide +kernel
theorem dX2_init_23 : decode cX2_init 23 = .ok (.newarray .int, 2) := by decide +kernel
theorem dX2_init_25 : decode cX2_init 25 = .ok (.putfield 18, 3) := by decide +kernel
theorem dX2_init_28 : decode cX2_init 28 = .ok (.aload_n 0, 1) := by decide +kernel
theorem dX2_init_29 : decode cX2_init 29 = .ok (.bipush 8, 2) := by decide +kernel
theorem dX2_init_31 : decode cX2_init 31 = .ok (.newarray .int, 2) := by decide +kernel
theorem dX2_init_33 : decode cX2_init 33 = .ok (.putfield 21, 3) := by decide +kernel
theorem dX2_init_36 : decode cX2_init 36 = .ok (.aload_n 0, 1) := by decide +kernel
theorem dX2_init_37 : decode cX2_init 37 = .ok (.iconst 0, 1) := by decide +kernel
theorem dX2_init_38 : decode cX2_init 38 = .ok (.putfield 24, 3) := by decide +kernel
theorem dX2_init_41 : decode cX2_init 41 = .ok (.return_, 1) := by decide +kernel
theorem dX2_copyFrom_0 : decode cX2_copyFrom 0 = .ok (.aload_n 1, 1) := by decide +kernel
theorem dX2_copyFrom_1 : decode cX2_copyFrom 1 = .ok (.getfield 11, 3) := by decide +kernel
theorem dX2_copyFrom_4 : decode cX2_copyFrom 4 = .ok (.iconst 0, 1) := by decide +kernel
theorem dX2_copyFrom_5 : decode cX2_copyFrom 5 = .ok (.aload_n 0, 1) := by decide +kernel
theorem dX2_copyFrom_6 : decode cX2_copyFrom 6 = .ok (.getfield 11, 3) := by decide +kernel
theorem dX2_copyFrom_9 : decode cX2_copyFrom 9 = .ok (.iconst 0, 1) := by decide +kernel
theorem dX2_copyFrom_10 : decode cX2_copyFrom 10 = .ok (.bipush 8, 2) := by decide +kernel
theorem dX2_copyFrom_12 : decode cX2_copyFrom 12 = .ok (.invokestatic 28, 3) := by decide +kernel
theorem dX2_copyFrom_15 : decode cX2_copyFrom 15 = .ok (.aload_n 1, 1) := by decide +kernel
theorem dX2_copyFrom_16 : decode cX2_copyFrom 16 = .ok (.getfield 15, 3) := by decide +kernel
theorem dX2_copyFrom_19 : decode cX2_copyFrom 19 = .ok (.iconst 0, 1) := by decide +kernel
theorem dX2_copyFrom_20 : decode cX2_copyFrom 20 = .ok (.aload_n 0, 1) := by decide +kernel
theorem dX2_copyFrom_21 : decode cX2_copyFrom 21 = .ok (.getfield 15, 3) := by decide +kernel
theorem dX2_copyFrom_24 : decode cX2_copyFrom 24 = .ok (.iconst 0, 1) := by decide +kernel
theorem dX2_copyFrom_25 : decode cX2_copyFrom 25 = .ok (.bipush 8, 2) := by decide +kernel
theorem dX2_copyFrom_27 : decode cX2_copyFrom 27 = .ok (.invokestatic 28, 3) := by decide +kernel
theorem dX2_copyFrom_30 : decode cX2_copyFrom 30 = .ok (.aload_n 1, 1) := by decide +kernel
theorem dX2_copyFrom_31 : decode cX2_copyFrom 31 = .ok (.getfield 18, 3) := by decide +kernel
theorem dX2_copyFrom_34 : decode cX2_copyFrom 34 = .ok (.iconst 0, 1) := by decide +kernel
theorem dX2_copyFrom_35 : decode cX2_copyFrom 35 = .ok (.aload_n 0, 1) := by decide +kernel
theorem dX2_copyFrom_36 : decode cX2_copyFrom 36 = .ok (.getfield 18, 3) := by decide +kernel
theorem dX2_copyFrom_39 : decode cX2_copyFrom 39 = .ok (.iconst 0, 1) := by decide +kernel
theorem dX2_copyFrom_40 : decode cX2_copyFrom 40 = .ok (.bipush 8, 2) := by decide +kernel
theorem dX2_copyFrom_42 : decode cX2_copyFrom 42 = .ok (.invokestatic 28, 3) := by decide +kernel
theorem dX2_copyFrom_45 : decode cX2_copyFrom 45 = .ok (.aload_n 1, 1) := by decide +kernel
theorem dX2_copyFrom_46 : decode cX2_copyFrom 46 = .ok (.getfield 21, 3) := by decide +kernel
theorem dX2_copyFrom_49 : decode cX2_copyFrom 49 = .ok (.iconst 0, 1) := by decide +kernel
theorem dX2_copyFrom_50 : decode cX2_copyFrom 50 = .ok (.aload_n 0, 1) := by decide +kernel
theorem dX2_copyFrom_51 : decode cX2_copyFrom 51 = .ok (.getfield 21, 3) := by decide +kernel
theorem dX2_copyFrom_54 : decode cX2_copyFrom 54 = .ok (.iconst 0, 1) := by decide +kernel
theorem dX2_copyFrom_55 : decode cX2_copyFrom 55 = .ok (.bipush 8, 2) := by decide +kernel
theorem dX2_copyFrom_57 : decode cX2_copyFrom 57 = .ok (.invokestatic 28, 3) := by decide +kernel
theorem dX2_copyFrom_60 : decode cX2_copyFrom 60 = .ok (.aload_n 0, 1) := by decide +kernel
theorem dX2_copyFrom_61 : decode cX2_copyFrom 61 = .ok (.aload_n 1, 1) := by decide +kernel
theorem dX2_copyFrom_62 : decode cX2_copyFrom 62 = .ok (.getfield 24, 3) := by decide +kernel
theorem dX2_copyFrom_65 : decode cX2_copyFrom 65 = .ok (.putfield 24, 3) := by decide +kernel
theorem dX2_copyFrom_68 : decode cX2_copyFrom 68 = .ok (.return_, 1) := by decide +kernel
theorem dX2_has_0 : decode cX2_has 0 = .ok (.iload_n 1, 1) := by decide +kernel
theorem dX2_has_1 : decode cX2_has 1 = .ok (.ifCond .lt 15, 3) := by decide +kernel
theorem dX2_has_4 : decode cX2_has 4 = .ok (.iload_n 1, 1) := by decide +kernel
theorem dX2_has_5 : decode cX2_has 5 = .ok (.aload_n 0, 1) := by decide +kernel
theorem dX2_has_6 : decode cX2_has 6 = .ok (.getfield 24, 3) := by decide +kernel
theorem dX2_has_9 : decode cX2_has 9 = .ok (.if_icmp .ge 7, 3) := by decide +kernel
theorem dX2_has_12 : decode cX2_has 12 = .ok (.iconst 1, 1) := by decide +kernel
theorem dX2_has_13 : decode cX2_has 13 = .ok (.goto 4, 3) := by decide +kernel
theorem dX2_has_16 : decode cX2_has 16 = .ok (.iconst 0, 1) := by decide +kernel
theorem dX2_has_17 : decode cX2_has 17 = .ok (.ireturn, 1) := by decide +kernel
theorem dX2_attach_0 : decode cX2_attach 0 = .ok (.iload_n 1, 1) := by decide +kernel
theorem dX2_attach_1 : decode cX2_attach 1 = .ok (.iconst 0, 1) := by decide +kernel
theorem dX2_attach_2 : decode cX2_attach 2 = .ok (.bipush 15, 2) := by decide +kernel
theorem dX2_attach_4 : decode cX2_attach 4 = .ok (.invokestatic 34, 3) := by decide +kernel
theorem dX2_attach_7 : decode cX2_attach 7 = .ok (.ifCond .eq 14, 3) := by decide +kernel
theorem dX2_attach_10 : decode cX2_attach 10 = .ok (.iload_n 2, 1) := by decide +kernel
theorem dX2_attach_11 : decode cX2_attach 11 = .ok (.iconst 0, 1) := by decide +kernel
theorem dX2_attach_12 : decode cX2_attach 12 = .ok (.sipush 255, 3) := by decide +kernel
theorem dX2_attach_15 : decode cX2_attach 15 = .ok (.invokestatic 34, 3) := by decide +kernel
theorem dX2_attach_18 : decode cX2_attach 18 = .ok (.ifCond .ne 6, 3) := by decide +kernel
theorem dX2_attach_21 : decode cX2_attach 21 = .ok (.bipush (-2), 2) := by decide +kernel
theorem dX2_attach_23 : decode cX2_attach 23 = .ok (.ireturn, 1) := by decide +kernel
theorem dX2_attach_24 : decode cX2_attach 24 = .ok (.iload_n 1, 1) := by decide +kernel
theorem dX2_attach_25 : decode cX2_attach 25 = .ok (.iload_n 2, 1) := by decide +kernel
theorem dX2_attach_26 : decode cX2_attach 26 = .ok (.invokestatic 38, 3) := by decide +kernel
theorem dX2_attach_29 : decode cX2_attach 29 = .ok (.istore_n 3, 1) := by decide +kernel
theorem dX2_attach_30 : decode cX2_attach 30 = .ok (.aload_n 0, 1) := by decide +kernel
theorem dX2_attach_31 : decode cX2_attach 31 = .ok (.iload_n 3, 1) := by decide +kernel
theorem dX2_attach_32 : decode cX2_attach 32 = .ok (.invokevirtual 42, 3) := by decide +kernel
theorem dX2_attach_35 : decode cX2_attach 35 = .ok (.ifCond .eq 6, 3) := by decide +kernel
theorem dX2_attach_38 : decode cX2_attach 38 = .ok (.bipush (-3), 2) := by decide +kernel
theorem dX2_attach_40 : decode cX2_attach 40 = .ok (.ireturn, 1) := by decide +kernel
theorem dX2_attach_41 : decode cX2_attach 41 = .ok (.aload_n 0, 1) := by decide +kernel
theorem dX2_attach_42 : decode cX2_attach 42 = .ok (.getfield 24, 3) := by decide +kernel
theorem dX2_attach_45 : decode cX2_attach 45 = .ok (.bipush 8, 2) := by decide +kernel
theorem dX2_attach_47 : decode cX2_attach 47 = .ok (.if_icmp .lt 6, 3) := by decide +kernel
theorem dX2_attach_50 : decode cX2_attach 50 = .ok (.bipush (-4), 2) := by decide +kernel
theorem dX2_attach_52 : decode cX2_attach 52 = .ok (.ireturn, 1) := by decide +kernel
theorem dX2_attach_53 : decode cX2_attach 53 = .ok (.aload_n 0, 1) := by decide +kernel
theorem dX2_attach_54 : decode cX2_attach 54 = .ok (.getfield 11, 3) := by decide +kernel
theorem dX2_attach_57 : decode cX2_attach 57 = .ok (.aload_n 0, 1) := by decide +kernel
theorem dX2_attach_58 : decode cX2_attach 58 = .ok (.getfield 24, 3) := by decide +kernel
theorem dX2_attach_61 : decode cX2_attach 61 = .ok (.iload_n 3, 1) := by decide +kernel
theorem dX2_attach_62 : decode cX2_attach 62 = .ok (.iastore, 1) := by decide +kernel
theorem dX2_attach_63 : decode cX2_attach 63 = .ok (.aload_n 0, 1) := by decide +kernel
theorem dX2_attach_64 : decode cX2_attach 64 = .ok (.getfield 15, 3) := by decide +kernel
theorem dX2_attach_67 : decode cX2_attach 67 = .ok (.aload_n 0, 1) := by decide +kernel
theorem dX2_attach_68 : decode cX2_attach 68 = .ok (.getfield 24, 3) := by decide +kernel
theorem dX2_attach_71 : decode cX2_attach 71 = .ok (.iconst 0, 1) := by decide +kernel
theorem dX2_attach_72 : decode cX2_attach 72 = .ok (.iastore, 1) := by decide +kernel
theorem dX2_attach_73 : decode cX2_attach 73 = .ok (.aload_n 0, 1) := by decide +kernel
theorem dX2_attach_74 : decode cX2_attach 74 = .ok (.getfield 18, 3) := by decide +kernel
theorem dX2_attach_77 : decode cX2_attach 77 = .ok (.aload_n 0, 1) := by decide +kernel
theorem dX2_attach_78 : decode cX2_attach 78 = .ok (.getfield 24, 3) := by decide +kernel
theorem dX2_attach_81 : decode cX2_attach 81 = .ok (.iconst 0, 1) := by decide +kernel
theorem dX2_attach_82 : decode cX2_attach 82 = .ok (.iastore, 1) := by decide +kernel
theorem dX2_attach_83 : decode cX2_attach 83 = .ok (.aload_n 0, 1) := by decide +kernel
theorem dX2_attach_84 : decode cX2_attach 84 = .ok (.getfield 21, 3) := by decide +kernel
theorem dX2_attach_87 : decode cX2_attach 87 = .ok (.aload_n 0, 1) := by decide +kernel
theorem dX2_attach_88 : decode cX2_attach 88 = .ok (.getfield 24, 3) := by decide +kernel
theorem dX2_attach_91 : decode cX2_attach 91 = .ok (.iconst 0, 1) := by decide +kernel
theorem dX2_attach_92 : decode cX2_attach 92 = .ok (.iastore, 1) := by decide +kernel
theorem dX2_attach_93 : decode cX2_attach 93 = .ok (.aload_n 0, 1) := by decide +kernel
theorem dX2_attach_94 : decode cX2_attach 94 = .ok (.dup, 1) := by decide +kernel
theorem dX2_attach_95 : decode cX2_attach 95 = .ok (.getfield 24, 3) := by decide +kernel
theorem dX2_attach_98 : decode cX2_attach 98 = .ok (.iconst 1, 1) := by decide +kernel
theorem dX2_attach_99 : decode cX2_attach 99 = .ok (.iadd, 1) := by decide +kernel
theorem dX2_attach_100 : decode cX2_attach 100 = .ok (.putfield 24, 3) := by decide +kernel
theorem dX2_attach_103 : decode cX2_attach 103 = .ok (.aload_n 0, 1) := by decide +kernel
theorem dX2_attach_104 : decode cX2_attach 104 = .ok (.getfield 24, 3) := by decide +kernel
theorem dX2_attach_107 : decode cX2_attach 107 = .ok (.iconst 1, 1) := by decide +kernel
theorem dX2_attach_108 : decode cX2_attach 108 = .ok (.isub, 1) := by decide +kernel
theorem dX2_attach_109 : decode cX2_attach 109 = .ok (.ireturn, 1) := by decide +kernel
theorem dX2_detach_0 : decode cX2_detach 0 = .ok (.aload_n 0, 1) := by decide +kernel
theorem dX2_detach_1 : decode cX2_detach 1 = .ok (.iload_n 1, 1) := by decide +kernel
theorem dX2_detach_2 : decode cX2_detach 2 = .ok (.invokevirtual 46, 3) := by decide +kernel
theorem dX2_detach_5 : decode cX2_detach 5 = .ok (.ifCond .ne 6, 3) := by decide +kernel
theorem dX2_detach_8 : decode cX2_detach 8 = .ok (.bipush (-2), 2) := by decide +kernel
theorem dX2_detach_10 : decode cX2_detach 10 = .ok (.ireturn, 1) := by decide +kernel
theorem dX2_detach_11 : decode cX2_detach 11 = .ok (.aload_n 0, 1) := by decide +kernel
theorem dX2_detach_12 : decode cX2_detach 12 = .ok (.aload_n 0, 1) := by decide +kernel
theorem dX2_detach_13 : decode cX2_detach 13 = .ok (.getfield 11, 3) := by decide +kernel
theorem dX2_detach_16 : decode cX2_detach 16 = .ok (.iload_n 1, 1) := by decide +kernel
theorem dX2_detach_17 : decode cX2_detach 17 = .ok (.invokevirtual 49, 3) := by decide +kernel
theorem dX2_detach_20 : decode cX2_detach 20 = .ok (.aload_n 0, 1) := by decide +kernel
theorem dX2_detach_21 : decode cX2_detach 21 = .ok (.aload_n 0, 1) := by decide +kernel
theorem dX2_detach_22 : decode cX2_detach 22 = .ok (.getfield 15, 3) := by decide +kernel
theorem dX2_detach_25 : decode cX2_detach 25 = .ok (.iload_n 1, 1) := by decide +kernel
theorem dX2_detach_26 : decode cX2_detach 26 = .ok (.invokevirtual 49, 3) := by decide +kernel
theorem dX2_detach_29 : decode cX2_detach 29 = .ok (.aload_n 0, 1) := by decide +kernel
theorem dX2_detach_30 : decode cX2_detach 30 = .ok (.aload_n 0, 1) := by decide +kernel
theorem dX2_detach_31 : decode cX2_detach 31 = .ok (.getfield 18, 3) := by decide +kernel
theorem dX2_detach_34 : decode cX2_detach 34 = .ok (.iload_n 1, 1) := by decide +kernel
theorem dX2_detach_35 : decode cX2_detach 35 = .ok (.invokevirtual 49, 3) := by decide +kernel
theorem dX2_detach_38 : decode cX2_detach 38 = .ok (.aload_n 0, 1) := by decide +kernel
theorem dX2_detach_39 : decode cX2_detach 39 = .ok (.aload_n 0, 1) := by decide +kernel
theorem dX2_detach_40 : decode cX2_detach 40 = .ok (.getfield 21, 3) := by decide +kernel
theorem dX2_detach_43 : decode cX2_detach 43 = .ok (.iload_n 1, 1) := by decide +kernel
theorem dX2_detach_44 : decode cX2_detach 44 = .ok (.invokevirtual 49, 3) := by decide +kernel
theorem dX2_detach_47 : decode cX2_detach 47 = .ok (.aload_n 0, 1) := by decide +kernel
theorem dX2_detach_48 : decode cX2_detach 48 = .ok (.dup, 1) := by decide +kernel
theorem dX2_detach_49 : decode cX2_detach 49 = .ok (.getfield 24, 3) := by decide +kernel
theorem dX2_detach_52 : decode cX2_detach 52 = .ok (.iconst 1, 1) := by decide +kernel
theorem dX2_detach_53 : decode cX2_detach 53 = .ok (.isub, 1) := by decide +kernel
theorem dX2_detach_54 : decode cX2_detach 54 = .ok (.putfield 24, 3) := by decide +kernel
theorem dX2_detach_57 : decode cX2_detach 57 = .ok (.aload_n 0, 1) := by decide +kernel
theorem dX2_detach_58 : decode cX2_detach 58 = .ok (.getfield 24, 3) := by decide +kernel
theorem dX2_detach_61 : decode cX2_detach 61 = .ok (.ireturn, 1) := by decide +kernel
theorem dX2_storeReading_0 : decode cX2_storeReading 0 = .ok (.aload_n 0, 1) := by decide +kernel
theorem dX2_storeReading_1 : decode cX2_storeReading 1 = .ok (.iload_n 1, 1) := by decide +kernel
theorem dX2_storeReading_2 : decode cX2_storeReading 2 = .ok (.invokevirtual 46, 3) := by decide +kernel
theorem dX2_storeReading_5 : decode cX2_storeReading 5 = .ok (.ifCond .eq 16, 3) := by decide +kernel
theorem dX2_storeReading_8 : decode cX2_storeReading 8 = .ok (.iload_n 2, 1) := by decide +kernel
theorem dX2_storeReading_9 : decode cX2_storeReading 9 = .ok (.sipush (-999), 3) := by decide +kernel
theorem dX2_storeReading_12 : decode cX2_storeReading 12 = .ok (.sipush 999, 3) := by decide +kernel
theorem dX2_storeReading_15 : decode cX2_storeReading 15 = .ok (.invokestatic 34, 3) := by decide +kernel
theorem dX2_storeReading_18 : decode cX2_storeReading 18 = .ok (.ifCond .ne 6, 3) := by decide +kernel
theorem dX2_storeReading_21 : decode cX2_storeReading 21 = .ok (.bipush (-2), 2) := by decide +kernel
theorem dX2_storeReading_23 : decode cX2_storeReading 23 = .ok (.ireturn, 1) := by decide +kernel
theorem dX2_storeReading_24 : decode cX2_storeReading 24 = .ok (.aload_n 0, 1) := by decide +kernel
theorem dX2_storeReading_25 : decode cX2_storeReading 25 = .ok (.getfield 15, 3) := by decide +kernel
theorem dX2_storeReading_28 : decode cX2_storeReading 28 = .ok (.iload_n 1, 1) := by decide +kernel
theorem dX2_storeReading_29 : decode cX2_storeReading 29 = .ok (.iload_n 2, 1) := by decide +kernel
theorem dX2_storeReading_30 : decode cX2_storeReading 30 = .ok (.iastore, 1) := by decide +kernel
theorem dX2_storeReading_31 : decode cX2_storeReading 31 = .ok (.aload_n 0, 1) := by decide +kernel
theorem dX2_storeReading_32 : decode cX2_storeReading 32 = .ok (.iload_n 1, 1) := by decide +kernel
theorem dX2_storeReading_33 : decode cX2_storeReading 33 = .ok (.invokevirtual 53, 3) := by decide +kernel
theorem dX2_storeReading_36 : decode cX2_storeReading 36 = .ok (.ifCond .eq 7, 3) := by decide +kernel
theorem dX2_storeReading_39 : decode cX2_storeReading 39 = .ok (.iconst 1, 1) := by decide +kernel
theorem dX2_storeReading_40 : decode cX2_storeReading 40 = .ok (.goto 4, 3) := by decide +kernel
theorem dX2_storeReading_43 : decode cX2_storeReading 43 = .ok (.iconst 0, 1) := by decide +kernel
theorem dX2_storeReading_44 : decode cX2_storeReading 44 = .ok (.ireturn, 1) := by decide +kernel
theorem dX2_storeAlarm_0 : decode cX2_storeAlarm 0 = .ok (.aload_n 0, 1) := by decide +kernel
theorem dX2_storeAlarm_1 : decode cX2_storeAlarm 1 = .ok (.iload_n 1, 1) := by decide +kernel
theorem dX2_storeAlarm_2 : decode cX2_storeAlarm 2 = .ok (.invokevirtual 46, 3) := by decide +kernel
theorem dX2_storeAlarm_5 : decode cX2_storeAlarm 5 = .ok (.ifCond .eq 25, 3) := by decide +kernel
theorem dX2_storeAlarm_8 : decode cX2_storeAlarm 8 = .ok (.iload_n 2, 1) := by decide +kernel
theorem dX2_storeAlarm_9 : decode cX2_storeAlarm 9 = .ok (.iconst 0, 1) := by decide +kernel
theorem dX2_storeAlarm_10 : decode cX2_storeAlarm 10 = .ok (.iconst 3, 1) := by decide +kernel
theorem dX2_storeAlarm_11 : decode cX2_storeAlarm 11 = .ok (.invokestatic 34, 3) := by decide +kernel
theorem dX2_storeAlarm_14 : decode cX2_storeAlarm 14 = .ok (.ifCond .eq 16, 3) := by decide +kernel
theorem dX2_storeAlarm_17 : decode cX2_storeAlarm 17 = .ok (.iload_n 3, 1) := by decide +kernel
theorem dX2_storeAlarm_18 : decode cX2_storeAlarm 18 = .ok (.sipush (-999), 3) := by decide +kernel
theorem dX2_storeAlarm_21 : decode cX2_storeAlarm 21 = .ok (.sipush 999, 3) := by decide +kernel
theorem dX2_storeAlarm_24 : decode cX2_storeAlarm 24 = .ok (.invokestatic 34, 3) := by decide +kernel
theorem dX2_storeAlarm_27 : decode cX2_storeAlarm 27 = .ok (.ifCond .ne 6, 3) := by decide +kernel
theorem dX2_storeAlarm_30 : decode cX2_storeAlarm 30 = .ok (.bipush (-2), 2) := by decide +kernel
theorem dX2_storeAlarm_32 : decode cX2_storeAlarm 32 = .ok (.ireturn, 1) := by decide +kernel
theorem dX2_storeAlarm_33 : decode cX2_storeAlarm 33 = .ok (.aload_n 0, 1) := by decide +kernel
theorem dX2_storeAlarm_34 : decode cX2_storeAlarm 34 = .ok (.getfield 18, 3) := by decide +kernel
theorem dX2_storeAlarm_37 : decode cX2_storeAlarm 37 = .ok (.iload_n 1, 1) := by decide +kernel
theorem dX2_storeAlarm_38 : decode cX2_storeAlarm 38 = .ok (.iload_n 2, 1) := by decide +kernel
theorem dX2_storeAlarm_39 : decode cX2_storeAlarm 39 = .ok (.iastore, 1) := by decide +kernel
theorem dX2_storeAlarm_40 : decode cX2_storeAlarm 40 = .ok (.aload_n 0, 1) := by decide +kernel
theorem dX2_storeAlarm_41 : decode cX2_storeAlarm 41 = .ok (.getfield 21, 3) := by decide +kernel
theorem dX2_storeAlarm_44 : decode cX2_storeAlarm 44 = .ok (.iload_n 1, 1) := by decide +kernel
theorem dX2_storeAlarm_45 : decode cX2_storeAlarm 45 = .ok (.iload_n 3, 1) := by decide +kernel
theorem dX2_storeAlarm_46 : decode cX2_storeAlarm 46 = .ok (.iastore, 1) := by decide +kernel
theorem dX2_storeAlarm_47 : decode cX2_storeAlarm 47 = .ok (.aload_n 0, 1) := by decide +kernel
theorem dX2_storeAlarm_48 : decode cX2_storeAlarm 48 = .ok (.iload_n 1, 1) := by decide +kernel
theorem dX2_storeAlarm_49 : decode cX2_storeAlarm 49 = .ok (.invokevirtual 53, 3) := by decide +kernel
theorem dX2_storeAlarm_52 : decode cX2_storeAlarm 52 = .ok (.ifCond .eq 7, 3) := by decide +kernel
theorem dX2_storeAlarm_55 : decode cX2_storeAlarm 55 = .ok (.iconst 1, 1) := by decide +kernel
theorem dX2_storeAlarm_56 : decode cX2_storeAlarm 56 = .ok (.goto 4, 3) := by decide +kernel
theorem dX2_storeAlarm_59 : decode cX2_storeAlarm 59 = .ok (.iconst 0, 1) := by decide +kernel
theorem dX2_storeAlarm_60 : decode cX2_storeAlarm 60 = .ok (.ireturn, 1) := by decide +kernel
theorem dX2_wholeSet_0 : decode cX2_wholeSet 0 = .ok (.iconst 1, 1) := by decide +kernel
theorem dX2_wholeSet_1 : decode cX2_wholeSet 1 = .ok (.aload_n 0, 1) := by decide +kernel
theorem dX2_wholeSet_2 : decode cX2_wholeSet 2 = .ok (.getfield 24, 3) := by decide +kernel
theorem dX2_wholeSet_5 : decode cX2_wholeSet 5 = .ok (.ishl, 1) := by decide +kernel
theorem dX2_wholeSet_6 : decode cX2_wholeSet 6 = .ok (.iconst 1, 1) := by decide +kernel
theorem dX2_wholeSet_7 : decode cX2_wholeSet 7 = .ok (.isub, 1) := by decide +kernel
theorem dX2_wholeSet_8 : decode cX2_wholeSet 8 = .ok (.ireturn, 1) := by decide +kernel
theorem dX2_alarmedSet_0 : decode cX2_alarmedSet 0 = .ok (.iconst 0, 1) := by decide +kernel
theorem dX2_alarmedSet_1 : decode cX2_alarmedSet 1 = .ok (.istore_n 1, 1) := by decide +kernel
theorem dX2_alarmedSet_2 : decode cX2_alarmedSet 2 = .ok (.iconst 0, 1) := by decide +kernel
theorem dX2_alarmedSet_3 : decode cX2_alarmedSet 3 = .ok (.istore_n 2, 1) := by decide +kernel
theorem dX2_alarmedSet_4 : decode cX2_alarmedSet 4 = .ok (.iload_n 2, 1) := by decide +kernel
theorem dX2_alarmedSet_5 : decode cX2_alarmedSet 5 = .ok (.aload_n 0, 1) := by decide +kernel
theorem dX2_alarmedSet_6 : decode cX2_alarmedSet 6 = .ok (.getfield 24, 3) := by decide +kernel
theorem dX2_alarmedSet_9 : decode cX2_alarmedSet 9 = .ok (.if_icmp .ge 23, 3) := by decide +kernel
theorem dX2_alarmedSet_12 : decode cX2_alarmedSet 12 = .ok (.aload_n 0, 1) := by decide +kernel
theorem dX2_alarmedSet_13 : decode cX2_alarmedSet 13 = .ok (.iload_n 2, 1) := by decide +kernel
theorem dX2_alarmedSet_14 : decode cX2_alarmedSet 14 = .ok (.invokevirtual 53, 3) := by decide +kernel
theorem dX2_alarmedSet_17 : decode cX2_alarmedSet 17 = .ok (.ifCond .eq 9, 3) := by decide +kernel
theorem dX2_alarmedSet_20 : decode cX2_alarmedSet 20 = .ok (.iload_n 1, 1) := by decide +kernel
theorem dX2_alarmedSet_21 : decode cX2_alarmedSet 21 = .ok (.iconst 1, 1) := by decide +kernel
theorem dX2_alarmedSet_22 : decode cX2_alarmedSet 22 = .ok (.iload_n 2, 1) := by decide +kernel
theorem dX2_alarmedSet_23 : decode cX2_alarmedSet 23 = .ok (.ishl, 1) := by decide +kernel
theorem dX2_alarmedSet_24 : decode cX2_alarmedSet 24 = .ok (.ior, 1) := by decide +kernel
theorem dX2_alarmedSet_25 : decode cX2_alarmedSet 25 = .ok (.istore_n 1, 1) := by decide +kernel
theorem dX2_alarmedSet_26 : decode cX2_alarmedSet 26 = .ok (.iinc 2 1, 3) := by decide +kernel
theorem dX2_alarmedSet_29 : decode cX2_alarmedSet 29 = .ok (.goto (-25), 3) := by decide +kernel
theorem dX2_alarmedSet_32 : decode cX2_alarmedSet 32 = .ok (.iload_n 1, 1) := by decide +kernel
theorem dX2_alarmedSet_33 : decode cX2_alarmedSet 33 = .ok (.ireturn, 1) := by decide +kernel
theorem dX2_setWithOneAt_0 : decode cX2_setWithOneAt 0 = .ok (.iconst 0, 1) := by decide +kernel
theorem dX2_setWithOneAt_1 : decode cX2_setWithOneAt 1 = .ok (.istore_n 2, 1) := by decide +kernel
theorem dX2_setWithOneAt_2 : decode cX2_setWithOneAt 2 = .ok (.iconst 0, 1) := by decide +kernel
theorem dX2_setWithOneAt_3 : decode cX2_setWithOneAt 3 = .ok (.istore_n 3, 1) := by decide +kernel
theorem dX2_setWithOneAt_4 : decode cX2_setWithOneAt 4 = .ok (.iload_n 3, 1) := by decide +kernel
theorem dX2_setWithOneAt_5 : decode cX2_setWithOneAt 5 = .ok (.aload_n 0, 1) := by decide +kernel
theorem dX2_setWithOneAt_6 : decode cX2_setWithOneAt 6 = .ok (.getfield 24, 3) := by decide +kernel
theorem dX2_setWithOneAt_9 : decode cX2_setWithOneAt 9 = .ok (.if_icmp .ge 24, 3) := by decide +kernel
theorem dX2_setWithOneAt_12 : decode cX2_setWithOneAt 12 = .ok (.iload_n 2, 1) := by decide +kernel
theorem dX2_setWithOneAt_13 : decode cX2_setWithOneAt 13 = .ok (.aload_n 0, 1) := by decide +kernel
theorem dX2_setWithOneAt_14 : decode cX2_setWithOneAt 14 = .ok (.getfield 11, 3) := by decide +kernel
theorem dX2_setWithOneAt_17 : decode cX2_setWithOneAt 17 = .ok (.iload_n 3, 1) := by decide +kernel
theorem dX2_setWithOneAt_18 : decode cX2_setWithOneAt 18 = .ok (.iaload, 1) := by decide +kernel
theorem dX2_setWithOneAt_19 : decode cX2_setWithOneAt 19 = .ok (.iload_n 1, 1) := by decide +kernel
theorem dX2_setWithOneAt_20 : decode cX2_setWithOneAt 20 = .ok (.invokestatic 56, 3) := by decide +kernel
theorem dX2_setWithOneAt_23 : decode cX2_setWithOneAt 23 = .ok (.iload_n 3, 1) := by decide +kernel
theorem dX2_setWithOneAt_24 : decode cX2_setWithOneAt 24 = .ok (.ishl, 1) := by decide +kernel
theorem dX2_setWithOneAt_25 : decode cX2_setWithOneAt 25 = .ok (.ior, 1) := by decide +kernel
theorem dX2_setWithOneAt_26 : decode cX2_setWithOneAt 26 = .ok (.istore_n 2, 1) := by decide +kernel
theorem dX2_setWithOneAt_27 : decode cX2_setWithOneAt 27 = .ok (.iinc 3 1, 3) := by decide +kernel
theorem dX2_setWithOneAt_30 : decode cX2_setWithOneAt 30 = .ok (.goto (-26), 3) := by decide +kernel
theorem dX2_setWithOneAt_33 : decode cX2_setWithOneAt 33 = .ok (.iload_n 2, 1) := by decide +kernel
theorem dX2_setWithOneAt_34 : decode cX2_setWithOneAt 34 = .ok (.ireturn, 1) := by decide +kernel
theorem dX2_membersOf_0 : decode cX2_membersOf 0 = .ok (.iconst 0, 1) := by decide +kernel
theorem dX2_membersOf_1 : decode cX2_membersOf 1 = .ok (.istore_n 2, 1) := by decide +kernel
theorem dX2_membersOf_2 : decode cX2_membersOf 2 = .ok (.iconst 0, 1) := by decide +kernel
theorem dX2_membersOf_3 : decode cX2_membersOf 3 = .ok (.istore_n 3, 1) := by decide +kernel
theorem dX2_membersOf_4 : decode cX2_membersOf 4 = .ok (.iload_n 3, 1) := by decide +kernel
theorem dX2_membersOf_5 : decode cX2_membersOf 5 = .ok (.aload_n 0, 1) := by decide +kernel
theorem dX2_membersOf_6 : decode cX2_membersOf 6 = .ok (.getfield 24, 3) := by decide +kernel
theorem dX2_membersOf_9 : decode cX2_membersOf 9 = .ok (.if_icmp .ge 25, 3) := by decide +kernel
theorem dX2_membersOf_12 : decode cX2_membersOf 12 = .ok (.aload_n 0, 1) := by decide +kernel
theorem dX2_membersOf_13 : decode cX2_membersOf 13 = .ok (.getfield 11, 3) := by decide +kernel
theorem dX2_membersOf_16 : decode cX2_membersOf 16 = .ok (.iload_n 3, 1) := by decide +kernel
theorem dX2_membersOf_17 : decode cX2_membersOf 17 = .ok (.iaload, 1) := by decide +kernel
theorem dX2_membersOf_18 : decode cX2_membersOf 18 = .ok (.bipush 15, 2) := by decide +kernel
theorem dX2_membersOf_20 : decode cX2_membersOf 20 = .ok (.iand, 1) := by decide +kernel
theorem dX2_membersOf_21 : decode cX2_membersOf 21 = .ok (.iload_n 1, 1) := by decide +kernel
theorem dX2_membersOf_22 : decode cX2_membersOf 22 = .ok (.if_icmp .ne 6, 3) := by decide +kernel
theorem dX2_membersOf_25 : decode cX2_membersOf 25 = .ok (.iinc 2 1, 3) := by decide +kernel
theorem dX2_membersOf_28 : decode cX2_membersOf 28 = .ok (.iinc 3 1, 3) := by decide +kernel
theorem dX2_membersOf_31 : decode cX2_membersOf 31 = .ok (.goto (-27), 3) := by decide +kernel
theorem dX2_membersOf_34 : decode cX2_membersOf 34 = .ok (.iload_n 2, 1) := by decide +kernel
theorem dX2_membersOf_35 : decode cX2_membersOf 35 = .ok (.ireturn, 1) := by decide +kernel
theorem dX2_mixInto_0 : decode cX2_mixInto 0 = .ok (.lload_n 1, 1) := by decide +kernel
theorem dX2_mixInto_1 : decode cX2_mixInto 1 = .ok (.aload_n 0, 1) := by decide +kernel
theorem dX2_mixInto_2 : decode cX2_mixInto 2 = .ok (.getfield 24, 3) := by decide +kernel
theorem dX2_mixInto_5 : decode cX2_mixInto 5 = .ok (.invokestatic 59, 3) := by decide +kernel
theorem dX2_mixInto_8 : decode cX2_mixInto 8 = .ok (.lstore_n 3, 1) := by decide +kernel
theorem dX2_mixInto_9 : decode cX2_mixInto 9 = .ok (.iconst 0, 1) := by decide +kernel
theorem dX2_mixInto_10 : decode cX2_mixInto 10 = .ok (.istore 5, 2) := by decide +kernel
theorem dX2_mixInto_12 : decode cX2_mixInto 12 = .ok (.iload 5, 2) := by decide +kernel
theorem dX2_mixInto_14 : decode cX2_mixInto 14 = .ok (.aload_n 0, 1) := by decide +kernel
theorem dX2_mixInto_15 : decode cX2_mixInto 15 = .ok (.getfield 24, 3) := by decide +kernel
theorem dX2_mixInto_18 : decode cX2_mixInto 18 = .ok (.if_icmp .ge 57, 3) := by decide +kernel
theorem dX2_mixInto_21 : decode cX2_mixInto 21 = .ok (.lload_n 3, 1) := by decide +kernel
theorem dX2_mixInto_22 : decode cX2_mixInto 22 = .ok (.aload_n 0, 1) := by decide +kernel
theorem dX2_mixInto_23 : decode cX2_mixInto 23 = .ok (.getfield 11, 3) := by decide +kernel
theorem dX2_mixInto_26 : decode cX2_mixInto 26 = .ok (.iload 5, 2) := by decide +kernel
theorem dX2_mixInto_28 : decode cX2_mixInto 28 = .ok (.iaload, 1) := by decide +kernel
theorem dX2_mixInto_29 : decode cX2_mixInto 29 = .ok (.invokestatic 59, 3) := by decide +kernel
theorem dX2_mixInto_32 : decode cX2_mixInto 32 = .ok (.lstore_n 3, 1) := by decide +kernel
theorem dX2_mixInto_33 : decode cX2_mixInto 33 = .ok (.lload_n 3, 1) := by decide +kernel
theorem dX2_mixInto_34 : decode cX2_mixInto 34 = .ok (.aload_n 0, 1) := by decide +kernel
theorem dX2_mixInto_35 : decode cX2_mixInto 35 = .ok (.getfield 15, 3) := by decide +kernel
theorem dX2_mixInto_38 : decode cX2_mixInto 38 = .ok (.iload 5, 2) := by decide +kernel
theorem dX2_mixInto_40 : decode cX2_mixInto 40 = .ok (.iaload, 1) := by decide +kernel
theorem dX2_mixInto_41 : decode cX2_mixInto 41 = .ok (.invokestatic 59, 3) := by decide +kernel
theorem dX2_mixInto_44 : decode cX2_mixInto 44 = .ok (.lstore_n 3, 1) := by decide +kernel
theorem dX2_mixInto_45 : decode cX2_mixInto 45 = .ok (.lload_n 3, 1) := by decide +kernel
theorem dX2_mixInto_46 : decode cX2_mixInto 46 = .ok (.aload_n 0, 1) := by decide +kernel
theorem dX2_mixInto_47 : decode cX2_mixInto 47 = .ok (.getfield 18, 3) := by decide +kernel
theorem dX2_mixInto_50 : decode cX2_mixInto 50 = .ok (.iload 5, 2) := by decide +kernel
theorem dX2_mixInto_52 : decode cX2_mixInto 52 = .ok (.iaload, 1) := by decide +kernel
theorem dX2_mixInto_53 : decode cX2_mixInto 53 = .ok (.invokestatic 59, 3) := by decide +kernel
theorem dX2_mixInto_56 : decode cX2_mixInto 56 = .ok (.lstore_n 3, 1) := by decide +kernel
theorem dX2_mixInto_57 : decode cX2_mixInto 57 = .ok (.lload_n 3, 1) := by decide +kernel
theorem dX2_mixInto_58 : decode cX2_mixInto 58 = .ok (.aload_n 0, 1) := by decide +kernel
theorem dX2_mixInto_59 : decode cX2_mixInto 59 = .ok (.getfield 21, 3) := by decide +kernel
theorem dX2_mixInto_62 : decode cX2_mixInto 62 = .ok (.iload 5, 2) := by decide +kernel
theorem dX2_mixInto_64 : decode cX2_mixInto 64 = .ok (.iaload, 1) := by decide +kernel
theorem dX2_mixInto_65 : decode cX2_mixInto 65 = .ok (.invokestatic 59, 3) := by decide +kernel
theorem dX2_mixInto_68 : decode cX2_mixInto 68 = .ok (.lstore_n 3, 1) := by decide +kernel
theorem dX2_mixInto_69 : decode cX2_mixInto 69 = .ok (.iinc 5 1, 3) := by decide +kernel
theorem dX2_mixInto_72 : decode cX2_mixInto 72 = .ok (.goto (-60), 3) := by decide +kernel
theorem dX2_mixInto_75 : decode cX2_mixInto 75 = .ok (.lload_n 3, 1) := by decide +kernel
theorem dX2_mixInto_76 : decode cX2_mixInto 76 = .ok (.lreturn, 1) := by decide +kernel
theorem dX2_hasRom_0 : decode cX2_hasRom 0 = .ok (.iconst 0, 1) := by decide +kernel
theorem dX2_hasRom_1 : decode cX2_hasRom 1 = .ok (.istore_n 2, 1) := by decide +kernel
theorem dX2_hasRom_2 : decode cX2_hasRom 2 = .ok (.iload_n 2, 1) := by decide +kernel
theorem dX2_hasRom_3 : decode cX2_hasRom 3 = .ok (.aload_n 0, 1) := by decide +kernel
theorem dX2_hasRom_4 : decode cX2_hasRom 4 = .ok (.getfield 24, 3) := by decide +kernel
theorem dX2_hasRom_7 : decode cX2_hasRom 7 = .ok (.if_icmp .ge 21, 3) := by decide +kernel
theorem dX2_hasRom_10 : decode cX2_hasRom 10 = .ok (.aload_n 0, 1) := by decide +kernel
theorem dX2_hasRom_11 : decode cX2_hasRom 11 = .ok (.getfield 11, 3) := by decide +kernel
theorem dX2_hasRom_14 : decode cX2_hasRom 14 = .ok (.iload_n 2, 1) := by decide +kernel
theorem dX2_hasRom_15 : decode cX2_hasRom 15 = .ok (.iaload, 1) := by decide +kernel
theorem dX2_hasRom_16 : decode cX2_hasRom 16 = .ok (.iload_n 1, 1) := by decide +kernel
theorem dX2_hasRom_17 : decode cX2_hasRom 17 = .ok (.if_icmp .ne 5, 3) := by decide +kernel
theorem dX2_hasRom_20 : decode cX2_hasRom 20 = .ok (.iconst 1, 1) := by decide +kernel
theorem dX2_hasRom_21 : decode cX2_hasRom 21 = .ok (.ireturn, 1) := by decide +kernel
theorem dX2_hasRom_22 : decode cX2_hasRom 22 = .ok (.iinc 2 1, 3) := by decide +kernel
theorem dX2_hasRom_25 : decode cX2_hasRom 25 = .ok (.goto (-23), 3) := by decide +kernel
theorem dX2_hasRom_28 : decode cX2_hasRom 28 = .ok (.iconst 0, 1) := by decide +kernel
theorem dX2_hasRom_29 : decode cX2_hasRom 29 = .ok (.ireturn, 1) := by decide +kernel
theorem dX2_closeGap_0 : decode cX2_closeGap 0 = .ok (.iload_n 2, 1) := by decide +kernel
theorem dX2_closeGap_1 : decode cX2_closeGap 1 = .ok (.istore_n 3, 1) := by decide +kernel
theorem dX2_closeGap_2 : decode cX2_closeGap 2 = .ok (.iload_n 3, 1) := by decide +kernel
theorem dX2_closeGap_3 : decode cX2_closeGap 3 = .ok (.iconst 1, 1) := by decide +kernel
theorem dX2_closeGap_4 : decode cX2_closeGap 4 = .ok (.iadd, 1) := by decide +kernel
theorem dX2_closeGap_5 : decode cX2_closeGap 5 = .ok (.aload_n 0, 1) := by decide +kernel
theorem dX2_closeGap_6 : decode cX2_closeGap 6 = .ok (.getfield 24, 3) := by decide +kernel
theorem dX2_closeGap_9 : decode cX2_closeGap 9 = .ok (.if_icmp .ge 17, 3) := by decide +kernel
theorem dX2_closeGap_12 : decode cX2_closeGap 12 = .ok (.aload_n 1, 1) := by decide +kernel
theorem dX2_closeGap_13 : decode cX2_closeGap 13 = .ok (.iload_n 3, 1) := by decide +kernel
theorem dX2_closeGap_14 : decode cX2_closeGap 14 = .ok (.aload_n 1, 1) := by decide +kernel
theorem dX2_closeGap_15 : decode cX2_closeGap 15 = .ok (.iload_n 3, 1) := by decide +kernel
theorem dX2_closeGap_16 : decode cX2_closeGap 16 = .ok (.iconst 1, 1) := by decide +kernel
theorem dX2_closeGap_17 : decode cX2_closeGap 17 = .ok (.iadd, 1) := by decide +kernel
theorem dX2_closeGap_18 : decode cX2_closeGap 18 = .ok (.iaload, 1) := by decide +kernel
theorem dX2_closeGap_19 : decode cX2_closeGap 19 = .ok (.iastore, 1) := by decide +kernel
theorem dX2_closeGap_20 : decode cX2_closeGap 20 = .ok (.iinc 3 1, 3) := by decide +kernel
theorem dX2_closeGap_23 : decode cX2_closeGap 23 = .ok (.goto (-21), 3) := by decide +kernel
theorem dX2_closeGap_26 : decode cX2_closeGap 26 = .ok (.return_, 1) := by decide +kernel
theorem dX2_isAlarmed_0 : decode cX2_isAlarmed 0 = .ok (.aload_n 0, 1) := by decide +kernel
theorem dX2_isAlarmed_1 : decode cX2_isAlarmed 1 = .ok (.getfield 15, 3) := by decide +kernel
theorem dX2_isAlarmed_4 : decode cX2_isAlarmed 4 = .ok (.iload_n 1, 1) := by decide +kernel
theorem dX2_isAlarmed_5 : decode cX2_isAlarmed 5 = .ok (.iaload, 1) := by decide +kernel
theorem dX2_isAlarmed_6 : decode cX2_isAlarmed 6 = .ok (.istore_n 2, 1) := by decide +kernel
theorem dX2_isAlarmed_7 : decode cX2_isAlarmed 7 = .ok (.aload_n 0, 1) := by decide +kernel
theorem dX2_isAlarmed_8 : decode cX2_isAlarmed 8 = .ok (.getfield 21, 3) := by decide +kernel
theorem dX2_isAlarmed_11 : decode cX2_isAlarmed 11 = .ok (.iload_n 1, 1) := by decide +kernel
theorem dX2_isAlarmed_12 : decode cX2_isAlarmed 12 = .ok (.iaload, 1) := by decide +kernel
theorem dX2_isAlarmed_13 : decode cX2_isAlarmed 13 = .ok (.istore_n 3, 1) := by decide +kernel
theorem dX2_isAlarmed_14 : decode cX2_isAlarmed 14 = .ok (.aload_n 0, 1) := by decide +kernel
theorem dX2_isAlarmed_15 : decode cX2_isAlarmed 15 = .ok (.getfield 18, 3) := by decide +kernel
theorem dX2_isAlarmed_18 : decode cX2_isAlarmed 18 = .ok (.iload_n 1, 1) := by decide +kernel
theorem dX2_isAlarmed_19 : decode cX2_isAlarmed 19 = .ok (.iaload, 1) := by decide +kernel
theorem dX2_isAlarmed_20 : decode cX2_isAlarmed 20 = .ok (.tableswitch 67 1 3 #[28, 39, 50], 28) := by decide +kernel
theorem dX2_isAlarmed_48 : decode cX2_isAlarmed 48 = .ok (.iload_n 2, 1) := by decide +kernel
theorem dX2_isAlarmed_49 : decode cX2_isAlarmed 49 = .ok (.iload_n 3, 1) := by decide +kernel
theorem dX2_isAlarmed_50 : decode cX2_isAlarmed 50 = .ok (.if_icmp .le 7, 3) := by decide +kernel
theorem dX2_isAlarmed_53 : decode cX2_isAlarmed 53 = .ok (.iconst 1, 1) := by decide +kernel
theorem dX2_isAlarmed_54 : decode cX2_isAlarmed 54 = .ok (.goto 4, 3) := by decide +kernel
theorem dX2_isAlarmed_57 : decode cX2_isAlarmed 57 = .ok (.iconst 0, 1) := by decide +kernel
theorem dX2_isAlarmed_58 : decode cX2_isAlarmed 58 = .ok (.ireturn, 1) := by decide +kernel
theorem dX2_isAlarmed_59 : decode cX2_isAlarmed 59 = .ok (.iload_n 2, 1) := by decide +kernel
theorem dX2_isAlarmed_60 : decode cX2_isAlarmed 60 = .ok (.iload_n 3, 1) := by decide +kernel
theorem dX2_isAlarmed_61 : decode cX2_isAlarmed 61 = .ok (.if_icmp .ge 7, 3) := by decide +kernel
theorem dX2_isAlarmed_64 : decode cX2_isAlarmed 64 = .ok (.iconst 1, 1) := by decide +kernel
theorem dX2_isAlarmed_65 : decode cX2_isAlarmed 65 = .ok (.goto 4, 3) := by decide +kernel
theorem dX2_isAlarmed_68 : decode cX2_isAlarmed 68 = .ok (.iconst 0, 1) := by decide +kernel
theorem dX2_isAlarmed_69 : decode cX2_isAlarmed 69 = .ok (.ireturn, 1) := by decide +kernel
theorem dX2_isAlarmed_70 : decode cX2_isAlarmed 70 = .ok (.iload_n 2, 1) := by decide +kernel
theorem dX2_isAlarmed_71 : decode cX2_isAlarmed 71 = .ok (.invokestatic 63, 3) := by decide +kernel
theorem dX2_isAlarmed_74 : decode cX2_isAlarmed 74 = .ok (.iload_n 3, 1) := by decide +kernel
theorem dX2_isAlarmed_75 : decode cX2_isAlarmed 75 = .ok (.invokestatic 63, 3) := by decide +kernel
theorem dX2_isAlarmed_78 : decode cX2_isAlarmed 78 = .ok (.if_icmp .le 7, 3) := by decide +kernel
theorem dX2_isAlarmed_81 : decode cX2_isAlarmed 81 = .ok (.iconst 1, 1) := by decide +kernel
theorem dX2_isAlarmed_82 : decode cX2_isAlarmed 82 = .ok (.goto 4, 3) := by decide +kernel
theorem dX2_isAlarmed_85 : decode cX2_isAlarmed 85 = .ok (.iconst 0, 1) := by decide +kernel
theorem dX2_isAlarmed_86 : decode cX2_isAlarmed 86 = .ok (.ireturn, 1) := by decide +kernel
theorem dX2_isAlarmed_87 : decode cX2_isAlarmed 87 = .ok (.iconst 0, 1) := by decide +kernel
theorem dX2_isAlarmed_88 : decode cX2_isAlarmed 88 = .ok (.ireturn, 1) := by decide +kernel
theorem dX3_init_0 : decode cX3_init 0 = .ok (.aload_n 0, 1) := by decide +kernel
theorem dX3_init_1 : decode cX3_init 1 = .ok (.invokespecial 1, 3) := by decide +kernel
theorem dX3_init_4 : decode cX3_init 4 = .ok (.aload_n 0, 1) := by decide +kernel
theorem dX3_init_5 : decode cX3_init 5 = .ok (.bipush 6, 2) := by decide +kernel
theorem dX3_init_7 : decode cX3_init 7 = .ok (.newarray .int, 2) := by decide +kernel
theorem dX3_init_9 : decode cX3_init 9 = .ok (.putfield 9, 3) := by decide +kernel
theorem dX3_init_12 : decode cX3_init 12 = .ok (.aload_n 0, 1) := by decide +kernel
theorem dX3_init_13 : decode cX3_init 13 = .ok (.iconst 0, 1) := by decide +kernel
theorem dX3_init_14 : decode cX3_init 14 = .ok (.putfield 13, 3) := by decide +kernel
theorem dX3_init_17 : decode cX3_init 17 = .ok (.return_, 1) := by decide +kernel
theorem dX3_copyFrom_0 : decode cX3_copyFrom 0 = .ok (.aload_n 1, 1) := by decide +kernel
theorem dX3_copyFrom_1 : decode cX3_copyFrom 1 = .ok (.getfield 9, 3) := by decide +kernel
theorem dX3_copyFrom_4 : decode cX3_copyFrom 4 = .ok (.iconst 0, 1) := by decide +kernel
theorem dX3_copyFrom_5 : decode cX3_copyFrom 5 = .ok (.aload_n 0, 1) := by decide +kernel
theorem dX3_copyFrom_6 : decode cX3_copyFrom 6 = .ok (.getfield 9, 3) := by decide +kernel
theorem dX3_copyFrom_9 : decode cX3_copyFrom 9 = .ok (.iconst 0, 1) := by decide +kernel
theorem dX3_copyFrom_10 : decode cX3_copyFrom 10 = .ok (.bipush 6, 2) := by decide +kernel
theorem dX3_copyFrom_12 : decode cX3_copyFrom 12 = .ok (.invokestatic 17, 3) := by decide +kernel
theorem dX3_copyFrom_15 : decode cX3_copyFrom 15 = .ok (.aload_n 0, 1) := by decide +kernel
theorem dX3_copyFrom_16 : decode cX3_copyFrom 16 = .ok (.aload_n 1, 1) := by decide +kernel
theorem dX3_copyFrom_17 : decode cX3_copyFrom 17 = .ok (.getfield 13, 3) := by decide +kernel
theorem dX3_copyFrom_20 : decode cX3_copyFrom 20 = .ok (.putfield 13, 3) := by decide +kernel
theorem dX3_copyFrom_23 : decode cX3_copyFrom 23 = .ok (.return_, 1) := by decide +kernel
theorem dX3_has_0 : decode cX3_has 0 = .ok (.iload_n 1, 1) := by decide +kernel
theorem dX3_has_1 : decode cX3_has 1 = .ok (.ifCond .lt 15, 3) := by decide +kernel
theorem dX3_has_4 : decode cX3_has 4 = .ok (.iload_n 1, 1) := by decide +kernel
theorem dX3_has_5 : decode cX3_has 5 = .ok (.aload_n 0, 1) := by decide +kernel
theorem dX3_has_6 : decode cX3_has 6 = .ok (.getfield 13, 3) := by decide +kernel
theorem dX3_has_9 : decode cX3_has 9 = .ok (.if_icmp .ge 7, 3) := by decide +kernel
theorem dX3_has_12 : decode cX3_has 12 = .ok (.iconst 1, 1) := by decide +kernel
theorem dX3_has_13 : decode cX3_has 13 = .ok (.goto 4, 3) := by decide +kernel
theorem dX3_has_16 : decode cX3_has 16 = .ok (.iconst 0, 1) := by decide +kernel
theorem dX3_has_17 : decode cX3_has 17 = .ok (.ireturn, 1) := by decide +kernel
theorem dX3_remember_0 : decode cX3_remember 0 = .ok (.aload_n 0, 1) := by decide +kernel
theorem dX3_remember_1 : decode cX3_remember 1 = .ok (.iload_n 1, 1) := by decide +kernel
theorem dX3_remember_2 : decode cX3_remember 2 = .ok (.invokevirtual 23, 3) := by decide +kernel
theorem dX3_remember_5 : decode cX3_remember 5 = .ok (.ifCond .eq 4, 3) := by decide +kernel
theorem dX3_remember_8 : decode cX3_remember 8 = .ok (.return_, 1) := by decide +kernel
theorem dX3_remember_9 : decode cX3_remember 9 = .ok (.aload_n 0, 1) := by decide +kernel
theorem dX3_remember_10 : decode cX3_remember 10 = .ok (.getfield 13, 3) := by decide +kernel
theorem dX3_remember_13 : decode cX3_remember 13 = .ok (.bipush 6, 2) := by decide +kernel
theorem dX3_remember_15 : decode cX3_remember 15 = .ok (.if_icmp .lt 7, 3) := by decide +kernel
theorem dX3_remember_18 : decode cX3_remember 18 = .ok (.aload_n 0, 1) := by decide +kernel
theorem dX3_remember_19 : decode cX3_remember 19 = .ok (.invokevirtual 27, 3) := by decide +kernel
theorem dX3_remember_22 : decode cX3_remember 22 = .ok (.aload_n 0, 1) := by decide +kernel
theorem dX3_remember_23 : decode cX3_remember 23 = .ok (.getfield 9, 3) := by decide +kernel
theorem dX3_remember_26 : decode cX3_remember 26 = .ok (.aload_n 0, 1) := by decide +kernel
theorem dX3_remember_27 : decode cX3_remember 27 = .ok (.getfield 13, 3) := by decide +kernel
theorem dX3_remember_30 : decode cX3_remember 30 = .ok (.iload_n 1, 1) := by decide +kernel
theorem dX3_remember_31 : decode cX3_remember 31 = .ok (.iastore, 1) := by decide +kernel
theorem dX3_remember_32 : decode cX3_remember 32 = .ok (.aload_n 0, 1) := by decide +kernel
theorem dX3_remember_33 : decode cX3_remember 33 = .ok (.dup, 1) := by decide +kernel
theorem dX3_remember_34 : decode cX3_remember 34 = .ok (.getfield 13, 3) := by decide +kernel
theorem dX3_remember_37 : decode cX3_remember 37 = .ok (.iconst 1, 1) := by decide +kernel
theorem dX3_remember_38 : decode cX3_remember 38 = .ok (.iadd, 1) := by decide +kernel
theorem dX3_remember_39 : decode cX3_remember 39 = .ok (.putfield 13, 3) := by decide +kernel
theorem dX3_remember_42 : decode cX3_remember 42 = .ok (.return_, 1) := by decide +kernel
theorem dX3_mixInto_0 : decode cX3_mixInto 0 = .ok (.lload_n 1, 1) := by decide +kernel
theorem dX3_mixInto_1 : decode cX3_mixInto 1 = .ok (.aload_n 0, 1) := by decide +kernel
theorem dX3_mixInto_2 : decode cX3_mixInto 2 = .ok (.getfield 13, 3) := by decide +kernel
theorem dX3_mixInto_5 : decode cX3_mixInto 5 = .ok (.invokestatic 30, 3) := by decide +kernel
theorem dX3_mixInto_8 : decode cX3_mixInto 8 = .ok (.lstore_n 3, 1) := by decide +kernel
theorem dX3_mixInto_9 : decode cX3_mixInto 9 = .ok (.iconst 0, 1) := by decide +kernel
theorem dX3_mixInto_10 : decode cX3_mixInto 10 = .ok (.istore 5, 2) := by decide +kernel
theorem dX3_mixInto_12 : decode cX3_mixInto 12 = .ok (.iload 5, 2) := by decide +kernel
theorem dX3_mixInto_14 : decode cX3_mixInto 14 = .ok (.aload_n 0, 1) := by decide +kernel
theorem dX3_mixInto_15 : decode cX3_mixInto 15 = .ok (.getfield 13, 3) := by decide +kernel
theorem dX3_mixInto_18 : decode cX3_mixInto 18 = .ok (.if_icmp .ge 21, 3) := by decide +kernel
theorem dX3_mixInto_21 : decode cX3_mixInto 21 = .ok (.lload_n 3, 1) := by decide +kernel
theorem dX3_mixInto_22 : decode cX3_mixInto 22 = .ok (.aload_n 0, 1) := by decide +kernel
theorem dX3_mixInto_23 : decode cX3_mixInto 23 = .ok (.getfield 9, 3) := by decide +kernel
theorem dX3_mixInto_26 : decode cX3_mixInto 26 = .ok (.iload 5, 2) := by decide +kernel
theorem dX3_mixInto_28 : decode cX3_mixInto 28 = .ok (.iaload, 1) := by decide +kernel
theorem dX3_mixInto_29 : decode cX3_mixInto 29 = .ok (.invokestatic 30, 3) := by decide +kernel
theorem dX3_mixInto_32 : decode cX3_mixInto 32 = .ok (.lstore_n 3, 1) := by decide +kernel
theorem dX3_mixInto_33 : decode cX3_mixInto 33 = .ok (.iinc 5 1, 3) := by decide +kernel
theorem dX3_mixInto_36 : decode cX3_mixInto 36 = .ok (.goto (-24), 3) := by decide +kernel
theorem dX3_mixInto_39 : decode cX3_mixInto 39 = .ok (.lload_n 3, 1) := by decide +kernel
theorem dX3_mixInto_40 : decode cX3_mixInto 40 = .ok (.lreturn, 1) := by decide +kernel
theorem dX3_holds_0 : decode cX3_holds 0 = .ok (.iconst 0, 1) := by decide +kernel
theorem dX3_holds_1 : decode cX3_holds 1 = .ok (.istore_n 2, 1) := by decide +kernel
theorem dX3_holds_2 : decode cX3_holds 2 = .ok (.iload_n 2, 1) := by decide +kernel
theorem dX3_holds_3 : decode cX3_holds 3 = .ok (.aload_n 0, 1) := by decide +kernel
theorem dX3_holds_4 : decode cX3_holds 4 = .ok (.getfield 13, 3) := by decide +kernel
theorem dX3_holds_7 : decode cX3_holds 7 = .ok (.if_icmp .ge 21, 3) := by decide +kernel
theorem dX3_holds_10 : decode cX3_holds 10 = .ok (.aload_n 0, 1) := by decide +kernel
theorem dX3_holds_11 : decode cX3_holds 11 = .ok (.getfield 9, 3) := by decide +kernel
theorem dX3_holds_14 : decode cX3_holds 14 = .ok (.iload_n 2, 1) := by decide +kernel
theorem dX3_holds_15 : decode cX3_holds 15 = .ok (.iaload, 1) := by decide +kernel
theorem dX3_holds_16 : decode cX3_holds 16 = .ok (.iload_n 1, 1) := by decide +kernel
theorem dX3_holds_17 : decode cX3_holds 17 = .ok (.if_icmp .ne 5, 3) := by decide +kernel
theorem dX3_holds_20 : decode cX3_holds 20 = .ok (.iconst 1, 1) := by decide +kernel
theorem dX3_holds_21 : decode cX3_holds 21 = .ok (.ireturn, 1) := by decide +kernel
theorem dX3_holds_22 : decode cX3_holds 22 = .ok (.iinc 2 1, 3) := by decide +kernel
theorem dX3_holds_25 : decode cX3_holds 25 = .ok (.goto (-23), 3) := by decide +kernel
theorem dX3_holds_28 : decode cX3_holds 28 = .ok (.iconst 0, 1) := by decide +kernel
theorem dX3_holds_29 : decode cX3_holds 29 = .ok (.ireturn, 1) := by decide +kernel
theorem dX3_forgetOldest_0 : decode cX3_forgetOldest 0 = .ok (.iconst 0, 1) := by decide +kernel
theorem dX3_forgetOldest_1 : decode cX3_forgetOldest 1 = .ok (.istore_n 1, 1) := by decide +kernel
theorem dX3_forgetOldest_2 : decode cX3_forgetOldest 2 = .ok (.iload_n 1, 1) := by decide +kernel
theorem dX3_forgetOldest_3 : decode cX3_forgetOldest 3 = .ok (.iconst 1, 1) := by decide +kernel
theorem dX3_forgetOldest_4 : decode cX3_forgetOldest 4 = .ok (.iadd, 1) := by decide +kernel
theorem dX3_forgetOldest_5 : decode cX3_forgetOldest 5 = .ok (.aload_n 0, 1) := by decide +kernel
theorem dX3_forgetOldest_6 : decode cX3_forgetOldest 6 = .ok (.getfield 13, 3) := by decide +kernel
theorem dX3_forgetOldest_9 : decode cX3_forgetOldest 9 = .ok (.if_icmp .ge 23, 3) := by decide +kernel
theorem dX3_forgetOldest_12 : decode cX3_forgetOldest 12 = .ok (.aload_n 0, 1) := by decide +kernel
theorem dX3_forgetOldest_13 : decode cX3_forgetOldest 13 = .ok (.getfield 9, 3) := by decide +kernel
theorem dX3_forgetOldest_16 : decode cX3_forgetOldest 16 = .ok (.iload_n 1, 1) := by decide +kernel
theorem dX3_forgetOldest_17 : decode cX3_forgetOldest 17 = .ok (.aload_n 0, 1) := by decide +kernel
theorem dX3_forgetOldest_18 : decode cX3_forgetOldest 18 = .ok (.getfield 9, 3) := by decide +kernel
theorem dX3_forgetOldest_21 : decode cX3_forgetOldest 21 = .ok (.iload_n 1, 1) := by decide +kernel
theorem dX3_forgetOldest_22 : decode cX3_forgetOldest 22 = .ok (.iconst 1, 1) := by decide +kernel
theorem dX3_forgetOldest_23 : decode cX3_forgetOldest 23 = .ok (.iadd, 1) := by decide +kernel
theorem dX3_forgetOldest_24 : decode cX3_forgetOldest 24 = .ok (.iaload, 1) := by decide +kernel
theorem dX3_forgetOldest_25 : decode cX3_forgetOldest 25 = .ok (.iastore, 1) := by decide +kernel
theorem dX3_forgetOldest_26 : decode cX3_forgetOldest 26 = .ok (.iinc 1 1, 3) := by decide +kernel
theorem dX3_forgetOldest_29 : decode cX3_forgetOldest 29 = .ok (.goto (-27), 3) := by decide +kernel
theorem dX3_forgetOldest_32 : decode cX3_forgetOldest 32 = .ok (.aload_n 0, 1) := by decide +kernel
theorem dX3_forgetOldest_33 : decode cX3_forgetOldest 33 = .ok (.dup, 1) := by decide +kernel
theorem dX3_forgetOldest_34 : decode cX3_forgetOldest 34 = .ok (.getfield 13, 3) := by decide +kernel
theorem dX3_forgetOldest_37 : decode cX3_forgetOldest 37 = .ok (.iconst 1, 1) := by decide +kernel
theorem dX3_forgetOldest_38 : decode cX3_forgetOldest 38 = .ok (.isub, 1) := by decide +kernel
theorem dX3_forgetOldest_39 : decode cX3_forgetOldest 39 = .ok (.putfield 13, 3) := by decide +kernel
theorem dX3_forgetOldest_42 : decode cX3_forgetOldest 42 = .ok (.return_, 1) := by decide +kernel
theorem dX4_init_0 : decode cX4_init 0 = .ok (.aload_n 0, 1) := by decide +kernel
theorem dX4_init_1 : decode cX4_init 1 = .ok (.invokespecial 1, 3) := by decide +kernel
theorem dX4_init_4 : decode cX4_init 4 = .ok (.aload_n 0, 1) := by decide +kernel
theorem dX4_init_5 : decode cX4_init 5 = .ok (.iconst 5, 1) := by decide +kernel
theorem dX4_init_6 : decode cX4_init 6 = .ok (.anewarray 9, 3) := by decide +kernel
theorem dX4_init_9 : decode cX4_init 9 = .ok (.putfield 11, 3) := by decide +kernel
theorem dX4_init_12 : decode cX4_init 12 = .ok (.iconst 0, 1) := by decide +kernel
theorem dX4_init_13 : decode cX4_init 13 = .ok (.istore_n 1, 1) := by decide +kernel
theorem dX4_init_14 : decode cX4_init 14 = .ok (.iload_n 1, 1) := by decide +kernel
theorem dX4_init_15 : decode cX4_init 15 = .ok (.iconst 5, 1) := by decide +kernel
theorem dX4_init_16 : decode cX4_init 16 = .ok (.if_icmp .ge 22, 3) := by decide +kernel
theorem dX4_init_19 : decode cX4_init 19 = .ok (.aload_n 0, 1) := by decide +kernel
theorem dX4_init_20 : decode cX4_init 20 = .ok (.getfield 11, 3) := by decide +kernel
theorem dX4_init_23 : decode cX4_init 23 = .ok (.iload_n 1, 1) := by decide +kernel
theorem dX4_init_24 : decode cX4_init 24 = .ok (.new 9, 3) := by decide +kernel
theorem dX4_init_27 : decode cX4_init 27 = .ok (.dup, 1) := by decide +kernel
theorem dX4_init_28 : decode cX4_init 28 = .ok (.invokespecial 15, 3) := by decide +kernel
theorem dX4_init_31 : decode cX4_init 31 = .ok (.aastore, 1) := by decide +kernel
theorem dX4_init_32 : decode cX4_init 32 = .ok (.iinc 1 1, 3) := by decide +kernel
theorem dX4_init_35 : decode cX4_init 35 = .ok (.goto (-21), 3) := by decide +kernel
theorem dX4_init_38 : decode cX4_init 38 = .ok (.aload_n 0, 1) := by decide +kernel
theorem dX4_init_39 : decode cX4_init 39 = .ok (.iconst 0, 1) := by decide +kernel
theorem dX4_init_40 : decode cX4_init 40 = .ok (.putfield 16, 3) := by decide +kernel
theorem dX4_init_43 : decode cX4_init 43 = .ok (.return_, 1) := by decide +kernel
theorem dX4_push_0 : decode cX4_push 0 = .ok (.aload_n 0, 1) := by decide +kernel
theorem dX4_push_1 : decode cX4_push 1 = .ok (.getfield 16, 3) := by decide +kernel
theorem dX4_push_4 : decode cX4_push 4 = .ok (.iconst 5, 1) := by decide +kernel
theorem dX4_push_5 : decode cX4_push 5 = .ok (.if_icmp .lt 7, 3) := by decide +kernel
theorem dX4_push_8 : decode cX4_push 8 = .ok (.aload_n 0, 1) := by decide +kernel
theorem dX4_push_9 : decode cX4_push 9 = .ok (.invokevirtual 20, 3) := by decide +kernel
theorem dX4_push_12 : decode cX4_push 12 = .ok (.aload_n 0, 1) := by decide +kernel
theorem dX4_push_13 : decode cX4_push 13 = .ok (.getfield 11, 3) := by decide +kernel
theorem dX4_push_16 : decode cX4_push 16 = .ok (.aload_n 0, 1) := by decide +kernel
theorem dX4_push_17 : decode cX4_push 17 = .ok (.getfield 16, 3) := by decide +kernel
theorem dX4_push_20 : decode cX4_push 20 = .ok (.aaload, 1) := by decide +kernel
theorem dX4_push_21 : decode cX4_push 21 = .ok (.aload_n 1, 1) := by decide +kernel
theorem dX4_push_22 : decode cX4_push 22 = .ok (.invokevirtual 23, 3) := by decide +kernel
theorem dX4_push_25 : decode cX4_push 25 = .ok (.aload_n 0, 1) := by decide +kernel
theorem dX4_push_26 : decode cX4_push 26 = .ok (.dup, 1) := by decide +kernel
theorem dX4_push_27 : decode cX4_push 27 = .ok (.getfield 16, 3) := by decide +kernel
theorem dX4_push_30 : decode cX4_push 30 = .ok (.iconst 1, 1) := by decide +kernel
theorem dX4_push_31 : decode cX4_push 31 = .ok (.iadd, 1) := by decide +kernel
theorem dX4_push_32 : decode cX4_push 32 = .ok (.putfield 16, 3) := by decide +kernel
theorem dX4_push_35 : decode cX4_push 35 = .ok (.return_, 1) := by decide +kernel
theorem dX4_popInto_0 : decode cX4_popInto 0 = .ok (.aload_n 0, 1) := by decide +kernel
theorem dX4_popInto_1 : decode cX4_popInto 1 = .ok (.getfield 16, 3) := by decide +kernel
theorem dX4_popInto_4 : decode cX4_popInto 4 = .ok (.ifCond .le 26, 3) := by decide +kernel
theorem dX4_popInto_7 : decode cX4_popInto 7 = .ok (.aload_n 0, 1) := by decide +kernel
theorem dX4_popInto_8 : decode cX4_popInto 8 = .ok (.dup, 1) := by decide +kernel
theorem dX4_popInto_9 : decode cX4_popInto 9 = .ok (.getfield 16, 3) := by decide +kernel
theorem dX4_popInto_12 : decode cX4_popInto 12 = .ok (.iconst 1, 1) := by decide +kernel
theorem dX4_popInto_13 : decode cX4_popInto 13 = .ok (.isub, 1) := by decide +kernel
theorem dX4_popInto_14 : decode cX4_popInto 14 = .ok (.putfield 16, 3) := by decide +kernel
theorem dX4_popInto_17 : decode cX4_popInto 17 = .ok (.aload_n 1, 1) := by decide +kernel
theorem dX4_popInto_18 : decode cX4_popInto 18 = .ok (.aload_n 0, 1) := by decide +kernel
theorem dX4_popInto_19 : decode cX4_popInto 19 = .ok (.getfield 11, 3) := by decide +kernel
theorem dX4_popInto_22 : decode cX4_popInto 22 = .ok (.aload_n 0, 1) := by decide +kernel
theorem dX4_popInto_23 : decode cX4_popInto 23 = .ok (.getfield 16, 3) := by decide +kernel
theorem dX4_popInto_26 : decode cX4_popInto 26 = .ok (.aaload, 1) := by decide +kernel
theorem dX4_popInto_27 : decode cX4_popInto 27 = .ok (.invokevirtual 23, 3) := by decide +kernel
theorem dX4_popInto_30 : decode cX4_popInto 30 = .ok (.aload_n 0, 1) := by decide +kernel
theorem dX4_popInto_31 : decode cX4_popInto 31 = .ok (.getfield 16, 3) := by decide +kernel
theorem dX4_popInto_34 : decode cX4_popInto 34 = .ok (.ireturn, 1) := by decide +kernel
theorem dX4_dropOldest_0 : decode cX4_dropOldest 0 = .ok (.aload_n 0, 1) := by decide +kernel
theorem dX4_dropOldest_1 : decode cX4_dropOldest 1 = .ok (.getfield 11, 3) := by decide +kernel
theorem dX4_dropOldest_4 : decode cX4_dropOldest 4 = .ok (.iconst 0, 1) := by decide +kernel
theorem dX4_dropOldest_5 : decode cX4_dropOldest 5 = .ok (.aaload, 1) := by decide +kernel
theorem dX4_dropOldest_6 : decode cX4_dropOldest 6 = .ok (.astore_n 1, 1) := by decide +kernel
theorem dX4_dropOldest_7 : decode cX4_dropOldest 7 = .ok (.iconst 0, 1) := by decide +kernel
theorem dX4_dropOldest_8 : decode cX4_dropOldest 8 = .ok (.istore_n 2, 1) := by decide +kernel
theorem dX4_dropOldest_9 : decode cX4_dropOldest 9 = .ok (.iload_n 2, 1) := by decide +kernel
theorem dX4_dropOldest_10 : decode cX4_dropOldest 10 = .ok (.iconst 1, 1) := by decide +kernel
theorem dX4_dropOldest_11 : decode cX4_dropOldest 11 = .ok (.iadd, 1) := by decide +kernel
theorem dX4_dropOldest_12 : decode cX4_dropOldest 12 = .ok (.iconst 5, 1) := by decide +kernel
theorem dX4_dropOldest_13 : decode cX4_dropOldest 13 = .ok (.if_icmp .ge 23, 3) := by decide +kernel
theorem dX4_dropOldest_16 : decode cX4_dropOldest 16 = .ok (.aload_n 0, 1) := by decide +kernel
theorem dX4_dropOldest_17 : decode cX4_dropOldest 17 = .ok (.getfield 11, 3) := by decide +kernel
theorem dX4_dropOldest_20 : decode cX4_dropOldest 20 = .ok (.iload_n 2, 1) := by decide +kernel
theorem dX4_dropOldest_21 : decode cX4_dropOldest 21 = .ok (.aload_n 0, 1) := by decide +kernel
theorem dX4_dropOldest_22 : decode cX4_dropOldest 22 = .ok (.getfield 11, 3) := by decide +kernel
theorem dX4_dropOldest_25 : decode cX4_dropOldest 25 = .ok (.iload_n 2, 1) := by decide +kernel
theorem dX4_dropOldest_26 : decode cX4_dropOldest 26 = .ok (.iconst 1, 1) := by decide +kernel
theorem dX4_dropOldest_27 : decode cX4_dropOldest 27 = .ok (.iadd, 1) := by decide +kernel
theorem dX4_dropOldest_28 : decode cX4_dropOldest 28 = .ok (.aaload, 1) := by decide +kernel
theorem dX4_dropOldest_29 : decode cX4_dropOldest 29 = .ok (.aastore, 1) := by decide +kernel
theorem dX4_dropOldest_30 : decode cX4_dropOldest 30 = .ok (.iinc 2 1, 3) := by decide +kernel
theorem dX4_dropOldest_33 : decode cX4_dropOldest 33 = .ok (.goto (-24), 3) := by decide +kernel
theorem dX4_dropOldest_36 : decode cX4_dropOldest 36 = .ok (.aload_n 0, 1) := by decide +kernel
theorem dX4_dropOldest_37 : decode cX4_dropOldest 37 = .ok (.getfield 11, 3) := by decide +kernel
theorem dX4_dropOldest_40 : decode cX4_dropOldest 40 = .ok (.iconst 4, 1) := by decide +kernel
theorem dX4_dropOldest_41 : decode cX4_dropOldest 41 = .ok (.aload_n 1, 1) := by decide +kernel
theorem dX4_dropOldest_42 : decode cX4_dropOldest 42 = .ok (.aastore, 1) := by decide +kernel
theorem dX4_dropOldest_43 : decode cX4_dropOldest 43 = .ok (.aload_n 0, 1) := by decide +kernel
theorem dX4_dropOldest_44 : decode cX4_dropOldest 44 = .ok (.dup, 1) := by decide +kernel
theorem dX4_dropOldest_45 : decode cX4_dropOldest 45 = .ok (.getfield 16, 3) := by decide +kernel
theorem dX4_dropOldest_48 : decode cX4_dropOldest 48 = .ok (.iconst 1, 1) := by decide +kernel
theorem dX4_dropOldest_49 : decode cX4_dropOldest 49 = .ok (.isub, 1) := by decide +kernel
theorem dX4_dropOldest_50 : decode cX4_dropOldest 50 = .ok (.putfield 16, 3) := by decide +kernel
theorem dX4_dropOldest_53 : decode cX4_dropOldest 53 = .ok (.return_, 1) := by decide +kernel
theorem dX5_init_0 : decode cX5_init 0 = .ok (.aload_n 0, 1) := by decide +kernel
theorem dX5_init_1 : decode cX5_init 1 = .ok (.invokespecial 3, 3) := by decide +kernel
theorem dX5_init_4 : decode cX5_init 4 = .ok (.aload_n 0, 1) := by decide +kernel
theorem dX5_init_5 : decode cX5_init 5 = .ok (.new 9, 3) := by decide +kernel
theorem dX5_init_8 : decode cX5_init 8 = .ok (.dup, 1) := by decide +kernel
theorem dX5_init_9 : decode cX5_init 9 = .ok (.invokespecial 11, 3) := by decide +kernel
theorem dX5_init_12 : decode cX5_init 12 = .ok (.putfield 12, 3) := by decide +kernel
theorem dX5_init_15 : decode cX5_init 15 = .ok (.aload_n 0, 1) := by decide +kernel
theorem dX5_init_16 : decode cX5_init 16 = .ok (.new 9, 3) := by decide +kernel
theorem dX5_init_19 : decode cX5_init 19 = .ok (.dup, 1) := by decide +kernel
theorem dX5_init_20 : decode cX5_init 20 = .ok (.invokespecial 11, 3) := by decide +kernel
theorem dX5_init_23 : decode cX5_init 23 = .ok (.putfield 16, 3) := by decide +kernel
theorem dX5_init_26 : decode cX5_init 26 = .ok (.aload_n 0, 1) := by decide +kernel
theorem dX5_init_27 : decode cX5_init 27 = .ok (.new 9, 3) := by decide +kernel
theorem dX5_init_30 : decode cX5_init 30 = .ok (.dup, 1) := by decide +kernel
theorem dX5_init_31 : decode cX5_init 31 = .ok (.invokespecial 11, 3) := by decide +kernel
theorem dX5_init_34 : decode cX5_init 34 = .ok (.putfield 19, 3) := by decide +kernel
theorem dX5_init_37 : decode cX5_init 37 = .ok (.aload_n 0, 1) := by decide +kernel
theorem dX5_init_38 : decode cX5_init 38 = .ok (.new 22, 3) := by decide +kernel
theorem dX5_init_41 : decode cX5_init 41 = .ok (.dup, 1) := by decide +kernel
theorem dX5_init_42 : decode cX5_init 42 = .ok (.invokespecial 24, 3) := by decide +kernel
theorem dX5_init_45 : decode cX5_init 45 = .ok (.putfield 25, 3) := by decide +kernel
theorem dX5_init_48 : decode cX5_init 48 = .ok (.aload_n 0, 1) := by decide +kernel
theorem dX5_init_49 : decode cX5_init 49 = .ok (.new 29, 3) := by decide +kernel
theorem dX5_init_52 : decode cX5_init 52 = .ok (.dup, 1) := by decide +kernel
theorem dX5_init_53 : decode cX5_init 53 = .ok (.invokespecial 31, 3) := by decide +kernel
theorem dX5_init_56 : decode cX5_init 56 = .ok (.putfield 32, 3) := by decide +kernel
theorem dX5_init_59 : decode cX5_init 59 = .ok (.aload_n 0, 1) := by decide +kernel
theorem dX5_init_60 : decode cX5_init 60 = .ok (.bipush 8, 2) := by decide +kernel
theorem dX5_init_62 : decode cX5_init 62 = .ok (.newarray .int, 2) := by decide +kernel
theorem dX5_init_64 : decode cX5_init 64 = .ok (.putfield 36, 3) := by decide +kernel
theorem dX5_init_67 : decode cX5_init 67 = .ok (.aload_n 0, 1) := by decide +kernel
theorem dX5_init_68 : decode cX5_init 68 = .ok (.iconst 0, 1) := by decide +kernel
theorem dX5_init_69 : decode cX5_init 69 = .ok (.putfield 40, 3) := by decide +kernel
theorem dX5_init_72 : decode cX5_init 72 = .ok (.return_, 1) := by decide +kernel
theorem dX5_addDevice_0 : decode cX5_addDevice 0 = .ok (.aload_n 0, 1) := by decide +kernel
theorem dX5_addDevice_1 : decode cX5_addDevice 1 = .ok (.getfield 16, 3) := by decide +kernel
theorem dX5_addDevice_4 : decode cX5_addDevice 4 = .ok (.aload_n 0, 1) := by decide +kernel
theorem dX5_addDevice_5 : decode cX5_addDevice 5 = .ok (.getfield 12, 3) := by decide +kernel
theorem dX5_addDevice_8 : decode cX5_addDevice 8 = .ok (.invokevirtual 44, 3) := by decide +kernel
theorem dX5_addDevice_11 : decode cX5_addDevice 11 = .ok (.aload_n 0, 1) := by decide +kernel
theorem dX5_addDevice_12 : decode cX5_addDevice 12 = .ok (.aload_n 0, 1) := by decide +kernel
theorem dX5_addDevice_13 : decode cX5_addDevice 13 = .ok (.getfield 12, 3) := by decide +kernel
theorem dX5_addDevice_16 : decode cX5_addDevice 16 = .ok (.getfield 48, 3) := by decide +kernel
theorem dX5_addDevice_19 : decode cX5_addDevice 19 = .ok (.iload_n 1, 1) := by decide +kernel
theorem dX5_addDevice_20 : decode cX5_addDevice 20 = .ok (.iload_n 2, 1) := by decide +kernel
theorem dX5_addDevice_21 : decode cX5_addDevice 21 = .ok (.invokevirtual 52, 3) := by decide +kernel
theorem dX5_addDevice_24 : decode cX5_addDevice 24 = .ok (.invokevirtual 58, 3) := by decide +kernel
theorem dX5_addDevice_27 : decode cX5_addDevice 27 = .ok (.ireturn, 1) := by decide +kernel
theorem dX5_removeDevice_0 : decode cX5_removeDevice 0 = .ok (.aload_n 0, 1) := by decide +kernel
theorem dX5_removeDevice_1 : decode cX5_removeDevice 1 = .ok (.getfield 16, 3) := by decide +kernel
theorem dX5_removeDevice_4 : decode cX5_removeDevice 4 = .ok (.aload_n 0, 1) := by decide +kernel
theorem dX5_removeDevice_5 : decode cX5_removeDevice 5 = .ok (.getfield 12, 3) := by decide +kernel
theorem dX5_removeDevice_8 : decode cX5_removeDevice 8 = .ok (.invokevirtual 44, 3) := by decide +kernel
theorem dX5_removeDevice_11 : decode cX5_removeDevice 11 = .ok (.aload_n 0, 1) := by decide +kernel
theorem dX5_removeDevice_12 : decode cX5_removeDevice 12 = .ok (.aload_n 0, 1) := by decide +kernel
theorem dX5_removeDevice_13 : decode cX5_removeDevice 13 = .ok (.getfield 12, 3) := by decide +kernel
theorem dX5_removeDevice_16 : decode cX5_removeDevice 16 = .ok (.getfield 48, 3) := by decide +kernel
theorem dX5_removeDevice_19 : decode cX5_removeDevice 19 = .ok (.iload_n 1, 1) := by decide +kernel
theorem dX5_removeDevice_20 : decode cX5_removeDevice 20 = .ok (.invokevirtual 62, 3) := by decide +kernel
theorem dX5_removeDevice_23 : decode cX5_removeDevice 23 = .ok (.invokevirtual 58, 3) := by decide +kernel
theorem dX5_removeDevice_26 : decode cX5_removeDevice 26 = .ok (.ireturn, 1) := by decide +kernel
theorem dX5_setReading_0 : decode cX5_setReading 0 = .ok (.aload_n 0, 1) := by decide +kernel
theorem dX5_setReading_1 : decode cX5_setReading 1 = .ok (.getfield 16, 3) := by decide +kernel
theorem dX5_setReading_4 : decode cX5_setReading 4 = .ok (.aload_n 0, 1) := by decide +kernel
theorem dX5_setReading_5 : decode cX5_setReading 5 = .ok (.getfield 12, 3) := by decide +kernel
theorem dX5_setReading_8 : decode cX5_setReading 8 = .ok (.invokevirtual 44, 3) := by decide +kernel
theorem dX5_setReading_11 : decode cX5_setReading 11 = .ok (.aload_n 0, 1) := by decide +kernel
theorem dX5_setReading_12 : decode cX5_setReading 12 = .ok (.aload_n 0, 1) := by decide +kernel
theorem dX5_setReading_13 : decode cX5_setReading 13 = .ok (.getfield 12, 3) := by decide +kernel
theorem dX5_setReading_16 : decode cX5_setReading 16 = .ok (.getfield 48, 3) := by decide +kernel
theorem dX5_setReading_19 : decode cX5_setReading 19 = .ok (.iload_n 1, 1) := by decide +kernel
theorem dX5_setReading_20 : decode cX5_setReading 20 = .ok (.iload_n 2, 1) := by decide +kernel
theorem dX5_setReading_21 : decode cX5_setReading 21 = .ok (.invokevirtual 65, 3) := by decide +kernel
theorem dX5_setReading_24 : decode cX5_setReading 24 = .ok (.invokevirtual 58, 3) := by decide +kernel
theorem dX5_setReading_27 : decode cX5_setReading 27 = .ok (.ireturn, 1) := by decide +kernel
theorem dX5_setAlarm_0 : decode cX5_setAlarm 0 = .ok (.aload_n 0, 1) := by decide +kernel
theorem dX5_setAlarm_1 : decode cX5_setAlarm 1 = .ok (.getfield 16, 3) := by decide +kernel
theorem dX5_setAlarm_4 : decode cX5_setAlarm 4 = .ok (.aload_n 0, 1) := by decide +kernel
theorem dX5_setAlarm_5 : decode cX5_setAlarm 5 = .ok (.getfield 12, 3) := by decide +kernel
theorem dX5_setAlarm_8 : decode cX5_setAlarm 8 = .ok (.invokevirtual 44, 3) := by decide +kernel
theorem dX5_setAlarm_11 : decode cX5_setAlarm 11 = .ok (.aload_n 0, 1) := by decide +kernel
theorem dX5_setAlarm_12 : decode cX5_setAlarm 12 = .ok (.aload_n 0, 1) := by decide +kernel
theorem dX5_setAlarm_13 : decode cX5_setAlarm 13 = .ok (.getfield 12, 3) := by decide +kernel
theorem dX5_setAlarm_16 : decode cX5_setAlarm 16 = .ok (.getfield 48, 3) := by decide +kernel
theorem dX5_setAlarm_19 : decode cX5_setAlarm 19 = .ok (.iload_n 1, 1) := by decide +kernel
theorem dX5_setAlarm_20 : decode cX5_setAlarm 20 = .ok (.iload_n 2, 1) := by decide +kernel
theorem dX5_setAlarm_21 : decode cX5_setAlarm 21 = .ok (.iload_n 3, 1) := by decide +kernel
theorem dX5_setAlarm_22 : decode cX5_setAlarm 22 = .ok (.invokevirtual 68, 3) := by decide +kernel
theorem dX5_setAlarm_25 : decode cX5_setAlarm 25 = .ok (.invokevirtual 58, 3) := by decide +kernel
theorem dX5_setAlarm_28 : decode cX5_setAlarm 28 = .ok (.ireturn, 1) := by decide +kernel
theorem dX5_romCode_0 : decode cX5_romCode 0 = .ok (.aload_n 0, 1) := by decide +kernel
theorem dX5_romCode_1 : decode cX5_romCode 1 = .ok (.getfield 12, 3) := by decide +kernel
theorem dX5_romCode_4 : decode cX5_romCode 4 = .ok (.getfield 48, 3) := by decide +kernel
theorem dX5_romCode_7 : decode cX5_romCode 7 = .ok (.iload_n 1, 1) := by decide +kernel
theorem dX5_romCode_8 : decode cX5_romCode 8 = .ok (.invokevirtual 72, 3) := by decide +kernel
theorem dX5_romCode_11 : decode cX5_romCode 11 = .ok (.ifCond .ne 10, 3) := by decide +kernel
theorem dX5_romCode_14 : decode cX5_romCode 14 = .ok (.aload_n 0, 1) := by decide +kernel
theorem dX5_romCode_15 : decode cX5_romCode 15 = .ok (.bipush (-2), 2) := by decide +kernel
theorem dX5_romCode_17 : decode cX5_romCode 17 = .ok (.invokevirtual 76, 3) := by decide +kernel
theorem dX5_romCode_20 : decode cX5_romCode 20 = .ok (.ireturn, 1) := by decide +kernel
theorem dX5_romCode_21 : decode cX5_romCode 21 = .ok (.aload_n 0, 1) := by decide +kernel
theorem dX5_romCode_22 : decode cX5_romCode 22 = .ok (.getfield 12, 3) := by decide +kernel
theorem dX5_romCode_25 : decode cX5_romCode 25 = .ok (.getfield 48, 3) := by decide +kernel
theorem dX5_romCode_28 : decode cX5_romCode 28 = .ok (.getfield 79, 3) := by decide +kernel
theorem dX5_romCode_31 : decode cX5_romCode 31 = .ok (.iload_n 1, 1) := by decide +kernel
theorem dX5_romCode_32 : decode cX5_romCode 32 = .ok (.iaload, 1) := by decide +kernel
theorem dX5_romCode_33 : decode cX5_romCode 33 = .ok (.ireturn, 1) := by decide +kernel
theorem dX5_alarmedDevices_0 : decode cX5_alarmedDevices 0 = .ok (.aload_n 0, 1) := by decide +kernel
theorem dX5_alarmedDevices_1 : decode cX5_alarmedDevices 1 = .ok (.getfield 12, 3) := by decide +kernel
theorem dX5_alarmedDevices_4 : decode cX5_alarmedDevices 4 = .ok (.getfield 48, 3) := by decide +kernel
theorem dX5_alarmedDevices_7 : decode cX5_alarmedDevices 7 = .ok (.invokevirtual 82, 3) := by decide +kernel
theorem dX5_alarmedDevices_10 : decode cX5_alarmedDevices 10 = .ok (.ireturn, 1) := by decide +kernel
theorem dX5_crc_0 : decode cX5_crc 0 = .ok (.iload_n 1, 1) := by decide +kernel
theorem dX5_crc_1 : decode cX5_crc 1 = .ok (.iconst 0, 1) := by decide +kernel
theorem dX5_crc_2 : decode cX5_crc 2 = .ok (.sipush 4095, 3) := by decide +kernel
theorem dX5_crc_5 : decode cX5_crc 5 = .ok (.invokestatic 86, 3) := by decide +kernel
theorem dX5_crc_8 : decode cX5_crc 8 = .ok (.ifCond .ne 10, 3) := by decide +kernel
theorem dX5_crc_11 : decode cX5_crc 11 = .ok (.aload_n 0, 1) := by decide +kernel
theorem dX5_crc_12 : decode cX5_crc 12 = .ok (.bipush (-2), 2) := by decide +kernel
theorem dX5_crc_14 : decode cX5_crc 14 = .ok (.invokevirtual 76, 3) := by decide +kernel
theorem dX5_crc_17 : decode cX5_crc 17 = .ok (.ireturn, 1) := by decide +kernel
theorem dX5_crc_18 : decode cX5_crc 18 = .ok (.iload_n 1, 1) := by decide +kernel
theorem dX5_crc_19 : decode cX5_crc 19 = .ok (.invokestatic 90, 3) := by decide +kernel
theorem dX5_crc_22 : decode cX5_crc 22 = .ok (.ireturn, 1) := by decide +kernel
theorem dX5_setMode_0 : decode cX5_setMode 0 = .ok (.aload_n 0, 1) := by decide +kernel
theorem dX5_setMode_1 : decode cX5_setMode 1 = .ok (.getfield 16, 3) := by decide +kernel
theorem dX5_setMode_4 : decode cX5_setMode 4 = .ok (.aload_n 0, 1) := by decide +kernel
theorem dX5_setMode_5 : decode cX5_setMode 5 = .ok (.getfield 12, 3) := by decide +kernel
theorem dX5_setMode_8 : decode cX5_setMode 8 = .ok (.invokevirtual 44, 3) := by decide +kernel
theorem dX5_setMode_11 : decode cX5_setMode 11 = .ok (.aload_n 0, 1) := by decide +kernel
theorem dX5_setMode_12 : decode cX5_setMode 12 = .ok (.aload_n 0, 1) := by decide +kernel
theorem dX5_setMode_13 : decode cX5_setMode 13 = .ok (.getfield 12, 3) := by decide +kernel
theorem dX5_setMode_16 : decode cX5_setMode 16 = .ok (.iload_n 1, 1) := by decide +kernel
theorem dX5_setMode_17 : decode cX5_setMode 17 = .ok (.invokevirtual 93, 3) := by decide +kernel
theorem dX5_setMode_20 : decode cX5_setMode 20 = .ok (.invokevirtual 58, 3) := by decide +kernel
theorem dX5_setMode_23 : decode cX5_setMode 23 = .ok (.ireturn, 1) := by decide +kernel
theorem dX5_resetSearch_0 : decode cX5_resetSearch 0 = .ok (.aload_n 0, 1) := by decide +kernel
theorem dX5_resetSearch_1 : decode cX5_resetSearch 1 = .ok (.getfield 16, 3) := by decide +kernel
theorem dX5_resetSearch_4 : decode cX5_resetSearch 4 = .ok (.aload_n 0, 1) := by decide +kernel
theorem dX5_resetSearch_5 : decode cX5_resetSearch 5 = .ok (.getfield 12, 3) := by decide +kernel
theorem dX5_resetSearch_8 : decode cX5_resetSearch 8 = .ok (.invokevirtual 44, 3) := by decide +kernel
theorem dX5_resetSearch_11 : decode cX5_resetSearch 11 = .ok (.aload_n 0, 1) := by decide +kernel
theorem dX5_resetSearch_12 : decode cX5_resetSearch 12 = .ok (.aload_n 0, 1) := by decide +kernel
theorem dX5_resetSearch_13 : decode cX5_resetSearch 13 = .ok (.getfield 12, 3) := by decide +kernel
theorem dX5_resetSearch_16 : decode cX5_resetSearch 16 = .ok (.invokevirtual 96, 3) := by decide +kernel
theorem dX5_resetSearch_19 : decode cX5_resetSearch 19 = .ok (.invokevirtual 58, 3) := by decide +kernel
theorem dX5_resetSearch_22 : decode cX5_resetSearch 22 = .ok (.ireturn, 1) := by decide +kernel
theorem dX5_next_0 : decode cX5_next 0 = .ok (.aload_n 0, 1) := by decide +kernel
theorem dX5_next_1 : decode cX5_next 1 = .ok (.getfield 16, 3) := by decide +kernel
theorem dX5_next_4 : decode cX5_next 4 = .ok (.aload_n 0, 1) := by decide +kernel
theorem dX5_next_5 : decode cX5_next 5 = .ok (.getfield 12, 3) := by decide +kernel
theorem dX5_next_8 : decode cX5_next 8 = .ok (.invokevirtual 44, 3) := by decide +kernel
theorem dX5_next_11 : decode cX5_next 11 = .ok (.aload_n 0, 1) := by decide +kernel
theorem dX5_next_12 : decode cX5_next 12 = .ok (.getfield 12, 3) := by decide +kernel
theorem dX5_next_15 : decode cX5_next 15 = .ok (.invokevirtual 99, 3) := by decide +kernel
theorem dX5_next_18 : decode cX5_next 18 = .ok (.istore_n 1, 1) := by decide +kernel
theorem dX5_next_19 : decode cX5_next 19 = .ok (.aload_n 0, 1) := by decide +kernel
theorem dX5_next_20 : decode cX5_next 20 = .ok (.getfield 25, 3) := by decide +kernel
theorem dX5_next_23 : decode cX5_next 23 = .ok (.aload_n 0, 1) := by decide +kernel
theorem dX5_next_24 : decode cX5_next 24 = .ok (.getfield 16, 3) := by decide +kernel
theorem dX5_next_27 : decode cX5_next 27 = .ok (.invokevirtual 102, 3) := by decide +kernel
theorem dX5_next_30 : decode cX5_next 30 = .ok (.iload_n 1, 1) := by decide +kernel
theorem dX5_next_31 : decode cX5_next 31 = .ok (.invokestatic 105, 3) := by decide +kernel
theorem dX5_next_34 : decode cX5_next 34 = .ok (.ifCond .eq 11, 3) := by decide +kernel
theorem dX5_next_37 : decode cX5_next 37 = .ok (.aload_n 0, 1) := by decide +kernel
theorem dX5_next_38 : decode cX5_next 38 = .ok (.iload_n 1, 1) := by decide +kernel
theorem dX5_next_39 : decode cX5_next 39 = .ok (.invokevirtual 76, 3) := by decide +kernel
theorem dX5_next_42 : decode cX5_next 42 = .ok (.goto 4, 3) := by decide +kernel
theorem dX5_next_45 : decode cX5_next 45 = .ok (.iload_n 1, 1) := by decide +kernel
theorem dX5_next_46 : decode cX5_next 46 = .ok (.ireturn, 1) := by decide +kernel
theorem dX5_skipFamily_0 : decode cX5_skipFamily 0 = .ok (.aload_n 0, 1) := by decide +kernel
theorem dX5_skipFamily_1 : decode cX5_skipFamily 1 = .ok (.getfield 16, 3) := by decide +kernel
theorem dX5_skipFamily_4 : decode cX5_skipFamily 4 = .ok (.aload_n 0, 1) := by decide +kernel
theorem dX5_skipFamily_5 : decode cX5_skipFamily 5 = .ok (.getfield 12, 3) := by decide +kernel
theorem dX5_skipFamily_8 : decode cX5_skipFamily 8 = .ok (.invokevirtual 44, 3) := by decide +kernel
theorem dX5_skipFamily_11 : decode cX5_skipFamily 11 = .ok (.aload_n 0, 1) := by decide +kernel
theorem dX5_skipFamily_12 : decode cX5_skipFamily 12 = .ok (.aload_n 0, 1) := by decide +kernel
theorem dX5_skipFamily_13 : decode cX5_skipFamily 13 = .ok (.getfield 12, 3) := by decide +kernel
theorem dX5_skipFamily_16 : decode cX5_skipFamily 16 = .ok (.invokevirtual 108, 3) := by decide +kernel
theorem dX5_skipFamily_19 : decode cX5_skipFamily 19 = .ok (.invokevirtual 58, 3) := by decide +kernel
theorem dX5_skipFamily_22 : decode cX5_skipFamily 22 = .ok (.ireturn, 1) := by decide +kernel
theorem dX5_targetFamily_0 : decode cX5_targetFamily 0 = .ok (.aload_n 0, 1) := by decide +kernel
theorem dX5_targetFamily_1 : decode cX5_targetFamily 1 = .ok (.getfield 16, 3) := by decide +kernel
theorem dX5_targetFamily_4 : decode cX5_targetFamily 4 = .ok (.aload_n 0, 1) := by decide +kernel
theorem dX5_targetFamily_5 : decode cX5_targetFamily 5 = .ok (.getfield 12, 3) := by decide +kernel
theorem dX5_targetFamily_8 : decode cX5_targetFamily 8 = .ok (.invokevirtual 44, 3) := by decide +kernel
theorem dX5_targetFamily_11 : decode cX5_targetFamily 11 = .ok (.aload_n 0, 1) := by decide +kernel
theorem dX5_targetFamily_12 : decode cX5_targetFamily 12 = .ok (.aload_n 0, 1) := by decide +kernel
theorem dX5_targetFamily_13 : decode cX5_targetFamily 13 = .ok (.getfield 12, 3) := by decide +kernel
theorem dX5_targetFamily_16 : decode cX5_targetFamily 16 = .ok (.iload_n 1, 1) := by decide +kernel
theorem dX5_targetFamily_17 : decode cX5_targetFamily 17 = .ok (.invokevirtual 111, 3) := by decide +kernel
theorem dX5_targetFamily_20 : decode cX5_targetFamily 20 = .ok (.invokevirtual 58, 3) := by decide +kernel
theorem dX5_targetFamily_23 : decode cX5_targetFamily 23 = .ok (.ireturn, 1) := by decide +kernel
theorem dX5_setNoise_0 : decode cX5_setNoise 0 = .ok (.aload_n 0, 1) := by decide +kernel
theorem dX5_setNoise_1 : decode cX5_setNoise 1 = .ok (.getfield 16, 3) := by decide +kernel
theorem dX5_setNoise_4 : decode cX5_setNoise 4 = .ok (.aload_n 0, 1) := by decide +kernel
theorem dX5_setNoise_5 : decode cX5_setNoise 5 = .ok (.getfield 12, 3) := by decide +kernel
theorem dX5_setNoise_8 : decode cX5_setNoise 8 = .ok (.invokevirtual 44, 3) := by decide +kernel
theorem dX5_setNoise_11 : decode cX5_setNoise 11 = .ok (.aload_n 0, 1) := by decide +kernel
theorem dX5_setNoise_12 : decode cX5_setNoise 12 = .ok (.aload_n 0, 1) := by decide +kernel
theorem dX5_setNoise_13 : decode cX5_setNoise 13 = .ok (.getfield 12, 3) := by decide +kernel
theorem dX5_setNoise_16 : decode cX5_setNoise 16 = .ok (.iload_n 1, 1) := by decide +kernel
theorem dX5_setNoise_17 : decode cX5_setNoise 17 = .ok (.invokevirtual 114, 3) := by decide +kernel
theorem dX5_setNoise_20 : decode cX5_setNoise 20 = .ok (.invokevirtual 58, 3) := by decide +kernel
theorem dX5_setNoise_23 : decode cX5_setNoise 23 = .ok (.ireturn, 1) := by decide +kernel
theorem dX5_countAhead_0 : decode cX5_countAhead 0 = .ok (.aload_n 0, 1) := by decide +kernel
theorem dX5_countAhead_1 : decode cX5_countAhead 1 = .ok (.getfield 19, 3) := by decide +kernel
theorem dX5_countAhead_4 : decode cX5_countAhead 4 = .ok (.aload_n 0, 1) := by decide +kernel
theorem dX5_countAhead_5 : decode cX5_countAhead 5 = .ok (.getfield 12, 3) := by decide +kernel
theorem dX5_countAhead_8 : decode cX5_countAhead 8 = .ok (.invokevirtual 44, 3) := by decide +kernel
theorem dX5_countAhead_11 : decode cX5_countAhead 11 = .ok (.iconst 0, 1) := by decide +kernel
theorem dX5_countAhead_12 : decode cX5_countAhead 12 = .ok (.istore_n 1, 1) := by decide +kernel
theorem dX5_countAhead_13 : decode cX5_countAhead 13 = .ok (.iload_n 1, 1) := by decide +kernel
theorem dX5_countAhead_14 : decode cX5_countAhead 14 = .ok (.bipush 20, 2) := by decide +kernel
theorem dX5_countAhead_16 : decode cX5_countAhead 16 = .ok (.if_icmp .ge 19, 3) := by decide +kernel
theorem dX5_countAhead_19 : decode cX5_countAhead 19 = .ok (.aload_n 0, 1) := by decide +kernel
theorem dX5_countAhead_20 : decode cX5_countAhead 20 = .ok (.getfield 19, 3) := by decide +kernel
theorem dX5_countAhead_23 : decode cX5_countAhead 23 = .ok (.invokevirtual 99, 3) := by decide +kernel
theorem dX5_countAhead_26 : decode cX5_countAhead 26 = .ok (.ifCond .lt 9, 3) := by decide +kernel
theorem dX5_countAhead_29 : decode cX5_countAhead 29 = .ok (.iinc 1 1, 3) := by decide +kernel
theorem dX5_countAhead_32 : decode cX5_countAhead 32 = .ok (.goto (-19), 3) := by decide +kernel
theorem dX5_countAhead_35 : decode cX5_countAhead 35 = .ok (.iload_n 1, 1) := by decide +kernel
theorem dX5_countAhead_36 : decode cX5_countAhead 36 = .ok (.ireturn, 1) := by decide +kernel
theorem dX5_currentRom_0 : decode cX5_currentRom 0 = .ok (.aload_n 0, 1) := by decide +kernel
theorem dX5_currentRom_1 : decode cX5_currentRom 1 = .ok (.getfield 12, 3) := by decide +kernel
theorem dX5_currentRom_4 : decode cX5_currentRom 4 = .ok (.getfield 117, 3) := by decide +kernel
theorem dX5_currentRom_7 : decode cX5_currentRom 7 = .ok (.ireturn, 1) := by decide +kernel
theorem dX5_lastDiscrepancy_0 : decode cX5_lastDiscrepancy 0 = .ok (.aload_n 0, 1) := by decide +kernel
theorem dX5_lastDiscrepancy_1 : decode cX5_lastDiscrepancy 1 = .ok (.getfield 12, 3) := by decide +kernel
theorem dX5_lastDiscrepancy_4 : decode cX5_lastDiscrepancy 4 = .ok (.getfield 120, 3) := by decide +kernel
theorem dX5_lastDiscrepancy_7 : decode cX5_lastDiscrepancy 7 = .ok (.ireturn, 1) := by decide +kernel
theorem dX5_lastFamilyDiscrepancy_0 : decode cX5_lastFamilyDiscrepancy 0 = .ok (.aload_n 0, 1) := by decide +kernel
theorem dX5_lastFamilyDiscrepancy_1 : decode cX5_lastFamilyDiscrepancy 1 = .ok (.getfield 12, 3) := by decide +kernel
theorem dX5_lastFamilyDiscrepancy_4 : decode cX5_lastFamilyDiscrepancy 4 = .ok (.getfield 123, 3) := by decide +kernel
theorem dX5_lastFamilyDiscrepancy_7 : decode cX5_lastFamilyDiscrepancy 7 = .ok (.ireturn, 1) := by decide +kernel
theorem dX5_isLastDevice_0 : decode cX5_isLastDevice 0 = .ok (.aload_n 0, 1) := by decide +kernel
theorem dX5_isLastDevice_1 : decode cX5_isLastDevice 1 = .ok (.getfield 12, 3) := by decide +kernel
theorem dX5_isLastDevice_4 : decode cX5_isLastDevice 4 = .ok (.getfield 126, 3) := by decide +kernel
theorem dX5_isLastDevice_7 : decode cX5_isLastDevice 7 = .ok (.ifCond .eq 7, 3) := by decide +kernel
theorem dX5_isLastDevice_10 : decode cX5_isLastDevice 10 = .ok (.iconst 1, 1) := by decide +kernel
theorem dX5_isLastDevice_11 : decode cX5_isLastDevice 11 = .ok (.goto 4, 3) := by decide +kernel
theorem dX5_isLastDevice_14 : decode cX5_isLastDevice 14 = .ok (.iconst 0, 1) := by decide +kernel
theorem dX5_isLastDevice_15 : decode cX5_isLastDevice 15 = .ok (.ireturn, 1) := by decide +kernel
theorem dX5_slotsUsed_0 : decode cX5_slotsUsed 0 = .ok (.aload_n 0, 1) := by decide +kernel
theorem dX5_slotsUsed_1 : decode cX5_slotsUsed 1 = .ok (.getfield 12, 3) := by decide +kernel
theorem dX5_slotsUsed_4 : decode cX5_slotsUsed 4 = .ok (.getfield 130, 3) := by decide +kernel
theorem dX5_slotsUsed_7 : decode cX5_slotsUsed 7 = .ok (.ireturn, 1) := by decide +kernel
theorem dX5_found_0 : decode cX5_found 0 = .ok (.aload_n 0, 1) := by decide +kernel
theorem dX5_found_1 : decode cX5_found 1 = .ok (.getfield 12, 3) := by decide +kernel
theorem dX5_found_4 : decode cX5_found 4 = .ok (.getfield 133, 3) := by decide +kernel
theorem dX5_found_7 : decode cX5_found 7 = .ok (.iload_n 1, 1) := by decide +kernel
theorem dX5_found_8 : decode cX5_found 8 = .ok (.invokevirtual 137, 3) := by decide +kernel
theorem dX5_found_11 : decode cX5_found 11 = .ok (.ifCond .ne 10, 3) := by decide +kernel
theorem dX5_found_14 : decode cX5_found 14 = .ok (.aload_n 0, 1) := by decide +kernel
theorem dX5_found_15 : decode cX5_found 15 = .ok (.bipush (-2), 2) := by decide +kernel
theorem dX5_found_17 : decode cX5_found 17 = .ok (.invokevirtual 76, 3) := by decide +kernel
theorem dX5_found_20 : decode cX5_found 20 = .ok (.ireturn, 1) := by decide +kernel
theorem dX5_found_21 : decode cX5_found 21 = .ok (.aload_n 0, 1) := by decide +kernel
theorem dX5_found_22 : decode cX5_found 22 = .ok (.getfield 12, 3) := by decide +kernel
theorem dX5_found_25 : decode cX5_found 25 = .ok (.getfield 133, 3) := by decide +kernel
theorem dX5_found_28 : decode cX5_found 28 = .ok (.getfield 140, 3) := by decide +kernel
theorem dX5_found_31 : decode cX5_found 31 = .ok (.iload_n 1, 1) := by decide +kernel
theorem dX5_found_32 : decode cX5_found 32 = .ok (.iaload, 1) := by decide +kernel
theorem dX5_found_33 : decode cX5_found 33 = .ok (.ireturn, 1) := by decide +kernel
theorem dX5_familyShareBits_0 : decode cX5_familyShareBits 0 = .ok (.iload_n 1, 1) := by decide +kernel
theorem dX5_familyShareBits_1 : decode cX5_familyShareBits 1 = .ok (.iconst 0, 1) := by decide +kernel
theorem dX5_familyShareBits_2 : decode cX5_familyShareBits 2 = .ok (.bipush 15, 2) := by decide +kernel
theorem dX5_familyShareBits_4 : decode cX5_familyShareBits 4 = .ok (.invokestatic 86, 3) := by decide +kernel
theorem dX5_familyShareBits_7 : decode cX5_familyShareBits 7 = .ok (.ifCond .ne 10, 3) := by decide +kernel
theorem dX5_familyShareBits_10 : decode cX5_familyShareBits 10 = .ok (.aload_n 0, 1) := by decide +kernel
theorem dX5_familyShareBits_11 : decode cX5_familyShareBits 11 = .ok (.bipush (-2), 2) := by decide +kernel
theorem dX5_familyShareBits_13 : decode cX5_familyShareBits 13 = .ok (.invokevirtual 76, 3) := by decide +kernel
theorem dX5_familyShareBits_16 : decode cX5_familyShareBits 16 = .ok (.ireturn, 1) := by decide +kernel
theorem dX5_familyShareBits_17 : decode cX5_familyShareBits 17 = .ok (.aload_n 0, 1) := by decide +kernel
theorem dX5_familyShareBits_18 : decode cX5_familyShareBits 18 = .ok (.getfield 12, 3) := by decide +kernel
theorem dX5_familyShareBits_21 : decode cX5_familyShareBits 21 = .ok (.getfield 48, 3) := by decide +kernel
theorem dX5_familyShareBits_24 : decode cX5_familyShareBits 24 = .ok (.iload_n 1, 1) := by decide +kernel
theorem dX5_familyShareBits_25 : decode cX5_familyShareBits 25 = .ok (.invokevirtual 143, 3) := by decide +kernel
theorem dX5_familyShareBits_28 : decode cX5_familyShareBits 28 = .ok (.aload_n 0, 1) := by decide +kernel
theorem dX5_familyShareBits_29 : decode cX5_familyShareBits 29 = .ok (.getfield 12, 3) := by decide +kernel
theorem dX5_familyShareBits_32 : decode cX5_familyShareBits 32 = .ok (.getfield 48, 3) := by decide +kernel
theorem dX5_familyShareBits_35 : decode cX5_familyShareBits 35 = .ok (.getfield 146, 3) := by decide +kernel
theorem dX5_familyShareBits_38 : decode cX5_familyShareBits 38 = .ok (.invokestatic 149, 3) := by decide +kernel
theorem dX5_familyShareBits_41 : decode cX5_familyShareBits 41 = .ok (.ireturn, 1) := by decide +kernel
theorem dX5_append_0 : decode cX5_append 0 = .ok (.iload_n 1, 1) := by decide +kernel
theorem dX5_append_1 : decode cX5_append 1 = .ok (.iconst 0, 1) := by decide +kernel
theorem dX5_append_2 : decode cX5_append 2 = .ok (.bipush 127, 2) := by decide +kernel
theorem dX5_append_4 : decode cX5_append 4 = .ok (.invokestatic 86, 3) := by decide +kernel
theorem dX5_append_7 : decode cX5_append 7 = .ok (.ifCond .ne 10, 3) := by decide +kernel
theorem dX5_append_10 : decode cX5_append 10 = .ok (.aload_n 0, 1) := by decide +kernel
theorem dX5_append_11 : decode cX5_append 11 = .ok (.bipush (-2), 2) := by decide +kernel
theorem dX5_append_13 : decode cX5_append 13 = .ok (.invokevirtual 76, 3) := by decide +kernel
theorem dX5_append_16 : decode cX5_append 16 = .ok (.ireturn, 1) := by decide +kernel
theorem dX5_append_17 : decode cX5_append 17 = .ok (.aload_n 0, 1) := by decide +kernel
theorem dX5_append_18 : decode cX5_append 18 = .ok (.getfield 32, 3) := by decide +kernel
theorem dX5_append_21 : decode cX5_append 21 = .ok (.invokevirtual 152, 3) := by decide +kernel
theorem dX5_append_24 : decode cX5_append 24 = .ok (.ifCond .ne 10, 3) := by decide +kernel
theorem dX5_append_27 : decode cX5_append 27 = .ok (.aload_n 0, 1) := by decide +kernel
theorem dX5_append_28 : decode cX5_append 28 = .ok (.bipush (-4), 2) := by decide +kernel
theorem dX5_append_30 : decode cX5_append 30 = .ok (.invokevirtual 76, 3) := by decide +kernel
theorem dX5_append_33 : decode cX5_append 33 = .ok (.ireturn, 1) := by decide +kernel
theorem dX5_append_34 : decode cX5_append 34 = .ok (.aload_n 0, 1) := by decide +kernel
theorem dX5_append_35 : decode cX5_append 35 = .ok (.getfield 32, 3) := by decide +kernel
theorem dX5_append_38 : decode cX5_append 38 = .ok (.iload_n 1, 1) := by decide +kernel
theorem dX5_append_39 : decode cX5_append 39 = .ok (.invokevirtual 156, 3) := by decide +kernel
theorem dX5_append_42 : decode cX5_append 42 = .ok (.ireturn, 1) := by decide +kernel
theorem dX5_clearText_0 : decode cX5_clearText 0 = .ok (.aload_n 0, 1) := by decide +kernel
theorem dX5_clearText_1 : decode cX5_clearText 1 = .ok (.getfield 32, 3) := by decide +kernel
theorem dX5_clearText_4 : decode cX5_clearText 4 = .ok (.invokevirtual 159, 3) := by decide +kernel
theorem dX5_clearText_7 : decode cX5_clearText 7 = .ok (.ireturn, 1) := by decide +kernel
theorem dX5_execute_0 : decode cX5_execute 0 = .ok (.aload_n 0, 1) := by decide +kernel
theorem dX5_execute_1 : decode cX5_execute 1 = .ok (.getfield 32, 3) := by decide +kernel
theorem dX5_execute_4 : decode cX5_execute 4 = .ok (.invokevirtual 162, 3) := by decide +kernel
theorem dX5_execute_7 : decode cX5_execute 7 = .ok (.istore_n 1, 1) := by decide +kernel
theorem dX5_execute_8 : decode cX5_execute 8 = .ok (.iload_n 1, 1) := by decide +kernel
theorem dX5_execute_9 : decode cX5_execute 9 = .ok (.iconst (-1), 1) := by decide +kernel
theorem dX5_execute_10 : decode cX5_execute 10 = .ok (.if_icmp .eq 8, 3) := by decide +kernel
theorem dX5_execute_13 : decode cX5_execute 13 = .ok (.bipush (-10), 2) := by decide +kernel
theorem dX5_execute_15 : decode cX5_execute 15 = .ok (.iload_n 1, 1) := by decide +kernel
theorem dX5_execute_16 : decode cX5_execute 16 = .ok (.isub, 1) := by decide +kernel
theorem dX5_execute_17 : decode cX5_execute 17 = .ok (.ireturn, 1) := by decide +kernel
theorem dX5_execute_18 : decode cX5_execute 18 = .ok (.aload_n 0, 1) := by decide +kernel
theorem dX5_execute_19 : decode cX5_execute 19 = .ok (.getfield 16, 3) := by decide +kernel
theorem dX5_execute_22 : decode cX5_execute 22 = .ok (.aload_n 0, 1) := by decide +kernel
theorem dX5_execute_23 : decode cX5_execute 23 = .ok (.getfield 12, 3) := by decide +kernel
theorem dX5_execute_26 : decode cX5_execute 26 = .ok (.invokevirtual 44, 3) := by decide +kernel
theorem dX5_execute_29 : decode cX5_execute 29 = .ok (.aload_n 0, 1) := by decide +kernel
theorem dX5_execute_30 : decode cX5_execute 30 = .ok (.getfield 32, 3) := by decide +kernel
theorem dX5_execute_33 : decode cX5_execute 33 = .ok (.getfield 165, 3) := by decide +kernel
theorem dX5_execute_36 : decode cX5_execute 36 = .ok (.istore_n 2, 1) := by decide +kernel
theorem dX5_execute_37 : decode cX5_execute 37 = .ok (.iconst 0, 1) := by decide +kernel
theorem dX5_execute_38 : decode cX5_execute 38 = .ok (.istore_n 3, 1) := by decide +kernel
theorem dX5_execute_39 : decode cX5_execute 39 = .ok (.iload_n 3, 1) := by decide +kernel
theorem dX5_execute_40 : decode cX5_execute 40 = .ok (.iload_n 2, 1) := by decide +kernel
theorem dX5_execute_41 : decode cX5_execute 41 = .ok (.if_icmp .ge 47, 3) := by decide +kernel
theorem dX5_execute_44 : decode cX5_execute 44 = .ok (.aload_n 0, 1) := by decide +kernel
theorem dX5_execute_45 : decode cX5_execute 45 = .ok (.iload_n 3, 1) := by decide +kernel
theorem dX5_execute_46 : decode cX5_execute 46 = .ok (.invokevirtual 168, 3) := by decide +kernel
theorem dX5_execute_49 : decode cX5_execute 49 = .ok (.istore 4, 2) := by decide +kernel
theorem dX5_execute_51 : decode cX5_execute 51 = .ok (.iload 4, 2) := by decide +kernel
theorem dX5_execute_53 : decode cX5_execute 53 = .ok (.invokestatic 171, 3) := by decide +kernel
theorem dX5_execute_56 : decode cX5_execute 56 = .ok (.ifCond .eq 26, 3) := by decide +kernel
theorem dX5_execute_59 : decode cX5_execute 59 = .ok (.aload_n 0, 1) := by decide +kernel
theorem dX5_execute_60 : decode cX5_execute 60 = .ok (.getfield 12, 3) := by decide +kernel
theorem dX5_execute_63 : decode cX5_execute 63 = .ok (.aload_n 0, 1) := by decide +kernel
theorem dX5_execute_64 : decode cX5_execute 64 = .ok (.getfield 16, 3) := by decide +kernel
theorem dX5_execute_67 : decode cX5_execute 67 = .ok (.invokevirtual 44, 3) := by decide +kernel
theorem dX5_execute_70 : decode cX5_execute 70 = .ok (.aload_n 0, 1) := by decide +kernel
theorem dX5_execute_71 : decode cX5_execute 71 = .ok (.iload 4, 2) := by decide +kernel
theorem dX5_execute_73 : decode cX5_execute 73 = .ok (.putfield 40, 3) := by decide +kernel
theorem dX5_execute_76 : decode cX5_execute 76 = .ok (.sipush (-1000), 3) := by decide +kernel
theorem dX5_execute_79 : decode cX5_execute 79 = .ok (.iload_n 3, 1) := by decide +kernel
theorem dX5_execute_80 : decode cX5_execute 80 = .ok (.isub, 1) := by decide +kernel
theorem dX5_execute_81 : decode cX5_execute 81 = .ok (.ireturn, 1) := by decide +kernel
theorem dX5_execute_82 : decode cX5_execute 82 = .ok (.iinc 3 1, 3) := by decide +kernel
theorem dX5_execute_85 : decode cX5_execute 85 = .ok (.goto (-46), 3) := by decide +kernel
theorem dX5_execute_88 : decode cX5_execute 88 = .ok (.aload_n 0, 1) := by decide +kernel
theorem dX5_execute_89 : decode cX5_execute 89 = .ok (.getfield 25, 3) := by decide +kernel
theorem dX5_execute_92 : decode cX5_execute 92 = .ok (.aload_n 0, 1) := by decide +kernel
theorem dX5_execute_93 : decode cX5_execute 93 = .ok (.getfield 16, 3) := by decide +kernel
theorem dX5_execute_96 : decode cX5_execute 96 = .ok (.invokevirtual 102, 3) := by decide +kernel
theorem dX5_execute_99 : decode cX5_execute 99 = .ok (.iload_n 2, 1) := by decide +kernel
theorem dX5_execute_100 : decode cX5_execute 100 = .ok (.ireturn, 1) := by decide +kernel
theorem dX5_stopCause_0 : decode cX5_stopCause 0 = .ok (.aload_n 0, 1) := by decide +kernel
theorem dX5_stopCause_1 : decode cX5_stopCause 1 = .ok (.getfield 40, 3) := by decide +kernel
theorem dX5_stopCause_4 : decode cX5_stopCause 4 = .ok (.ireturn, 1) := by decide +kernel
theorem dX5_undo_0 : decode cX5_undo 0 = .ok (.aload_n 0, 1) := by decide +kernel
theorem dX5_undo_1 : decode cX5_undo 1 = .ok (.getfield 25, 3) := by decide +kernel
theorem dX5_undo_4 : decode cX5_undo 4 = .ok (.getfield 174, 3) := by decide +kernel
theorem dX5_undo_7 : decode cX5_undo 7 = .ok (.ifCond .ne 10, 3) := by decide +kernel
theorem dX5_undo_10 : decode cX5_undo 10 = .ok (.aload_n 0, 1) := by decide +kernel
theorem dX5_undo_11 : decode cX5_undo 11 = .ok (.bipush (-9), 2) := by decide +kernel
theorem dX5_undo_13 : decode cX5_undo 13 = .ok (.invokevirtual 76, 3) := by decide +kernel
theorem dX5_undo_16 : decode cX5_undo 16 = .ok (.ireturn, 1) := by decide +kernel
theorem dX5_undo_17 : decode cX5_undo 17 = .ok (.aload_n 0, 1) := by decide +kernel
theorem dX5_undo_18 : decode cX5_undo 18 = .ok (.getfield 25, 3) := by decide +kernel
theorem dX5_undo_21 : decode cX5_undo 21 = .ok (.aload_n 0, 1) := by decide +kernel
theorem dX5_undo_22 : decode cX5_undo 22 = .ok (.getfield 12, 3) := by decide +kernel
theorem dX5_undo_25 : decode cX5_undo 25 = .ok (.invokevirtual 175, 3) := by decide +kernel
theorem dX5_undo_28 : decode cX5_undo 28 = .ok (.ireturn, 1) := by decide +kernel
theorem dX5_errorCount_0 : decode cX5_errorCount 0 = .ok (.iload_n 1, 1) := by decide +kernel
theorem dX5_errorCount_1 : decode cX5_errorCount 1 = .ok (.invokestatic 105, 3) := by decide +kernel
theorem dX5_errorCount_4 : decode cX5_errorCount 4 = .ok (.ifCond .ne 10, 3) := by decide +kernel
theorem dX5_errorCount_7 : decode cX5_errorCount 7 = .ok (.aload_n 0, 1) := by decide +kernel
theorem dX5_errorCount_8 : decode cX5_errorCount 8 = .ok (.bipush (-2), 2) := by decide +kernel
theorem dX5_errorCount_10 : decode cX5_errorCount 10 = .ok (.invokevirtual 76, 3) := by decide +kernel
theorem dX5_errorCount_13 : decode cX5_errorCount 13 = .ok (.ireturn, 1) := by decide +kernel
theorem dX5_errorCount_14 : decode cX5_errorCount 14 = .ok (.aload_n 0, 1) := by decide +kernel
theorem dX5_errorCount_15 : decode cX5_errorCount 15 = .ok (.getfield 36, 3) := by decide +kernel
theorem dX5_errorCount_18 : decode cX5_errorCount 18 = .ok (.bipush (-2), 2) := by decide +kernel
theorem dX5_errorCount_20 : decode cX5_errorCount 20 = .ok (.iload_n 1, 1) := by decide +kernel
theorem dX5_errorCount_21 : decode cX5_errorCount 21 = .ok (.isub, 1) := by decide +kernel
theorem dX5_errorCount_22 : decode cX5_errorCount 22 = .ok (.iaload, 1) := by decide +kernel
theorem dX5_errorCount_23 : decode cX5_errorCount 23 = .ok (.ireturn, 1) := by decide +kernel
theorem dX5_deviceCount_0 : decode cX5_deviceCount 0 = .ok (.aload_n 0, 1) := by decide +kernel
theorem dX5_deviceCount_1 : decode cX5_deviceCount 1 = .ok (.getfield 12, 3) := by decide +kernel
theorem dX5_deviceCount_4 : decode cX5_deviceCount 4 = .ok (.getfield 48, 3) := by decide +kernel
theorem dX5_deviceCount_7 : decode cX5_deviceCount 7 = .ok (.getfield 146, 3) := by decide +kernel
theorem dX5_deviceCount_10 : decode cX5_deviceCount 10 = .ok (.ireturn, 1) := by decide +kernel
theorem dX5_digest_0 : decode cX5_digest 0 = .ok (.ldc2_w 179, 3) := by decide +kernel
theorem dX5_digest_3 : decode cX5_digest 3 = .ok (.lstore_n 1, 1) := by decide +kernel
theorem dX5_digest_4 : decode cX5_digest 4 = .ok (.iconst 0, 1) := by decide +kernel
theorem dX5_digest_5 : decode cX5_digest 5 = .ok (.istore_n 3, 1) := by decide +kernel
theorem dX5_digest_6 : decode cX5_digest 6 = .ok (.iload_n 3, 1) := by decide +kernel
theorem dX5_digest_7 : decode cX5_digest 7 = .ok (.bipush 8, 2) := by decide +kernel
theorem dX5_digest_9 : decode cX5_digest 9 = .ok (.if_icmp .ge 20, 3) := by decide +kernel
theorem dX5_digest_12 : decode cX5_digest 12 = .ok (.lload_n 1, 1) := by decide +kernel
theorem dX5_digest_13 : decode cX5_digest 13 = .ok (.aload_n 0, 1) := by decide +kernel
theorem dX5_digest_14 : decode cX5_digest 14 = .ok (.getfield 36, 3) := by decide +kernel
theorem dX5_digest_17 : decode cX5_digest 17 = .ok (.iload_n 3, 1) := by decide +kernel
theorem dX5_digest_18 : decode cX5_digest 18 = .ok (.iaload, 1) := by decide +kernel
theorem dX5_digest_19 : decode cX5_digest 19 = .ok (.invokestatic 181, 3) := by decide +kernel
theorem dX5_digest_22 : decode cX5_digest 22 = .ok (.lstore_n 1, 1) := by decide +kernel
theorem dX5_digest_23 : decode cX5_digest 23 = .ok (.iinc 3 1, 3) := by decide +kernel
theorem dX5_digest_26 : decode cX5_digest 26 = .ok (.goto (-20), 3) := by decide +kernel
theorem dX5_digest_29 : decode cX5_digest 29 = .ok (.aload_n 0, 1) := by decide +kernel
theorem dX5_digest_30 : decode cX5_digest 30 = .ok (.getfield 12, 3) := by decide +kernel
theorem dX5_digest_33 : decode cX5_digest 33 = .ok (.lload_n 1, 1) := by decide +kernel
theorem dX5_digest_34 : decode cX5_digest 34 = .ok (.invokevirtual 185, 3) := by decide +kernel
theorem dX5_digest_37 : decode cX5_digest 37 = .ok (.lstore_n 1, 1) := by decide +kernel
theorem dX5_digest_38 : decode cX5_digest 38 = .ok (.lload_n 1, 1) := by decide +kernel
theorem dX5_digest_39 : decode cX5_digest 39 = .ok (.aload_n 0, 1) := by decide +kernel
theorem dX5_digest_40 : decode cX5_digest 40 = .ok (.getfield 32, 3) := by decide +kernel
theorem dX5_digest_43 : decode cX5_digest 43 = .ok (.getfield 189, 3) := by decide +kernel
theorem dX5_digest_46 : decode cX5_digest 46 = .ok (.invokestatic 181, 3) := by decide +kernel
theorem dX5_digest_49 : decode cX5_digest 49 = .ok (.lstore_n 1, 1) := by decide +kernel
theorem dX5_digest_50 : decode cX5_digest 50 = .ok (.lload_n 1, 1) := by decide +kernel
theorem dX5_digest_51 : decode cX5_digest 51 = .ok (.aload_n 0, 1) := by decide +kernel
theorem dX5_digest_52 : decode cX5_digest 52 = .ok (.getfield 25, 3) := by decide +kernel
theorem dX5_digest_55 : decode cX5_digest 55 = .ok (.getfield 174, 3) := by decide +kernel
theorem dX5_digest_58 : decode cX5_digest 58 = .ok (.invokestatic 181, 3) := by decide +kernel
theorem dX5_digest_61 : decode cX5_digest 61 = .ok (.lstore_n 1, 1) := by decide +kernel
theorem dX5_digest_62 : decode cX5_digest 62 = .ok (.lload_n 1, 1) := by decide +kernel
theorem dX5_digest_63 : decode cX5_digest 63 = .ok (.aload_n 0, 1) := by decide +kernel
theorem dX5_digest_64 : decode cX5_digest 64 = .ok (.getfield 40, 3) := by decide +kernel
theorem dX5_digest_67 : decode cX5_digest 67 = .ok (.invokestatic 181, 3) := by decide +kernel
theorem dX5_digest_70 : decode cX5_digest 70 = .ok (.lreturn, 1) := by decide +kernel
theorem dX5_settle_0 : decode cX5_settle 0 = .ok (.iload_n 1, 1) := by decide +kernel
theorem dX5_settle_1 : decode cX5_settle 1 = .ok (.invokestatic 105, 3) := by decide +kernel
theorem dX5_settle_4 : decode cX5_settle 4 = .ok (.ifCond .eq 9, 3) := by decide +kernel
theorem dX5_settle_7 : decode cX5_settle 7 = .ok (.aload_n 0, 1) := by decide +kernel
theorem dX5_settle_8 : decode cX5_settle 8 = .ok (.iload_n 1, 1) := by decide +kernel
theorem dX5_settle_9 : decode cX5_settle 9 = .ok (.invokevirtual 76, 3) := by decide +kernel
theorem dX5_settle_12 : decode cX5_settle 12 = .ok (.ireturn, 1) := by decide +kernel
theorem dX5_settle_13 : decode cX5_settle 13 = .ok (.aload_n 0, 1) := by decide +kernel
theorem dX5_settle_14 : decode cX5_settle 14 = .ok (.getfield 25, 3) := by decide +kernel
theorem dX5_settle_17 : decode cX5_settle 17 = .ok (.aload_n 0, 1) := by decide +kernel
theorem dX5_settle_18 : decode cX5_settle 18 = .ok (.getfield 16, 3) := by decide +kernel
theorem dX5_settle_21 : decode cX5_settle 21 = .ok (.invokevirtual 102, 3) := by decide +kernel
theorem dX5_settle_24 : decode cX5_settle 24 = .ok (.iload_n 1, 1) := by decide +kernel
theorem dX5_settle_25 : decode cX5_settle 25 = .ok (.ireturn, 1) := by decide +kernel
theorem dX5_counted_0 : decode cX5_counted 0 = .ok (.iload_n 1, 1) := by decide +kernel
theorem dX5_counted_1 : decode cX5_counted 1 = .ok (.invokestatic 105, 3) := by decide +kernel
theorem dX5_counted_4 : decode cX5_counted 4 = .ok (.ifCond .eq 16, 3) := by decide +kernel
theorem dX5_counted_7 : decode cX5_counted 7 = .ok (.aload_n 0, 1) := by decide +kernel
theorem dX5_counted_8 : decode cX5_counted 8 = .ok (.getfield 36, 3) := by decide +kernel
theorem dX5_counted_11 : decode cX5_counted 11 = .ok (.bipush (-2), 2) := by decide +kernel
theorem dX5_counted_13 : decode cX5_counted 13 = .ok (.iload_n 1, 1) := by decide +kernel
theorem dX5_counted_14 : decode cX5_counted 14 = .ok (.isub, 1) := by decide +kernel
theorem dX5_counted_15 : decode cX5_counted 15 = .ok (.dup2, 1) := by decide +kernel
theorem dX5_counted_16 : decode cX5_counted 16 = .ok (.iaload, 1) := by decide +kernel
theorem dX5_counted_17 : decode cX5_counted 17 = .ok (.iconst 1, 1) := by decide +kernel
theorem dX5_counted_18 : decode cX5_counted 18 = .ok (.iadd, 1) := by decide +kernel
theorem dX5_counted_19 : decode cX5_counted 19 = .ok (.iastore, 1) := by decide +kernel
theorem dX5_counted_20 : decode cX5_counted 20 = .ok (.iload_n 1, 1) := by decide +kernel
theorem dX5_counted_21 : decode cX5_counted 21 = .ok (.ireturn, 1) := by decide +kernel
theorem dX5_runCommand_0 : decode cX5_runCommand 0 = .ok (.aload_n 0, 1) := by decide +kernel
theorem dX5_runCommand_1 : decode cX5_runCommand 1 = .ok (.getfield 32, 3) := by decide +kernel
theorem dX5_runCommand_4 : decode cX5_runCommand 4 = .ok (.iload_n 1, 1) := by decide +kernel
theorem dX5_runCommand_5 : decode cX5_runCommand 5 = .ok (.iconst 0, 1) := by decide +kernel
theorem dX5_runCommand_6 : decode cX5_runCommand 6 = .ok (.invokevirtual 192, 3) := by decide +kernel
theorem dX5_runCommand_9 : decode cX5_runCommand 9 = .ok (.istore_n 2, 1) := by decide +kernel
theorem dX5_runCommand_10 : decode cX5_runCommand 10 = .ok (.aload_n 0, 1) := by decide +kernel
theorem dX5_runCommand_11 : decode cX5_runCommand 11 = .ok (.getfield 32, 3) := by decide +kernel
theorem dX5_runCommand_14 : decode cX5_runCommand 14 = .ok (.iload_n 1, 1) := by decide +kernel
theorem dX5_runCommand_15 : decode cX5_runCommand 15 = .ok (.iconst 1, 1) := by decide +kernel
theorem dX5_runCommand_16 : decode cX5_runCommand 16 = .ok (.invokevirtual 192, 3) := by decide +kernel
theorem dX5_runCommand_19 : decode cX5_runCommand 19 = .ok (.istore_n 3, 1) := by decide +kernel
theorem dX5_runCommand_20 : decode cX5_runCommand 20 = .ok (.aload_n 0, 1) := by decide +kernel
theorem dX5_runCommand_21 : decode cX5_runCommand 21 = .ok (.getfield 32, 3) := by decide +kernel
theorem dX5_runCommand_24 : decode cX5_runCommand 24 = .ok (.iload_n 1, 1) := by decide +kernel
theorem dX5_runCommand_25 : decode cX5_runCommand 25 = .ok (.iconst 2, 1) := by decide +kernel
theorem dX5_runCommand_26 : decode cX5_runCommand 26 = .ok (.invokevirtual 192, 3) := by decide +kernel
theorem dX5_runCommand_29 : decode cX5_runCommand 29 = .ok (.istore 4, 2) := by decide +kernel
theorem dX5_runCommand_31 : decode cX5_runCommand 31 = .ok (.aload_n 0, 1) := by decide +kernel
theorem dX5_runCommand_32 : decode cX5_runCommand 32 = .ok (.getfield 32, 3) := by decide +kernel
theorem dX5_runCommand_35 : decode cX5_runCommand 35 = .ok (.iload_n 1, 1) := by decide +kernel
theorem dX5_runCommand_36 : decode cX5_runCommand 36 = .ok (.invokevirtual 195, 3) := by decide +kernel
theorem dX5_runCommand_39 : decode cX5_runCommand 39 = .ok (.tableswitch 183 100 120 #[97, 183, 183, 183, 183, 183, 183, 175, 135, 150, 167, 183, 183, 183, 159, 183, 183, 183, 122, 183, 110], 97) := by decide +kernel
theorem dX5_runCommand_136 : decode cX5_runCommand 136 = .ok (.aload_n 0, 1) := by decide +kernel
theorem dX5_runCommand_137 : decode cX5_runCommand 137 = .ok (.getfield 12, 3) := by decide +kernel
theorem dX5_runCommand_140 : decode cX5_runCommand 140 = .ok (.getfield 48, 3) := by decide +kernel
theorem dX5_runCommand_143 : decode cX5_runCommand 143 = .ok (.iload_n 2, 1) := by decide +kernel
theorem dX5_runCommand_144 : decode cX5_runCommand 144 = .ok (.iload_n 3, 1) := by decide +kernel
theorem dX5_runCommand_145 : decode cX5_runCommand 145 = .ok (.invokevirtual 52, 3) := by decide +kernel
theorem dX5_runCommand_148 : decode cX5_runCommand 148 = .ok (.ireturn, 1) := by decide +kernel
theorem dX5_runCommand_149 : decode cX5_runCommand 149 = .ok (.aload_n 0, 1) := by decide +kernel
theorem dX5_runCommand_150 : decode cX5_runCommand 150 = .ok (.getfield 12, 3) := by decide +kernel
theorem dX5_runCommand_153 : decode cX5_runCommand 153 = .ok (.getfield 48, 3) := by decide +kernel
theorem dX5_runCommand_156 : decode cX5_runCommand 156 = .ok (.iload_n 2, 1) := by decide +kernel
theorem dX5_runCommand_157 : decode cX5_runCommand 157 = .ok (.invokevirtual 62, 3) := by decide +kernel
theorem dX5_runCommand_160 : decode cX5_runCommand 160 = .ok (.ireturn, 1) := by decide +kernel
theorem dX5_runCommand_161 : decode cX5_runCommand 161 = .ok (.aload_n 0, 1) := by decide +kernel
theorem dX5_runCommand_162 : decode cX5_runCommand 162 = .ok (.getfield 12, 3) := by decide +kernel
theorem dX5_runCommand_165 : decode cX5_runCommand 165 = .ok (.getfield 48, 3) := by decide +kernel
theorem dX5_runCommand_168 : decode cX5_runCommand 168 = .ok (.iload_n 2, 1) := by decide +kernel
theorem dX5_runCommand_169 : decode cX5_runCommand 169 = .ok (.iload_n 3, 1) := by decide +kernel
theorem dX5_runCommand_170 : decode cX5_runCommand 170 = .ok (.invokevirtual 65, 3) := by decide +kernel
theorem dX5_runCommand_173 : decode cX5_runCommand 173 = .ok (.ireturn, 1) := by decide +kernel
theorem dX5_runCommand_174 : decode cX5_runCommand 174 = .ok (.aload_n 0, 1) := by decide +kernel
theorem dX5_runCommand_175 : decode cX5_runCommand 175 = .ok (.getfield 12, 3) := by decide +kernel
theorem dX5_runCommand_178 : decode cX5_runCommand 178 = .ok (.getfield 48, 3) := by decide +kernel
theorem dX5_runCommand_181 : decode cX5_runCommand 181 = .ok (.iload_n 2, 1) := by decide +kernel
theorem dX5_runCommand_182 : decode cX5_runCommand 182 = .ok (.iload_n 3, 1) := by decide +kernel
theorem dX5_runCommand_183 : decode cX5_runCommand 183 = .ok (.iload 4, 2) := by decide +kernel
theorem dX5_runCommand_185 : decode cX5_runCommand 185 = .ok (.invokevirtual 68, 3) := by decide +kernel
theorem dX5_runCommand_188 : decode cX5_runCommand 188 = .ok (.ireturn, 1) := by decide +kernel
theorem dX5_runCommand_189 : decode cX5_runCommand 189 = .ok (.aload_n 0, 1) := by decide +kernel
theorem dX5_runCommand_190 : decode cX5_runCommand 190 = .ok (.getfield 12, 3) := by decide +kernel
theorem dX5_runCommand_193 : decode cX5_runCommand 193 = .ok (.iload_n 2, 1) := by decide +kernel
theorem dX5_runCommand_194 : decode cX5_runCommand 194 = .ok (.invokevirtual 93, 3) := by decide +kernel
theorem dX5_runCommand_197 : decode cX5_runCommand 197 = .ok (.ireturn, 1) := by decide +kernel
theorem dX5_runCommand_198 : decode cX5_runCommand 198 = .ok (.aload_n 0, 1) := by decide +kernel
theorem dX5_runCommand_199 : decode cX5_runCommand 199 = .ok (.getfield 12, 3) := by decide +kernel
theorem dX5_runCommand_202 : decode cX5_runCommand 202 = .ok (.invokevirtual 96, 3) := by decide +kernel
theorem dX5_runCommand_205 : decode cX5_runCommand 205 = .ok (.ireturn, 1) := by decide +kernel
theorem dX5_runCommand_206 : decode cX5_runCommand 206 = .ok (.aload_n 0, 1) := by decide +kernel
theorem dX5_runCommand_207 : decode cX5_runCommand 207 = .ok (.getfield 12, 3) := by decide +kernel
theorem dX5_runCommand_210 : decode cX5_runCommand 210 = .ok (.invokevirtual 99, 3) := by decide +kernel
theorem dX5_runCommand_213 : decode cX5_runCommand 213 = .ok (.ireturn, 1) := by decide +kernel
theorem dX5_runCommand_214 : decode cX5_runCommand 214 = .ok (.aload_n 0, 1) := by decide +kernel
theorem dX5_runCommand_215 : decode cX5_runCommand 215 = .ok (.getfield 12, 3) := by decide +kernel
theorem dX5_runCommand_218 : decode cX5_runCommand 218 = .ok (.invokevirtual 108, 3) := by decide +kernel
theorem dX5_runCommand_221 : decode cX5_runCommand 221 = .ok (.ireturn, 1) := by decide +kernel
theorem dX5_runCommand_222 : decode cX5_runCommand 222 = .ok (.bipush (-2), 2) := by decide +kernel
theorem dX5_runCommand_224 : decode cX5_runCommand 224 = .ok (.ireturn, 1) := by decide +kernel
theorem dX5_stopsExecution_0 : decode cX5_stopsExecution 0 = .ok (.iload_n 0, 1) := by decide +kernel
theorem dX5_stopsExecution_1 : decode cX5_stopsExecution 1 = .ok (.bipush (-2), 2) := by decide +kernel
theorem dX5_stopsExecution_3 : decode cX5_stopsExecution 3 = .ok (.if_icmp .eq 15, 3) := by decide +kernel
theorem dX5_stopsExecution_6 : decode cX5_stopsExecution 6 = .ok (.iload_n 0, 1) := by decide +kernel
theorem dX5_stopsExecution_7 : decode cX5_stopsExecution 7 = .ok (.bipush (-3), 2) := by decide +kernel
theorem dX5_stopsExecution_9 : decode cX5_stopsExecution 9 = .ok (.if_icmp .eq 9, 3) := by decide +kernel
theorem dX5_stopsExecution_12 : decode cX5_stopsExecution 12 = .ok (.iload_n 0, 1) := by decide +kernel
theorem dX5_stopsExecution_13 : decode cX5_stopsExecution 13 = .ok (.bipush (-4), 2) := by decide +kernel
theorem dX5_stopsExecution_15 : decode cX5_stopsExecution 15 = .ok (.if_icmp .ne 7, 3) := by decide +kernel
theorem dX5_stopsExecution_18 : decode cX5_stopsExecution 18 = .ok (.iconst 1, 1) := by decide +kernel
theorem dX5_stopsExecution_19 : decode cX5_stopsExecution 19 = .ok (.goto 4, 3) := by decide +kernel
theorem dX5_stopsExecution_22 : decode cX5_stopsExecution 22 = .ok (.iconst 0, 1) := by decide +kernel
theorem dX5_stopsExecution_23 : decode cX5_stopsExecution 23 = .ok (.ireturn, 1) := by decide +kernel
theorem dX5_isErrorCode_0 : decode cX5_isErrorCode 0 = .ok (.iload_n 0, 1) := by decide +kernel
theorem dX5_isErrorCode_1 : decode cX5_isErrorCode 1 = .ok (.bipush (-9), 2) := by decide +kernel
theorem dX5_isErrorCode_3 : decode cX5_isErrorCode 3 = .ok (.bipush (-2), 2) := by decide +kernel
theorem dX5_isErrorCode_5 : decode cX5_isErrorCode 5 = .ok (.invokestatic 86, 3) := by decide +kernel
theorem dX5_isErrorCode_8 : decode cX5_isErrorCode 8 = .ok (.ireturn, 1) := by decide +kernel
theorem dX5_isWithin_0 : decode cX5_isWithin 0 = .ok (.iload_n 0, 1) := by decide +kernel
theorem dX5_isWithin_1 : decode cX5_isWithin 1 = .ok (.iload_n 1, 1) := by decide +kernel
theorem dX5_isWithin_2 : decode cX5_isWithin 2 = .ok (.if_icmp .lt 12, 3) := by decide +kernel
theorem dX5_isWithin_5 : decode cX5_isWithin 5 = .ok (.iload_n 0, 1) := by decide +kernel
theorem dX5_isWithin_6 : decode cX5_isWithin 6 = .ok (.iload_n 2, 1) := by decide +kernel
theorem dX5_isWithin_7 : decode cX5_isWithin 7 = .ok (.if_icmp .gt 7, 3) := by decide +kernel
theorem dX5_isWithin_10 : decode cX5_isWithin 10 = .ok (.iconst 1, 1) := by decide +kernel
theorem dX5_isWithin_11 : decode cX5_isWithin 11 = .ok (.goto 4, 3) := by decide +kernel
theorem dX5_isWithin_14 : decode cX5_isWithin 14 = .ok (.iconst 0, 1) := by decide +kernel
theorem dX5_isWithin_15 : decode cX5_isWithin 15 = .ok (.ireturn, 1) := by decide +kernel
theorem dX5_bitAt_0 : decode cX5_bitAt 0 = .ok (.iload_n 0, 1) := by decide +kernel
theorem dX5_bitAt_1 : decode cX5_bitAt 1 = .ok (.iload_n 1, 1) := by decide +kernel
theorem dX5_bitAt_2 : decode cX5_bitAt 2 = .ok (.ishr, 1) := by decide +kernel
theorem dX5_bitAt_3 : decode cX5_bitAt 3 = .ok (.iconst 1, 1) := by decide +kernel
theorem dX5_bitAt_4 : decode cX5_bitAt 4 = .ok (.iand, 1) := by decide +kernel
theorem dX5_bitAt_5 : decode cX5_bitAt 5 = .ok (.ireturn, 1) := by decide +kernel
theorem dX5_crcOf_0 : decode cX5_crcOf 0 = .ok (.iconst 0, 1) := by decide +kernel
theorem dX5_crcOf_1 : decode cX5_crcOf 1 = .ok (.istore_n 1, 1) := by decide +kernel
theorem dX5_crcOf_2 : decode cX5_crcOf 2 = .ok (.iconst 0, 1) := by decide +kernel
theorem dX5_crcOf_3 : decode cX5_crcOf 3 = .ok (.istore_n 2, 1) := by decide +kernel
theorem dX5_crcOf_4 : decode cX5_crcOf 4 = .ok (.iload_n 2, 1) := by decide +kernel
theorem dX5_crcOf_5 : decode cX5_crcOf 5 = .ok (.bipush 12, 2) := by decide +kernel
theorem dX5_crcOf_7 : decode cX5_crcOf 7 = .ok (.if_icmp .ge 33, 3) := by decide +kernel
theorem dX5_crcOf_10 : decode cX5_crcOf 10 = .ok (.iload_n 0, 1) := by decide +kernel
theorem dX5_crcOf_11 : decode cX5_crcOf 11 = .ok (.iload_n 2, 1) := by decide +kernel
theorem dX5_crcOf_12 : decode cX5_crcOf 12 = .ok (.invokestatic 198, 3) := by decide +kernel
theorem dX5_crcOf_15 : decode cX5_crcOf 15 = .ok (.iload_n 1, 1) := by decide +kernel
theorem dX5_crcOf_16 : decode cX5_crcOf 16 = .ok (.iconst 1, 1) := by decide +kernel
theorem dX5_crcOf_17 : decode cX5_crcOf 17 = .ok (.iand, 1) := by decide +kernel
theorem dX5_crcOf_18 : decode cX5_crcOf 18 = .ok (.ixor, 1) := by decide +kernel
theorem dX5_crcOf_19 : decode cX5_crcOf 19 = .ok (.istore_n 3, 1) := by decide +kernel
theorem dX5_crcOf_20 : decode cX5_crcOf 20 = .ok (.iload_n 1, 1) := by decide +kernel
theorem dX5_crcOf_21 : decode cX5_crcOf 21 = .ok (.iconst 1, 1) := by decide +kernel
theorem dX5_crcOf_22 : decode cX5_crcOf 22 = .ok (.ishr, 1) := by decide +kernel
theorem dX5_crcOf_23 : decode cX5_crcOf 23 = .ok (.istore_n 1, 1) := by decide +kernel
theorem dX5_crcOf_24 : decode cX5_crcOf 24 = .ok (.iload_n 3, 1) := by decide +kernel
theorem dX5_crcOf_25 : decode cX5_crcOf 25 = .ok (.iconst 1, 1) := by decide +kernel
theorem dX5_crcOf_26 : decode cX5_crcOf 26 = .ok (.if_icmp .ne 8, 3) := by decide +kernel
theorem dX5_crcOf_29 : decode cX5_crcOf 29 = .ok (.iload_n 1, 1) := by decide +kernel
theorem dX5_crcOf_30 : decode cX5_crcOf 30 = .ok (.bipush 12, 2) := by decide +kernel
theorem dX5_crcOf_32 : decode cX5_crcOf 32 = .ok (.ixor, 1) := by decide +kernel
theorem dX5_crcOf_33 : decode cX5_crcOf 33 = .ok (.istore_n 1, 1) := by decide +kernel
theorem dX5_crcOf_34 : decode cX5_crcOf 34 = .ok (.iinc 2 1, 3) := by decide +kernel
theorem dX5_crcOf_37 : decode cX5_crcOf 37 = .ok (.goto (-33), 3) := by decide +kernel
theorem dX5_crcOf_40 : decode cX5_crcOf 40 = .ok (.iload_n 1, 1) := by decide +kernel
theorem dX5_crcOf_41 : decode cX5_crcOf 41 = .ok (.ireturn, 1) := by decide +kernel
theorem dX5_romOf_0 : decode cX5_romOf 0 = .ok (.iload_n 0, 1) := by decide +kernel
theorem dX5_romOf_1 : decode cX5_romOf 1 = .ok (.iload_n 1, 1) := by decide +kernel
theorem dX5_romOf_2 : decode cX5_romOf 2 = .ok (.iconst 4, 1) := by decide +kernel
theorem dX5_romOf_3 : decode cX5_romOf 3 = .ok (.ishl, 1) := by decide +kernel
theorem dX5_romOf_4 : decode cX5_romOf 4 = .ok (.ior, 1) := by decide +kernel
theorem dX5_romOf_5 : decode cX5_romOf 5 = .ok (.istore_n 2, 1) := by decide +kernel
theorem dX5_romOf_6 : decode cX5_romOf 6 = .ok (.iload_n 2, 1) := by decide +kernel
theorem dX5_romOf_7 : decode cX5_romOf 7 = .ok (.iload_n 2, 1) := by decide +kernel
theorem dX5_romOf_8 : decode cX5_romOf 8 = .ok (.invokestatic 90, 3) := by decide +kernel
theorem dX5_romOf_11 : decode cX5_romOf 11 = .ok (.bipush 12, 2) := by decide +kernel
theorem dX5_romOf_13 : decode cX5_romOf 13 = .ok (.ishl, 1) := by decide +kernel
theorem dX5_romOf_14 : decode cX5_romOf 14 = .ok (.ior, 1) := by decide +kernel
theorem dX5_romOf_15 : decode cX5_romOf 15 = .ok (.ireturn, 1) := by decide +kernel
theorem dX5_mixed_0 : decode cX5_mixed 0 = .ok (.ldc2_w 201, 3) := by decide +kernel
theorem dX5_mixed_3 : decode cX5_mixed 3 = .ok (.lload_n 0, 1) := by decide +kernel
theorem dX5_mixed_4 : decode cX5_mixed 4 = .ok (.lmul, 1) := by decide +kernel
theorem dX5_mixed_5 : decode cX5_mixed 5 = .ok (.iload_n 2, 1) := by decide +kernel
theorem dX5_mixed_6 : decode cX5_mixed 6 = .ok (.i2l, 1) := by decide +kernel
theorem dX5_mixed_7 : decode cX5_mixed 7 = .ok (.ladd, 1) := by decide +kernel
theorem dX5_mixed_8 : decode cX5_mixed 8 = .ok (.lreturn, 1) := by decide +kernel
theorem dX5_shareBits_0 : decode cX5_shareBits 0 = .ok (.iload_n 0, 1) := by decide +kernel
theorem dX5_shareBits_1 : decode cX5_shareBits 1 = .ok (.ifCond .le 7, 3) := by decide +kernel
theorem dX5_shareBits_4 : decode cX5_shareBits 4 = .ok (.iload_n 1, 1) := by decide +kernel
theorem dX5_shareBits_5 : decode cX5_shareBits 5 = .ok (.ifCond .gt 5, 3) := by decide +kernel
theorem dX5_shareBits_8 : decode cX5_shareBits 8 = .ok (.iconst 0, 1) := by decide +kernel
theorem dX5_shareBits_9 : decode cX5_shareBits 9 = .ok (.ireturn, 1) := by decide +kernel
theorem dX5_shareBits_10 : decode cX5_shareBits 10 = .ok (.iload_n 0, 1) := by decide +kernel
theorem dX5_shareBits_11 : decode cX5_shareBits 11 = .ok (.i2f, 1) := by decide +kernel
theorem dX5_shareBits_12 : decode cX5_shareBits 12 = .ok (.iload_n 1, 1) := by decide +kernel
theorem dX5_shareBits_13 : decode cX5_shareBits 13 = .ok (.i2f, 1) := by decide +kernel
theorem dX5_shareBits_14 : decode cX5_shareBits 14 = .ok (.fdiv, 1) := by decide +kernel
theorem dX5_shareBits_15 : decode cX5_shareBits 15 = .ok (.fstore_n 2, 1) := by decide +kernel
theorem dX5_shareBits_16 : decode cX5_shareBits 16 = .ok (.bipush 127, 2) := by decide +kernel
theorem dX5_shareBits_18 : decode cX5_shareBits 18 = .ok (.istore_n 3, 1) := by decide +kernel
theorem dX5_shareBits_19 : decode cX5_shareBits 19 = .ok (.fload_n 2, 1) := by decide +kernel
theorem dX5_shareBits_20 : decode cX5_shareBits 20 = .ok (.fconst 1, 1) := by decide +kernel
theorem dX5_shareBits_21 : decode cX5_shareBits 21 = .ok (.fcmp .g, 1) := by decide +kernel
theorem dX5_shareBits_22 : decode cX5_shareBits 22 = .ok (.ifCond .ge 17, 3) := by decide +kernel
theorem dX5_shareBits_25 : decode cX5_shareBits 25 = .ok (.iload_n 3, 1) := by decide +kernel
theorem dX5_shareBits_26 : decode cX5_shareBits 26 = .ok (.ifCond .le 13, 3) := by decide +kernel
theorem dX5_shareBits_29 : decode cX5_shareBits 29 = .ok (.fload_n 2, 1) := by decide +kernel
theorem dX5_shareBits_30 : decode cX5_shareBits 30 = .ok (.fconst 2, 1) := by decide +kernel
theorem dX5_shareBits_31 : decode cX5_shareBits 31 = .ok (.fmul, 1) := by decide +kernel
theorem dX5_shareBits_32 : decode cX5_shareBits 32 = .ok (.fstore_n 2, 1) := by decide +kernel
theorem dX5_shareBits_33 : decode cX5_shareBits 33 = .ok (.iinc 3 (-1), 3) := by decide +kernel
theorem dX5_shareBits_36 : decode cX5_shareBits 36 = .ok (.goto (-17), 3) := by decide +kernel
theorem dX5_shareBits_39 : decode cX5_shareBits 39 = .ok (.fload_n 2, 1) := by decide +kernel
theorem dX5_shareBits_40 : decode cX5_shareBits 40 = .ok (.ldc 203, 2) := by decide +kernel
theorem dX5_shareBits_42 : decode cX5_shareBits 42 = .ok (.fmul, 1) := by decide +kernel
theorem dX5_shareBits_43 : decode cX5_shareBits 43 = .ok (.f2i, 1) := by decide +kernel
theorem dX5_shareBits_44 : decode cX5_shareBits 44 = .ok (.ldc 204, 2) := by decide +kernel
theorem dX5_shareBits_46 : decode cX5_shareBits 46 = .ok (.isub, 1) := by decide +kernel
theorem dX5_shareBits_47 : decode cX5_shareBits 47 = .ok (.istore 4, 2) := by decide +kernel
theorem dX5_shareBits_49 : decode cX5_shareBits 49 = .ok (.iload_n 3, 1) := by decide +kernel
theorem dX5_shareBits_50 : decode cX5_shareBits 50 = .ok (.bipush 23, 2) := by decide +kernel
theorem dX5_shareBits_52 : decode cX5_shareBits 52 = .ok (.ishl, 1) := by decide +kernel
theorem dX5_shareBits_53 : decode cX5_shareBits 53 = .ok (.iload 4, 2) := by decide +kernel
theorem dX5_shareBits_55 : decode cX5_shareBits 55 = .ok (.ior, 1) := by decide +kernel
theorem dX5_shareBits_56 : decode cX5_shareBits 56 = .ok (.ireturn, 1) := by decide +kernel
theorem dX6_init_0 : decode cX6_init 0 = .ok (.aload_n 0, 1) := by decide +kernel
theorem dX6_init_1 : decode cX6_init 1 = .ok (.invokespecial 1, 3) := by decide +kernel
theorem dX6_init_4 : decode cX6_init 4 = .ok (.aload_n 0, 1) := by decide +kernel
theorem dX6_init_5 : decode cX6_init 5 = .ok (.bipush 47, 2) := by decide +kernel
theorem dX6_init_7 : decode cX6_init 7 = .ok (.newarray .int, 2) := by decide +kernel
theorem dX6_init_9 : decode cX6_init 9 = .ok (.putfield 7, 3) := by decide +kernel
theorem dX6_init_12 : decode cX6_init 12 = .ok (.aload_n 0, 1) := by decide +kernel
theorem dX6_init_13 : decode cX6_init 13 = .ok (.bipush 47, 2) := by decide +kernel
theorem dX6_init_15 : decode cX6_init 15 = .ok (.newarray .int, 2) := by decide +kernel
theorem dX6_init_17 : decode cX6_init 17 = .ok (.putfield 13, 3) := by decide +kernel
theorem dX6_init_20 : decode cX6_init 20 = .ok (.aload_n 0, 1) := by decide +kernel
theorem dX6_init_21 : decode cX6_init 21 = .ok (.sipush 235, 3) := by decide +kernel
theorem dX6_init_24 : decode cX6_init 24 = .ok (.newarray .int, 2) := by decide +kernel
theorem dX6_init_26 : decode cX6_init 26 = .ok (.putfield 16, 3) := by decide +kernel
theorem dX6_init_29 : decode cX6_init 29 = .ok (.aload_n 0, 1) := by decide +kernel
theorem dX6_init_30 : decode cX6_init 30 = .ok (.bipush 8, 2) := by decide +kernel
theorem dX6_init_32 : decode cX6_init 32 = .ok (.newarray .int, 2) := by decide +kernel
theorem dX6_init_34 : decode cX6_init 34 = .ok (.putfield 19, 3) := by decide +kernel
theorem dX6_init_37 : decode cX6_init 37 = .ok (.aload_n 0, 1) := by decide +kernel
theorem dX6_init_38 : decode cX6_init 38 = .ok (.bipush 120, 2) := by decide +kernel
theorem dX6_init_40 : decode cX6_init 40 = .ok (.newarray .int, 2) := by decide +kernel
theorem dX6_init_42 : decode cX6_init 42 = .ok (.putfield 22, 3) := by decide +kernel
theorem dX6_init_45 : decode cX6_init 45 = .ok (.aload_n 0, 1) := by decide +kernel
theorem dX6_init_46 : decode cX6_init 46 = .ok (.bipush 60, 2) := by decide +kernel
theorem dX6_init_48 : decode cX6_init 48 = .ok (.newarray .int, 2) := by decide +kernel
theorem dX6_init_50 : decode cX6_init 50 = .ok (.putfield 25, 3) := by decide +kernel
theorem dX6_init_53 : decode cX6_init 53 = .ok (.aload_n 0, 1) := by decide +kernel
theorem dX6_init_54 : decode cX6_init 54 = .ok (.sipush 180, 3) := by decide +kernel
theorem dX6_init_57 : decode cX6_init 57 = .ok (.newarray .int, 2) := by decide +kernel
theorem dX6_init_59 : decode cX6_init 59 = .ok (.putfield 28, 3) := by decide +kernel
theorem dX6_init_62 : decode cX6_init 62 = .ok (.aload_n 0, 1) := by decide +kernel
theorem dX6_init_63 : decode cX6_init 63 = .ok (.getfield 7, 3) := by decide +kernel
theorem dX6_init_66 : decode cX6_init 66 = .ok (.bipush 34, 2) := by decide +kernel
theorem dX6_init_68 : decode cX6_init 68 = .ok (.iconst (-1), 1) := by decide +kernel
theorem dX6_init_69 : decode cX6_init 69 = .ok (.iastore, 1) := by decide +kernel
theorem dX6_init_70 : decode cX6_init 70 = .ok (.aload_n 0, 1) := by decide +kernel
theorem dX6_init_71 : decode cX6_init 71 = .ok (.getfield 7, 3) := by decide +kernel
theorem dX6_init_74 : decode cX6_init 74 = .ok (.bipush 35, 2) := by decide +kernel
theorem dX6_init_76 : decode cX6_init 76 = .ok (.iconst (-1), 1) := by decide +kernel
theorem dX6_init_77 : decode cX6_init 77 = .ok (.iastore, 1) := by decide +kernel
theorem dX6_init_78 : decode cX6_init 78 = .ok (.aload_n 0, 1) := by decide +kernel
theorem dX6_init_79 : decode cX6_init 79 = .ok (.getfield 7, 3) := by decide +kernel
theorem dX6_init_82 : decode cX6_init 82 = .ok (.bipush 38, 2) := by decide +kernel
theorem dX6_init_84 : decode cX6_init 84 = .ok (.iconst (-1), 1) := by decide +kernel
theorem dX6_init_85 : decode cX6_init 85 = .ok (.iastore, 1) := by decide +kernel
theorem dX6_init_86 : decode cX6_init 86 = .ok (.return_, 1) := by decide +kernel
theorem dX6_in_0 : decode cX6_in 0 = .ok (.iload_n 0, 1) := by decide +kernel
theorem dX6_in_1 : decode cX6_in 1 = .ok (.iload_n 1, 1) := by decide +kernel
theorem dX6_in_2 : decode cX6_in 2 = .ok (.if_icmp .lt 12, 3) := by decide +kernel
theorem dX6_in_5 : decode cX6_in 5 = .ok (.iload_n 0, 1) := by decide +kernel
theorem dX6_in_6 : decode cX6_in 6 = .ok (.iload_n 2, 1) := by decide +kernel
theorem dX6_in_7 : decode cX6_in 7 = .ok (.if_icmp .gt 7, 3) := by decide +kernel
theorem dX6_in_10 : decode cX6_in 10 = .ok (.iconst 1, 1) := by decide +kernel
theorem dX6_in_11 : decode cX6_in 11 = .ok (.goto 4, 3) := by decide +kernel
theorem dX6_in_14 : decode cX6_in 14 = .ok (.iconst 0, 1) := by decide +kernel
theorem dX6_in_15 : decode cX6_in 15 = .ok (.ireturn, 1) := by decide +kernel
theorem dX6_counted_0 : decode cX6_counted 0 = .ok (.aload_n 0, 1) := by decide +kernel
theorem dX6_counted_1 : decode cX6_counted 1 = .ok (.getfield 19, 3) := by decide +kernel
theorem dX6_counted_4 : decode cX6_counted 4 = .ok (.bipush (-2), 2) := by decide +kernel
theorem dX6_counted_6 : decode cX6_counted 6 = .ok (.iload_n 1, 1) := by decide +kernel
theorem dX6_counted_7 : decode cX6_counted 7 = .ok (.isub, 1) := by decide +kernel
theorem dX6_counted_8 : decode cX6_counted 8 = .ok (.dup2, 1) := by decide +kernel
theorem dX6_counted_9 : decode cX6_counted 9 = .ok (.iaload, 1) := by decide +kernel
theorem dX6_counted_10 : decode cX6_counted 10 = .ok (.iconst 1, 1) := by decide +kernel
theorem dX6_counted_11 : decode cX6_counted 11 = .ok (.iadd, 1) := by decide +kernel
theorem dX6_counted_12 : decode cX6_counted 12 = .ok (.iastore, 1) := by decide +kernel
theorem dX6_counted_13 : decode cX6_counted 13 = .ok (.iload_n 1, 1) := by decide +kernel
theorem dX6_counted_14 : decode cX6_counted 14 = .ok (.ireturn, 1) := by decide +kernel
theorem dX6_remember_0 : decode cX6_remember 0 = .ok (.iconst 0, 1) := by decide +kernel
theorem dX6_remember_1 : decode cX6_remember 1 = .ok (.istore_n 1, 1) := by decide +kernel
theorem dX6_remember_2 : decode cX6_remember 2 = .ok (.iload_n 1, 1) := by decide +kernel
theorem dX6_remember_3 : decode cX6_remember 3 = .ok (.bipush 47, 2) := by decide +kernel
theorem dX6_remember_5 : decode cX6_remember 5 = .ok (.if_icmp .ge 21, 3) := by decide +kernel
theorem dX6_remember_8 : decode cX6_remember 8 = .ok (.aload_n 0, 1) := by decide +kernel
theorem dX6_remember_9 : decode cX6_remember 9 = .ok (.getfield 13, 3) := by decide +kernel
theorem dX6_remember_12 : decode cX6_remember 12 = .ok (.iload_n 1, 1) := by decide +kernel
theorem dX6_remember_13 : decode cX6_remember 13 = .ok (.aload_n 0, 1) := by decide +kernel
theorem dX6_remember_14 : decode cX6_remember 14 = .ok (.getfield 7, 3) := by decide +kernel
theorem dX6_remember_17 : decode cX6_remember 17 = .ok (.iload_n 1, 1) := by decide +kernel
theorem dX6_remember_18 : decode cX6_remember 18 = .ok (.iaload, 1) := by decide +kernel
theorem dX6_remember_19 : decode cX6_remember 19 = .ok (.iastore, 1) := by decide +kernel
theorem dX6_remember_20 : decode cX6_remember 20 = .ok (.iinc 1 1, 3) := by decide +kernel
theorem dX6_remember_23 : decode cX6_remember 23 = .ok (.goto (-21), 3) := by decide +kernel
theorem dX6_remember_26 : decode cX6_remember 26 = .ok (.return_, 1) := by decide +kernel
theorem dX6_restore_0 : decode cX6_restore 0 = .ok (.iconst 0, 1) := by decide +kernel
theorem dX6_restore_1 : decode cX6_restore 1 = .ok (.istore_n 1, 1) := by decide +kernel
theorem dX6_restore_2 : decode cX6_restore 2 = .ok (.iload_n 1, 1) := by decide +kernel
theorem dX6_restore_3 : decode cX6_restore 3 = .ok (.bipush 47, 2) := by decide +kernel
theorem dX6_restore_5 : decode cX6_restore 5 = .ok (.if_icmp .ge 21, 3) := by decide +kernel
theorem dX6_restore_8 : decode cX6_restore 8 = .ok (.aload_n 0, 1) := by decide +kernel
theorem dX6_restore_9 : decode cX6_restore 9 = .ok (.getfield 7, 3) := by decide +kernel
theorem dX6_restore_12 : decode cX6_restore 12 = .ok (.iload_n 1, 1) := by decide +kernel
theorem dX6_restore_13 : decode cX6_restore 13 = .ok (.aload_n 0, 1) := by decide +kernel
theorem dX6_restore_14 : decode cX6_restore 14 = .ok (.getfield 13, 3) := by decide +kernel
