theorem dX6_restore_17 : decode cX6_restore 17 = .ok (.iload_n 1, 1) := by decide +kernel
theorem dX6_restore_18 : decode cX6_restore 18 = .ok (.iaload, 1) := by decide +kernel
theorem dX6_restore_19 : decode cX6_restore 19 = .ok (.iastore, 1) := by decide +kernel
theorem dX6_restore_20 : decode cX6_restore 20 = .ok (.iinc 1 1, 3) := by decide +kernel
theorem dX6_restore_23 : decode cX6_restore 23 = .ok (.goto (-21), 3) := by decide +kernel
theorem dX6_restore_26 : decode cX6_restore 26 = .ok (.return_, 1) := by decide +kernel
theorem dX6_save_0 : decode cX6_save 0 = .ok (.aload_n 0, 1) := by decide +kernel
theorem dX6_save_1 : decode cX6_save 1 = .ok (.getfield 31, 3) := by decide +kernel
theorem dX6_save_4 : decode cX6_save 4 = .ok (.iconst 5, 1) := by decide +kernel
theorem dX6_save_5 : decode cX6_save 5 = .ok (.if_icmp .ne 43, 3) := by decide +kernel
theorem dX6_save_8 : decode cX6_save 8 = .ok (.iconst 0, 1) := by decide +kernel
theorem dX6_save_9 : decode cX6_save 9 = .ok (.istore_n 1, 1) := by decide +kernel
theorem dX6_save_10 : decode cX6_save 10 = .ok (.iload_n 1, 1) := by decide +kernel
theorem dX6_save_11 : decode cX6_save 11 = .ok (.sipush 188, 3) := by decide +kernel
theorem dX6_save_14 : decode cX6_save 14 = .ok (.if_icmp .ge 24, 3) := by decide +kernel
theorem dX6_save_17 : decode cX6_save 17 = .ok (.aload_n 0, 1) := by decide +kernel
theorem dX6_save_18 : decode cX6_save 18 = .ok (.getfield 16, 3) := by decide +kernel
theorem dX6_save_21 : decode cX6_save 21 = .ok (.iload_n 1, 1) := by decide +kernel
theorem dX6_save_22 : decode cX6_save 22 = .ok (.aload_n 0, 1) := by decide +kernel
theorem dX6_save_23 : decode cX6_save 23 = .ok (.getfield 16, 3) := by decide +kernel
theorem dX6_save_26 : decode cX6_save 26 = .ok (.iload_n 1, 1) := by decide +kernel
theorem dX6_save_27 : decode cX6_save 27 = .ok (.bipush 47, 2) := by decide +kernel
theorem dX6_save_29 : decode cX6_save 29 = .ok (.iadd, 1) := by decide +kernel
theorem dX6_save_30 : decode cX6_save 30 = .ok (.iaload, 1) := by decide +kernel
theorem dX6_save_31 : decode cX6_save 31 = .ok (.iastore, 1) := by decide +kernel
theorem dX6_save_32 : decode cX6_save 32 = .ok (.iinc 1 1, 3) := by decide +kernel
theorem dX6_save_35 : decode cX6_save 35 = .ok (.goto (-25), 3) := by decide +kernel
theorem dX6_save_38 : decode cX6_save 38 = .ok (.aload_n 0, 1) := by decide +kernel
theorem dX6_save_39 : decode cX6_save 39 = .ok (.dup, 1) := by decide +kernel
theorem dX6_save_40 : decode cX6_save 40 = .ok (.getfield 31, 3) := by decide +kernel
theorem dX6_save_43 : decode cX6_save 43 = .ok (.iconst 1, 1) := by decide +kernel
theorem dX6_save_44 : decode cX6_save 44 = .ok (.isub, 1) := by decide +kernel
theorem dX6_save_45 : decode cX6_save 45 = .ok (.putfield 31, 3) := by decide +kernel
theorem dX6_save_48 : decode cX6_save 48 = .ok (.iconst 0, 1) := by decide +kernel
theorem dX6_save_49 : decode cX6_save 49 = .ok (.istore_n 1, 1) := by decide +kernel
theorem dX6_save_50 : decode cX6_save 50 = .ok (.iload_n 1, 1) := by decide +kernel
theorem dX6_save_51 : decode cX6_save 51 = .ok (.bipush 47, 2) := by decide +kernel
theorem dX6_save_53 : decode cX6_save 53 = .ok (.if_icmp .ge 29, 3) := by decide +kernel
theorem dX6_save_56 : decode cX6_save 56 = .ok (.aload_n 0, 1) := by decide +kernel
theorem dX6_save_57 : decode cX6_save 57 = .ok (.getfield 16, 3) := by decide +kernel
theorem dX6_save_60 : decode cX6_save 60 = .ok (.bipush 47, 2) := by decide +kernel
theorem dX6_save_62 : decode cX6_save 62 = .ok (.aload_n 0, 1) := by decide +kernel
theorem dX6_save_63 : decode cX6_save 63 = .ok (.getfield 31, 3) := by decide +kernel
theorem dX6_save_66 : decode cX6_save 66 = .ok (.imul, 1) := by decide +kernel
theorem dX6_save_67 : decode cX6_save 67 = .ok (.iload_n 1, 1) := by decide +kernel
theorem dX6_save_68 : decode cX6_save 68 = .ok (.iadd, 1) := by decide +kernel
theorem dX6_save_69 : decode cX6_save 69 = .ok (.aload_n 0, 1) := by decide +kernel
theorem dX6_save_70 : decode cX6_save 70 = .ok (.getfield 13, 3) := by decide +kernel
theorem dX6_save_73 : decode cX6_save 73 = .ok (.iload_n 1, 1) := by decide +kernel
theorem dX6_save_74 : decode cX6_save 74 = .ok (.iaload, 1) := by decide +kernel
theorem dX6_save_75 : decode cX6_save 75 = .ok (.iastore, 1) := by decide +kernel
theorem dX6_save_76 : decode cX6_save 76 = .ok (.iinc 1 1, 3) := by decide +kernel
theorem dX6_save_79 : decode cX6_save 79 = .ok (.goto (-29), 3) := by decide +kernel
theorem dX6_save_82 : decode cX6_save 82 = .ok (.aload_n 0, 1) := by decide +kernel
theorem dX6_save_83 : decode cX6_save 83 = .ok (.dup, 1) := by decide +kernel
theorem dX6_save_84 : decode cX6_save 84 = .ok (.getfield 31, 3) := by decide +kernel
theorem dX6_save_87 : decode cX6_save 87 = .ok (.iconst 1, 1) := by decide +kernel
theorem dX6_save_88 : decode cX6_save 88 = .ok (.iadd, 1) := by decide +kernel
theorem dX6_save_89 : decode cX6_save 89 = .ok (.putfield 31, 3) := by decide +kernel
theorem dX6_save_92 : decode cX6_save 92 = .ok (.return_, 1) := by decide +kernel
theorem dX6_isError_0 : decode cX6_isError 0 = .ok (.iload_n 0, 1) := by decide +kernel
theorem dX6_isError_1 : decode cX6_isError 1 = .ok (.bipush (-9), 2) := by decide +kernel
theorem dX6_isError_3 : decode cX6_isError 3 = .ok (.bipush (-2), 2) := by decide +kernel
theorem dX6_isError_5 : decode cX6_isError 5 = .ok (.invokestatic 35, 3) := by decide +kernel
theorem dX6_isError_8 : decode cX6_isError 8 = .ok (.ireturn, 1) := by decide +kernel
theorem dX6_finish_0 : decode cX6_finish 0 = .ok (.iload_n 1, 1) := by decide +kernel
theorem dX6_finish_1 : decode cX6_finish 1 = .ok (.invokestatic 39, 3) := by decide +kernel
theorem dX6_finish_4 : decode cX6_finish 4 = .ok (.ifCond .eq 9, 3) := by decide +kernel
theorem dX6_finish_7 : decode cX6_finish 7 = .ok (.aload_n 0, 1) := by decide +kernel
theorem dX6_finish_8 : decode cX6_finish 8 = .ok (.iload_n 1, 1) := by decide +kernel
theorem dX6_finish_9 : decode cX6_finish 9 = .ok (.invokevirtual 43, 3) := by decide +kernel
theorem dX6_finish_12 : decode cX6_finish 12 = .ok (.ireturn, 1) := by decide +kernel
theorem dX6_finish_13 : decode cX6_finish 13 = .ok (.aload_n 0, 1) := by decide +kernel
theorem dX6_finish_14 : decode cX6_finish 14 = .ok (.invokevirtual 47, 3) := by decide +kernel
theorem dX6_finish_17 : decode cX6_finish 17 = .ok (.iload_n 1, 1) := by decide +kernel
theorem dX6_finish_18 : decode cX6_finish 18 = .ok (.ireturn, 1) := by decide +kernel
theorem dX6_undo_0 : decode cX6_undo 0 = .ok (.aload_n 0, 1) := by decide +kernel
theorem dX6_undo_1 : decode cX6_undo 1 = .ok (.getfield 31, 3) := by decide +kernel
theorem dX6_undo_4 : decode cX6_undo 4 = .ok (.ifCond .ne 10, 3) := by decide +kernel
theorem dX6_undo_7 : decode cX6_undo 7 = .ok (.aload_n 0, 1) := by decide +kernel
theorem dX6_undo_8 : decode cX6_undo 8 = .ok (.bipush (-9), 2) := by decide +kernel
theorem dX6_undo_10 : decode cX6_undo 10 = .ok (.invokevirtual 43, 3) := by decide +kernel
theorem dX6_undo_13 : decode cX6_undo 13 = .ok (.ireturn, 1) := by decide +kernel
theorem dX6_undo_14 : decode cX6_undo 14 = .ok (.aload_n 0, 1) := by decide +kernel
theorem dX6_undo_15 : decode cX6_undo 15 = .ok (.dup, 1) := by decide +kernel
theorem dX6_undo_16 : decode cX6_undo 16 = .ok (.getfield 31, 3) := by decide +kernel
theorem dX6_undo_19 : decode cX6_undo 19 = .ok (.iconst 1, 1) := by decide +kernel
theorem dX6_undo_20 : decode cX6_undo 20 = .ok (.isub, 1) := by decide +kernel
theorem dX6_undo_21 : decode cX6_undo 21 = .ok (.putfield 31, 3) := by decide +kernel
theorem dX6_undo_24 : decode cX6_undo 24 = .ok (.iconst 0, 1) := by decide +kernel
theorem dX6_undo_25 : decode cX6_undo 25 = .ok (.istore_n 1, 1) := by decide +kernel
theorem dX6_undo_26 : decode cX6_undo 26 = .ok (.iload_n 1, 1) := by decide +kernel
theorem dX6_undo_27 : decode cX6_undo 27 = .ok (.bipush 47, 2) := by decide +kernel
theorem dX6_undo_29 : decode cX6_undo 29 = .ok (.if_icmp .ge 29, 3) := by decide +kernel
theorem dX6_undo_32 : decode cX6_undo 32 = .ok (.aload_n 0, 1) := by decide +kernel
theorem dX6_undo_33 : decode cX6_undo 33 = .ok (.getfield 7, 3) := by decide +kernel
theorem dX6_undo_36 : decode cX6_undo 36 = .ok (.iload_n 1, 1) := by decide +kernel
theorem dX6_undo_37 : decode cX6_undo 37 = .ok (.aload_n 0, 1) := by decide +kernel
theorem dX6_undo_38 : decode cX6_undo 38 = .ok (.getfield 16, 3) := by decide +kernel
theorem dX6_undo_41 : decode cX6_undo 41 = .ok (.bipush 47, 2) := by decide +kernel
theorem dX6_undo_43 : decode cX6_undo 43 = .ok (.aload_n 0, 1) := by decide +kernel
theorem dX6_undo_44 : decode cX6_undo 44 = .ok (.getfield 31, 3) := by decide +kernel
theorem dX6_undo_47 : decode cX6_undo 47 = .ok (.imul, 1) := by decide +kernel
theorem dX6_undo_48 : decode cX6_undo 48 = .ok (.iload_n 1, 1) := by decide +kernel
theorem dX6_undo_49 : decode cX6_undo 49 = .ok (.iadd, 1) := by decide +kernel
theorem dX6_undo_50 : decode cX6_undo 50 = .ok (.iaload, 1) := by decide +kernel
theorem dX6_undo_51 : decode cX6_undo 51 = .ok (.iastore, 1) := by decide +kernel
theorem dX6_undo_52 : decode cX6_undo 52 = .ok (.iinc 1 1, 3) := by decide +kernel
theorem dX6_undo_55 : decode cX6_undo 55 = .ok (.goto (-29), 3) := by decide +kernel
theorem dX6_undo_58 : decode cX6_undo 58 = .ok (.aload_n 0, 1) := by decide +kernel
theorem dX6_undo_59 : decode cX6_undo 59 = .ok (.getfield 31, 3) := by decide +kernel
theorem dX6_undo_62 : decode cX6_undo 62 = .ok (.ireturn, 1) := by decide +kernel
theorem dX6_crcOf_0 : decode cX6_crcOf 0 = .ok (.iconst 0, 1) := by decide +kernel
theorem dX6_crcOf_1 : decode cX6_crcOf 1 = .ok (.istore_n 1, 1) := by decide +kernel
theorem dX6_crcOf_2 : decode cX6_crcOf 2 = .ok (.iconst 0, 1) := by decide +kernel
theorem dX6_crcOf_3 : decode cX6_crcOf 3 = .ok (.istore_n 2, 1) := by decide +kernel
theorem dX6_crcOf_4 : decode cX6_crcOf 4 = .ok (.iload_n 2, 1) := by decide +kernel
theorem dX6_crcOf_5 : decode cX6_crcOf 5 = .ok (.bipush 12, 2) := by decide +kernel
theorem dX6_crcOf_7 : decode cX6_crcOf 7 = .ok (.if_icmp .ge 35, 3) := by decide +kernel
theorem dX6_crcOf_10 : decode cX6_crcOf 10 = .ok (.iload_n 0, 1) := by decide +kernel
theorem dX6_crcOf_11 : decode cX6_crcOf 11 = .ok (.iload_n 2, 1) := by decide +kernel
theorem dX6_crcOf_12 : decode cX6_crcOf 12 = .ok (.ishr, 1) := by decide +kernel
theorem dX6_crcOf_13 : decode cX6_crcOf 13 = .ok (.iload_n 1, 1) := by decide +kernel
theorem dX6_crcOf_14 : decode cX6_crcOf 14 = .ok (.ixor, 1) := by decide +kernel
theorem dX6_crcOf_15 : decode cX6_crcOf 15 = .ok (.iconst 1, 1) := by decide +kernel
theorem dX6_crcOf_16 : decode cX6_crcOf 16 = .ok (.iand, 1) := by decide +kernel
theorem dX6_crcOf_17 : decode cX6_crcOf 17 = .ok (.istore_n 3, 1) := by decide +kernel
theorem dX6_crcOf_18 : decode cX6_crcOf 18 = .ok (.iload_n 1, 1) := by decide +kernel
theorem dX6_crcOf_19 : decode cX6_crcOf 19 = .ok (.iconst 1, 1) := by decide +kernel
theorem dX6_crcOf_20 : decode cX6_crcOf 20 = .ok (.ishr, 1) := by decide +kernel
theorem dX6_crcOf_21 : decode cX6_crcOf 21 = .ok (.istore_n 1, 1) := by decide +kernel
theorem dX6_crcOf_22 : decode cX6_crcOf 22 = .ok (.iload_n 1, 1) := by decide +kernel
theorem dX6_crcOf_23 : decode cX6_crcOf 23 = .ok (.iload_n 3, 1) := by decide +kernel
theorem dX6_crcOf_24 : decode cX6_crcOf 24 = .ok (.iconst 1, 1) := by decide +kernel
theorem dX6_crcOf_25 : decode cX6_crcOf 25 = .ok (.if_icmp .ne 8, 3) := by decide +kernel
theorem dX6_crcOf_28 : decode cX6_crcOf 28 = .ok (.bipush 12, 2) := by decide +kernel
theorem dX6_crcOf_30 : decode cX6_crcOf 30 = .ok (.goto 4, 3) := by decide +kernel
theorem dX6_crcOf_33 : decode cX6_crcOf 33 = .ok (.iconst 0, 1) := by decide +kernel
theorem dX6_crcOf_34 : decode cX6_crcOf 34 = .ok (.ixor, 1) := by decide +kernel
theorem dX6_crcOf_35 : decode cX6_crcOf 35 = .ok (.istore_n 1, 1) := by decide +kernel
theorem dX6_crcOf_36 : decode cX6_crcOf 36 = .ok (.iinc 2 1, 3) := by decide +kernel
theorem dX6_crcOf_39 : decode cX6_crcOf 39 = .ok (.goto (-35), 3) := by decide +kernel
theorem dX6_crcOf_42 : decode cX6_crcOf 42 = .ok (.iload_n 1, 1) := by decide +kernel
theorem dX6_crcOf_43 : decode cX6_crcOf 43 = .ok (.ireturn, 1) := by decide +kernel
theorem dX6_crc_0 : decode cX6_crc 0 = .ok (.iload_n 1, 1) := by decide +kernel
theorem dX6_crc_1 : decode cX6_crc 1 = .ok (.iconst 0, 1) := by decide +kernel
theorem dX6_crc_2 : decode cX6_crc 2 = .ok (.sipush 4095, 3) := by decide +kernel
theorem dX6_crc_5 : decode cX6_crc 5 = .ok (.invokestatic 35, 3) := by decide +kernel
theorem dX6_crc_8 : decode cX6_crc 8 = .ok (.ifCond .eq 10, 3) := by decide +kernel
theorem dX6_crc_11 : decode cX6_crc 11 = .ok (.iload_n 1, 1) := by decide +kernel
theorem dX6_crc_12 : decode cX6_crc 12 = .ok (.invokestatic 50, 3) := by decide +kernel
theorem dX6_crc_15 : decode cX6_crc 15 = .ok (.goto 9, 3) := by decide +kernel
theorem dX6_crc_18 : decode cX6_crc 18 = .ok (.aload_n 0, 1) := by decide +kernel
theorem dX6_crc_19 : decode cX6_crc 19 = .ok (.bipush (-2), 2) := by decide +kernel
theorem dX6_crc_21 : decode cX6_crc 21 = .ok (.invokevirtual 43, 3) := by decide +kernel
theorem dX6_crc_24 : decode cX6_crc 24 = .ok (.ireturn, 1) := by decide +kernel
theorem dX6_isDevice_0 : decode cX6_isDevice 0 = .ok (.iload_n 1, 1) := by decide +kernel
theorem dX6_isDevice_1 : decode cX6_isDevice 1 = .ok (.iconst 0, 1) := by decide +kernel
theorem dX6_isDevice_2 : decode cX6_isDevice 2 = .ok (.aload_n 0, 1) := by decide +kernel
theorem dX6_isDevice_3 : decode cX6_isDevice 3 = .ok (.getfield 7, 3) := by decide +kernel
theorem dX6_isDevice_6 : decode cX6_isDevice 6 = .ok (.iconst 0, 1) := by decide +kernel
theorem dX6_isDevice_7 : decode cX6_isDevice 7 = .ok (.iaload, 1) := by decide +kernel
theorem dX6_isDevice_8 : decode cX6_isDevice 8 = .ok (.iconst 1, 1) := by decide +kernel
theorem dX6_isDevice_9 : decode cX6_isDevice 9 = .ok (.isub, 1) := by decide +kernel
theorem dX6_isDevice_10 : decode cX6_isDevice 10 = .ok (.invokestatic 35, 3) := by decide +kernel
theorem dX6_isDevice_13 : decode cX6_isDevice 13 = .ok (.ireturn, 1) := by decide +kernel
theorem dX6_of_0 : decode cX6_of 0 = .ok (.aload_n 0, 1) := by decide +kernel
theorem dX6_of_1 : decode cX6_of 1 = .ok (.getfield 7, 3) := by decide +kernel
theorem dX6_of_4 : decode cX6_of 4 = .ok (.iconst 1, 1) := by decide +kernel
theorem dX6_of_5 : decode cX6_of 5 = .ok (.iconst 4, 1) := by decide +kernel
theorem dX6_of_6 : decode cX6_of 6 = .ok (.iload_n 1, 1) := by decide +kernel
theorem dX6_of_7 : decode cX6_of 7 = .ok (.imul, 1) := by decide +kernel
theorem dX6_of_8 : decode cX6_of 8 = .ok (.iadd, 1) := by decide +kernel
theorem dX6_of_9 : decode cX6_of 9 = .ok (.iload_n 2, 1) := by decide +kernel
theorem dX6_of_10 : decode cX6_of 10 = .ok (.iadd, 1) := by decide +kernel
theorem dX6_of_11 : decode cX6_of 11 = .ok (.iaload, 1) := by decide +kernel
theorem dX6_of_12 : decode cX6_of 12 = .ok (.ireturn, 1) := by decide +kernel
theorem dX6_magnitude_0 : decode cX6_magnitude 0 = .ok (.iload_n 0, 1) := by decide +kernel
theorem dX6_magnitude_1 : decode cX6_magnitude 1 = .ok (.ifCond .ge 8, 3) := by decide +kernel
theorem dX6_magnitude_4 : decode cX6_magnitude 4 = .ok (.iload_n 0, 1) := by decide +kernel
theorem dX6_magnitude_5 : decode cX6_magnitude 5 = .ok (.ineg, 1) := by decide +kernel
theorem dX6_magnitude_6 : decode cX6_magnitude 6 = .ok (.goto 4, 3) := by decide +kernel
theorem dX6_magnitude_9 : decode cX6_magnitude 9 = .ok (.iload_n 0, 1) := by decide +kernel
theorem dX6_magnitude_10 : decode cX6_magnitude 10 = .ok (.ireturn, 1) := by decide +kernel
theorem dX6_alarmed_0 : decode cX6_alarmed 0 = .ok (.aload_n 0, 1) := by decide +kernel
theorem dX6_alarmed_1 : decode cX6_alarmed 1 = .ok (.iload_n 1, 1) := by decide +kernel
theorem dX6_alarmed_2 : decode cX6_alarmed 2 = .ok (.iconst 1, 1) := by decide +kernel
theorem dX6_alarmed_3 : decode cX6_alarmed 3 = .ok (.invokevirtual 53, 3) := by decide +kernel
theorem dX6_alarmed_6 : decode cX6_alarmed 6 = .ok (.istore_n 2, 1) := by decide +kernel
theorem dX6_alarmed_7 : decode cX6_alarmed 7 = .ok (.aload_n 0, 1) := by decide +kernel
theorem dX6_alarmed_8 : decode cX6_alarmed 8 = .ok (.iload_n 1, 1) := by decide +kernel
theorem dX6_alarmed_9 : decode cX6_alarmed 9 = .ok (.iconst 3, 1) := by decide +kernel
theorem dX6_alarmed_10 : decode cX6_alarmed 10 = .ok (.invokevirtual 53, 3) := by decide +kernel
theorem dX6_alarmed_13 : decode cX6_alarmed 13 = .ok (.istore_n 3, 1) := by decide +kernel
theorem dX6_alarmed_14 : decode cX6_alarmed 14 = .ok (.aload_n 0, 1) := by decide +kernel
theorem dX6_alarmed_15 : decode cX6_alarmed 15 = .ok (.iload_n 1, 1) := by decide +kernel
theorem dX6_alarmed_16 : decode cX6_alarmed 16 = .ok (.iconst 2, 1) := by decide +kernel
theorem dX6_alarmed_17 : decode cX6_alarmed 17 = .ok (.invokevirtual 53, 3) := by decide +kernel
theorem dX6_alarmed_20 : decode cX6_alarmed 20 = .ok (.tableswitch 67 1 3 #[28, 39, 50], 28) := by decide +kernel
theorem dX6_alarmed_48 : decode cX6_alarmed 48 = .ok (.iload_n 2, 1) := by decide +kernel
theorem dX6_alarmed_49 : decode cX6_alarmed 49 = .ok (.iload_n 3, 1) := by decide +kernel
theorem dX6_alarmed_50 : decode cX6_alarmed 50 = .ok (.if_icmp .le 7, 3) := by decide +kernel
theorem dX6_alarmed_53 : decode cX6_alarmed 53 = .ok (.iconst 1, 1) := by decide +kernel
theorem dX6_alarmed_54 : decode cX6_alarmed 54 = .ok (.goto 4, 3) := by decide +kernel
theorem dX6_alarmed_57 : decode cX6_alarmed 57 = .ok (.iconst 0, 1) := by decide +kernel
theorem dX6_alarmed_58 : decode cX6_alarmed 58 = .ok (.ireturn, 1) := by decide +kernel
theorem dX6_alarmed_59 : decode cX6_alarmed 59 = .ok (.iload_n 2, 1) := by decide +kernel
theorem dX6_alarmed_60 : decode cX6_alarmed 60 = .ok (.iload_n 3, 1) := by decide +kernel
theorem dX6_alarmed_61 : decode cX6_alarmed 61 = .ok (.if_icmp .ge 7, 3) := by decide +kernel
theorem dX6_alarmed_64 : decode cX6_alarmed 64 = .ok (.iconst 1, 1) := by decide +kernel
theorem dX6_alarmed_65 : decode cX6_alarmed 65 = .ok (.goto 4, 3) := by decide +kernel
theorem dX6_alarmed_68 : decode cX6_alarmed 68 = .ok (.iconst 0, 1) := by decide +kernel
theorem dX6_alarmed_69 : decode cX6_alarmed 69 = .ok (.ireturn, 1) := by decide +kernel
theorem dX6_alarmed_70 : decode cX6_alarmed 70 = .ok (.iload_n 2, 1) := by decide +kernel
theorem dX6_alarmed_71 : decode cX6_alarmed 71 = .ok (.invokestatic 57, 3) := by decide +kernel
theorem dX6_alarmed_74 : decode cX6_alarmed 74 = .ok (.iload_n 3, 1) := by decide +kernel
theorem dX6_alarmed_75 : decode cX6_alarmed 75 = .ok (.invokestatic 57, 3) := by decide +kernel
theorem dX6_alarmed_78 : decode cX6_alarmed 78 = .ok (.if_icmp .le 7, 3) := by decide +kernel
theorem dX6_alarmed_81 : decode cX6_alarmed 81 = .ok (.iconst 1, 1) := by decide +kernel
theorem dX6_alarmed_82 : decode cX6_alarmed 82 = .ok (.goto 4, 3) := by decide +kernel
theorem dX6_alarmed_85 : decode cX6_alarmed 85 = .ok (.iconst 0, 1) := by decide +kernel
theorem dX6_alarmed_86 : decode cX6_alarmed 86 = .ok (.ireturn, 1) := by decide +kernel
theorem dX6_alarmed_87 : decode cX6_alarmed 87 = .ok (.iconst 0, 1) := by decide +kernel
theorem dX6_alarmed_88 : decode cX6_alarmed 88 = .ok (.ireturn, 1) := by decide +kernel
theorem dX6_doAdd_0 : decode cX6_doAdd 0 = .ok (.iload_n 1, 1) := by decide +kernel
theorem dX6_doAdd_1 : decode cX6_doAdd 1 = .ok (.iconst 0, 1) := by decide +kernel
theorem dX6_doAdd_2 : decode cX6_doAdd 2 = .ok (.bipush 15, 2) := by decide +kernel
theorem dX6_doAdd_4 : decode cX6_doAdd 4 = .ok (.invokestatic 35, 3) := by decide +kernel
theorem dX6_doAdd_7 : decode cX6_doAdd 7 = .ok (.ifCond .eq 14, 3) := by decide +kernel
theorem dX6_doAdd_10 : decode cX6_doAdd 10 = .ok (.iload_n 2, 1) := by decide +kernel
theorem dX6_doAdd_11 : decode cX6_doAdd 11 = .ok (.iconst 0, 1) := by decide +kernel
theorem dX6_doAdd_12 : decode cX6_doAdd 12 = .ok (.sipush 255, 3) := by decide +kernel
theorem dX6_doAdd_15 : decode cX6_doAdd 15 = .ok (.invokestatic 35, 3) := by decide +kernel
theorem dX6_doAdd_18 : decode cX6_doAdd 18 = .ok (.ifCond .ne 6, 3) := by decide +kernel
theorem dX6_doAdd_21 : decode cX6_doAdd 21 = .ok (.bipush (-2), 2) := by decide +kernel
theorem dX6_doAdd_23 : decode cX6_doAdd 23 = .ok (.ireturn, 1) := by decide +kernel
theorem dX6_doAdd_24 : decode cX6_doAdd 24 = .ok (.iload_n 1, 1) := by decide +kernel
theorem dX6_doAdd_25 : decode cX6_doAdd 25 = .ok (.iload_n 2, 1) := by decide +kernel
theorem dX6_doAdd_26 : decode cX6_doAdd 26 = .ok (.iconst 4, 1) := by decide +kernel
theorem dX6_doAdd_27 : decode cX6_doAdd 27 = .ok (.ishl, 1) := by decide +kernel
theorem dX6_doAdd_28 : decode cX6_doAdd 28 = .ok (.ior, 1) := by decide +kernel
theorem dX6_doAdd_29 : decode cX6_doAdd 29 = .ok (.istore_n 3, 1) := by decide +kernel
theorem dX6_doAdd_30 : decode cX6_doAdd 30 = .ok (.iload_n 3, 1) := by decide +kernel
theorem dX6_doAdd_31 : decode cX6_doAdd 31 = .ok (.iload_n 3, 1) := by decide +kernel
theorem dX6_doAdd_32 : decode cX6_doAdd 32 = .ok (.invokestatic 50, 3) := by decide +kernel
theorem dX6_doAdd_35 : decode cX6_doAdd 35 = .ok (.bipush 12, 2) := by decide +kernel
theorem dX6_doAdd_37 : decode cX6_doAdd 37 = .ok (.ishl, 1) := by decide +kernel
theorem dX6_doAdd_38 : decode cX6_doAdd 38 = .ok (.ior, 1) := by decide +kernel
theorem dX6_doAdd_39 : decode cX6_doAdd 39 = .ok (.istore 4, 2) := by decide +kernel
theorem dX6_doAdd_41 : decode cX6_doAdd 41 = .ok (.iconst 0, 1) := by decide +kernel
theorem dX6_doAdd_42 : decode cX6_doAdd 42 = .ok (.istore 5, 2) := by decide +kernel
theorem dX6_doAdd_44 : decode cX6_doAdd 44 = .ok (.iload 5, 2) := by decide +kernel
theorem dX6_doAdd_46 : decode cX6_doAdd 46 = .ok (.aload_n 0, 1) := by decide +kernel
theorem dX6_doAdd_47 : decode cX6_doAdd 47 = .ok (.getfield 7, 3) := by decide +kernel
theorem dX6_doAdd_50 : decode cX6_doAdd 50 = .ok (.iconst 0, 1) := by decide +kernel
theorem dX6_doAdd_51 : decode cX6_doAdd 51 = .ok (.iaload, 1) := by decide +kernel
theorem dX6_doAdd_52 : decode cX6_doAdd 52 = .ok (.if_icmp .ge 24, 3) := by decide +kernel
theorem dX6_doAdd_55 : decode cX6_doAdd 55 = .ok (.aload_n 0, 1) := by decide +kernel
theorem dX6_doAdd_56 : decode cX6_doAdd 56 = .ok (.iload 5, 2) := by decide +kernel
theorem dX6_doAdd_58 : decode cX6_doAdd 58 = .ok (.iconst 0, 1) := by decide +kernel
theorem dX6_doAdd_59 : decode cX6_doAdd 59 = .ok (.invokevirtual 53, 3) := by decide +kernel
theorem dX6_doAdd_62 : decode cX6_doAdd 62 = .ok (.iload 4, 2) := by decide +kernel
theorem dX6_doAdd_64 : decode cX6_doAdd 64 = .ok (.if_icmp .ne 6, 3) := by decide +kernel
theorem dX6_doAdd_67 : decode cX6_doAdd 67 = .ok (.bipush (-3), 2) := by decide +kernel
theorem dX6_doAdd_69 : decode cX6_doAdd 69 = .ok (.ireturn, 1) := by decide +kernel
theorem dX6_doAdd_70 : decode cX6_doAdd 70 = .ok (.iinc 5 1, 3) := by decide +kernel
theorem dX6_doAdd_73 : decode cX6_doAdd 73 = .ok (.goto (-29), 3) := by decide +kernel
theorem dX6_doAdd_76 : decode cX6_doAdd 76 = .ok (.aload_n 0, 1) := by decide +kernel
theorem dX6_doAdd_77 : decode cX6_doAdd 77 = .ok (.getfield 7, 3) := by decide +kernel
theorem dX6_doAdd_80 : decode cX6_doAdd 80 = .ok (.iconst 0, 1) := by decide +kernel
theorem dX6_doAdd_81 : decode cX6_doAdd 81 = .ok (.iaload, 1) := by decide +kernel
theorem dX6_doAdd_82 : decode cX6_doAdd 82 = .ok (.bipush 8, 2) := by decide +kernel
theorem dX6_doAdd_84 : decode cX6_doAdd 84 = .ok (.if_icmp .ne 6, 3) := by decide +kernel
theorem dX6_doAdd_87 : decode cX6_doAdd 87 = .ok (.bipush (-4), 2) := by decide +kernel
theorem dX6_doAdd_89 : decode cX6_doAdd 89 = .ok (.ireturn, 1) := by decide +kernel
theorem dX6_doAdd_90 : decode cX6_doAdd 90 = .ok (.iconst 1, 1) := by decide +kernel
theorem dX6_doAdd_91 : decode cX6_doAdd 91 = .ok (.iconst 4, 1) := by decide +kernel
theorem dX6_doAdd_92 : decode cX6_doAdd 92 = .ok (.aload_n 0, 1) := by decide +kernel
theorem dX6_doAdd_93 : decode cX6_doAdd 93 = .ok (.getfield 7, 3) := by decide +kernel
theorem dX6_doAdd_96 : decode cX6_doAdd 96 = .ok (.iconst 0, 1) := by decide +kernel
theorem dX6_doAdd_97 : decode cX6_doAdd 97 = .ok (.iaload, 1) := by decide +kernel
theorem dX6_doAdd_98 : decode cX6_doAdd 98 = .ok (.imul, 1) := by decide +kernel
theorem dX6_doAdd_99 : decode cX6_doAdd 99 = .ok (.iadd, 1) := by decide +kernel
theorem dX6_doAdd_100 : decode cX6_doAdd 100 = .ok (.istore 5, 2) := by decide +kernel
theorem dX6_doAdd_102 : decode cX6_doAdd 102 = .ok (.aload_n 0, 1) := by decide +kernel
theorem dX6_doAdd_103 : decode cX6_doAdd 103 = .ok (.getfield 7, 3) := by decide +kernel
theorem dX6_doAdd_106 : decode cX6_doAdd 106 = .ok (.iload 5, 2) := by decide +kernel
theorem dX6_doAdd_108 : decode cX6_doAdd 108 = .ok (.iload 4, 2) := by decide +kernel
theorem dX6_doAdd_110 : decode cX6_doAdd 110 = .ok (.iastore, 1) := by decide +kernel
theorem dX6_doAdd_111 : decode cX6_doAdd 111 = .ok (.aload_n 0, 1) := by decide +kernel
theorem dX6_doAdd_112 : decode cX6_doAdd 112 = .ok (.getfield 7, 3) := by decide +kernel
theorem dX6_doAdd_115 : decode cX6_doAdd 115 = .ok (.iload 5, 2) := by decide +kernel
theorem dX6_doAdd_117 : decode cX6_doAdd 117 = .ok (.iconst 1, 1) := by decide +kernel
theorem dX6_doAdd_118 : decode cX6_doAdd 118 = .ok (.iadd, 1) := by decide +kernel
theorem dX6_doAdd_119 : decode cX6_doAdd 119 = .ok (.iconst 0, 1) := by decide +kernel
theorem dX6_doAdd_120 : decode cX6_doAdd 120 = .ok (.iastore, 1) := by decide +kernel
theorem dX6_doAdd_121 : decode cX6_doAdd 121 = .ok (.aload_n 0, 1) := by decide +kernel
theorem dX6_doAdd_122 : decode cX6_doAdd 122 = .ok (.getfield 7, 3) := by decide +kernel
theorem dX6_doAdd_125 : decode cX6_doAdd 125 = .ok (.iload 5, 2) := by decide +kernel
theorem dX6_doAdd_127 : decode cX6_doAdd 127 = .ok (.iconst 2, 1) := by decide +kernel
theorem dX6_doAdd_128 : decode cX6_doAdd 128 = .ok (.iadd, 1) := by decide +kernel
theorem dX6_doAdd_129 : decode cX6_doAdd 129 = .ok (.iconst 0, 1) := by decide +kernel
theorem dX6_doAdd_130 : decode cX6_doAdd 130 = .ok (.iastore, 1) := by decide +kernel
theorem dX6_doAdd_131 : decode cX6_doAdd 131 = .ok (.aload_n 0, 1) := by decide +kernel
theorem dX6_doAdd_132 : decode cX6_doAdd 132 = .ok (.getfield 7, 3) := by decide +kernel
theorem dX6_doAdd_135 : decode cX6_doAdd 135 = .ok (.iload 5, 2) := by decide +kernel
theorem dX6_doAdd_137 : decode cX6_doAdd 137 = .ok (.iconst 3, 1) := by decide +kernel
theorem dX6_doAdd_138 : decode cX6_doAdd 138 = .ok (.iadd, 1) := by decide +kernel
theorem dX6_doAdd_139 : decode cX6_doAdd 139 = .ok (.iconst 0, 1) := by decide +kernel
theorem dX6_doAdd_140 : decode cX6_doAdd 140 = .ok (.iastore, 1) := by decide +kernel
theorem dX6_doAdd_141 : decode cX6_doAdd 141 = .ok (.aload_n 0, 1) := by decide +kernel
theorem dX6_doAdd_142 : decode cX6_doAdd 142 = .ok (.getfield 7, 3) := by decide +kernel
theorem dX6_doAdd_145 : decode cX6_doAdd 145 = .ok (.iconst 0, 1) := by decide +kernel
theorem dX6_doAdd_146 : decode cX6_doAdd 146 = .ok (.dup2, 1) := by decide +kernel
theorem dX6_doAdd_147 : decode cX6_doAdd 147 = .ok (.iaload, 1) := by decide +kernel
theorem dX6_doAdd_148 : decode cX6_doAdd 148 = .ok (.iconst 1, 1) := by decide +kernel
theorem dX6_doAdd_149 : decode cX6_doAdd 149 = .ok (.iadd, 1) := by decide +kernel
theorem dX6_doAdd_150 : decode cX6_doAdd 150 = .ok (.iastore, 1) := by decide +kernel
theorem dX6_doAdd_151 : decode cX6_doAdd 151 = .ok (.aload_n 0, 1) := by decide +kernel
theorem dX6_doAdd_152 : decode cX6_doAdd 152 = .ok (.getfield 7, 3) := by decide +kernel
theorem dX6_doAdd_155 : decode cX6_doAdd 155 = .ok (.iconst 0, 1) := by decide +kernel
theorem dX6_doAdd_156 : decode cX6_doAdd 156 = .ok (.iaload, 1) := by decide +kernel
theorem dX6_doAdd_157 : decode cX6_doAdd 157 = .ok (.iconst 1, 1) := by decide +kernel
theorem dX6_doAdd_158 : decode cX6_doAdd 158 = .ok (.isub, 1) := by decide +kernel
theorem dX6_doAdd_159 : decode cX6_doAdd 159 = .ok (.ireturn, 1) := by decide +kernel
theorem dX6_doRemove_0 : decode cX6_doRemove 0 = .ok (.aload_n 0, 1) := by decide +kernel
theorem dX6_doRemove_1 : decode cX6_doRemove 1 = .ok (.iload_n 1, 1) := by decide +kernel
theorem dX6_doRemove_2 : decode cX6_doRemove 2 = .ok (.invokevirtual 60, 3) := by decide +kernel
theorem dX6_doRemove_5 : decode cX6_doRemove 5 = .ok (.ifCond .ne 6, 3) := by decide +kernel
theorem dX6_doRemove_8 : decode cX6_doRemove 8 = .ok (.bipush (-2), 2) := by decide +kernel
theorem dX6_doRemove_10 : decode cX6_doRemove 10 = .ok (.ireturn, 1) := by decide +kernel
theorem dX6_doRemove_11 : decode cX6_doRemove 11 = .ok (.aload_n 0, 1) := by decide +kernel
theorem dX6_doRemove_12 : decode cX6_doRemove 12 = .ok (.getfield 7, 3) := by decide +kernel
theorem dX6_doRemove_15 : decode cX6_doRemove 15 = .ok (.iconst 0, 1) := by decide +kernel
theorem dX6_doRemove_16 : decode cX6_doRemove 16 = .ok (.dup2, 1) := by decide +kernel
theorem dX6_doRemove_17 : decode cX6_doRemove 17 = .ok (.iaload, 1) := by decide +kernel
theorem dX6_doRemove_18 : decode cX6_doRemove 18 = .ok (.iconst 1, 1) := by decide +kernel
theorem dX6_doRemove_19 : decode cX6_doRemove 19 = .ok (.isub, 1) := by decide +kernel
theorem dX6_doRemove_20 : decode cX6_doRemove 20 = .ok (.iastore, 1) := by decide +kernel
theorem dX6_doRemove_21 : decode cX6_doRemove 21 = .ok (.iconst 1, 1) := by decide +kernel
theorem dX6_doRemove_22 : decode cX6_doRemove 22 = .ok (.iconst 4, 1) := by decide +kernel
theorem dX6_doRemove_23 : decode cX6_doRemove 23 = .ok (.iload_n 1, 1) := by decide +kernel
theorem dX6_doRemove_24 : decode cX6_doRemove 24 = .ok (.imul, 1) := by decide +kernel
theorem dX6_doRemove_25 : decode cX6_doRemove 25 = .ok (.iadd, 1) := by decide +kernel
theorem dX6_doRemove_26 : decode cX6_doRemove 26 = .ok (.istore_n 2, 1) := by decide +kernel
theorem dX6_doRemove_27 : decode cX6_doRemove 27 = .ok (.iload_n 2, 1) := by decide +kernel
theorem dX6_doRemove_28 : decode cX6_doRemove 28 = .ok (.iconst 1, 1) := by decide +kernel
theorem dX6_doRemove_29 : decode cX6_doRemove 29 = .ok (.iconst 4, 1) := by decide +kernel
theorem dX6_doRemove_30 : decode cX6_doRemove 30 = .ok (.aload_n 0, 1) := by decide +kernel
theorem dX6_doRemove_31 : decode cX6_doRemove 31 = .ok (.getfield 7, 3) := by decide +kernel
theorem dX6_doRemove_34 : decode cX6_doRemove 34 = .ok (.iconst 0, 1) := by decide +kernel
theorem dX6_doRemove_35 : decode cX6_doRemove 35 = .ok (.iaload, 1) := by decide +kernel
theorem dX6_doRemove_36 : decode cX6_doRemove 36 = .ok (.imul, 1) := by decide +kernel
theorem dX6_doRemove_37 : decode cX6_doRemove 37 = .ok (.iadd, 1) := by decide +kernel
theorem dX6_doRemove_38 : decode cX6_doRemove 38 = .ok (.if_icmp .ge 23, 3) := by decide +kernel
theorem dX6_doRemove_41 : decode cX6_doRemove 41 = .ok (.aload_n 0, 1) := by decide +kernel
theorem dX6_doRemove_42 : decode cX6_doRemove 42 = .ok (.getfield 7, 3) := by decide +kernel
theorem dX6_doRemove_45 : decode cX6_doRemove 45 = .ok (.iload_n 2, 1) := by decide +kernel
theorem dX6_doRemove_46 : decode cX6_doRemove 46 = .ok (.aload_n 0, 1) := by decide +kernel
theorem dX6_doRemove_47 : decode cX6_doRemove 47 = .ok (.getfield 7, 3) := by decide +kernel
theorem dX6_doRemove_50 : decode cX6_doRemove 50 = .ok (.iload_n 2, 1) := by decide +kernel
theorem dX6_doRemove_51 : decode cX6_doRemove 51 = .ok (.iconst 4, 1) := by decide +kernel
theorem dX6_doRemove_52 : decode cX6_doRemove 52 = .ok (.iadd, 1) := by decide +kernel
theorem dX6_doRemove_53 : decode cX6_doRemove 53 = .ok (.iaload, 1) := by decide +kernel
theorem dX6_doRemove_54 : decode cX6_doRemove 54 = .ok (.iastore, 1) := by decide +kernel
theorem dX6_doRemove_55 : decode cX6_doRemove 55 = .ok (.iinc 2 1, 3) := by decide +kernel
theorem dX6_doRemove_58 : decode cX6_doRemove 58 = .ok (.goto (-31), 3) := by decide +kernel
theorem dX6_doRemove_61 : decode cX6_doRemove 61 = .ok (.aload_n 0, 1) := by decide +kernel
theorem dX6_doRemove_62 : decode cX6_doRemove 62 = .ok (.getfield 7, 3) := by decide +kernel
theorem dX6_doRemove_65 : decode cX6_doRemove 65 = .ok (.iconst 0, 1) := by decide +kernel
theorem dX6_doRemove_66 : decode cX6_doRemove 66 = .ok (.iaload, 1) := by decide +kernel
theorem dX6_doRemove_67 : decode cX6_doRemove 67 = .ok (.ireturn, 1) := by decide +kernel
theorem dX6_doReading_0 : decode cX6_doReading 0 = .ok (.aload_n 0, 1) := by decide +kernel
theorem dX6_doReading_1 : decode cX6_doReading 1 = .ok (.iload_n 1, 1) := by decide +kernel
theorem dX6_doReading_2 : decode cX6_doReading 2 = .ok (.invokevirtual 60, 3) := by decide +kernel
theorem dX6_doReading_5 : decode cX6_doReading 5 = .ok (.ifCond .eq 16, 3) := by decide +kernel
theorem dX6_doReading_8 : decode cX6_doReading 8 = .ok (.iload_n 2, 1) := by decide +kernel
theorem dX6_doReading_9 : decode cX6_doReading 9 = .ok (.sipush (-999), 3) := by decide +kernel
theorem dX6_doReading_12 : decode cX6_doReading 12 = .ok (.sipush 999, 3) := by decide +kernel
theorem dX6_doReading_15 : decode cX6_doReading 15 = .ok (.invokestatic 35, 3) := by decide +kernel
theorem dX6_doReading_18 : decode cX6_doReading 18 = .ok (.ifCond .ne 6, 3) := by decide +kernel
theorem dX6_doReading_21 : decode cX6_doReading 21 = .ok (.bipush (-2), 2) := by decide +kernel
theorem dX6_doReading_23 : decode cX6_doReading 23 = .ok (.ireturn, 1) := by decide +kernel
theorem dX6_doReading_24 : decode cX6_doReading 24 = .ok (.aload_n 0, 1) := by decide +kernel
theorem dX6_doReading_25 : decode cX6_doReading 25 = .ok (.getfield 7, 3) := by decide +kernel
theorem dX6_doReading_28 : decode cX6_doReading 28 = .ok (.iconst 1, 1) := by decide +kernel
theorem dX6_doReading_29 : decode cX6_doReading 29 = .ok (.iconst 4, 1) := by decide +kernel
theorem dX6_doReading_30 : decode cX6_doReading 30 = .ok (.iload_n 1, 1) := by decide +kernel
theorem dX6_doReading_31 : decode cX6_doReading 31 = .ok (.imul, 1) := by decide +kernel
theorem dX6_doReading_32 : decode cX6_doReading 32 = .ok (.iadd, 1) := by decide +kernel
theorem dX6_doReading_33 : decode cX6_doReading 33 = .ok (.iconst 1, 1) := by decide +kernel
theorem dX6_doReading_34 : decode cX6_doReading 34 = .ok (.iadd, 1) := by decide +kernel
theorem dX6_doReading_35 : decode cX6_doReading 35 = .ok (.iload_n 2, 1) := by decide +kernel
theorem dX6_doReading_36 : decode cX6_doReading 36 = .ok (.iastore, 1) := by decide +kernel
theorem dX6_doReading_37 : decode cX6_doReading 37 = .ok (.aload_n 0, 1) := by decide +kernel
theorem dX6_doReading_38 : decode cX6_doReading 38 = .ok (.iload_n 1, 1) := by decide +kernel
theorem dX6_doReading_39 : decode cX6_doReading 39 = .ok (.invokevirtual 63, 3) := by decide +kernel
theorem dX6_doReading_42 : decode cX6_doReading 42 = .ok (.ireturn, 1) := by decide +kernel
theorem dX6_doAlarm_0 : decode cX6_doAlarm 0 = .ok (.aload_n 0, 1) := by decide +kernel
theorem dX6_doAlarm_1 : decode cX6_doAlarm 1 = .ok (.iload_n 1, 1) := by decide +kernel
theorem dX6_doAlarm_2 : decode cX6_doAlarm 2 = .ok (.invokevirtual 60, 3) := by decide +kernel
theorem dX6_doAlarm_5 : decode cX6_doAlarm 5 = .ok (.ifCond .eq 25, 3) := by decide +kernel
theorem dX6_doAlarm_8 : decode cX6_doAlarm 8 = .ok (.iload_n 2, 1) := by decide +kernel
theorem dX6_doAlarm_9 : decode cX6_doAlarm 9 = .ok (.iconst 0, 1) := by decide +kernel
theorem dX6_doAlarm_10 : decode cX6_doAlarm 10 = .ok (.iconst 3, 1) := by decide +kernel
theorem dX6_doAlarm_11 : decode cX6_doAlarm 11 = .ok (.invokestatic 35, 3) := by decide +kernel
theorem dX6_doAlarm_14 : decode cX6_doAlarm 14 = .ok (.ifCond .eq 16, 3) := by decide +kernel
theorem dX6_doAlarm_17 : decode cX6_doAlarm 17 = .ok (.iload_n 3, 1) := by decide +kernel
theorem dX6_doAlarm_18 : decode cX6_doAlarm 18 = .ok (.sipush (-999), 3) := by decide +kernel
theorem dX6_doAlarm_21 : decode cX6_doAlarm 21 = .ok (.sipush 999, 3) := by decide +kernel
theorem dX6_doAlarm_24 : decode cX6_doAlarm 24 = .ok (.invokestatic 35, 3) := by decide +kernel
theorem dX6_doAlarm_27 : decode cX6_doAlarm 27 = .ok (.ifCond .ne 6, 3) := by decide +kernel
theorem dX6_doAlarm_30 : decode cX6_doAlarm 30 = .ok (.bipush (-2), 2) := by decide +kernel
theorem dX6_doAlarm_32 : decode cX6_doAlarm 32 = .ok (.ireturn, 1) := by decide +kernel
theorem dX6_doAlarm_33 : decode cX6_doAlarm 33 = .ok (.aload_n 0, 1) := by decide +kernel
theorem dX6_doAlarm_34 : decode cX6_doAlarm 34 = .ok (.getfield 7, 3) := by decide +kernel
theorem dX6_doAlarm_37 : decode cX6_doAlarm 37 = .ok (.iconst 1, 1) := by decide +kernel
theorem dX6_doAlarm_38 : decode cX6_doAlarm 38 = .ok (.iconst 4, 1) := by decide +kernel
theorem dX6_doAlarm_39 : decode cX6_doAlarm 39 = .ok (.iload_n 1, 1) := by decide +kernel
theorem dX6_doAlarm_40 : decode cX6_doAlarm 40 = .ok (.imul, 1) := by decide +kernel
theorem dX6_doAlarm_41 : decode cX6_doAlarm 41 = .ok (.iadd, 1) := by decide +kernel
theorem dX6_doAlarm_42 : decode cX6_doAlarm 42 = .ok (.iconst 2, 1) := by decide +kernel
theorem dX6_doAlarm_43 : decode cX6_doAlarm 43 = .ok (.iadd, 1) := by decide +kernel
theorem dX6_doAlarm_44 : decode cX6_doAlarm 44 = .ok (.iload_n 2, 1) := by decide +kernel
theorem dX6_doAlarm_45 : decode cX6_doAlarm 45 = .ok (.iastore, 1) := by decide +kernel
theorem dX6_doAlarm_46 : decode cX6_doAlarm 46 = .ok (.aload_n 0, 1) := by decide +kernel
theorem dX6_doAlarm_47 : decode cX6_doAlarm 47 = .ok (.getfield 7, 3) := by decide +kernel
theorem dX6_doAlarm_50 : decode cX6_doAlarm 50 = .ok (.iconst 1, 1) := by decide +kernel
theorem dX6_doAlarm_51 : decode cX6_doAlarm 51 = .ok (.iconst 4, 1) := by decide +kernel
theorem dX6_doAlarm_52 : decode cX6_doAlarm 52 = .ok (.iload_n 1, 1) := by decide +kernel
theorem dX6_doAlarm_53 : decode cX6_doAlarm 53 = .ok (.imul, 1) := by decide +kernel
theorem dX6_doAlarm_54 : decode cX6_doAlarm 54 = .ok (.iadd, 1) := by decide +kernel
theorem dX6_doAlarm_55 : decode cX6_doAlarm 55 = .ok (.iconst 3, 1) := by decide +kernel
theorem dX6_doAlarm_56 : decode cX6_doAlarm 56 = .ok (.iadd, 1) := by decide +kernel
theorem dX6_doAlarm_57 : decode cX6_doAlarm 57 = .ok (.iload_n 3, 1) := by decide +kernel
theorem dX6_doAlarm_58 : decode cX6_doAlarm 58 = .ok (.iastore, 1) := by decide +kernel
theorem dX6_doAlarm_59 : decode cX6_doAlarm 59 = .ok (.aload_n 0, 1) := by decide +kernel
theorem dX6_doAlarm_60 : decode cX6_doAlarm 60 = .ok (.iload_n 1, 1) := by decide +kernel
theorem dX6_doAlarm_61 : decode cX6_doAlarm 61 = .ok (.invokevirtual 63, 3) := by decide +kernel
theorem dX6_doAlarm_64 : decode cX6_doAlarm 64 = .ok (.ireturn, 1) := by decide +kernel
theorem dX6_addDevice_0 : decode cX6_addDevice 0 = .ok (.aload_n 0, 1) := by decide +kernel
theorem dX6_addDevice_1 : decode cX6_addDevice 1 = .ok (.invokevirtual 66, 3) := by decide +kernel
theorem dX6_addDevice_4 : decode cX6_addDevice 4 = .ok (.aload_n 0, 1) := by decide +kernel
theorem dX6_addDevice_5 : decode cX6_addDevice 5 = .ok (.aload_n 0, 1) := by decide +kernel
theorem dX6_addDevice_6 : decode cX6_addDevice 6 = .ok (.iload_n 1, 1) := by decide +kernel
theorem dX6_addDevice_7 : decode cX6_addDevice 7 = .ok (.iload_n 2, 1) := by decide +kernel
theorem dX6_addDevice_8 : decode cX6_addDevice 8 = .ok (.invokevirtual 69, 3) := by decide +kernel
theorem dX6_addDevice_11 : decode cX6_addDevice 11 = .ok (.invokevirtual 72, 3) := by decide +kernel
theorem dX6_addDevice_14 : decode cX6_addDevice 14 = .ok (.ireturn, 1) := by decide +kernel
theorem dX6_removeDevice_0 : decode cX6_removeDevice 0 = .ok (.aload_n 0, 1) := by decide +kernel
theorem dX6_removeDevice_1 : decode cX6_removeDevice 1 = .ok (.invokevirtual 66, 3) := by decide +kernel
theorem dX6_removeDevice_4 : decode cX6_removeDevice 4 = .ok (.aload_n 0, 1) := by decide +kernel
theorem dX6_removeDevice_5 : decode cX6_removeDevice 5 = .ok (.aload_n 0, 1) := by decide +kernel
theorem dX6_removeDevice_6 : decode cX6_removeDevice 6 = .ok (.iload_n 1, 1) := by decide +kernel
theorem dX6_removeDevice_7 : decode cX6_removeDevice 7 = .ok (.invokevirtual 75, 3) := by decide +kernel
theorem dX6_removeDevice_10 : decode cX6_removeDevice 10 = .ok (.invokevirtual 72, 3) := by decide +kernel
theorem dX6_removeDevice_13 : decode cX6_removeDevice 13 = .ok (.ireturn, 1) := by decide +kernel
theorem dX6_setReading_0 : decode cX6_setReading 0 = .ok (.aload_n 0, 1) := by decide +kernel
theorem dX6_setReading_1 : decode cX6_setReading 1 = .ok (.invokevirtual 66, 3) := by decide +kernel
theorem dX6_setReading_4 : decode cX6_setReading 4 = .ok (.aload_n 0, 1) := by decide +kernel
theorem dX6_setReading_5 : decode cX6_setReading 5 = .ok (.aload_n 0, 1) := by decide +kernel
theorem dX6_setReading_6 : decode cX6_setReading 6 = .ok (.iload_n 1, 1) := by decide +kernel
theorem dX6_setReading_7 : decode cX6_setReading 7 = .ok (.iload_n 2, 1) := by decide +kernel
theorem dX6_setReading_8 : decode cX6_setReading 8 = .ok (.invokevirtual 78, 3) := by decide +kernel
theorem dX6_setReading_11 : decode cX6_setReading 11 = .ok (.invokevirtual 72, 3) := by decide +kernel
theorem dX6_setReading_14 : decode cX6_setReading 14 = .ok (.ireturn, 1) := by decide +kernel
theorem dX6_setAlarm_0 : decode cX6_setAlarm 0 = .ok (.aload_n 0, 1) := by decide +kernel
theorem dX6_setAlarm_1 : decode cX6_setAlarm 1 = .ok (.invokevirtual 66, 3) := by decide +kernel
theorem dX6_setAlarm_4 : decode cX6_setAlarm 4 = .ok (.aload_n 0, 1) := by decide +kernel
theorem dX6_setAlarm_5 : decode cX6_setAlarm 5 = .ok (.aload_n 0, 1) := by decide +kernel
theorem dX6_setAlarm_6 : decode cX6_setAlarm 6 = .ok (.iload_n 1, 1) := by decide +kernel
theorem dX6_setAlarm_7 : decode cX6_setAlarm 7 = .ok (.iload_n 2, 1) := by decide +kernel
theorem dX6_setAlarm_8 : decode cX6_setAlarm 8 = .ok (.iload_n 3, 1) := by decide +kernel
theorem dX6_setAlarm_9 : decode cX6_setAlarm 9 = .ok (.invokevirtual 81, 3) := by decide +kernel
theorem dX6_setAlarm_12 : decode cX6_setAlarm 12 = .ok (.invokevirtual 72, 3) := by decide +kernel
theorem dX6_setAlarm_15 : decode cX6_setAlarm 15 = .ok (.ireturn, 1) := by decide +kernel
theorem dX6_romCode_0 : decode cX6_romCode 0 = .ok (.aload_n 0, 1) := by decide +kernel
theorem dX6_romCode_1 : decode cX6_romCode 1 = .ok (.iload_n 1, 1) := by decide +kernel
theorem dX6_romCode_2 : decode cX6_romCode 2 = .ok (.invokevirtual 60, 3) := by decide +kernel
theorem dX6_romCode_5 : decode cX6_romCode 5 = .ok (.ifCond .eq 12, 3) := by decide +kernel
theorem dX6_romCode_8 : decode cX6_romCode 8 = .ok (.aload_n 0, 1) := by decide +kernel
theorem dX6_romCode_9 : decode cX6_romCode 9 = .ok (.iload_n 1, 1) := by decide +kernel
theorem dX6_romCode_10 : decode cX6_romCode 10 = .ok (.iconst 0, 1) := by decide +kernel
theorem dX6_romCode_11 : decode cX6_romCode 11 = .ok (.invokevirtual 53, 3) := by decide +kernel
theorem dX6_romCode_14 : decode cX6_romCode 14 = .ok (.goto 9, 3) := by decide +kernel
theorem dX6_romCode_17 : decode cX6_romCode 17 = .ok (.aload_n 0, 1) := by decide +kernel
theorem dX6_romCode_18 : decode cX6_romCode 18 = .ok (.bipush (-2), 2) := by decide +kernel
theorem dX6_romCode_20 : decode cX6_romCode 20 = .ok (.invokevirtual 43, 3) := by decide +kernel
theorem dX6_romCode_23 : decode cX6_romCode 23 = .ok (.ireturn, 1) := by decide +kernel
theorem dX6_alarms_0 : decode cX6_alarms 0 = .ok (.iconst 0, 1) := by decide +kernel
theorem dX6_alarms_1 : decode cX6_alarms 1 = .ok (.istore_n 1, 1) := by decide +kernel
theorem dX6_alarms_2 : decode cX6_alarms 2 = .ok (.iconst 0, 1) := by decide +kernel
theorem dX6_alarms_3 : decode cX6_alarms 3 = .ok (.istore_n 2, 1) := by decide +kernel
theorem dX6_alarms_4 : decode cX6_alarms 4 = .ok (.iload_n 2, 1) := by decide +kernel
theorem dX6_alarms_5 : decode cX6_alarms 5 = .ok (.aload_n 0, 1) := by decide +kernel
theorem dX6_alarms_6 : decode cX6_alarms 6 = .ok (.getfield 7, 3) := by decide +kernel
theorem dX6_alarms_9 : decode cX6_alarms 9 = .ok (.iconst 0, 1) := by decide +kernel
theorem dX6_alarms_10 : decode cX6_alarms 10 = .ok (.iaload, 1) := by decide +kernel
theorem dX6_alarms_11 : decode cX6_alarms 11 = .ok (.if_icmp .ge 19, 3) := by decide +kernel
theorem dX6_alarms_14 : decode cX6_alarms 14 = .ok (.iload_n 1, 1) := by decide +kernel
theorem dX6_alarms_15 : decode cX6_alarms 15 = .ok (.aload_n 0, 1) := by decide +kernel
theorem dX6_alarms_16 : decode cX6_alarms 16 = .ok (.iload_n 2, 1) := by decide +kernel
theorem dX6_alarms_17 : decode cX6_alarms 17 = .ok (.invokevirtual 63, 3) := by decide +kernel
theorem dX6_alarms_20 : decode cX6_alarms 20 = .ok (.iload_n 2, 1) := by decide +kernel
theorem dX6_alarms_21 : decode cX6_alarms 21 = .ok (.ishl, 1) := by decide +kernel
theorem dX6_alarms_22 : decode cX6_alarms 22 = .ok (.ior, 1) := by decide +kernel
theorem dX6_alarms_23 : decode cX6_alarms 23 = .ok (.istore_n 1, 1) := by decide +kernel
theorem dX6_alarms_24 : decode cX6_alarms 24 = .ok (.iinc 2 1, 3) := by decide +kernel
theorem dX6_alarms_27 : decode cX6_alarms 27 = .ok (.goto (-23), 3) := by decide +kernel
theorem dX6_alarms_30 : decode cX6_alarms 30 = .ok (.iload_n 1, 1) := by decide +kernel
theorem dX6_alarms_31 : decode cX6_alarms 31 = .ok (.ireturn, 1) := by decide +kernel
theorem dX6_alarmedDevices_0 : decode cX6_alarmedDevices 0 = .ok (.aload_n 0, 1) := by decide +kernel
theorem dX6_alarmedDevices_1 : decode cX6_alarmedDevices 1 = .ok (.invokevirtual 85, 3) := by decide +kernel
theorem dX6_alarmedDevices_4 : decode cX6_alarmedDevices 4 = .ok (.ireturn, 1) := by decide +kernel
theorem dX6_reset_0 : decode cX6_reset 0 = .ok (.aload_n 0, 1) := by decide +kernel
theorem dX6_reset_1 : decode cX6_reset 1 = .ok (.getfield 7, 3) := by decide +kernel
theorem dX6_reset_4 : decode cX6_reset 4 = .ok (.bipush 33, 2) := by decide +kernel
theorem dX6_reset_6 : decode cX6_reset 6 = .ok (.iconst 0, 1) := by decide +kernel
theorem dX6_reset_7 : decode cX6_reset 7 = .ok (.iastore, 1) := by decide +kernel
theorem dX6_reset_8 : decode cX6_reset 8 = .ok (.aload_n 0, 1) := by decide +kernel
theorem dX6_reset_9 : decode cX6_reset 9 = .ok (.getfield 7, 3) := by decide +kernel
theorem dX6_reset_12 : decode cX6_reset 12 = .ok (.bipush 34, 2) := by decide +kernel
theorem dX6_reset_14 : decode cX6_reset 14 = .ok (.iconst (-1), 1) := by decide +kernel
theorem dX6_reset_15 : decode cX6_reset 15 = .ok (.iastore, 1) := by decide +kernel
theorem dX6_reset_16 : decode cX6_reset 16 = .ok (.aload_n 0, 1) := by decide +kernel
theorem dX6_reset_17 : decode cX6_reset 17 = .ok (.getfield 7, 3) := by decide +kernel
theorem dX6_reset_20 : decode cX6_reset 20 = .ok (.bipush 35, 2) := by decide +kernel
theorem dX6_reset_22 : decode cX6_reset 22 = .ok (.iconst (-1), 1) := by decide +kernel
theorem dX6_reset_23 : decode cX6_reset 23 = .ok (.iastore, 1) := by decide +kernel
theorem dX6_reset_24 : decode cX6_reset 24 = .ok (.aload_n 0, 1) := by decide +kernel
theorem dX6_reset_25 : decode cX6_reset 25 = .ok (.getfield 7, 3) := by decide +kernel
theorem dX6_reset_28 : decode cX6_reset 28 = .ok (.bipush 36, 2) := by decide +kernel
theorem dX6_reset_30 : decode cX6_reset 30 = .ok (.iconst 0, 1) := by decide +kernel
theorem dX6_reset_31 : decode cX6_reset 31 = .ok (.iastore, 1) := by decide +kernel
theorem dX6_reset_32 : decode cX6_reset 32 = .ok (.return_, 1) := by decide +kernel
theorem dX6_fail_0 : decode cX6_fail 0 = .ok (.aload_n 0, 1) := by decide +kernel
theorem dX6_fail_1 : decode cX6_fail 1 = .ok (.invokevirtual 89, 3) := by decide +kernel
theorem dX6_fail_4 : decode cX6_fail 4 = .ok (.iload_n 1, 1) := by decide +kernel
theorem dX6_fail_5 : decode cX6_fail 5 = .ok (.ireturn, 1) := by decide +kernel
theorem dX6_noisy_0 : decode cX6_noisy 0 = .ok (.aload_n 0, 1) := by decide +kernel
theorem dX6_noisy_1 : decode cX6_noisy 1 = .ok (.getfield 7, 3) := by decide +kernel
theorem dX6_noisy_4 : decode cX6_noisy 4 = .ok (.bipush 38, 2) := by decide +kernel
theorem dX6_noisy_6 : decode cX6_noisy 6 = .ok (.iaload, 1) := by decide +kernel
theorem dX6_noisy_7 : decode cX6_noisy 7 = .ok (.iload_n 1, 1) := by decide +kernel
theorem dX6_noisy_8 : decode cX6_noisy 8 = .ok (.if_icmp .eq 5, 3) := by decide +kernel
theorem dX6_noisy_11 : decode cX6_noisy 11 = .ok (.iload_n 2, 1) := by decide +kernel
theorem dX6_noisy_12 : decode cX6_noisy 12 = .ok (.ireturn, 1) := by decide +kernel
theorem dX6_noisy_13 : decode cX6_noisy 13 = .ok (.aload_n 0, 1) := by decide +kernel
theorem dX6_noisy_14 : decode cX6_noisy 14 = .ok (.getfield 7, 3) := by decide +kernel
theorem dX6_noisy_17 : decode cX6_noisy 17 = .ok (.bipush 38, 2) := by decide +kernel
theorem dX6_noisy_19 : decode cX6_noisy 19 = .ok (.iconst (-1), 1) := by decide +kernel
theorem dX6_noisy_20 : decode cX6_noisy 20 = .ok (.iastore, 1) := by decide +kernel
theorem dX6_noisy_21 : decode cX6_noisy 21 = .ok (.iconst 1, 1) := by decide +kernel
theorem dX6_noisy_22 : decode cX6_noisy 22 = .ok (.iload_n 2, 1) := by decide +kernel
theorem dX6_noisy_23 : decode cX6_noisy 23 = .ok (.isub, 1) := by decide +kernel
theorem dX6_noisy_24 : decode cX6_noisy 24 = .ok (.ireturn, 1) := by decide +kernel
theorem dX6_wiredAnd_0 : decode cX6_wiredAnd 0 = .ok (.iconst 1, 1) := by decide +kernel
theorem dX6_wiredAnd_1 : decode cX6_wiredAnd 1 = .ok (.istore 4, 2) := by decide +kernel
theorem dX6_wiredAnd_3 : decode cX6_wiredAnd 3 = .ok (.iconst 0, 1) := by decide +kernel
theorem dX6_wiredAnd_4 : decode cX6_wiredAnd 4 = .ok (.istore 5, 2) := by decide +kernel
theorem dX6_wiredAnd_6 : decode cX6_wiredAnd 6 = .ok (.iload 5, 2) := by decide +kernel
theorem dX6_wiredAnd_8 : decode cX6_wiredAnd 8 = .ok (.aload_n 0, 1) := by decide +kernel
theorem dX6_wiredAnd_9 : decode cX6_wiredAnd 9 = .ok (.getfield 7, 3) := by decide +kernel
theorem dX6_wiredAnd_12 : decode cX6_wiredAnd 12 = .ok (.iconst 0, 1) := by decide +kernel
theorem dX6_wiredAnd_13 : decode cX6_wiredAnd 13 = .ok (.iaload, 1) := by decide +kernel
theorem dX6_wiredAnd_14 : decode cX6_wiredAnd 14 = .ok (.if_icmp .ge 42, 3) := by decide +kernel
theorem dX6_wiredAnd_17 : decode cX6_wiredAnd 17 = .ok (.iload_n 1, 1) := by decide +kernel
theorem dX6_wiredAnd_18 : decode cX6_wiredAnd 18 = .ok (.iload 5, 2) := by decide +kernel
theorem dX6_wiredAnd_20 : decode cX6_wiredAnd 20 = .ok (.ishr, 1) := by decide +kernel
theorem dX6_wiredAnd_21 : decode cX6_wiredAnd 21 = .ok (.iconst 1, 1) := by decide +kernel
theorem dX6_wiredAnd_22 : decode cX6_wiredAnd 22 = .ok (.iand, 1) := by decide +kernel
theorem dX6_wiredAnd_23 : decode cX6_wiredAnd 23 = .ok (.iconst 1, 1) := by decide +kernel
theorem dX6_wiredAnd_24 : decode cX6_wiredAnd 24 = .ok (.if_icmp .ne 22, 3) := by decide +kernel
theorem dX6_wiredAnd_27 : decode cX6_wiredAnd 27 = .ok (.aload_n 0, 1) := by decide +kernel
theorem dX6_wiredAnd_28 : decode cX6_wiredAnd 28 = .ok (.iload 5, 2) := by decide +kernel
theorem dX6_wiredAnd_30 : decode cX6_wiredAnd 30 = .ok (.iconst 0, 1) := by decide +kernel
theorem dX6_wiredAnd_31 : decode cX6_wiredAnd 31 = .ok (.invokevirtual 53, 3) := by decide +kernel
theorem dX6_wiredAnd_34 : decode cX6_wiredAnd 34 = .ok (.iload_n 2, 1) := by decide +kernel
theorem dX6_wiredAnd_35 : decode cX6_wiredAnd 35 = .ok (.ishr, 1) := by decide +kernel
theorem dX6_wiredAnd_36 : decode cX6_wiredAnd 36 = .ok (.iconst 1, 1) := by decide +kernel
theorem dX6_wiredAnd_37 : decode cX6_wiredAnd 37 = .ok (.iand, 1) := by decide +kernel
theorem dX6_wiredAnd_38 : decode cX6_wiredAnd 38 = .ok (.iload_n 3, 1) := by decide +kernel
theorem dX6_wiredAnd_39 : decode cX6_wiredAnd 39 = .ok (.if_icmp .eq 7, 3) := by decide +kernel
theorem dX6_wiredAnd_42 : decode cX6_wiredAnd 42 = .ok (.iconst 0, 1) := by decide +kernel
theorem dX6_wiredAnd_43 : decode cX6_wiredAnd 43 = .ok (.goto 5, 3) := by decide +kernel
theorem dX6_wiredAnd_46 : decode cX6_wiredAnd 46 = .ok (.iload 4, 2) := by decide +kernel
theorem dX6_wiredAnd_48 : decode cX6_wiredAnd 48 = .ok (.istore 4, 2) := by decide +kernel
theorem dX6_wiredAnd_50 : decode cX6_wiredAnd 50 = .ok (.iinc 5 1, 3) := by decide +kernel
theorem dX6_wiredAnd_53 : decode cX6_wiredAnd 53 = .ok (.goto (-47), 3) := by decide +kernel
theorem dX6_wiredAnd_56 : decode cX6_wiredAnd 56 = .ok (.iload 4, 2) := by decide +kernel
theorem dX6_wiredAnd_58 : decode cX6_wiredAnd 58 = .ok (.ireturn, 1) := by decide +kernel
theorem dX6_direction_0 : decode cX6_direction 0 = .ok (.iload_n 2, 1) := by decide +kernel
theorem dX6_direction_1 : decode cX6_direction 1 = .ok (.iload_n 3, 1) := by decide +kernel
theorem dX6_direction_2 : decode cX6_direction 2 = .ok (.if_icmp .eq 5, 3) := by decide +kernel
theorem dX6_direction_5 : decode cX6_direction 5 = .ok (.iload_n 2, 1) := by decide +kernel
theorem dX6_direction_6 : decode cX6_direction 6 = .ok (.ireturn, 1) := by decide +kernel
theorem dX6_direction_7 : decode cX6_direction 7 = .ok (.iload_n 1, 1) := by decide +kernel
theorem dX6_direction_8 : decode cX6_direction 8 = .ok (.aload_n 0, 1) := by decide +kernel
theorem dX6_direction_9 : decode cX6_direction 9 = .ok (.getfield 7, 3) := by decide +kernel
theorem dX6_direction_12 : decode cX6_direction 12 = .ok (.bipush 34, 2) := by decide +kernel
theorem dX6_direction_14 : decode cX6_direction 14 = .ok (.iaload, 1) := by decide +kernel
theorem dX6_direction_15 : decode cX6_direction 15 = .ok (.if_icmp .ge 17, 3) := by decide +kernel
theorem dX6_direction_18 : decode cX6_direction 18 = .ok (.aload_n 0, 1) := by decide +kernel
theorem dX6_direction_19 : decode cX6_direction 19 = .ok (.getfield 7, 3) := by decide +kernel
theorem dX6_direction_22 : decode cX6_direction 22 = .ok (.bipush 33, 2) := by decide +kernel
theorem dX6_direction_24 : decode cX6_direction 24 = .ok (.iaload, 1) := by decide +kernel
theorem dX6_direction_25 : decode cX6_direction 25 = .ok (.iload_n 1, 1) := by decide +kernel
theorem dX6_direction_26 : decode cX6_direction 26 = .ok (.ishr, 1) := by decide +kernel
theorem dX6_direction_27 : decode cX6_direction 27 = .ok (.iconst 1, 1) := by decide +kernel
theorem dX6_direction_28 : decode cX6_direction 28 = .ok (.iand, 1) := by decide +kernel
theorem dX6_direction_29 : decode cX6_direction 29 = .ok (.goto 19, 3) := by decide +kernel
theorem dX6_direction_32 : decode cX6_direction 32 = .ok (.iload_n 1, 1) := by decide +kernel
theorem dX6_direction_33 : decode cX6_direction 33 = .ok (.aload_n 0, 1) := by decide +kernel
theorem dX6_direction_34 : decode cX6_direction 34 = .ok (.getfield 7, 3) := by decide +kernel
theorem dX6_direction_37 : decode cX6_direction 37 = .ok (.bipush 34, 2) := by decide +kernel
theorem dX6_direction_39 : decode cX6_direction 39 = .ok (.iaload, 1) := by decide +kernel
theorem dX6_direction_40 : decode cX6_direction 40 = .ok (.if_icmp .ne 7, 3) := by decide +kernel
theorem dX6_direction_43 : decode cX6_direction 43 = .ok (.iconst 1, 1) := by decide +kernel
theorem dX6_direction_44 : decode cX6_direction 44 = .ok (.goto 4, 3) := by decide +kernel
theorem dX6_direction_47 : decode cX6_direction 47 = .ok (.iconst 0, 1) := by decide +kernel
theorem dX6_direction_48 : decode cX6_direction 48 = .ok (.ireturn, 1) := by decide +kernel
theorem dX6_note_0 : decode cX6_note 0 = .ok (.iconst 0, 1) := by decide +kernel
theorem dX6_note_1 : decode cX6_note 1 = .ok (.istore_n 2, 1) := by decide +kernel
theorem dX6_note_2 : decode cX6_note 2 = .ok (.iconst 0, 1) := by decide +kernel
theorem dX6_note_3 : decode cX6_note 3 = .ok (.istore_n 3, 1) := by decide +kernel
theorem dX6_note_4 : decode cX6_note 4 = .ok (.iload_n 3, 1) := by decide +kernel
theorem dX6_note_5 : decode cX6_note 5 = .ok (.aload_n 0, 1) := by decide +kernel
theorem dX6_note_6 : decode cX6_note 6 = .ok (.getfield 7, 3) := by decide +kernel
theorem dX6_note_9 : decode cX6_note 9 = .ok (.bipush 40, 2) := by decide +kernel
theorem dX6_note_11 : decode cX6_note 11 = .ok (.iaload, 1) := by decide +kernel
theorem dX6_note_12 : decode cX6_note 12 = .ok (.if_icmp .ge 32, 3) := by decide +kernel
theorem dX6_note_15 : decode cX6_note 15 = .ok (.iload_n 2, 1) := by decide +kernel
theorem dX6_note_16 : decode cX6_note 16 = .ok (.ifCond .ne 16, 3) := by decide +kernel
theorem dX6_note_19 : decode cX6_note 19 = .ok (.aload_n 0, 1) := by decide +kernel
theorem dX6_note_20 : decode cX6_note 20 = .ok (.getfield 7, 3) := by decide +kernel
theorem dX6_note_23 : decode cX6_note 23 = .ok (.bipush 41, 2) := by decide +kernel
theorem dX6_note_25 : decode cX6_note 25 = .ok (.iload_n 3, 1) := by decide +kernel
theorem dX6_note_26 : decode cX6_note 26 = .ok (.iadd, 1) := by decide +kernel
theorem dX6_note_27 : decode cX6_note 27 = .ok (.iaload, 1) := by decide +kernel
theorem dX6_note_28 : decode cX6_note 28 = .ok (.iload_n 1, 1) := by decide +kernel
theorem dX6_note_29 : decode cX6_note 29 = .ok (.if_icmp .ne 7, 3) := by decide +kernel
theorem dX6_note_32 : decode cX6_note 32 = .ok (.iconst 1, 1) := by decide +kernel
theorem dX6_note_33 : decode cX6_note 33 = .ok (.goto 4, 3) := by decide +kernel
theorem dX6_note_36 : decode cX6_note 36 = .ok (.iconst 0, 1) := by decide +kernel
theorem dX6_note_37 : decode cX6_note 37 = .ok (.istore_n 2, 1) := by decide +kernel
theorem dX6_note_38 : decode cX6_note 38 = .ok (.iinc 3 1, 3) := by decide +kernel
theorem dX6_note_41 : decode cX6_note 41 = .ok (.goto (-37), 3) := by decide +kernel
theorem dX6_note_44 : decode cX6_note 44 = .ok (.iload_n 2, 1) := by decide +kernel
theorem dX6_note_45 : decode cX6_note 45 = .ok (.ifCond .ne 59, 3) := by decide +kernel
theorem dX6_note_48 : decode cX6_note 48 = .ok (.aload_n 0, 1) := by decide +kernel
theorem dX6_note_49 : decode cX6_note 49 = .ok (.getfield 7, 3) := by decide +kernel
theorem dX6_note_52 : decode cX6_note 52 = .ok (.bipush 40, 2) := by decide +kernel
theorem dX6_note_54 : decode cX6_note 54 = .ok (.iaload, 1) := by decide +kernel
theorem dX6_note_55 : decode cX6_note 55 = .ok (.bipush 6, 2) := by decide +kernel
theorem dX6_note_57 : decode cX6_note 57 = .ok (.if_icmp .ne 47, 3) := by decide +kernel
theorem dX6_note_60 : decode cX6_note 60 = .ok (.iconst 0, 1) := by decide +kernel
theorem dX6_note_61 : decode cX6_note 61 = .ok (.istore_n 3, 1) := by decide +kernel
theorem dX6_note_62 : decode cX6_note 62 = .ok (.iload_n 3, 1) := by decide +kernel
theorem dX6_note_63 : decode cX6_note 63 = .ok (.iconst 5, 1) := by decide +kernel
theorem dX6_note_64 : decode cX6_note 64 = .ok (.if_icmp .ge 29, 3) := by decide +kernel
theorem dX6_note_67 : decode cX6_note 67 = .ok (.aload_n 0, 1) := by decide +kernel
theorem dX6_note_68 : decode cX6_note 68 = .ok (.getfield 7, 3) := by decide +kernel
theorem dX6_note_71 : decode cX6_note 71 = .ok (.bipush 41, 2) := by decide +kernel
theorem dX6_note_73 : decode cX6_note 73 = .ok (.iload_n 3, 1) := by decide +kernel
theorem dX6_note_74 : decode cX6_note 74 = .ok (.iadd, 1) := by decide +kernel
theorem dX6_note_75 : decode cX6_note 75 = .ok (.aload_n 0, 1) := by decide +kernel
theorem dX6_note_76 : decode cX6_note 76 = .ok (.getfield 7, 3) := by decide +kernel
theorem dX6_note_79 : decode cX6_note 79 = .ok (.bipush 41, 2) := by decide +kernel
theorem dX6_note_81 : decode cX6_note 81 = .ok (.iload_n 3, 1) := by decide +kernel
theorem dX6_note_82 : decode cX6_note 82 = .ok (.iadd, 1) := by decide +kernel
theorem dX6_note_83 : decode cX6_note 83 = .ok (.iconst 1, 1) := by decide +kernel
theorem dX6_note_84 : decode cX6_note 84 = .ok (.iadd, 1) := by decide +kernel
theorem dX6_note_85 : decode cX6_note 85 = .ok (.iaload, 1) := by decide +kernel
theorem dX6_note_86 : decode cX6_note 86 = .ok (.iastore, 1) := by decide +kernel
theorem dX6_note_87 : decode cX6_note 87 = .ok (.iinc 3 1, 3) := by decide +kernel
theorem dX6_note_90 : decode cX6_note 90 = .ok (.goto (-28), 3) := by decide +kernel
theorem dX6_note_93 : decode cX6_note 93 = .ok (.aload_n 0, 1) := by decide +kernel
theorem dX6_note_94 : decode cX6_note 94 = .ok (.getfield 7, 3) := by decide +kernel
theorem dX6_note_97 : decode cX6_note 97 = .ok (.bipush 40, 2) := by decide +kernel
theorem dX6_note_99 : decode cX6_note 99 = .ok (.dup2, 1) := by decide +kernel
theorem dX6_note_100 : decode cX6_note 100 = .ok (.iaload, 1) := by decide +kernel
theorem dX6_note_101 : decode cX6_note 101 = .ok (.iconst 1, 1) := by decide +kernel
theorem dX6_note_102 : decode cX6_note 102 = .ok (.isub, 1) := by decide +kernel
theorem dX6_note_103 : decode cX6_note 103 = .ok (.iastore, 1) := by decide +kernel
theorem dX6_note_104 : decode cX6_note 104 = .ok (.iload_n 2, 1) := by decide +kernel
theorem dX6_note_105 : decode cX6_note 105 = .ok (.ifCond .ne 30, 3) := by decide +kernel
theorem dX6_note_108 : decode cX6_note 108 = .ok (.aload_n 0, 1) := by decide +kernel
theorem dX6_note_109 : decode cX6_note 109 = .ok (.getfield 7, 3) := by decide +kernel
theorem dX6_note_112 : decode cX6_note 112 = .ok (.bipush 41, 2) := by decide +kernel
theorem dX6_note_114 : decode cX6_note 114 = .ok (.aload_n 0, 1) := by decide +kernel
theorem dX6_note_115 : decode cX6_note 115 = .ok (.getfield 7, 3) := by decide +kernel
theorem dX6_note_118 : decode cX6_note 118 = .ok (.bipush 40, 2) := by decide +kernel
theorem dX6_note_120 : decode cX6_note 120 = .ok (.iaload, 1) := by decide +kernel
theorem dX6_note_121 : decode cX6_note 121 = .ok (.iadd, 1) := by decide +kernel
theorem dX6_note_122 : decode cX6_note 122 = .ok (.iload_n 1, 1) := by decide +kernel
theorem dX6_note_123 : decode cX6_note 123 = .ok (.iastore, 1) := by decide +kernel
theorem dX6_note_124 : decode cX6_note 124 = .ok (.aload_n 0, 1) := by decide +kernel
theorem dX6_note_125 : decode cX6_note 125 = .ok (.getfield 7, 3) := by decide +kernel
theorem dX6_note_128 : decode cX6_note 128 = .ok (.bipush 40, 2) := by decide +kernel
theorem dX6_note_130 : decode cX6_note 130 = .ok (.dup2, 1) := by decide +kernel
theorem dX6_note_131 : decode cX6_note 131 = .ok (.iaload, 1) := by decide +kernel
theorem dX6_note_132 : decode cX6_note 132 = .ok (.iconst 1, 1) := by decide +kernel
theorem dX6_note_133 : decode cX6_note 133 = .ok (.iadd, 1) := by decide +kernel
theorem dX6_note_134 : decode cX6_note 134 = .ok (.iastore, 1) := by decide +kernel
theorem dX6_note_135 : decode cX6_note 135 = .ok (.return_, 1) := by decide +kernel
theorem dX6_pass_0 : decode cX6_pass 0 = .ok (.aload_n 0, 1) := by decide +kernel
theorem dX6_pass_1 : decode cX6_pass 1 = .ok (.getfield 7, 3) := by decide +kernel
theorem dX6_pass_4 : decode cX6_pass 4 = .ok (.bipush 36, 2) := by decide +kernel
theorem dX6_pass_6 : decode cX6_pass 6 = .ok (.iaload, 1) := by decide +kernel
theorem dX6_pass_7 : decode cX6_pass 7 = .ok (.iconst 1, 1) := by decide +kernel
theorem dX6_pass_8 : decode cX6_pass 8 = .ok (.if_icmp .ne 10, 3) := by decide +kernel
theorem dX6_pass_11 : decode cX6_pass 11 = .ok (.aload_n 0, 1) := by decide +kernel
theorem dX6_pass_12 : decode cX6_pass 12 = .ok (.bipush (-8), 2) := by decide +kernel
theorem dX6_pass_14 : decode cX6_pass 14 = .ok (.invokevirtual 92, 3) := by decide +kernel
theorem dX6_pass_17 : decode cX6_pass 17 = .ok (.ireturn, 1) := by decide +kernel
theorem dX6_pass_18 : decode cX6_pass 18 = .ok (.aload_n 0, 1) := by decide +kernel
theorem dX6_pass_19 : decode cX6_pass 19 = .ok (.getfield 7, 3) := by decide +kernel
theorem dX6_pass_22 : decode cX6_pass 22 = .ok (.iconst 0, 1) := by decide +kernel
theorem dX6_pass_23 : decode cX6_pass 23 = .ok (.iaload, 1) := by decide +kernel
theorem dX6_pass_24 : decode cX6_pass 24 = .ok (.ifCond .ne 10, 3) := by decide +kernel
theorem dX6_pass_27 : decode cX6_pass 27 = .ok (.aload_n 0, 1) := by decide +kernel
theorem dX6_pass_28 : decode cX6_pass 28 = .ok (.bipush (-5), 2) := by decide +kernel
theorem dX6_pass_30 : decode cX6_pass 30 = .ok (.invokevirtual 92, 3) := by decide +kernel
theorem dX6_pass_33 : decode cX6_pass 33 = .ok (.ireturn, 1) := by decide +kernel
theorem dX6_pass_34 : decode cX6_pass 34 = .ok (.aload_n 0, 1) := by decide +kernel
theorem dX6_pass_35 : decode cX6_pass 35 = .ok (.getfield 7, 3) := by decide +kernel
theorem dX6_pass_38 : decode cX6_pass 38 = .ok (.bipush 37, 2) := by decide +kernel
theorem dX6_pass_40 : decode cX6_pass 40 = .ok (.iaload, 1) := by decide +kernel
theorem dX6_pass_41 : decode cX6_pass 41 = .ok (.ifCond .ne 16, 3) := by decide +kernel
theorem dX6_pass_44 : decode cX6_pass 44 = .ok (.iconst 1, 1) := by decide +kernel
theorem dX6_pass_45 : decode cX6_pass 45 = .ok (.aload_n 0, 1) := by decide +kernel
theorem dX6_pass_46 : decode cX6_pass 46 = .ok (.getfield 7, 3) := by decide +kernel
theorem dX6_pass_49 : decode cX6_pass 49 = .ok (.iconst 0, 1) := by decide +kernel
theorem dX6_pass_50 : decode cX6_pass 50 = .ok (.iaload, 1) := by decide +kernel
theorem dX6_pass_51 : decode cX6_pass 51 = .ok (.ishl, 1) := by decide +kernel
theorem dX6_pass_52 : decode cX6_pass 52 = .ok (.iconst 1, 1) := by decide +kernel
theorem dX6_pass_53 : decode cX6_pass 53 = .ok (.isub, 1) := by decide +kernel
theorem dX6_pass_54 : decode cX6_pass 54 = .ok (.goto 7, 3) := by decide +kernel
theorem dX6_pass_57 : decode cX6_pass 57 = .ok (.aload_n 0, 1) := by decide +kernel
theorem dX6_pass_58 : decode cX6_pass 58 = .ok (.invokevirtual 85, 3) := by decide +kernel
theorem dX6_pass_61 : decode cX6_pass 61 = .ok (.istore_n 1, 1) := by decide +kernel
theorem dX6_pass_62 : decode cX6_pass 62 = .ok (.iconst (-1), 1) := by decide +kernel
theorem dX6_pass_63 : decode cX6_pass 63 = .ok (.istore_n 2, 1) := by decide +kernel
theorem dX6_pass_64 : decode cX6_pass 64 = .ok (.iconst 0, 1) := by decide +kernel
theorem dX6_pass_65 : decode cX6_pass 65 = .ok (.istore_n 3, 1) := by decide +kernel
theorem dX6_pass_66 : decode cX6_pass 66 = .ok (.iload_n 3, 1) := by decide +kernel
theorem dX6_pass_67 : decode cX6_pass 67 = .ok (.bipush 16, 2) := by decide +kernel
theorem dX6_pass_69 : decode cX6_pass 69 = .ok (.if_icmp .ge 209, 3) := by decide +kernel
theorem dX6_pass_72 : decode cX6_pass 72 = .ok (.aload_n 0, 1) := by decide +kernel
theorem dX6_pass_73 : decode cX6_pass 73 = .ok (.iconst 2, 1) := by decide +kernel
theorem dX6_pass_74 : decode cX6_pass 74 = .ok (.iload_n 3, 1) := by decide +kernel
theorem dX6_pass_75 : decode cX6_pass 75 = .ok (.imul, 1) := by decide +kernel
theorem dX6_pass_76 : decode cX6_pass 76 = .ok (.aload_n 0, 1) := by decide +kernel
theorem dX6_pass_77 : decode cX6_pass 77 = .ok (.iload_n 1, 1) := by decide +kernel
theorem dX6_pass_78 : decode cX6_pass 78 = .ok (.iload_n 3, 1) := by decide +kernel
theorem dX6_pass_79 : decode cX6_pass 79 = .ok (.iconst 1, 1) := by decide +kernel
theorem dX6_pass_80 : decode cX6_pass 80 = .ok (.invokevirtual 95, 3) := by decide +kernel
theorem dX6_pass_83 : decode cX6_pass 83 = .ok (.invokevirtual 98, 3) := by decide +kernel
theorem dX6_pass_86 : decode cX6_pass 86 = .ok (.istore 4, 2) := by decide +kernel
theorem dX6_pass_88 : decode cX6_pass 88 = .ok (.aload_n 0, 1) := by decide +kernel
theorem dX6_pass_89 : decode cX6_pass 89 = .ok (.iconst 2, 1) := by decide +kernel
theorem dX6_pass_90 : decode cX6_pass 90 = .ok (.iload_n 3, 1) := by decide +kernel
theorem dX6_pass_91 : decode cX6_pass 91 = .ok (.imul, 1) := by decide +kernel
theorem dX6_pass_92 : decode cX6_pass 92 = .ok (.iconst 1, 1) := by decide +kernel
theorem dX6_pass_93 : decode cX6_pass 93 = .ok (.iadd, 1) := by decide +kernel
theorem dX6_pass_94 : decode cX6_pass 94 = .ok (.aload_n 0, 1) := by decide +kernel
theorem dX6_pass_95 : decode cX6_pass 95 = .ok (.iload_n 1, 1) := by decide +kernel
theorem dX6_pass_96 : decode cX6_pass 96 = .ok (.iload_n 3, 1) := by decide +kernel
theorem dX6_pass_97 : decode cX6_pass 97 = .ok (.iconst 0, 1) := by decide +kernel
theorem dX6_pass_98 : decode cX6_pass 98 = .ok (.invokevirtual 95, 3) := by decide +kernel
theorem dX6_pass_101 : decode cX6_pass 101 = .ok (.invokevirtual 98, 3) := by decide +kernel
theorem dX6_pass_104 : decode cX6_pass 104 = .ok (.istore 5, 2) := by decide +kernel
theorem dX6_pass_106 : decode cX6_pass 106 = .ok (.aload_n 0, 1) := by decide +kernel
theorem dX6_pass_107 : decode cX6_pass 107 = .ok (.getfield 7, 3) := by decide +kernel
theorem dX6_pass_110 : decode cX6_pass 110 = .ok (.bipush 39, 2) := by decide +kernel
theorem dX6_pass_112 : decode cX6_pass 112 = .ok (.dup2, 1) := by decide +kernel
theorem dX6_pass_113 : decode cX6_pass 113 = .ok (.iaload, 1) := by decide +kernel
theorem dX6_pass_114 : decode cX6_pass 114 = .ok (.iconst 2, 1) := by decide +kernel
theorem dX6_pass_115 : decode cX6_pass 115 = .ok (.iadd, 1) := by decide +kernel
theorem dX6_pass_116 : decode cX6_pass 116 = .ok (.iastore, 1) := by decide +kernel
theorem dX6_pass_117 : decode cX6_pass 117 = .ok (.iload 4, 2) := by decide +kernel
theorem dX6_pass_119 : decode cX6_pass 119 = .ok (.iconst 1, 1) := by decide +kernel
theorem dX6_pass_120 : decode cX6_pass 120 = .ok (.if_icmp .ne 16, 3) := by decide +kernel
theorem dX6_pass_123 : decode cX6_pass 123 = .ok (.iload 5, 2) := by decide +kernel
theorem dX6_pass_125 : decode cX6_pass 125 = .ok (.iconst 1, 1) := by decide +kernel
theorem dX6_pass_126 : decode cX6_pass 126 = .ok (.if_icmp .ne 10, 3) := by decide +kernel
theorem dX6_pass_129 : decode cX6_pass 129 = .ok (.aload_n 0, 1) := by decide +kernel
theorem dX6_pass_130 : decode cX6_pass 130 = .ok (.bipush (-6), 2) := by decide +kernel
theorem dX6_pass_132 : decode cX6_pass 132 = .ok (.invokevirtual 92, 3) := by decide +kernel
theorem dX6_pass_135 : decode cX6_pass 135 = .ok (.ireturn, 1) := by decide +kernel
theorem dX6_pass_136 : decode cX6_pass 136 = .ok (.aload_n 0, 1) := by decide +kernel
theorem dX6_pass_137 : decode cX6_pass 137 = .ok (.iload_n 3, 1) := by decide +kernel
theorem dX6_pass_138 : decode cX6_pass 138 = .ok (.iload 4, 2) := by decide +kernel
theorem dX6_pass_140 : decode cX6_pass 140 = .ok (.iload 5, 2) := by decide +kernel
theorem dX6_pass_142 : decode cX6_pass 142 = .ok (.invokevirtual 101, 3) := by decide +kernel
theorem dX6_pass_145 : decode cX6_pass 145 = .ok (.istore 6, 2) := by decide +kernel
theorem dX6_pass_147 : decode cX6_pass 147 = .ok (.aload_n 0, 1) := by decide +kernel
theorem dX6_pass_148 : decode cX6_pass 148 = .ok (.getfield 7, 3) := by decide +kernel
theorem dX6_pass_151 : decode cX6_pass 151 = .ok (.bipush 39, 2) := by decide +kernel
theorem dX6_pass_153 : decode cX6_pass 153 = .ok (.dup2, 1) := by decide +kernel
theorem dX6_pass_154 : decode cX6_pass 154 = .ok (.iaload, 1) := by decide +kernel
theorem dX6_pass_155 : decode cX6_pass 155 = .ok (.iconst 1, 1) := by decide +kernel
theorem dX6_pass_156 : decode cX6_pass 156 = .ok (.iadd, 1) := by decide +kernel
theorem dX6_pass_157 : decode cX6_pass 157 = .ok (.iastore, 1) := by decide +kernel
theorem dX6_pass_158 : decode cX6_pass 158 = .ok (.iload 4, 2) := by decide +kernel
theorem dX6_pass_160 : decode cX6_pass 160 = .ok (.ifCond .ne 38, 3) := by decide +kernel
theorem dX6_pass_163 : decode cX6_pass 163 = .ok (.iload 5, 2) := by decide +kernel
theorem dX6_pass_165 : decode cX6_pass 165 = .ok (.ifCond .ne 33, 3) := by decide +kernel
theorem dX6_pass_168 : decode cX6_pass 168 = .ok (.iload 6, 2) := by decide +kernel
theorem dX6_pass_170 : decode cX6_pass 170 = .ok (.ifCond .ne 28, 3) := by decide +kernel
theorem dX6_pass_173 : decode cX6_pass 173 = .ok (.iload_n 3, 1) := by decide +kernel
theorem dX6_pass_174 : decode cX6_pass 174 = .ok (.istore_n 2, 1) := by decide +kernel
theorem dX6_pass_175 : decode cX6_pass 175 = .ok (.aload_n 0, 1) := by decide +kernel
theorem dX6_pass_176 : decode cX6_pass 176 = .ok (.getfield 7, 3) := by decide +kernel
theorem dX6_pass_179 : decode cX6_pass 179 = .ok (.bipush 35, 2) := by decide +kernel
theorem dX6_pass_181 : decode cX6_pass 181 = .ok (.iload_n 3, 1) := by decide +kernel
theorem dX6_pass_182 : decode cX6_pass 182 = .ok (.iconst 3, 1) := by decide +kernel
theorem dX6_pass_183 : decode cX6_pass 183 = .ok (.if_icmp .gt 7, 3) := by decide +kernel
theorem dX6_pass_186 : decode cX6_pass 186 = .ok (.iload_n 3, 1) := by decide +kernel
theorem dX6_pass_187 : decode cX6_pass 187 = .ok (.goto 10, 3) := by decide +kernel
theorem dX6_pass_190 : decode cX6_pass 190 = .ok (.aload_n 0, 1) := by decide +kernel
theorem dX6_pass_191 : decode cX6_pass 191 = .ok (.getfield 7, 3) := by decide +kernel
theorem dX6_pass_194 : decode cX6_pass 194 = .ok (.bipush 35, 2) := by decide +kernel
theorem dX6_pass_196 : decode cX6_pass 196 = .ok (.iaload, 1) := by decide +kernel
theorem dX6_pass_197 : decode cX6_pass 197 = .ok (.iastore, 1) := by decide +kernel
theorem dX6_pass_198 : decode cX6_pass 198 = .ok (.aload_n 0, 1) := by decide +kernel
theorem dX6_pass_199 : decode cX6_pass 199 = .ok (.getfield 7, 3) := by decide +kernel
theorem dX6_pass_202 : decode cX6_pass 202 = .ok (.bipush 33, 2) := by decide +kernel
theorem dX6_pass_204 : decode cX6_pass 204 = .ok (.aload_n 0, 1) := by decide +kernel
theorem dX6_pass_205 : decode cX6_pass 205 = .ok (.getfield 7, 3) := by decide +kernel
theorem dX6_pass_208 : decode cX6_pass 208 = .ok (.bipush 33, 2) := by decide +kernel
theorem dX6_pass_210 : decode cX6_pass 210 = .ok (.iaload, 1) := by decide +kernel
theorem dX6_pass_211 : decode cX6_pass 211 = .ok (.iconst 1, 1) := by decide +kernel
theorem dX6_pass_212 : decode cX6_pass 212 = .ok (.iload_n 3, 1) := by decide +kernel
theorem dX6_pass_213 : decode cX6_pass 213 = .ok (.ishl, 1) := by decide +kernel
theorem dX6_pass_214 : decode cX6_pass 214 = .ok (.iconst (-1), 1) := by decide +kernel
theorem dX6_pass_215 : decode cX6_pass 215 = .ok (.ixor, 1) := by decide +kernel
theorem dX6_pass_216 : decode cX6_pass 216 = .ok (.iand, 1) := by decide +kernel
theorem dX6_pass_217 : decode cX6_pass 217 = .ok (.iload 6, 2) := by decide +kernel
theorem dX6_pass_219 : decode cX6_pass 219 = .ok (.iload_n 3, 1) := by decide +kernel
theorem dX6_pass_220 : decode cX6_pass 220 = .ok (.ishl, 1) := by decide +kernel
theorem dX6_pass_221 : decode cX6_pass 221 = .ok (.ior, 1) := by decide +kernel
theorem dX6_pass_222 : decode cX6_pass 222 = .ok (.iastore, 1) := by decide +kernel
theorem dX6_pass_223 : decode cX6_pass 223 = .ok (.iconst 0, 1) := by decide +kernel
theorem dX6_pass_224 : decode cX6_pass 224 = .ok (.istore 7, 2) := by decide +kernel
theorem dX6_pass_226 : decode cX6_pass 226 = .ok (.iload 7, 2) := by decide +kernel
theorem dX6_pass_228 : decode cX6_pass 228 = .ok (.aload_n 0, 1) := by decide +kernel
theorem dX6_pass_229 : decode cX6_pass 229 = .ok (.getfield 7, 3) := by decide +kernel
theorem dX6_pass_232 : decode cX6_pass 232 = .ok (.iconst 0, 1) := by decide +kernel
theorem dX6_pass_233 : decode cX6_pass 233 = .ok (.iaload, 1) := by decide +kernel
theorem dX6_pass_234 : decode cX6_pass 234 = .ok (.if_icmp .ge 38, 3) := by decide +kernel
theorem dX6_pass_237 : decode cX6_pass 237 = .ok (.iload_n 1, 1) := by decide +kernel
theorem dX6_pass_238 : decode cX6_pass 238 = .ok (.aload_n 0, 1) := by decide +kernel
theorem dX6_pass_239 : decode cX6_pass 239 = .ok (.iload 7, 2) := by decide +kernel
theorem dX6_pass_241 : decode cX6_pass 241 = .ok (.iconst 0, 1) := by decide +kernel
theorem dX6_pass_242 : decode cX6_pass 242 = .ok (.invokevirtual 53, 3) := by decide +kernel
theorem dX6_pass_245 : decode cX6_pass 245 = .ok (.iload_n 3, 1) := by decide +kernel
theorem dX6_pass_246 : decode cX6_pass 246 = .ok (.ishr, 1) := by decide +kernel
theorem dX6_pass_247 : decode cX6_pass 247 = .ok (.iconst 1, 1) := by decide +kernel
theorem dX6_pass_248 : decode cX6_pass 248 = .ok (.iand, 1) := by decide +kernel
theorem dX6_pass_249 : decode cX6_pass 249 = .ok (.iload 6, 2) := by decide +kernel
theorem dX6_pass_251 : decode cX6_pass 251 = .ok (.if_icmp .ne 7, 3) := by decide +kernel
theorem dX6_pass_254 : decode cX6_pass 254 = .ok (.iconst (-1), 1) := by decide +kernel
theorem dX6_pass_255 : decode cX6_pass 255 = .ok (.goto 9, 3) := by decide +kernel
theorem dX6_pass_258 : decode cX6_pass 258 = .ok (.iconst 1, 1) := by decide +kernel
theorem dX6_pass_259 : decode cX6_pass 259 = .ok (.iload 7, 2) := by decide +kernel
theorem dX6_pass_261 : decode cX6_pass 261 = .ok (.ishl, 1) := by decide +kernel
theorem dX6_pass_262 : decode cX6_pass 262 = .ok (.iconst (-1), 1) := by decide +kernel
theorem dX6_pass_263 : decode cX6_pass 263 = .ok (.ixor, 1) := by decide +kernel
theorem dX6_pass_264 : decode cX6_pass 264 = .ok (.iand, 1) := by decide +kernel
theorem dX6_pass_265 : decode cX6_pass 265 = .ok (.istore_n 1, 1) := by decide +kernel
theorem dX6_pass_266 : decode cX6_pass 266 = .ok (.iinc 7 1, 3) := by decide +kernel
theorem dX6_pass_269 : decode cX6_pass 269 = .ok (.goto (-43), 3) := by decide +kernel
theorem dX6_pass_272 : decode cX6_pass 272 = .ok (.iinc 3 1, 3) := by decide +kernel
theorem dX6_pass_275 : decode cX6_pass 275 = .ok (.goto (-209), 3) := by decide +kernel
theorem dX6_pass_278 : decode cX6_pass 278 = .ok (.aload_n 0, 1) := by decide +kernel
theorem dX6_pass_279 : decode cX6_pass 279 = .ok (.getfield 7, 3) := by decide +kernel
theorem dX6_pass_282 : decode cX6_pass 282 = .ok (.bipush 34, 2) := by decide +kernel
theorem dX6_pass_284 : decode cX6_pass 284 = .ok (.iload_n 2, 1) := by decide +kernel
theorem dX6_pass_285 : decode cX6_pass 285 = .ok (.iastore, 1) := by decide +kernel
theorem dX6_pass_286 : decode cX6_pass 286 = .ok (.aload_n 0, 1) := by decide +kernel
theorem dX6_pass_287 : decode cX6_pass 287 = .ok (.getfield 7, 3) := by decide +kernel
theorem dX6_pass_290 : decode cX6_pass 290 = .ok (.bipush 36, 2) := by decide +kernel
theorem dX6_pass_292 : decode cX6_pass 292 = .ok (.iload_n 2, 1) := by decide +kernel
theorem dX6_pass_293 : decode cX6_pass 293 = .ok (.iconst (-1), 1) := by decide +kernel
theorem dX6_pass_294 : decode cX6_pass 294 = .ok (.if_icmp .ne 7, 3) := by decide +kernel
theorem dX6_pass_297 : decode cX6_pass 297 = .ok (.iconst 1, 1) := by decide +kernel
theorem dX6_pass_298 : decode cX6_pass 298 = .ok (.goto 4, 3) := by decide +kernel
theorem dX6_pass_301 : decode cX6_pass 301 = .ok (.iconst 0, 1) := by decide +kernel
theorem dX6_pass_302 : decode cX6_pass 302 = .ok (.iastore, 1) := by decide +kernel
theorem dX6_pass_303 : decode cX6_pass 303 = .ok (.aload_n 0, 1) := by decide +kernel
theorem dX6_pass_304 : decode cX6_pass 304 = .ok (.getfield 7, 3) := by decide +kernel
theorem dX6_pass_307 : decode cX6_pass 307 = .ok (.bipush 33, 2) := by decide +kernel
theorem dX6_pass_309 : decode cX6_pass 309 = .ok (.iaload, 1) := by decide +kernel
theorem dX6_pass_310 : decode cX6_pass 310 = .ok (.bipush 12, 2) := by decide +kernel
theorem dX6_pass_312 : decode cX6_pass 312 = .ok (.ishr, 1) := by decide +kernel
theorem dX6_pass_313 : decode cX6_pass 313 = .ok (.aload_n 0, 1) := by decide +kernel
theorem dX6_pass_314 : decode cX6_pass 314 = .ok (.getfield 7, 3) := by decide +kernel
theorem dX6_pass_317 : decode cX6_pass 317 = .ok (.bipush 33, 2) := by decide +kernel
theorem dX6_pass_319 : decode cX6_pass 319 = .ok (.iaload, 1) := by decide +kernel
theorem dX6_pass_320 : decode cX6_pass 320 = .ok (.sipush 4095, 3) := by decide +kernel
theorem dX6_pass_323 : decode cX6_pass 323 = .ok (.iand, 1) := by decide +kernel
theorem dX6_pass_324 : decode cX6_pass 324 = .ok (.invokestatic 50, 3) := by decide +kernel
theorem dX6_pass_327 : decode cX6_pass 327 = .ok (.if_icmp .eq 10, 3) := by decide +kernel
theorem dX6_pass_330 : decode cX6_pass 330 = .ok (.aload_n 0, 1) := by decide +kernel
theorem dX6_pass_331 : decode cX6_pass 331 = .ok (.bipush (-7), 2) := by decide +kernel
theorem dX6_pass_333 : decode cX6_pass 333 = .ok (.invokevirtual 92, 3) := by decide +kernel
theorem dX6_pass_336 : decode cX6_pass 336 = .ok (.ireturn, 1) := by decide +kernel
theorem dX6_pass_337 : decode cX6_pass 337 = .ok (.aload_n 0, 1) := by decide +kernel
theorem dX6_pass_338 : decode cX6_pass 338 = .ok (.aload_n 0, 1) := by decide +kernel
theorem dX6_pass_339 : decode cX6_pass 339 = .ok (.getfield 7, 3) := by decide +kernel
theorem dX6_pass_342 : decode cX6_pass 342 = .ok (.bipush 33, 2) := by decide +kernel
theorem dX6_pass_344 : decode cX6_pass 344 = .ok (.iaload, 1) := by decide +kernel
theorem dX6_pass_345 : decode cX6_pass 345 = .ok (.invokevirtual 104, 3) := by decide +kernel
theorem dX6_pass_348 : decode cX6_pass 348 = .ok (.aload_n 0, 1) := by decide +kernel
theorem dX6_pass_349 : decode cX6_pass 349 = .ok (.getfield 7, 3) := by decide +kernel
theorem dX6_pass_352 : decode cX6_pass 352 = .ok (.bipush 33, 2) := by decide +kernel
theorem dX6_pass_354 : decode cX6_pass 354 = .ok (.iaload, 1) := by decide +kernel
theorem dX6_pass_355 : decode cX6_pass 355 = .ok (.ireturn, 1) := by decide +kernel
theorem dX6_doMode_0 : decode cX6_doMode 0 = .ok (.iload_n 1, 1) := by decide +kernel
theorem dX6_doMode_1 : decode cX6_doMode 1 = .ok (.iconst 0, 1) := by decide +kernel
theorem dX6_doMode_2 : decode cX6_doMode 2 = .ok (.iconst 1, 1) := by decide +kernel
theorem dX6_doMode_3 : decode cX6_doMode 3 = .ok (.invokestatic 35, 3) := by decide +kernel
theorem dX6_doMode_6 : decode cX6_doMode 6 = .ok (.ifCond .ne 6, 3) := by decide +kernel
theorem dX6_doMode_9 : decode cX6_doMode 9 = .ok (.bipush (-2), 2) := by decide +kernel
theorem dX6_doMode_11 : decode cX6_doMode 11 = .ok (.ireturn, 1) := by decide +kernel
theorem dX6_doMode_12 : decode cX6_doMode 12 = .ok (.aload_n 0, 1) := by decide +kernel
theorem dX6_doMode_13 : decode cX6_doMode 13 = .ok (.getfield 7, 3) := by decide +kernel
theorem dX6_doMode_16 : decode cX6_doMode 16 = .ok (.bipush 37, 2) := by decide +kernel
theorem dX6_doMode_18 : decode cX6_doMode 18 = .ok (.iaload, 1) := by decide +kernel
theorem dX6_doMode_19 : decode cX6_doMode 19 = .ok (.istore_n 2, 1) := by decide +kernel
theorem dX6_doMode_20 : decode cX6_doMode 20 = .ok (.aload_n 0, 1) := by decide +kernel
theorem dX6_doMode_21 : decode cX6_doMode 21 = .ok (.invokevirtual 89, 3) := by decide +kernel
theorem dX6_doMode_24 : decode cX6_doMode 24 = .ok (.aload_n 0, 1) := by decide +kernel
theorem dX6_doMode_25 : decode cX6_doMode 25 = .ok (.getfield 7, 3) := by decide +kernel
theorem dX6_doMode_28 : decode cX6_doMode 28 = .ok (.bipush 37, 2) := by decide +kernel
theorem dX6_doMode_30 : decode cX6_doMode 30 = .ok (.iload_n 1, 1) := by decide +kernel
theorem dX6_doMode_31 : decode cX6_doMode 31 = .ok (.iastore, 1) := by decide +kernel
theorem dX6_doMode_32 : decode cX6_doMode 32 = .ok (.iload_n 2, 1) := by decide +kernel
theorem dX6_doMode_33 : decode cX6_doMode 33 = .ok (.ireturn, 1) := by decide +kernel
theorem dX6_doReset_0 : decode cX6_doReset 0 = .ok (.aload_n 0, 1) := by decide +kernel
theorem dX6_doReset_1 : decode cX6_doReset 1 = .ok (.getfield 7, 3) := by decide +kernel
theorem dX6_doReset_4 : decode cX6_doReset 4 = .ok (.bipush 33, 2) := by decide +kernel
theorem dX6_doReset_6 : decode cX6_doReset 6 = .ok (.iaload, 1) := by decide +kernel
theorem dX6_doReset_7 : decode cX6_doReset 7 = .ok (.istore_n 1, 1) := by decide +kernel
theorem dX6_doReset_8 : decode cX6_doReset 8 = .ok (.aload_n 0, 1) := by decide +kernel
theorem dX6_doReset_9 : decode cX6_doReset 9 = .ok (.invokevirtual 89, 3) := by decide +kernel
theorem dX6_doReset_12 : decode cX6_doReset 12 = .ok (.iload_n 1, 1) := by decide +kernel
theorem dX6_doReset_13 : decode cX6_doReset 13 = .ok (.ireturn, 1) := by decide +kernel
theorem dX6_doSkip_0 : decode cX6_doSkip 0 = .ok (.aload_n 0, 1) := by decide +kernel
theorem dX6_doSkip_1 : decode cX6_doSkip 1 = .ok (.getfield 7, 3) := by decide +kernel
theorem dX6_doSkip_4 : decode cX6_doSkip 4 = .ok (.bipush 34, 2) := by decide +kernel
theorem dX6_doSkip_6 : decode cX6_doSkip 6 = .ok (.aload_n 0, 1) := by decide +kernel
theorem dX6_doSkip_7 : decode cX6_doSkip 7 = .ok (.getfield 7, 3) := by decide +kernel
theorem dX6_doSkip_10 : decode cX6_doSkip 10 = .ok (.bipush 35, 2) := by decide +kernel
theorem dX6_doSkip_12 : decode cX6_doSkip 12 = .ok (.iaload, 1) := by decide +kernel
theorem dX6_doSkip_13 : decode cX6_doSkip 13 = .ok (.iastore, 1) := by decide +kernel
theorem dX6_doSkip_14 : decode cX6_doSkip 14 = .ok (.aload_n 0, 1) := by decide +kernel
theorem dX6_doSkip_15 : decode cX6_doSkip 15 = .ok (.getfield 7, 3) := by decide +kernel
theorem dX6_doSkip_18 : decode cX6_doSkip 18 = .ok (.bipush 35, 2) := by decide +kernel
theorem dX6_doSkip_20 : decode cX6_doSkip 20 = .ok (.iconst (-1), 1) := by decide +kernel
theorem dX6_doSkip_21 : decode cX6_doSkip 21 = .ok (.iastore, 1) := by decide +kernel
theorem dX6_doSkip_22 : decode cX6_doSkip 22 = .ok (.aload_n 0, 1) := by decide +kernel
theorem dX6_doSkip_23 : decode cX6_doSkip 23 = .ok (.getfield 7, 3) := by decide +kernel
theorem dX6_doSkip_26 : decode cX6_doSkip 26 = .ok (.bipush 36, 2) := by decide +kernel
theorem dX6_doSkip_28 : decode cX6_doSkip 28 = .ok (.aload_n 0, 1) := by decide +kernel
theorem dX6_doSkip_29 : decode cX6_doSkip 29 = .ok (.getfield 7, 3) := by decide +kernel
theorem dX6_doSkip_32 : decode cX6_doSkip 32 = .ok (.bipush 34, 2) := by decide +kernel
theorem dX6_doSkip_34 : decode cX6_doSkip 34 = .ok (.iaload, 1) := by decide +kernel
theorem dX6_doSkip_35 : decode cX6_doSkip 35 = .ok (.iconst (-1), 1) := by decide +kernel
theorem dX6_doSkip_36 : decode cX6_doSkip 36 = .ok (.if_icmp .ne 7, 3) := by decide +kernel
theorem dX6_doSkip_39 : decode cX6_doSkip 39 = .ok (.iconst 1, 1) := by decide +kernel
theorem dX6_doSkip_40 : decode cX6_doSkip 40 = .ok (.goto 10, 3) := by decide +kernel
theorem dX6_doSkip_43 : decode cX6_doSkip 43 = .ok (.aload_n 0, 1) := by decide +kernel
theorem dX6_doSkip_44 : decode cX6_doSkip 44 = .ok (.getfield 7, 3) := by decide +kernel
theorem dX6_doSkip_47 : decode cX6_doSkip 47 = .ok (.bipush 36, 2) := by decide +kernel
theorem dX6_doSkip_49 : decode cX6_doSkip 49 = .ok (.iaload, 1) := by decide +kernel
theorem dX6_doSkip_50 : decode cX6_doSkip 50 = .ok (.iastore, 1) := by decide +kernel
theorem dX6_doSkip_51 : decode cX6_doSkip 51 = .ok (.aload_n 0, 1) := by decide +kernel
theorem dX6_doSkip_52 : decode cX6_doSkip 52 = .ok (.getfield 7, 3) := by decide +kernel
theorem dX6_doSkip_55 : decode cX6_doSkip 55 = .ok (.bipush 34, 2) := by decide +kernel
theorem dX6_doSkip_57 : decode cX6_doSkip 57 = .ok (.iaload, 1) := by decide +kernel
theorem dX6_doSkip_58 : decode cX6_doSkip 58 = .ok (.ireturn, 1) := by decide +kernel
theorem dX6_doTarget_0 : decode cX6_doTarget 0 = .ok (.iload_n 1, 1) := by decide +kernel
theorem dX6_doTarget_1 : decode cX6_doTarget 1 = .ok (.iconst 0, 1) := by decide +kernel
theorem dX6_doTarget_2 : decode cX6_doTarget 2 = .ok (.bipush 15, 2) := by decide +kernel
theorem dX6_doTarget_4 : decode cX6_doTarget 4 = .ok (.invokestatic 35, 3) := by decide +kernel
theorem dX6_doTarget_7 : decode cX6_doTarget 7 = .ok (.ifCond .ne 6, 3) := by decide +kernel
theorem dX6_doTarget_10 : decode cX6_doTarget 10 = .ok (.bipush (-2), 2) := by decide +kernel
theorem dX6_doTarget_12 : decode cX6_doTarget 12 = .ok (.ireturn, 1) := by decide +kernel
theorem dX6_doTarget_13 : decode cX6_doTarget 13 = .ok (.aload_n 0, 1) := by decide +kernel
theorem dX6_doTarget_14 : decode cX6_doTarget 14 = .ok (.invokevirtual 89, 3) := by decide +kernel
theorem dX6_doTarget_17 : decode cX6_doTarget 17 = .ok (.aload_n 0, 1) := by decide +kernel
theorem dX6_doTarget_18 : decode cX6_doTarget 18 = .ok (.getfield 7, 3) := by decide +kernel
theorem dX6_doTarget_21 : decode cX6_doTarget 21 = .ok (.bipush 33, 2) := by decide +kernel
theorem dX6_doTarget_23 : decode cX6_doTarget 23 = .ok (.iload_n 1, 1) := by decide +kernel
theorem dX6_doTarget_24 : decode cX6_doTarget 24 = .ok (.iastore, 1) := by decide +kernel
theorem dX6_doTarget_25 : decode cX6_doTarget 25 = .ok (.aload_n 0, 1) := by decide +kernel
theorem dX6_doTarget_26 : decode cX6_doTarget 26 = .ok (.getfield 7, 3) := by decide +kernel
theorem dX6_doTarget_29 : decode cX6_doTarget 29 = .ok (.bipush 34, 2) := by decide +kernel
theorem dX6_doTarget_31 : decode cX6_doTarget 31 = .ok (.bipush 16, 2) := by decide +kernel
theorem dX6_doTarget_33 : decode cX6_doTarget 33 = .ok (.iastore, 1) := by decide +kernel
theorem dX6_doTarget_34 : decode cX6_doTarget 34 = .ok (.iload_n 1, 1) := by decide +kernel
theorem dX6_doTarget_35 : decode cX6_doTarget 35 = .ok (.ireturn, 1) := by decide +kernel
theorem dX6_doNoise_0 : decode cX6_doNoise 0 = .ok (.iload_n 1, 1) := by decide +kernel
theorem dX6_doNoise_1 : decode cX6_doNoise 1 = .ok (.iconst (-1), 1) := by decide +kernel
theorem dX6_doNoise_2 : decode cX6_doNoise 2 = .ok (.bipush 31, 2) := by decide +kernel
theorem dX6_doNoise_4 : decode cX6_doNoise 4 = .ok (.invokestatic 35, 3) := by decide +kernel
theorem dX6_doNoise_7 : decode cX6_doNoise 7 = .ok (.ifCond .ne 6, 3) := by decide +kernel
theorem dX6_doNoise_10 : decode cX6_doNoise 10 = .ok (.bipush (-2), 2) := by decide +kernel
theorem dX6_doNoise_12 : decode cX6_doNoise 12 = .ok (.ireturn, 1) := by decide +kernel
theorem dX6_doNoise_13 : decode cX6_doNoise 13 = .ok (.aload_n 0, 1) := by decide +kernel
theorem dX6_doNoise_14 : decode cX6_doNoise 14 = .ok (.getfield 7, 3) := by decide +kernel
theorem dX6_doNoise_17 : decode cX6_doNoise 17 = .ok (.bipush 38, 2) := by decide +kernel
theorem dX6_doNoise_19 : decode cX6_doNoise 19 = .ok (.iaload, 1) := by decide +kernel
theorem dX6_doNoise_20 : decode cX6_doNoise 20 = .ok (.istore_n 2, 1) := by decide +kernel
theorem dX6_doNoise_21 : decode cX6_doNoise 21 = .ok (.aload_n 0, 1) := by decide +kernel
theorem dX6_doNoise_22 : decode cX6_doNoise 22 = .ok (.getfield 7, 3) := by decide +kernel
theorem dX6_doNoise_25 : decode cX6_doNoise 25 = .ok (.bipush 38, 2) := by decide +kernel
theorem dX6_doNoise_27 : decode cX6_doNoise 27 = .ok (.iload_n 1, 1) := by decide +kernel
theorem dX6_doNoise_28 : decode cX6_doNoise 28 = .ok (.iastore, 1) := by decide +kernel
theorem dX6_doNoise_29 : decode cX6_doNoise 29 = .ok (.iload_n 2, 1) := by decide +kernel
theorem dX6_doNoise_30 : decode cX6_doNoise 30 = .ok (.ireturn, 1) := by decide +kernel
theorem dX6_setMode_0 : decode cX6_setMode 0 = .ok (.aload_n 0, 1) := by decide +kernel
theorem dX6_setMode_1 : decode cX6_setMode 1 = .ok (.invokevirtual 66, 3) := by decide +kernel
theorem dX6_setMode_4 : decode cX6_setMode 4 = .ok (.aload_n 0, 1) := by decide +kernel
theorem dX6_setMode_5 : decode cX6_setMode 5 = .ok (.aload_n 0, 1) := by decide +kernel
theorem dX6_setMode_6 : decode cX6_setMode 6 = .ok (.iload_n 1, 1) := by decide +kernel
theorem dX6_setMode_7 : decode cX6_setMode 7 = .ok (.invokevirtual 108, 3) := by decide +kernel
theorem dX6_setMode_10 : decode cX6_setMode 10 = .ok (.invokevirtual 72, 3) := by decide +kernel
theorem dX6_setMode_13 : decode cX6_setMode 13 = .ok (.ireturn, 1) := by decide +kernel
theorem dX6_resetSearch_0 : decode cX6_resetSearch 0 = .ok (.aload_n 0, 1) := by decide +kernel
theorem dX6_resetSearch_1 : decode cX6_resetSearch 1 = .ok (.invokevirtual 66, 3) := by decide +kernel
theorem dX6_resetSearch_4 : decode cX6_resetSearch 4 = .ok (.aload_n 0, 1) := by decide +kernel
theorem dX6_resetSearch_5 : decode cX6_resetSearch 5 = .ok (.aload_n 0, 1) := by decide +kernel
theorem dX6_resetSearch_6 : decode cX6_resetSearch 6 = .ok (.invokevirtual 111, 3) := by decide +kernel
theorem dX6_resetSearch_9 : decode cX6_resetSearch 9 = .ok (.invokevirtual 72, 3) := by decide +kernel
theorem dX6_resetSearch_12 : decode cX6_resetSearch 12 = .ok (.ireturn, 1) := by decide +kernel
theorem dX6_next_0 : decode cX6_next 0 = .ok (.aload_n 0, 1) := by decide +kernel
theorem dX6_next_1 : decode cX6_next 1 = .ok (.invokevirtual 66, 3) := by decide +kernel
theorem dX6_next_4 : decode cX6_next 4 = .ok (.aload_n 0, 1) := by decide +kernel
theorem dX6_next_5 : decode cX6_next 5 = .ok (.invokevirtual 114, 3) := by decide +kernel
theorem dX6_next_8 : decode cX6_next 8 = .ok (.istore_n 1, 1) := by decide +kernel
theorem dX6_next_9 : decode cX6_next 9 = .ok (.aload_n 0, 1) := by decide +kernel
theorem dX6_next_10 : decode cX6_next 10 = .ok (.invokevirtual 47, 3) := by decide +kernel
theorem dX6_next_13 : decode cX6_next 13 = .ok (.iload_n 1, 1) := by decide +kernel
theorem dX6_next_14 : decode cX6_next 14 = .ok (.invokestatic 39, 3) := by decide +kernel
theorem dX6_next_17 : decode cX6_next 17 = .ok (.ifCond .eq 11, 3) := by decide +kernel
theorem dX6_next_20 : decode cX6_next 20 = .ok (.aload_n 0, 1) := by decide +kernel
theorem dX6_next_21 : decode cX6_next 21 = .ok (.iload_n 1, 1) := by decide +kernel
theorem dX6_next_22 : decode cX6_next 22 = .ok (.invokevirtual 43, 3) := by decide +kernel
theorem dX6_next_25 : decode cX6_next 25 = .ok (.goto 4, 3) := by decide +kernel
theorem dX6_next_28 : decode cX6_next 28 = .ok (.iload_n 1, 1) := by decide +kernel
theorem dX6_next_29 : decode cX6_next 29 = .ok (.ireturn, 1) := by decide +kernel
theorem dX6_skipFamily_0 : decode cX6_skipFamily 0 = .ok (.aload_n 0, 1) := by decide +kernel
theorem dX6_skipFamily_1 : decode cX6_skipFamily 1 = .ok (.invokevirtual 66, 3) := by decide +kernel
theorem dX6_skipFamily_4 : decode cX6_skipFamily 4 = .ok (.aload_n 0, 1) := by decide +kernel
theorem dX6_skipFamily_5 : decode cX6_skipFamily 5 = .ok (.aload_n 0, 1) := by decide +kernel
theorem dX6_skipFamily_6 : decode cX6_skipFamily 6 = .ok (.invokevirtual 117, 3) := by decide +kernel
theorem dX6_skipFamily_9 : decode cX6_skipFamily 9 = .ok (.invokevirtual 72, 3) := by decide +kernel
theorem dX6_skipFamily_12 : decode cX6_skipFamily 12 = .ok (.ireturn, 1) := by decide +kernel
theorem dX6_targetFamily_0 : decode cX6_targetFamily 0 = .ok (.aload_n 0, 1) := by decide +kernel
theorem dX6_targetFamily_1 : decode cX6_targetFamily 1 = .ok (.invokevirtual 66, 3) := by decide +kernel
theorem dX6_targetFamily_4 : decode cX6_targetFamily 4 = .ok (.aload_n 0, 1) := by decide +kernel
theorem dX6_targetFamily_5 : decode cX6_targetFamily 5 = .ok (.aload_n 0, 1) := by decide +kernel
theorem dX6_targetFamily_6 : decode cX6_targetFamily 6 = .ok (.iload_n 1, 1) := by decide +kernel
theorem dX6_targetFamily_7 : decode cX6_targetFamily 7 = .ok (.invokevirtual 120, 3) := by decide +kernel
theorem dX6_targetFamily_10 : decode cX6_targetFamily 10 = .ok (.invokevirtual 72, 3) := by decide +kernel
theorem dX6_targetFamily_13 : decode cX6_targetFamily 13 = .ok (.ireturn, 1) := by decide +kernel
theorem dX6_setNoise_0 : decode cX6_setNoise 0 = .ok (.aload_n 0, 1) := by decide +kernel
theorem dX6_setNoise_1 : decode cX6_setNoise 1 = .ok (.invokevirtual 66, 3) := by decide +kernel
theorem dX6_setNoise_4 : decode cX6_setNoise 4 = .ok (.aload_n 0, 1) := by decide +kernel
theorem dX6_setNoise_5 : decode cX6_setNoise 5 = .ok (.aload_n 0, 1) := by decide +kernel
theorem dX6_setNoise_6 : decode cX6_setNoise 6 = .ok (.iload_n 1, 1) := by decide +kernel
theorem dX6_setNoise_7 : decode cX6_setNoise 7 = .ok (.invokevirtual 123, 3) := by decide +kernel
theorem dX6_setNoise_10 : decode cX6_setNoise 10 = .ok (.invokevirtual 72, 3) := by decide +kernel
theorem dX6_setNoise_13 : decode cX6_setNoise 13 = .ok (.ireturn, 1) := by decide +kernel
theorem dX6_countAhead_0 : decode cX6_countAhead 0 = .ok (.aload_n 0, 1) := by decide +kernel
theorem dX6_countAhead_1 : decode cX6_countAhead 1 = .ok (.invokevirtual 66, 3) := by decide +kernel
theorem dX6_countAhead_4 : decode cX6_countAhead 4 = .ok (.iconst 0, 1) := by decide +kernel
theorem dX6_countAhead_5 : decode cX6_countAhead 5 = .ok (.istore_n 1, 1) := by decide +kernel
theorem dX6_countAhead_6 : decode cX6_countAhead 6 = .ok (.iload_n 1, 1) := by decide +kernel
theorem dX6_countAhead_7 : decode cX6_countAhead 7 = .ok (.bipush 20, 2) := by decide +kernel
theorem dX6_countAhead_9 : decode cX6_countAhead 9 = .ok (.if_icmp .ge 19, 3) := by decide +kernel
theorem dX6_countAhead_12 : decode cX6_countAhead 12 = .ok (.aload_n 0, 1) := by decide +kernel
theorem dX6_countAhead_13 : decode cX6_countAhead 13 = .ok (.invokevirtual 114, 3) := by decide +kernel
theorem dX6_countAhead_16 : decode cX6_countAhead 16 = .ok (.invokestatic 39, 3) := by decide +kernel
theorem dX6_countAhead_19 : decode cX6_countAhead 19 = .ok (.ifCond .ne 9, 3) := by decide +kernel
theorem dX6_countAhead_22 : decode cX6_countAhead 22 = .ok (.iinc 1 1, 3) := by decide +kernel
theorem dX6_countAhead_25 : decode cX6_countAhead 25 = .ok (.goto (-19), 3) := by decide +kernel
theorem dX6_countAhead_28 : decode cX6_countAhead 28 = .ok (.aload_n 0, 1) := by decide +kernel
theorem dX6_countAhead_29 : decode cX6_countAhead 29 = .ok (.invokevirtual 126, 3) := by decide +kernel
theorem dX6_countAhead_32 : decode cX6_countAhead 32 = .ok (.iload_n 1, 1) := by decide +kernel
theorem dX6_countAhead_33 : decode cX6_countAhead 33 = .ok (.ireturn, 1) := by decide +kernel
theorem dX6_currentRom_0 : decode cX6_currentRom 0 = .ok (.aload_n 0, 1) := by decide +kernel
theorem dX6_currentRom_1 : decode cX6_currentRom 1 = .ok (.getfield 7, 3) := by decide +kernel
theorem dX6_currentRom_4 : decode cX6_currentRom 4 = .ok (.bipush 33, 2) := by decide +kernel
theorem dX6_currentRom_6 : decode cX6_currentRom 6 = .ok (.iaload, 1) := by decide +kernel
theorem dX6_currentRom_7 : decode cX6_currentRom 7 = .ok (.ireturn, 1) := by decide +kernel
theorem dX6_lastDiscrepancy_0 : decode cX6_lastDiscrepancy 0 = .ok (.aload_n 0, 1) := by decide +kernel
theorem dX6_lastDiscrepancy_1 : decode cX6_lastDiscrepancy 1 = .ok (.getfield 7, 3) := by decide +kernel
theorem dX6_lastDiscrepancy_4 : decode cX6_lastDiscrepancy 4 = .ok (.bipush 34, 2) := by decide +kernel
theorem dX6_lastDiscrepancy_6 : decode cX6_lastDiscrepancy 6 = .ok (.iaload, 1) := by decide +kernel
theorem dX6_lastDiscrepancy_7 : decode cX6_lastDiscrepancy 7 = .ok (.ireturn, 1) := by decide +kernel
theorem dX6_lastFamilyDiscrepancy_0 : decode cX6_lastFamilyDiscrepancy 0 = .ok (.aload_n 0, 1) := by decide +kernel
theorem dX6_lastFamilyDiscrepancy_1 : decode cX6_lastFamilyDiscrepancy 1 = .ok (.getfield 7, 3) := by decide +kernel
theorem dX6_lastFamilyDiscrepancy_4 : decode cX6_lastFamilyDiscrepancy 4 = .ok (.bipush 35, 2) := by decide +kernel
theorem dX6_lastFamilyDiscrepancy_6 : decode cX6_lastFamilyDiscrepancy 6 = .ok (.iaload, 1) := by decide +kernel
theorem dX6_lastFamilyDiscrepancy_7 : decode cX6_lastFamilyDiscrepancy 7 = .ok (.ireturn, 1) := by decide +kernel
theorem dX6_isLastDevice_0 : decode cX6_isLastDevice 0 = .ok (.aload_n 0, 1) := by decide +kernel
theorem dX6_isLastDevice_1 : decode cX6_isLastDevice 1 = .ok (.getfield 7, 3) := by decide +kernel
theorem dX6_isLastDevice_4 : decode cX6_isLastDevice 4 = .ok (.bipush 36, 2) := by decide +kernel
theorem dX6_isLastDevice_6 : decode cX6_isLastDevice 6 = .ok (.iaload, 1) := by decide +kernel
theorem dX6_isLastDevice_7 : decode cX6_isLastDevice 7 = .ok (.ireturn, 1) := by decide +kernel
theorem dX6_slotsUsed_0 : decode cX6_slotsUsed 0 = .ok (.aload_n 0, 1) := by decide +kernel
theorem dX6_slotsUsed_1 : decode cX6_slotsUsed 1 = .ok (.getfield 7, 3) := by decide +kernel
theorem dX6_slotsUsed_4 : decode cX6_slotsUsed 4 = .ok (.bipush 39, 2) := by decide +kernel
theorem dX6_slotsUsed_6 : decode cX6_slotsUsed 6 = .ok (.iaload, 1) := by decide +kernel
theorem dX6_slotsUsed_7 : decode cX6_slotsUsed 7 = .ok (.ireturn, 1) := by decide +kernel
theorem dX6_found_0 : decode cX6_found 0 = .ok (.iload_n 1, 1) := by decide +kernel
theorem dX6_found_1 : decode cX6_found 1 = .ok (.iconst 0, 1) := by decide +kernel
theorem dX6_found_2 : decode cX6_found 2 = .ok (.aload_n 0, 1) := by decide +kernel
theorem dX6_found_3 : decode cX6_found 3 = .ok (.getfield 7, 3) := by decide +kernel
theorem dX6_found_6 : decode cX6_found 6 = .ok (.bipush 40, 2) := by decide +kernel
theorem dX6_found_8 : decode cX6_found 8 = .ok (.iaload, 1) := by decide +kernel
theorem dX6_found_9 : decode cX6_found 9 = .ok (.iconst 1, 1) := by decide +kernel
theorem dX6_found_10 : decode cX6_found 10 = .ok (.isub, 1) := by decide +kernel
theorem dX6_found_11 : decode cX6_found 11 = .ok (.invokestatic 35, 3) := by decide +kernel
theorem dX6_found_14 : decode cX6_found 14 = .ok (.ifCond .eq 15, 3) := by decide +kernel
theorem dX6_found_17 : decode cX6_found 17 = .ok (.aload_n 0, 1) := by decide +kernel
theorem dX6_found_18 : decode cX6_found 18 = .ok (.getfield 7, 3) := by decide +kernel
theorem dX6_found_21 : decode cX6_found 21 = .ok (.bipush 41, 2) := by decide +kernel
theorem dX6_found_23 : decode cX6_found 23 = .ok (.iload_n 1, 1) := by decide +kernel
theorem dX6_found_24 : decode cX6_found 24 = .ok (.iadd, 1) := by decide +kernel
theorem dX6_found_25 : decode cX6_found 25 = .ok (.iaload, 1) := by decide +kernel
theorem dX6_found_26 : decode cX6_found 26 = .ok (.goto 9, 3) := by decide +kernel
theorem dX6_found_29 : decode cX6_found 29 = .ok (.aload_n 0, 1) := by decide +kernel
theorem dX6_found_30 : decode cX6_found 30 = .ok (.bipush (-2), 2) := by decide +kernel
theorem dX6_found_32 : decode cX6_found 32 = .ok (.invokevirtual 43, 3) := by decide +kernel
theorem dX6_found_35 : decode cX6_found 35 = .ok (.ireturn, 1) := by decide +kernel
theorem dX6_familyShareBits_0 : decode cX6_familyShareBits 0 = .ok (.iload_n 1, 1) := by decide +kernel
theorem dX6_familyShareBits_1 : decode cX6_familyShareBits 1 = .ok (.iconst 0, 1) := by decide +kernel
theorem dX6_familyShareBits_2 : decode cX6_familyShareBits 2 = .ok (.bipush 15, 2) := by decide +kernel
theorem dX6_familyShareBits_4 : decode cX6_familyShareBits 4 = .ok (.invokestatic 35, 3) := by decide +kernel
theorem dX6_familyShareBits_7 : decode cX6_familyShareBits 7 = .ok (.ifCond .ne 10, 3) := by decide +kernel
theorem dX6_familyShareBits_10 : decode cX6_familyShareBits 10 = .ok (.aload_n 0, 1) := by decide +kernel
theorem dX6_familyShareBits_11 : decode cX6_familyShareBits 11 = .ok (.bipush (-2), 2) := by decide +kernel
theorem dX6_familyShareBits_13 : decode cX6_familyShareBits 13 = .ok (.invokevirtual 43, 3) := by decide +kernel
theorem dX6_familyShareBits_16 : decode cX6_familyShareBits 16 = .ok (.ireturn, 1) := by decide +kernel
theorem dX6_familyShareBits_17 : decode cX6_familyShareBits 17 = .ok (.iconst 0, 1) := by decide +kernel
theorem dX6_familyShareBits_18 : decode cX6_familyShareBits 18 = .ok (.istore_n 2, 1) := by decide +kernel
theorem dX6_familyShareBits_19 : decode cX6_familyShareBits 19 = .ok (.iconst 0, 1) := by decide +kernel
theorem dX6_familyShareBits_20 : decode cX6_familyShareBits 20 = .ok (.istore_n 3, 1) := by decide +kernel
theorem dX6_familyShareBits_21 : decode cX6_familyShareBits 21 = .ok (.iload_n 3, 1) := by decide +kernel
theorem dX6_familyShareBits_22 : decode cX6_familyShareBits 22 = .ok (.aload_n 0, 1) := by decide +kernel
theorem dX6_familyShareBits_23 : decode cX6_familyShareBits 23 = .ok (.getfield 7, 3) := by decide +kernel
theorem dX6_familyShareBits_26 : decode cX6_familyShareBits 26 = .ok (.iconst 0, 1) := by decide +kernel
theorem dX6_familyShareBits_27 : decode cX6_familyShareBits 27 = .ok (.iaload, 1) := by decide +kernel
theorem dX6_familyShareBits_28 : decode cX6_familyShareBits 28 = .ok (.if_icmp .ge 30, 3) := by decide +kernel
theorem dX6_familyShareBits_31 : decode cX6_familyShareBits 31 = .ok (.iload_n 2, 1) := by decide +kernel
theorem dX6_familyShareBits_32 : decode cX6_familyShareBits 32 = .ok (.aload_n 0, 1) := by decide +kernel
theorem dX6_familyShareBits_33 : decode cX6_familyShareBits 33 = .ok (.iload_n 3, 1) := by decide +kernel
theorem dX6_familyShareBits_34 : decode cX6_familyShareBits 34 = .ok (.iconst 0, 1) := by decide +kernel
theorem dX6_familyShareBits_35 : decode cX6_familyShareBits 35 = .ok (.invokevirtual 53, 3) := by decide +kernel
theorem dX6_familyShareBits_38 : decode cX6_familyShareBits 38 = .ok (.bipush 15, 2) := by decide +kernel
theorem dX6_familyShareBits_40 : decode cX6_familyShareBits 40 = .ok (.iand, 1) := by decide +kernel
theorem dX6_familyShareBits_41 : decode cX6_familyShareBits 41 = .ok (.iload_n 1, 1) := by decide +kernel
theorem dX6_familyShareBits_42 : decode cX6_familyShareBits 42 = .ok (.if_icmp .ne 7, 3) := by decide +kernel
theorem dX6_familyShareBits_45 : decode cX6_familyShareBits 45 = .ok (.iconst 1, 1) := by decide +kernel
theorem dX6_familyShareBits_46 : decode cX6_familyShareBits 46 = .ok (.goto 4, 3) := by decide +kernel
theorem dX6_familyShareBits_49 : decode cX6_familyShareBits 49 = .ok (.iconst 0, 1) := by decide +kernel
theorem dX6_familyShareBits_50 : decode cX6_familyShareBits 50 = .ok (.iadd, 1) := by decide +kernel
theorem dX6_familyShareBits_51 : decode cX6_familyShareBits 51 = .ok (.istore_n 2, 1) := by decide +kernel
theorem dX6_familyShareBits_52 : decode cX6_familyShareBits 52 = .ok (.iinc 3 1, 3) := by decide +kernel
theorem dX6_familyShareBits_55 : decode cX6_familyShareBits 55 = .ok (.goto (-34), 3) := by decide +kernel
theorem dX6_familyShareBits_58 : decode cX6_familyShareBits 58 = .ok (.aload_n 0, 1) := by decide +kernel
theorem dX6_familyShareBits_59 : decode cX6_familyShareBits 59 = .ok (.getfield 7, 3) := by decide +kernel
theorem dX6_familyShareBits_62 : decode cX6_familyShareBits 62 = .ok (.iconst 0, 1) := by decide +kernel
theorem dX6_familyShareBits_63 : decode cX6_familyShareBits 63 = .ok (.iaload, 1) := by decide +kernel
theorem dX6_familyShareBits_64 : decode cX6_familyShareBits 64 = .ok (.ifCond .ne 7, 3) := by decide +kernel
theorem dX6_familyShareBits_67 : decode cX6_familyShareBits 67 = .ok (.fconst 0, 1) := by decide +kernel
theorem dX6_familyShareBits_68 : decode cX6_familyShareBits 68 = .ok (.goto 13, 3) := by decide +kernel
theorem dX6_familyShareBits_71 : decode cX6_familyShareBits 71 = .ok (.iload_n 2, 1) := by decide +kernel
theorem dX6_familyShareBits_72 : decode cX6_familyShareBits 72 = .ok (.i2f, 1) := by decide +kernel
theorem dX6_familyShareBits_73 : decode cX6_familyShareBits 73 = .ok (.aload_n 0, 1) := by decide +kernel
theorem dX6_familyShareBits_74 : decode cX6_familyShareBits 74 = .ok (.getfield 7, 3) := by decide +kernel
theorem dX6_familyShareBits_77 : decode cX6_familyShareBits 77 = .ok (.iconst 0, 1) := by decide +kernel
theorem dX6_familyShareBits_78 : decode cX6_familyShareBits 78 = .ok (.iaload, 1) := by decide +kernel
theorem dX6_familyShareBits_79 : decode cX6_familyShareBits 79 = .ok (.i2f, 1) := by decide +kernel
theorem dX6_familyShareBits_80 : decode cX6_familyShareBits 80 = .ok (.fdiv, 1) := by decide +kernel
theorem dX6_familyShareBits_81 : decode cX6_familyShareBits 81 = .ok (.fstore_n 3, 1) := by decide +kernel
theorem dX6_familyShareBits_82 : decode cX6_familyShareBits 82 = .ok (.fload_n 3, 1) := by decide +kernel
theorem dX6_familyShareBits_83 : decode cX6_familyShareBits 83 = .ok (.invokestatic 129, 3) := by decide +kernel
theorem dX6_familyShareBits_86 : decode cX6_familyShareBits 86 = .ok (.ireturn, 1) := by decide +kernel
theorem dX6_append_0 : decode cX6_append 0 = .ok (.iload_n 1, 1) := by decide +kernel
theorem dX6_append_1 : decode cX6_append 1 = .ok (.iconst 0, 1) := by decide +kernel
theorem dX6_append_2 : decode cX6_append 2 = .ok (.bipush 127, 2) := by decide +kernel
theorem dX6_append_4 : decode cX6_append 4 = .ok (.invokestatic 35, 3) := by decide +kernel
theorem dX6_append_7 : decode cX6_append 7 = .ok (.ifCond .ne 10, 3) := by decide +kernel
theorem dX6_append_10 : decode cX6_append 10 = .ok (.aload_n 0, 1) := by decide +kernel
theorem dX6_append_11 : decode cX6_append 11 = .ok (.bipush (-2), 2) := by decide +kernel
theorem dX6_append_13 : decode cX6_append 13 = .ok (.invokevirtual 43, 3) := by decide +kernel
theorem dX6_append_16 : decode cX6_append 16 = .ok (.ireturn, 1) := by decide +kernel
theorem dX6_append_17 : decode cX6_append 17 = .ok (.aload_n 0, 1) := by decide +kernel
theorem dX6_append_18 : decode cX6_append 18 = .ok (.getfield 135, 3) := by decide +kernel
theorem dX6_append_21 : decode cX6_append 21 = .ok (.bipush 120, 2) := by decide +kernel
theorem dX6_append_23 : decode cX6_append 23 = .ok (.if_icmp .ne 10, 3) := by decide +kernel
theorem dX6_append_26 : decode cX6_append 26 = .ok (.aload_n 0, 1) := by decide +kernel
theorem dX6_append_27 : decode cX6_append 27 = .ok (.bipush (-4), 2) := by decide +kernel
theorem dX6_append_29 : decode cX6_append 29 = .ok (.invokevirtual 43, 3) := by decide +kernel
theorem dX6_append_32 : decode cX6_append 32 = .ok (.ireturn, 1) := by decide +kernel
theorem dX6_append_33 : decode cX6_append 33 = .ok (.aload_n 0, 1) := by decide +kernel
theorem dX6_append_34 : decode cX6_append 34 = .ok (.getfield 22, 3) := by decide +kernel
theorem dX6_append_37 : decode cX6_append 37 = .ok (.aload_n 0, 1) := by decide +kernel
theorem dX6_append_38 : decode cX6_append 38 = .ok (.getfield 135, 3) := by decide +kernel
theorem dX6_append_41 : decode cX6_append 41 = .ok (.iload_n 1, 1) := by decide +kernel
theorem dX6_append_42 : decode cX6_append 42 = .ok (.iastore, 1) := by decide +kernel
theorem dX6_append_43 : decode cX6_append 43 = .ok (.aload_n 0, 1) := by decide +kernel
theorem dX6_append_44 : decode cX6_append 44 = .ok (.dup, 1) := by decide +kernel
theorem dX6_append_45 : decode cX6_append 45 = .ok (.getfield 135, 3) := by decide +kernel
theorem dX6_append_48 : decode cX6_append 48 = .ok (.iconst 1, 1) := by decide +kernel
theorem dX6_append_49 : decode cX6_append 49 = .ok (.iadd, 1) := by decide +kernel
theorem dX6_append_50 : decode cX6_append 50 = .ok (.putfield 135, 3) := by decide +kernel
theorem dX6_append_53 : decode cX6_append 53 = .ok (.aload_n 0, 1) := by decide +kernel
theorem dX6_append_54 : decode cX6_append 54 = .ok (.getfield 135, 3) := by decide +kernel
theorem dX6_append_57 : decode cX6_append 57 = .ok (.ireturn, 1) := by decide +kernel
theorem dX6_clearText_0 : decode cX6_clearText 0 = .ok (.aload_n 0, 1) := by decide +kernel
theorem dX6_clearText_1 : decode cX6_clearText 1 = .ok (.getfield 135, 3) := by decide +kernel
theorem dX6_clearText_4 : decode cX6_clearText 4 = .ok (.istore_n 1, 1) := by decide +kernel
theorem dX6_clearText_5 : decode cX6_clearText 5 = .ok (.aload_n 0, 1) := by decide +kernel
theorem dX6_clearText_6 : decode cX6_clearText 6 = .ok (.iconst 0, 1) := by decide +kernel
theorem dX6_clearText_7 : decode cX6_clearText 7 = .ok (.putfield 135, 3) := by decide +kernel
theorem dX6_clearText_10 : decode cX6_clearText 10 = .ok (.iload_n 1, 1) := by decide +kernel
theorem dX6_clearText_11 : decode cX6_clearText 11 = .ok (.ireturn, 1) := by decide +kernel
theorem dX6_here_0 : decode cX6_here 0 = .ok (.aload_n 0, 1) := by decide +kernel
theorem dX6_here_1 : decode cX6_here 1 = .ok (.getfield 138, 3) := by decide +kernel
theorem dX6_here_4 : decode cX6_here 4 = .ok (.aload_n 0, 1) := by decide +kernel
theorem dX6_here_5 : decode cX6_here 5 = .ok (.getfield 135, 3) := by decide +kernel
theorem dX6_here_8 : decode cX6_here 8 = .ok (.if_icmp .ge 30, 3) := by decide +kernel
theorem dX6_here_11 : decode cX6_here 11 = .ok (.aload_n 0, 1) := by decide +kernel
theorem dX6_here_12 : decode cX6_here 12 = .ok (.getfield 22, 3) := by decide +kernel
theorem dX6_here_15 : decode cX6_here 15 = .ok (.aload_n 0, 1) := by decide +kernel
theorem dX6_here_16 : decode cX6_here 16 = .ok (.getfield 138, 3) := by decide +kernel
theorem dX6_here_19 : decode cX6_here 19 = .ok (.iaload, 1) := by decide +kernel
theorem dX6_here_20 : decode cX6_here 20 = .ok (.bipush 32, 2) := by decide +kernel
theorem dX6_here_22 : decode cX6_here 22 = .ok (.if_icmp .ne 16, 3) := by decide +kernel
theorem dX6_here_25 : decode cX6_here 25 = .ok (.aload_n 0, 1) := by decide +kernel
theorem dX6_here_26 : decode cX6_here 26 = .ok (.dup, 1) := by decide +kernel
theorem dX6_here_27 : decode cX6_here 27 = .ok (.getfield 138, 3) := by decide +kernel
theorem dX6_here_30 : decode cX6_here 30 = .ok (.iconst 1, 1) := by decide +kernel
theorem dX6_here_31 : decode cX6_here 31 = .ok (.iadd, 1) := by decide +kernel
theorem dX6_here_32 : decode cX6_here 32 = .ok (.putfield 138, 3) := by decide +kernel
theorem dX6_here_35 : decode cX6_here 35 = .ok (.goto (-35), 3) := by decide +kernel
theorem dX6_here_38 : decode cX6_here 38 = .ok (.aload_n 0, 1) := by decide +kernel
theorem dX6_here_39 : decode cX6_here 39 = .ok (.getfield 138, 3) := by decide +kernel
theorem dX6_here_42 : decode cX6_here 42 = .ok (.aload_n 0, 1) := by decide +kernel
theorem dX6_here_43 : decode cX6_here 43 = .ok (.getfield 135, 3) := by decide +kernel
theorem dX6_here_46 : decode cX6_here 46 = .ok (.if_icmp .ge 15, 3) := by decide +kernel
theorem dX6_here_49 : decode cX6_here 49 = .ok (.aload_n 0, 1) := by decide +kernel
theorem dX6_here_50 : decode cX6_here 50 = .ok (.getfield 22, 3) := by decide +kernel
theorem dX6_here_53 : decode cX6_here 53 = .ok (.aload_n 0, 1) := by decide +kernel
theorem dX6_here_54 : decode cX6_here 54 = .ok (.getfield 138, 3) := by decide +kernel
theorem dX6_here_57 : decode cX6_here 57 = .ok (.iaload, 1) := by decide +kernel
theorem dX6_here_58 : decode cX6_here 58 = .ok (.goto 4, 3) := by decide +kernel
theorem dX6_here_61 : decode cX6_here 61 = .ok (.iconst (-1), 1) := by decide +kernel
theorem dX6_here_62 : decode cX6_here 62 = .ok (.ireturn, 1) := by decide +kernel
theorem dX6_require_0 : decode cX6_require 0 = .ok (.aload_n 0, 1) := by decide +kernel
theorem dX6_require_1 : decode cX6_require 1 = .ok (.getfield 141, 3) := by decide +kernel
theorem dX6_require_4 : decode cX6_require 4 = .ok (.ifCond .ge 28, 3) := by decide +kernel
theorem dX6_require_7 : decode cX6_require 7 = .ok (.iload_n 1, 1) := by decide +kernel
theorem dX6_require_8 : decode cX6_require 8 = .ok (.ifCond .eq 16, 3) := by decide +kernel
theorem dX6_require_11 : decode cX6_require 11 = .ok (.aload_n 0, 1) := by decide +kernel
theorem dX6_require_12 : decode cX6_require 12 = .ok (.dup, 1) := by decide +kernel
theorem dX6_require_13 : decode cX6_require 13 = .ok (.getfield 138, 3) := by decide +kernel
theorem dX6_require_16 : decode cX6_require 16 = .ok (.iconst 1, 1) := by decide +kernel
theorem dX6_require_17 : decode cX6_require 17 = .ok (.iadd, 1) := by decide +kernel
theorem dX6_require_18 : decode cX6_require 18 = .ok (.putfield 138, 3) := by decide +kernel
theorem dX6_require_21 : decode cX6_require 21 = .ok (.goto 11, 3) := by decide +kernel
theorem dX6_require_24 : decode cX6_require 24 = .ok (.aload_n 0, 1) := by decide +kernel
theorem dX6_require_25 : decode cX6_require 25 = .ok (.aload_n 0, 1) := by decide +kernel
theorem dX6_require_26 : decode cX6_require 26 = .ok (.getfield 138, 3) := by decide +kernel
theorem dX6_require_29 : decode cX6_require 29 = .ok (.putfield 141, 3) := by decide +kernel
theorem dX6_require_32 : decode cX6_require 32 = .ok (.return_, 1) := by decide +kernel
theorem dX6_isDigit_0 : decode cX6_isDigit 0 = .ok (.aload_n 0, 1) := by decide +kernel
theorem dX6_isDigit_1 : decode cX6_isDigit 1 = .ok (.getfield 138, 3) := by decide +kernel
theorem dX6_isDigit_4 : decode cX6_isDigit 4 = .ok (.aload_n 0, 1) := by decide +kernel
theorem dX6_isDigit_5 : decode cX6_isDigit 5 = .ok (.getfield 135, 3) := by decide +kernel
theorem dX6_isDigit_8 : decode cX6_isDigit 8 = .ok (.if_icmp .ge 26, 3) := by decide +kernel
theorem dX6_isDigit_11 : decode cX6_isDigit 11 = .ok (.aload_n 0, 1) := by decide +kernel
theorem dX6_isDigit_12 : decode cX6_isDigit 12 = .ok (.getfield 22, 3) := by decide +kernel
theorem dX6_isDigit_15 : decode cX6_isDigit 15 = .ok (.aload_n 0, 1) := by decide +kernel
theorem dX6_isDigit_16 : decode cX6_isDigit 16 = .ok (.getfield 138, 3) := by decide +kernel
theorem dX6_isDigit_19 : decode cX6_isDigit 19 = .ok (.iaload, 1) := by decide +kernel
theorem dX6_isDigit_20 : decode cX6_isDigit 20 = .ok (.bipush 48, 2) := by decide +kernel
theorem dX6_isDigit_22 : decode cX6_isDigit 22 = .ok (.bipush 57, 2) := by decide +kernel
theorem dX6_isDigit_24 : decode cX6_isDigit 24 = .ok (.invokestatic 35, 3) := by decide +kernel
theorem dX6_isDigit_27 : decode cX6_isDigit 27 = .ok (.ifCond .eq 7, 3) := by decide +kernel
theorem dX6_isDigit_30 : decode cX6_isDigit 30 = .ok (.iconst 1, 1) := by decide +kernel
theorem dX6_isDigit_31 : decode cX6_isDigit 31 = .ok (.goto 4, 3) := by decide +kernel
theorem dX6_isDigit_34 : decode cX6_isDigit 34 = .ok (.iconst 0, 1) := by decide +kernel
theorem dX6_isDigit_35 : decode cX6_isDigit 35 = .ok (.ireturn, 1) := by decide +kernel
theorem dX6_number_0 : decode cX6_number 0 = .ok (.aload_n 0, 1) := by decide +kernel
theorem dX6_number_1 : decode cX6_number 1 = .ok (.invokevirtual 144, 3) := by decide +kernel
theorem dX6_number_4 : decode cX6_number 4 = .ok (.bipush 45, 2) := by decide +kernel
theorem dX6_number_6 : decode cX6_number 6 = .ok (.if_icmp .ne 11, 3) := by decide +kernel
theorem dX6_number_9 : decode cX6_number 9 = .ok (.iload_n 1, 1) := by decide +kernel
theorem dX6_number_10 : decode cX6_number 10 = .ok (.ifCond .eq 7, 3) := by decide +kernel
theorem dX6_number_13 : decode cX6_number 13 = .ok (.iconst 1, 1) := by decide +kernel
theorem dX6_number_14 : decode cX6_number 14 = .ok (.goto 4, 3) := by decide +kernel
theorem dX6_number_17 : decode cX6_number 17 = .ok (.iconst 0, 1) := by decide +kernel
theorem dX6_number_18 : decode cX6_number 18 = .ok (.istore_n 2, 1) := by decide +kernel
theorem dX6_number_19 : decode cX6_number 19 = .ok (.aload_n 0, 1) := by decide +kernel
theorem dX6_number_20 : decode cX6_number 20 = .ok (.dup, 1) := by decide +kernel
theorem dX6_number_21 : decode cX6_number 21 = .ok (.getfield 138, 3) := by decide +kernel
theorem dX6_number_24 : decode cX6_number 24 = .ok (.iload_n 2, 1) := by decide +kernel
theorem dX6_number_25 : decode cX6_number 25 = .ok (.ifCond .eq 7, 3) := by decide +kernel
theorem dX6_number_28 : decode cX6_number 28 = .ok (.iconst 1, 1) := by decide +kernel
theorem dX6_number_29 : decode cX6_number 29 = .ok (.goto 4, 3) := by decide +kernel
theorem dX6_number_32 : decode cX6_number 32 = .ok (.iconst 0, 1) := by decide +kernel
theorem dX6_number_33 : decode cX6_number 33 = .ok (.iadd, 1) := by decide +kernel
theorem dX6_number_34 : decode cX6_number 34 = .ok (.putfield 138, 3) := by decide +kernel
theorem dX6_number_37 : decode cX6_number 37 = .ok (.aload_n 0, 1) := by decide +kernel
theorem dX6_number_38 : decode cX6_number 38 = .ok (.invokevirtual 147, 3) := by decide +kernel
theorem dX6_number_41 : decode cX6_number 41 = .ok (.ifCond .eq 18, 3) := by decide +kernel
theorem dX6_number_44 : decode cX6_number 44 = .ok (.aload_n 0, 1) := by decide +kernel
theorem dX6_number_45 : decode cX6_number 45 = .ok (.getfield 22, 3) := by decide +kernel
theorem dX6_number_48 : decode cX6_number 48 = .ok (.aload_n 0, 1) := by decide +kernel
theorem dX6_number_49 : decode cX6_number 49 = .ok (.getfield 138, 3) := by decide +kernel
theorem dX6_number_52 : decode cX6_number 52 = .ok (.iaload, 1) := by decide +kernel
theorem dX6_number_53 : decode cX6_number 53 = .ok (.bipush 48, 2) := by decide +kernel
theorem dX6_number_55 : decode cX6_number 55 = .ok (.isub, 1) := by decide +kernel
theorem dX6_number_56 : decode cX6_number 56 = .ok (.goto 4, 3) := by decide +kernel
theorem dX6_number_59 : decode cX6_number 59 = .ok (.iconst 0, 1) := by decide +kernel
theorem dX6_number_60 : decode cX6_number 60 = .ok (.istore_n 3, 1) := by decide +kernel
theorem dX6_number_61 : decode cX6_number 61 = .ok (.aload_n 0, 1) := by decide +kernel
theorem dX6_number_62 : decode cX6_number 62 = .ok (.aload_n 0, 1) := by decide +kernel
theorem dX6_number_63 : decode cX6_number 63 = .ok (.invokevirtual 147, 3) := by decide +kernel
theorem dX6_number_66 : decode cX6_number 66 = .ok (.invokevirtual 151, 3) := by decide +kernel
theorem dX6_number_69 : decode cX6_number 69 = .ok (.iconst 0, 1) := by decide +kernel
theorem dX6_number_70 : decode cX6_number 70 = .ok (.istore 4, 2) := by decide +kernel
theorem dX6_number_72 : decode cX6_number 72 = .ok (.iload 4, 2) := by decide +kernel
theorem dX6_number_74 : decode cX6_number 74 = .ok (.iconst 2, 1) := by decide +kernel
theorem dX6_number_75 : decode cX6_number 75 = .ok (.if_icmp .ge 51, 3) := by decide +kernel
theorem dX6_number_78 : decode cX6_number 78 = .ok (.aload_n 0, 1) := by decide +kernel
theorem dX6_number_79 : decode cX6_number 79 = .ok (.getfield 141, 3) := by decide +kernel
theorem dX6_number_82 : decode cX6_number 82 = .ok (.ifCond .ge 44, 3) := by decide +kernel
theorem dX6_number_85 : decode cX6_number 85 = .ok (.aload_n 0, 1) := by decide +kernel
theorem dX6_number_86 : decode cX6_number 86 = .ok (.invokevirtual 147, 3) := by decide +kernel
theorem dX6_number_89 : decode cX6_number 89 = .ok (.ifCond .eq 37, 3) := by decide +kernel
theorem dX6_number_92 : decode cX6_number 92 = .ok (.bipush 10, 2) := by decide +kernel
theorem dX6_number_94 : decode cX6_number 94 = .ok (.iload_n 3, 1) := by decide +kernel
theorem dX6_number_95 : decode cX6_number 95 = .ok (.imul, 1) := by decide +kernel
theorem dX6_number_96 : decode cX6_number 96 = .ok (.aload_n 0, 1) := by decide +kernel
theorem dX6_number_97 : decode cX6_number 97 = .ok (.getfield 22, 3) := by decide +kernel
theorem dX6_number_100 : decode cX6_number 100 = .ok (.aload_n 0, 1) := by decide +kernel
theorem dX6_number_101 : decode cX6_number 101 = .ok (.getfield 138, 3) := by decide +kernel
theorem dX6_number_104 : decode cX6_number 104 = .ok (.iaload, 1) := by decide +kernel
theorem dX6_number_105 : decode cX6_number 105 = .ok (.iadd, 1) := by decide +kernel
theorem dX6_number_106 : decode cX6_number 106 = .ok (.bipush 48, 2) := by decide +kernel
theorem dX6_number_108 : decode cX6_number 108 = .ok (.isub, 1) := by decide +kernel
theorem dX6_number_109 : decode cX6_number 109 = .ok (.istore_n 3, 1) := by decide +kernel
theorem dX6_number_110 : decode cX6_number 110 = .ok (.aload_n 0, 1) := by decide +kernel
theorem dX6_number_111 : decode cX6_number 111 = .ok (.dup, 1) := by decide +kernel
theorem dX6_number_112 : decode cX6_number 112 = .ok (.getfield 138, 3) := by decide +kernel
theorem dX6_number_115 : decode cX6_number 115 = .ok (.iconst 1, 1) := by decide +kernel
theorem dX6_number_116 : decode cX6_number 116 = .ok (.iadd, 1) := by decide +kernel
theorem dX6_number_117 : decode cX6_number 117 = .ok (.putfield 138, 3) := by decide +kernel
theorem dX6_number_120 : decode cX6_number 120 = .ok (.iinc 4 1, 3) := by decide +kernel
theorem dX6_number_123 : decode cX6_number 123 = .ok (.goto (-51), 3) := by decide +kernel
theorem dX6_number_126 : decode cX6_number 126 = .ok (.aload_n 0, 1) := by decide +kernel
theorem dX6_number_127 : decode cX6_number 127 = .ok (.getfield 141, 3) := by decide +kernel
theorem dX6_number_130 : decode cX6_number 130 = .ok (.ifCond .ge 18, 3) := by decide +kernel
theorem dX6_number_133 : decode cX6_number 133 = .ok (.aload_n 0, 1) := by decide +kernel
theorem dX6_number_134 : decode cX6_number 134 = .ok (.invokevirtual 147, 3) := by decide +kernel
theorem dX6_number_137 : decode cX6_number 137 = .ok (.ifCond .eq 11, 3) := by decide +kernel
theorem dX6_number_140 : decode cX6_number 140 = .ok (.aload_n 0, 1) := by decide +kernel
theorem dX6_number_141 : decode cX6_number 141 = .ok (.aload_n 0, 1) := by decide +kernel
theorem dX6_number_142 : decode cX6_number 142 = .ok (.getfield 138, 3) := by decide +kernel
theorem dX6_number_145 : decode cX6_number 145 = .ok (.putfield 141, 3) := by decide +kernel
theorem dX6_number_148 : decode cX6_number 148 = .ok (.iload_n 2, 1) := by decide +kernel
theorem dX6_number_149 : decode cX6_number 149 = .ok (.ifCond .eq 8, 3) := by decide +kernel
theorem dX6_number_152 : decode cX6_number 152 = .ok (.iload_n 3, 1) := by decide +kernel
theorem dX6_number_153 : decode cX6_number 153 = .ok (.ineg, 1) := by decide +kernel
theorem dX6_number_154 : decode cX6_number 154 = .ok (.goto 4, 3) := by decide +kernel
theorem dX6_number_157 : decode cX6_number 157 = .ok (.iload_n 3, 1) := by decide +kernel
theorem dX6_number_158 : decode cX6_number 158 = .ok (.ireturn, 1) := by decide +kernel
theorem dX6_numbersOf_0 : decode cX6_numbersOf 0 = .ok (.iload_n 0, 1) := by decide +kernel
theorem dX6_numbersOf_1 : decode cX6_numbersOf 1 = .ok (.tableswitch 107 100 120 #[103, 107, 107, 107, 107, 107, 107, 99, 105, 101, 99, 107, 107, 107, 99, 107, 107, 107, 103, 107, 101], 99) := by decide +kernel
theorem dX6_numbersOf_100 : decode cX6_numbersOf 100 = .ok (.iconst 0, 1) := by decide +kernel
theorem dX6_numbersOf_101 : decode cX6_numbersOf 101 = .ok (.ireturn, 1) := by decide +kernel
theorem dX6_numbersOf_102 : decode cX6_numbersOf 102 = .ok (.iconst 1, 1) := by decide +kernel
theorem dX6_numbersOf_103 : decode cX6_numbersOf 103 = .ok (.ireturn, 1) := by decide +kernel
theorem dX6_numbersOf_104 : decode cX6_numbersOf 104 = .ok (.iconst 2, 1) := by decide +kernel
theorem dX6_numbersOf_105 : decode cX6_numbersOf 105 = .ok (.ireturn, 1) := by decide +kernel
theorem dX6_numbersOf_106 : decode cX6_numbersOf 106 = .ok (.iconst 3, 1) := by decide +kernel
theorem dX6_numbersOf_107 : decode cX6_numbersOf 107 = .ok (.ireturn, 1) := by decide +kernel
theorem dX6_numbersOf_108 : decode cX6_numbersOf 108 = .ok (.iconst (-1), 1) := by decide +kernel
theorem dX6_numbersOf_109 : decode cX6_numbersOf 109 = .ok (.ireturn, 1) := by decide +kernel
theorem dX6_parseCommand_0 : decode cX6_parseCommand 0 = .ok (.aload_n 0, 1) := by decide +kernel
theorem dX6_parseCommand_1 : decode cX6_parseCommand 1 = .ok (.invokevirtual 144, 3) := by decide +kernel
theorem dX6_parseCommand_4 : decode cX6_parseCommand 4 = .ok (.istore_n 1, 1) := by decide +kernel
theorem dX6_parseCommand_5 : decode cX6_parseCommand 5 = .ok (.iload_n 1, 1) := by decide +kernel
theorem dX6_parseCommand_6 : decode cX6_parseCommand 6 = .ok (.invokestatic 155, 3) := by decide +kernel
theorem dX6_parseCommand_9 : decode cX6_parseCommand 9 = .ok (.istore_n 2, 1) := by decide +kernel
theorem dX6_parseCommand_10 : decode cX6_parseCommand 10 = .ok (.aload_n 0, 1) := by decide +kernel
theorem dX6_parseCommand_11 : decode cX6_parseCommand 11 = .ok (.iload_n 2, 1) := by decide +kernel
theorem dX6_parseCommand_12 : decode cX6_parseCommand 12 = .ok (.ifCond .lt 7, 3) := by decide +kernel
theorem dX6_parseCommand_15 : decode cX6_parseCommand 15 = .ok (.iconst 1, 1) := by decide +kernel
theorem dX6_parseCommand_16 : decode cX6_parseCommand 16 = .ok (.goto 4, 3) := by decide +kernel
theorem dX6_parseCommand_19 : decode cX6_parseCommand 19 = .ok (.iconst 0, 1) := by decide +kernel
theorem dX6_parseCommand_20 : decode cX6_parseCommand 20 = .ok (.invokevirtual 151, 3) := by decide +kernel
theorem dX6_parseCommand_23 : decode cX6_parseCommand 23 = .ok (.iconst 0, 1) := by decide +kernel
theorem dX6_parseCommand_24 : decode cX6_parseCommand 24 = .ok (.istore_n 3, 1) := by decide +kernel
theorem dX6_parseCommand_25 : decode cX6_parseCommand 25 = .ok (.iload_n 3, 1) := by decide +kernel
theorem dX6_parseCommand_26 : decode cX6_parseCommand 26 = .ok (.iload_n 2, 1) := by decide +kernel
theorem dX6_parseCommand_27 : decode cX6_parseCommand 27 = .ok (.if_icmp .ge 60, 3) := by decide +kernel
theorem dX6_parseCommand_30 : decode cX6_parseCommand 30 = .ok (.aload_n 0, 1) := by decide +kernel
theorem dX6_parseCommand_31 : decode cX6_parseCommand 31 = .ok (.getfield 141, 3) := by decide +kernel
theorem dX6_parseCommand_34 : decode cX6_parseCommand 34 = .ok (.ifCond .ge 53, 3) := by decide +kernel
theorem dX6_parseCommand_37 : decode cX6_parseCommand 37 = .ok (.aload_n 0, 1) := by decide +kernel
theorem dX6_parseCommand_38 : decode cX6_parseCommand 38 = .ok (.getfield 28, 3) := by decide +kernel
theorem dX6_parseCommand_41 : decode cX6_parseCommand 41 = .ok (.iconst 3, 1) := by decide +kernel
theorem dX6_parseCommand_42 : decode cX6_parseCommand 42 = .ok (.aload_n 0, 1) := by decide +kernel
theorem dX6_parseCommand_43 : decode cX6_parseCommand 43 = .ok (.getfield 158, 3) := by decide +kernel
theorem dX6_parseCommand_46 : decode cX6_parseCommand 46 = .ok (.imul, 1) := by decide +kernel
theorem dX6_parseCommand_47 : decode cX6_parseCommand 47 = .ok (.iload_n 3, 1) := by decide +kernel
theorem dX6_parseCommand_48 : decode cX6_parseCommand 48 = .ok (.iadd, 1) := by decide +kernel
theorem dX6_parseCommand_49 : decode cX6_parseCommand 49 = .ok (.aload_n 0, 1) := by decide +kernel
theorem dX6_parseCommand_50 : decode cX6_parseCommand 50 = .ok (.iload_n 1, 1) := by decide +kernel
theorem dX6_parseCommand_51 : decode cX6_parseCommand 51 = .ok (.bipush 118, 2) := by decide +kernel
theorem dX6_parseCommand_53 : decode cX6_parseCommand 53 = .ok (.if_icmp .ne 8, 3) := by decide +kernel
theorem dX6_parseCommand_56 : decode cX6_parseCommand 56 = .ok (.iload_n 3, 1) := by decide +kernel
theorem dX6_parseCommand_57 : decode cX6_parseCommand 57 = .ok (.iconst 1, 1) := by decide +kernel
theorem dX6_parseCommand_58 : decode cX6_parseCommand 58 = .ok (.if_icmp .eq 14, 3) := by decide +kernel
theorem dX6_parseCommand_61 : decode cX6_parseCommand 61 = .ok (.iload_n 1, 1) := by decide +kernel
theorem dX6_parseCommand_62 : decode cX6_parseCommand 62 = .ok (.bipush 108, 2) := by decide +kernel
theorem dX6_parseCommand_64 : decode cX6_parseCommand 64 = .ok (.if_icmp .ne 12, 3) := by decide +kernel
theorem dX6_parseCommand_67 : decode cX6_parseCommand 67 = .ok (.iload_n 3, 1) := by decide +kernel
theorem dX6_parseCommand_68 : decode cX6_parseCommand 68 = .ok (.iconst 2, 1) := by decide +kernel
theorem dX6_parseCommand_69 : decode cX6_parseCommand 69 = .ok (.if_icmp .ne 7, 3) := by decide +kernel
theorem dX6_parseCommand_72 : decode cX6_parseCommand 72 = .ok (.iconst 1, 1) := by decide +kernel
theorem dX6_parseCommand_73 : decode cX6_parseCommand 73 = .ok (.goto 4, 3) := by decide +kernel
theorem dX6_parseCommand_76 : decode cX6_parseCommand 76 = .ok (.iconst 0, 1) := by decide +kernel
theorem dX6_parseCommand_77 : decode cX6_parseCommand 77 = .ok (.invokevirtual 161, 3) := by decide +kernel
theorem dX6_parseCommand_80 : decode cX6_parseCommand 80 = .ok (.iastore, 1) := by decide +kernel
theorem dX6_parseCommand_81 : decode cX6_parseCommand 81 = .ok (.iinc 3 1, 3) := by decide +kernel
theorem dX6_parseCommand_84 : decode cX6_parseCommand 84 = .ok (.goto (-59), 3) := by decide +kernel
theorem dX6_parseCommand_87 : decode cX6_parseCommand 87 = .ok (.aload_n 0, 1) := by decide +kernel
theorem dX6_parseCommand_88 : decode cX6_parseCommand 88 = .ok (.getfield 141, 3) := by decide +kernel
theorem dX6_parseCommand_91 : decode cX6_parseCommand 91 = .ok (.ifCond .ge 41, 3) := by decide +kernel
theorem dX6_parseCommand_94 : decode cX6_parseCommand 94 = .ok (.aload_n 0, 1) := by decide +kernel
theorem dX6_parseCommand_95 : decode cX6_parseCommand 95 = .ok (.getfield 25, 3) := by decide +kernel
theorem dX6_parseCommand_98 : decode cX6_parseCommand 98 = .ok (.aload_n 0, 1) := by decide +kernel
theorem dX6_parseCommand_99 : decode cX6_parseCommand 99 = .ok (.getfield 158, 3) := by decide +kernel
theorem dX6_parseCommand_102 : decode cX6_parseCommand 102 = .ok (.iload_n 1, 1) := by decide +kernel
theorem dX6_parseCommand_103 : decode cX6_parseCommand 103 = .ok (.iastore, 1) := by decide +kernel
theorem dX6_parseCommand_104 : decode cX6_parseCommand 104 = .ok (.aload_n 0, 1) := by decide +kernel
theorem dX6_parseCommand_105 : decode cX6_parseCommand 105 = .ok (.dup, 1) := by decide +kernel
theorem dX6_parseCommand_106 : decode cX6_parseCommand 106 = .ok (.getfield 158, 3) := by decide +kernel
theorem dX6_parseCommand_109 : decode cX6_parseCommand 109 = .ok (.iconst 1, 1) := by decide +kernel
theorem dX6_parseCommand_110 : decode cX6_parseCommand 110 = .ok (.iadd, 1) := by decide +kernel
theorem dX6_parseCommand_111 : decode cX6_parseCommand 111 = .ok (.putfield 158, 3) := by decide +kernel
theorem dX6_parseCommand_114 : decode cX6_parseCommand 114 = .ok (.aload_n 0, 1) := by decide +kernel
theorem dX6_parseCommand_115 : decode cX6_parseCommand 115 = .ok (.aload_n 0, 1) := by decide +kernel
theorem dX6_parseCommand_116 : decode cX6_parseCommand 116 = .ok (.invokevirtual 144, 3) := by decide +kernel
theorem dX6_parseCommand_119 : decode cX6_parseCommand 119 = .ok (.bipush 59, 2) := by decide +kernel
theorem dX6_parseCommand_121 : decode cX6_parseCommand 121 = .ok (.if_icmp .ne 7, 3) := by decide +kernel
theorem dX6_parseCommand_124 : decode cX6_parseCommand 124 = .ok (.iconst 1, 1) := by decide +kernel
theorem dX6_parseCommand_125 : decode cX6_parseCommand 125 = .ok (.goto 4, 3) := by decide +kernel
theorem dX6_parseCommand_128 : decode cX6_parseCommand 128 = .ok (.iconst 0, 1) := by decide +kernel
theorem dX6_parseCommand_129 : decode cX6_parseCommand 129 = .ok (.invokevirtual 151, 3) := by decide +kernel
theorem dX6_parseCommand_132 : decode cX6_parseCommand 132 = .ok (.return_, 1) := by decide +kernel
theorem dX6_doCommand_0 : decode cX6_doCommand 0 = .ok (.aload_n 0, 1) := by decide +kernel
theorem dX6_doCommand_1 : decode cX6_doCommand 1 = .ok (.getfield 28, 3) := by decide +kernel
theorem dX6_doCommand_4 : decode cX6_doCommand 4 = .ok (.iconst 3, 1) := by decide +kernel
theorem dX6_doCommand_5 : decode cX6_doCommand 5 = .ok (.iload_n 1, 1) := by decide +kernel
theorem dX6_doCommand_6 : decode cX6_doCommand 6 = .ok (.imul, 1) := by decide +kernel
theorem dX6_doCommand_7 : decode cX6_doCommand 7 = .ok (.iaload, 1) := by decide +kernel
theorem dX6_doCommand_8 : decode cX6_doCommand 8 = .ok (.istore_n 2, 1) := by decide +kernel
theorem dX6_doCommand_9 : decode cX6_doCommand 9 = .ok (.aload_n 0, 1) := by decide +kernel
theorem dX6_doCommand_10 : decode cX6_doCommand 10 = .ok (.getfield 28, 3) := by decide +kernel
theorem dX6_doCommand_13 : decode cX6_doCommand 13 = .ok (.iconst 3, 1) := by decide +kernel
theorem dX6_doCommand_14 : decode cX6_doCommand 14 = .ok (.iload_n 1, 1) := by decide +kernel
theorem dX6_doCommand_15 : decode cX6_doCommand 15 = .ok (.imul, 1) := by decide +kernel
theorem dX6_doCommand_16 : decode cX6_doCommand 16 = .ok (.iconst 1, 1) := by decide +kernel
theorem dX6_doCommand_17 : decode cX6_doCommand 17 = .ok (.iadd, 1) := by decide +kernel
theorem dX6_doCommand_18 : decode cX6_doCommand 18 = .ok (.iaload, 1) := by decide +kernel
theorem dX6_doCommand_19 : decode cX6_doCommand 19 = .ok (.istore_n 3, 1) := by decide +kernel
theorem dX6_doCommand_20 : decode cX6_doCommand 20 = .ok (.aload_n 0, 1) := by decide +kernel
theorem dX6_doCommand_21 : decode cX6_doCommand 21 = .ok (.getfield 25, 3) := by decide +kernel
theorem dX6_doCommand_24 : decode cX6_doCommand 24 = .ok (.iload_n 1, 1) := by decide +kernel
theorem dX6_doCommand_25 : decode cX6_doCommand 25 = .ok (.iaload, 1) := by decide +kernel
theorem dX6_doCommand_26 : decode cX6_doCommand 26 = .ok (.tableswitch 151 100 120 #[98, 151, 151, 151, 151, 151, 151, 146, 118, 135, 151, 151, 151, 151, 141, 151, 151, 151, 111, 151, 105], 98) := by decide +kernel
theorem dX6_doCommand_124 : decode cX6_doCommand 124 = .ok (.aload_n 0, 1) := by decide +kernel
theorem dX6_doCommand_125 : decode cX6_doCommand 125 = .ok (.iload_n 2, 1) := by decide +kernel
theorem dX6_doCommand_126 : decode cX6_doCommand 126 = .ok (.iload_n 3, 1) := by decide +kernel
theorem dX6_doCommand_127 : decode cX6_doCommand 127 = .ok (.invokevirtual 69, 3) := by decide +kernel
theorem dX6_doCommand_130 : decode cX6_doCommand 130 = .ok (.ireturn, 1) := by decide +kernel
theorem dX6_doCommand_131 : decode cX6_doCommand 131 = .ok (.aload_n 0, 1) := by decide +kernel
theorem dX6_doCommand_132 : decode cX6_doCommand 132 = .ok (.iload_n 2, 1) := by decide +kernel
theorem dX6_doCommand_133 : decode cX6_doCommand 133 = .ok (.invokevirtual 75, 3) := by decide +kernel
theorem dX6_doCommand_136 : decode cX6_doCommand 136 = .ok (.ireturn, 1) := by decide +kernel
theorem dX6_doCommand_137 : decode cX6_doCommand 137 = .ok (.aload_n 0, 1) := by decide +kernel
theorem dX6_doCommand_138 : decode cX6_doCommand 138 = .ok (.iload_n 2, 1) := by decide +kernel
theorem dX6_doCommand_139 : decode cX6_doCommand 139 = .ok (.iload_n 3, 1) := by decide +kernel
theorem dX6_doCommand_140 : decode cX6_doCommand 140 = .ok (.invokevirtual 78, 3) := by decide +kernel
theorem dX6_doCommand_143 : decode cX6_doCommand 143 = .ok (.ireturn, 1) := by decide +kernel
theorem dX6_doCommand_144 : decode cX6_doCommand 144 = .ok (.aload_n 0, 1) := by decide +kernel
theorem dX6_doCommand_145 : decode cX6_doCommand 145 = .ok (.iload_n 2, 1) := by decide +kernel
theorem dX6_doCommand_146 : decode cX6_doCommand 146 = .ok (.iload_n 3, 1) := by decide +kernel
theorem dX6_doCommand_147 : decode cX6_doCommand 147 = .ok (.aload_n 0, 1) := by decide +kernel
theorem dX6_doCommand_148 : decode cX6_doCommand 148 = .ok (.getfield 28, 3) := by decide +kernel
theorem dX6_doCommand_151 : decode cX6_doCommand 151 = .ok (.iconst 3, 1) := by decide +kernel
theorem dX6_doCommand_152 : decode cX6_doCommand 152 = .ok (.iload_n 1, 1) := by decide +kernel
theorem dX6_doCommand_153 : decode cX6_doCommand 153 = .ok (.imul, 1) := by decide +kernel
theorem dX6_doCommand_154 : decode cX6_doCommand 154 = .ok (.iconst 2, 1) := by decide +kernel
theorem dX6_doCommand_155 : decode cX6_doCommand 155 = .ok (.iadd, 1) := by decide +kernel
theorem dX6_doCommand_156 : decode cX6_doCommand 156 = .ok (.iaload, 1) := by decide +kernel
theorem dX6_doCommand_157 : decode cX6_doCommand 157 = .ok (.invokevirtual 81, 3) := by decide +kernel
theorem dX6_doCommand_160 : decode cX6_doCommand 160 = .ok (.ireturn, 1) := by decide +kernel
theorem dX6_doCommand_161 : decode cX6_doCommand 161 = .ok (.aload_n 0, 1) := by decide +kernel
theorem dX6_doCommand_162 : decode cX6_doCommand 162 = .ok (.iload_n 2, 1) := by decide +kernel
theorem dX6_doCommand_163 : decode cX6_doCommand 163 = .ok (.invokevirtual 108, 3) := by decide +kernel
theorem dX6_doCommand_166 : decode cX6_doCommand 166 = .ok (.ireturn, 1) := by decide +kernel
theorem dX6_doCommand_167 : decode cX6_doCommand 167 = .ok (.aload_n 0, 1) := by decide +kernel
theorem dX6_doCommand_168 : decode cX6_doCommand 168 = .ok (.invokevirtual 111, 3) := by decide +kernel
theorem dX6_doCommand_171 : decode cX6_doCommand 171 = .ok (.ireturn, 1) := by decide +kernel
theorem dX6_doCommand_172 : decode cX6_doCommand 172 = .ok (.aload_n 0, 1) := by decide +kernel
theorem dX6_doCommand_173 : decode cX6_doCommand 173 = .ok (.invokevirtual 117, 3) := by decide +kernel
theorem dX6_doCommand_176 : decode cX6_doCommand 176 = .ok (.ireturn, 1) := by decide +kernel
theorem dX6_doCommand_177 : decode cX6_doCommand 177 = .ok (.aload_n 0, 1) := by decide +kernel
theorem dX6_doCommand_178 : decode cX6_doCommand 178 = .ok (.invokevirtual 114, 3) := by decide +kernel
theorem dX6_doCommand_181 : decode cX6_doCommand 181 = .ok (.pop, 1) := by decide +kernel
theorem dX6_doCommand_182 : decode cX6_doCommand 182 = .ok (.iconst 0, 1) := by decide +kernel
theorem dX6_doCommand_183 : decode cX6_doCommand 183 = .ok (.ireturn, 1) := by decide +kernel
theorem dX6_execute_0 : decode cX6_execute 0 = .ok (.aload_n 0, 1) := by decide +kernel
theorem dX6_execute_1 : decode cX6_execute 1 = .ok (.iconst 0, 1) := by decide +kernel
theorem dX6_execute_2 : decode cX6_execute 2 = .ok (.putfield 138, 3) := by decide +kernel
theorem dX6_execute_5 : decode cX6_execute 5 = .ok (.aload_n 0, 1) := by decide +kernel
theorem dX6_execute_6 : decode cX6_execute 6 = .ok (.iconst (-1), 1) := by decide +kernel
theorem dX6_execute_7 : decode cX6_execute 7 = .ok (.putfield 141, 3) := by decide +kernel
theorem dX6_execute_10 : decode cX6_execute 10 = .ok (.aload_n 0, 1) := by decide +kernel
theorem dX6_execute_11 : decode cX6_execute 11 = .ok (.iconst 0, 1) := by decide +kernel
theorem dX6_execute_12 : decode cX6_execute 12 = .ok (.putfield 158, 3) := by decide +kernel
theorem dX6_execute_15 : decode cX6_execute 15 = .ok (.aload_n 0, 1) := by decide +kernel
theorem dX6_execute_16 : decode cX6_execute 16 = .ok (.invokevirtual 144, 3) := by decide +kernel
theorem dX6_execute_19 : decode cX6_execute 19 = .ok (.ifCond .ge 11, 3) := by decide +kernel
theorem dX6_execute_22 : decode cX6_execute 22 = .ok (.bipush (-10), 2) := by decide +kernel
theorem dX6_execute_24 : decode cX6_execute 24 = .ok (.aload_n 0, 1) := by decide +kernel
theorem dX6_execute_25 : decode cX6_execute 25 = .ok (.getfield 135, 3) := by decide +kernel
theorem dX6_execute_28 : decode cX6_execute 28 = .ok (.isub, 1) := by decide +kernel
theorem dX6_execute_29 : decode cX6_execute 29 = .ok (.ireturn, 1) := by decide +kernel
theorem dX6_execute_30 : decode cX6_execute 30 = .ok (.aload_n 0, 1) := by decide +kernel
theorem dX6_execute_31 : decode cX6_execute 31 = .ok (.getfield 141, 3) := by decide +kernel
theorem dX6_execute_34 : decode cX6_execute 34 = .ok (.ifCond .ge 17, 3) := by decide +kernel
theorem dX6_execute_37 : decode cX6_execute 37 = .ok (.aload_n 0, 1) := by decide +kernel
theorem dX6_execute_38 : decode cX6_execute 38 = .ok (.invokevirtual 144, 3) := by decide +kernel
theorem dX6_execute_41 : decode cX6_execute 41 = .ok (.ifCond .lt 10, 3) := by decide +kernel
theorem dX6_execute_44 : decode cX6_execute 44 = .ok (.aload_n 0, 1) := by decide +kernel
theorem dX6_execute_45 : decode cX6_execute 45 = .ok (.invokevirtual 165, 3) := by decide +kernel
theorem dX6_execute_48 : decode cX6_execute 48 = .ok (.goto (-18), 3) := by decide +kernel
theorem dX6_execute_51 : decode cX6_execute 51 = .ok (.aload_n 0, 1) := by decide +kernel
theorem dX6_execute_52 : decode cX6_execute 52 = .ok (.getfield 141, 3) := by decide +kernel
theorem dX6_execute_55 : decode cX6_execute 55 = .ok (.ifCond .lt 11, 3) := by decide +kernel
theorem dX6_execute_58 : decode cX6_execute 58 = .ok (.bipush (-10), 2) := by decide +kernel
theorem dX6_execute_60 : decode cX6_execute 60 = .ok (.aload_n 0, 1) := by decide +kernel
theorem dX6_execute_61 : decode cX6_execute 61 = .ok (.getfield 141, 3) := by decide +kernel
theorem dX6_execute_64 : decode cX6_execute 64 = .ok (.isub, 1) := by decide +kernel
theorem dX6_execute_65 : decode cX6_execute 65 = .ok (.ireturn, 1) := by decide +kernel
theorem dX6_execute_66 : decode cX6_execute 66 = .ok (.aload_n 0, 1) := by decide +kernel
theorem dX6_execute_67 : decode cX6_execute 67 = .ok (.invokevirtual 66, 3) := by decide +kernel
theorem dX6_execute_70 : decode cX6_execute 70 = .ok (.iconst 0, 1) := by decide +kernel
theorem dX6_execute_71 : decode cX6_execute 71 = .ok (.istore_n 1, 1) := by decide +kernel
theorem dX6_execute_72 : decode cX6_execute 72 = .ok (.iload_n 1, 1) := by decide +kernel
theorem dX6_execute_73 : decode cX6_execute 73 = .ok (.aload_n 0, 1) := by decide +kernel
theorem dX6_execute_74 : decode cX6_execute 74 = .ok (.getfield 158, 3) := by decide +kernel
theorem dX6_execute_77 : decode cX6_execute 77 = .ok (.if_icmp .ge 37, 3) := by decide +kernel
theorem dX6_execute_80 : decode cX6_execute 80 = .ok (.aload_n 0, 1) := by decide +kernel
theorem dX6_execute_81 : decode cX6_execute 81 = .ok (.iload_n 1, 1) := by decide +kernel
theorem dX6_execute_82 : decode cX6_execute 82 = .ok (.invokevirtual 168, 3) := by decide +kernel
theorem dX6_execute_85 : decode cX6_execute 85 = .ok (.istore_n 2, 1) := by decide +kernel
theorem dX6_execute_86 : decode cX6_execute 86 = .ok (.iload_n 2, 1) := by decide +kernel
theorem dX6_execute_87 : decode cX6_execute 87 = .ok (.invokestatic 39, 3) := by decide +kernel
theorem dX6_execute_90 : decode cX6_execute 90 = .ok (.ifCond .eq 18, 3) := by decide +kernel
theorem dX6_execute_93 : decode cX6_execute 93 = .ok (.aload_n 0, 1) := by decide +kernel
theorem dX6_execute_94 : decode cX6_execute 94 = .ok (.iload_n 2, 1) := by decide +kernel
theorem dX6_execute_95 : decode cX6_execute 95 = .ok (.putfield 171, 3) := by decide +kernel
theorem dX6_execute_98 : decode cX6_execute 98 = .ok (.aload_n 0, 1) := by decide +kernel
theorem dX6_execute_99 : decode cX6_execute 99 = .ok (.invokevirtual 126, 3) := by decide +kernel
theorem dX6_execute_102 : decode cX6_execute 102 = .ok (.sipush (-1000), 3) := by decide +kernel
theorem dX6_execute_105 : decode cX6_execute 105 = .ok (.iload_n 1, 1) := by decide +kernel
theorem dX6_execute_106 : decode cX6_execute 106 = .ok (.isub, 1) := by decide +kernel
theorem dX6_execute_107 : decode cX6_execute 107 = .ok (.ireturn, 1) := by decide +kernel
theorem dX6_execute_108 : decode cX6_execute 108 = .ok (.iinc 1 1, 3) := by decide +kernel
theorem dX6_execute_111 : decode cX6_execute 111 = .ok (.goto (-39), 3) := by decide +kernel
theorem dX6_execute_114 : decode cX6_execute 114 = .ok (.aload_n 0, 1) := by decide +kernel
theorem dX6_execute_115 : decode cX6_execute 115 = .ok (.invokevirtual 47, 3) := by decide +kernel
theorem dX6_execute_118 : decode cX6_execute 118 = .ok (.aload_n 0, 1) := by decide +kernel
theorem dX6_execute_119 : decode cX6_execute 119 = .ok (.getfield 158, 3) := by decide +kernel
theorem dX6_execute_122 : decode cX6_execute 122 = .ok (.ireturn, 1) := by decide +kernel
theorem dX6_stopCause_0 : decode cX6_stopCause 0 = .ok (.aload_n 0, 1) := by decide +kernel
theorem dX6_stopCause_1 : decode cX6_stopCause 1 = .ok (.getfield 171, 3) := by decide +kernel
theorem dX6_stopCause_4 : decode cX6_stopCause 4 = .ok (.ireturn, 1) := by decide +kernel
theorem dX6_errorCount_0 : decode cX6_errorCount 0 = .ok (.iload_n 1, 1) := by decide +kernel
theorem dX6_errorCount_1 : decode cX6_errorCount 1 = .ok (.bipush (-9), 2) := by decide +kernel
theorem dX6_errorCount_3 : decode cX6_errorCount 3 = .ok (.bipush (-2), 2) := by decide +kernel
theorem dX6_errorCount_5 : decode cX6_errorCount 5 = .ok (.invokestatic 35, 3) := by decide +kernel
theorem dX6_errorCount_8 : decode cX6_errorCount 8 = .ok (.ifCond .eq 15, 3) := by decide +kernel
theorem dX6_errorCount_11 : decode cX6_errorCount 11 = .ok (.aload_n 0, 1) := by decide +kernel
theorem dX6_errorCount_12 : decode cX6_errorCount 12 = .ok (.getfield 19, 3) := by decide +kernel
theorem dX6_errorCount_15 : decode cX6_errorCount 15 = .ok (.bipush (-2), 2) := by decide +kernel
theorem dX6_errorCount_17 : decode cX6_errorCount 17 = .ok (.iload_n 1, 1) := by decide +kernel
theorem dX6_errorCount_18 : decode cX6_errorCount 18 = .ok (.isub, 1) := by decide +kernel
theorem dX6_errorCount_19 : decode cX6_errorCount 19 = .ok (.iaload, 1) := by decide +kernel
theorem dX6_errorCount_20 : decode cX6_errorCount 20 = .ok (.goto 9, 3) := by decide +kernel
theorem dX6_errorCount_23 : decode cX6_errorCount 23 = .ok (.aload_n 0, 1) := by decide +kernel
theorem dX6_errorCount_24 : decode cX6_errorCount 24 = .ok (.bipush (-2), 2) := by decide +kernel
theorem dX6_errorCount_26 : decode cX6_errorCount 26 = .ok (.invokevirtual 43, 3) := by decide +kernel
theorem dX6_errorCount_29 : decode cX6_errorCount 29 = .ok (.ireturn, 1) := by decide +kernel
theorem dX6_deviceCount_0 : decode cX6_deviceCount 0 = .ok (.aload_n 0, 1) := by decide +kernel
theorem dX6_deviceCount_1 : decode cX6_deviceCount 1 = .ok (.getfield 7, 3) := by decide +kernel
theorem dX6_deviceCount_4 : decode cX6_deviceCount 4 = .ok (.iconst 0, 1) := by decide +kernel
theorem dX6_deviceCount_5 : decode cX6_deviceCount 5 = .ok (.iaload, 1) := by decide +kernel
theorem dX6_deviceCount_6 : decode cX6_deviceCount 6 = .ok (.ireturn, 1) := by decide +kernel
theorem dX6_mix_0 : decode cX6_mix 0 = .ok (.aload_n 0, 1) := by decide +kernel
theorem dX6_mix_1 : decode cX6_mix 1 = .ok (.ldc2_w 174, 3) := by decide +kernel
theorem dX6_mix_4 : decode cX6_mix 4 = .ok (.aload_n 0, 1) := by decide +kernel
theorem dX6_mix_5 : decode cX6_mix 5 = .ok (.getfield 176, 3) := by decide +kernel
theorem dX6_mix_8 : decode cX6_mix 8 = .ok (.lmul, 1) := by decide +kernel
theorem dX6_mix_9 : decode cX6_mix 9 = .ok (.iload_n 1, 1) := by decide +kernel
theorem dX6_mix_10 : decode cX6_mix 10 = .ok (.i2l, 1) := by decide +kernel
theorem dX6_mix_11 : decode cX6_mix 11 = .ok (.ladd, 1) := by decide +kernel
theorem dX6_mix_12 : decode cX6_mix 12 = .ok (.putfield 176, 3) := by decide +kernel
theorem dX6_mix_15 : decode cX6_mix 15 = .ok (.return_, 1) := by decide +kernel
theorem dX6_digest_0 : decode cX6_digest 0 = .ok (.aload_n 0, 1) := by decide +kernel
theorem dX6_digest_1 : decode cX6_digest 1 = .ok (.ldc2_w 180, 3) := by decide +kernel
theorem dX6_digest_4 : decode cX6_digest 4 = .ok (.putfield 176, 3) := by decide +kernel
theorem dX6_digest_7 : decode cX6_digest 7 = .ok (.iconst 0, 1) := by decide +kernel
theorem dX6_digest_8 : decode cX6_digest 8 = .ok (.istore_n 1, 1) := by decide +kernel
theorem dX6_digest_9 : decode cX6_digest 9 = .ok (.iload_n 1, 1) := by decide +kernel
theorem dX6_digest_10 : decode cX6_digest 10 = .ok (.bipush 8, 2) := by decide +kernel
theorem dX6_digest_12 : decode cX6_digest 12 = .ok (.if_icmp .ge 19, 3) := by decide +kernel
theorem dX6_digest_15 : decode cX6_digest 15 = .ok (.aload_n 0, 1) := by decide +kernel
theorem dX6_digest_16 : decode cX6_digest 16 = .ok (.aload_n 0, 1) := by decide +kernel
theorem dX6_digest_17 : decode cX6_digest 17 = .ok (.getfield 19, 3) := by decide +kernel
theorem dX6_digest_20 : decode cX6_digest 20 = .ok (.iload_n 1, 1) := by decide +kernel
theorem dX6_digest_21 : decode cX6_digest 21 = .ok (.iaload, 1) := by decide +kernel
theorem dX6_digest_22 : decode cX6_digest 22 = .ok (.invokevirtual 182, 3) := by decide +kernel
theorem dX6_digest_25 : decode cX6_digest 25 = .ok (.iinc 1 1, 3) := by decide +kernel
theorem dX6_digest_28 : decode cX6_digest 28 = .ok (.goto (-19), 3) := by decide +kernel
theorem dX6_digest_31 : decode cX6_digest 31 = .ok (.aload_n 0, 1) := by decide +kernel
theorem dX6_digest_32 : decode cX6_digest 32 = .ok (.aload_n 0, 1) := by decide +kernel
theorem dX6_digest_33 : decode cX6_digest 33 = .ok (.getfield 7, 3) := by decide +kernel
theorem dX6_digest_36 : decode cX6_digest 36 = .ok (.iconst 0, 1) := by decide +kernel
theorem dX6_digest_37 : decode cX6_digest 37 = .ok (.iaload, 1) := by decide +kernel
theorem dX6_digest_38 : decode cX6_digest 38 = .ok (.invokevirtual 182, 3) := by decide +kernel
theorem dX6_digest_41 : decode cX6_digest 41 = .ok (.iconst 0, 1) := by decide +kernel
theorem dX6_digest_42 : decode cX6_digest 42 = .ok (.istore_n 1, 1) := by decide +kernel
theorem dX6_digest_43 : decode cX6_digest 43 = .ok (.iload_n 1, 1) := by decide +kernel
theorem dX6_digest_44 : decode cX6_digest 44 = .ok (.iconst 4, 1) := by decide +kernel
theorem dX6_digest_45 : decode cX6_digest 45 = .ok (.aload_n 0, 1) := by decide +kernel
theorem dX6_digest_46 : decode cX6_digest 46 = .ok (.getfield 7, 3) := by decide +kernel
theorem dX6_digest_49 : decode cX6_digest 49 = .ok (.iconst 0, 1) := by decide +kernel
theorem dX6_digest_50 : decode cX6_digest 50 = .ok (.iaload, 1) := by decide +kernel
theorem dX6_digest_51 : decode cX6_digest 51 = .ok (.imul, 1) := by decide +kernel
theorem dX6_digest_52 : decode cX6_digest 52 = .ok (.if_icmp .ge 21, 3) := by decide +kernel
theorem dX6_digest_55 : decode cX6_digest 55 = .ok (.aload_n 0, 1) := by decide +kernel
theorem dX6_digest_56 : decode cX6_digest 56 = .ok (.aload_n 0, 1) := by decide +kernel
theorem dX6_digest_57 : decode cX6_digest 57 = .ok (.getfield 7, 3) := by decide +kernel
theorem dX6_digest_60 : decode cX6_digest 60 = .ok (.iconst 1, 1) := by decide +kernel
theorem dX6_digest_61 : decode cX6_digest 61 = .ok (.iload_n 1, 1) := by decide +kernel
theorem dX6_digest_62 : decode cX6_digest 62 = .ok (.iadd, 1) := by decide +kernel
theorem dX6_digest_63 : decode cX6_digest 63 = .ok (.iaload, 1) := by decide +kernel
theorem dX6_digest_64 : decode cX6_digest 64 = .ok (.invokevirtual 182, 3) := by decide +kernel
theorem dX6_digest_67 : decode cX6_digest 67 = .ok (.iinc 1 1, 3) := by decide +kernel
theorem dX6_digest_70 : decode cX6_digest 70 = .ok (.goto (-27), 3) := by decide +kernel
theorem dX6_digest_73 : decode cX6_digest 73 = .ok (.bipush 33, 2) := by decide +kernel
theorem dX6_digest_75 : decode cX6_digest 75 = .ok (.istore_n 1, 1) := by decide +kernel
theorem dX6_digest_76 : decode cX6_digest 76 = .ok (.iload_n 1, 1) := by decide +kernel
theorem dX6_digest_77 : decode cX6_digest 77 = .ok (.bipush 39, 2) := by decide +kernel
theorem dX6_digest_79 : decode cX6_digest 79 = .ok (.if_icmp .gt 19, 3) := by decide +kernel
theorem dX6_digest_82 : decode cX6_digest 82 = .ok (.aload_n 0, 1) := by decide +kernel
theorem dX6_digest_83 : decode cX6_digest 83 = .ok (.aload_n 0, 1) := by decide +kernel
theorem dX6_digest_84 : decode cX6_digest 84 = .ok (.getfield 7, 3) := by decide +kernel
theorem dX6_digest_87 : decode cX6_digest 87 = .ok (.iload_n 1, 1) := by decide +kernel
theorem dX6_digest_88 : decode cX6_digest 88 = .ok (.iaload, 1) := by decide +kernel
theorem dX6_digest_89 : decode cX6_digest 89 = .ok (.invokevirtual 182, 3) := by decide +kernel
theorem dX6_digest_92 : decode cX6_digest 92 = .ok (.iinc 1 1, 3) := by decide +kernel
theorem dX6_digest_95 : decode cX6_digest 95 = .ok (.goto (-19), 3) := by decide +kernel
theorem dX6_digest_98 : decode cX6_digest 98 = .ok (.aload_n 0, 1) := by decide +kernel
theorem dX6_digest_99 : decode cX6_digest 99 = .ok (.aload_n 0, 1) := by decide +kernel
theorem dX6_digest_100 : decode cX6_digest 100 = .ok (.getfield 7, 3) := by decide +kernel
theorem dX6_digest_103 : decode cX6_digest 103 = .ok (.bipush 40, 2) := by decide +kernel
theorem dX6_digest_105 : decode cX6_digest 105 = .ok (.iaload, 1) := by decide +kernel
theorem dX6_digest_106 : decode cX6_digest 106 = .ok (.invokevirtual 182, 3) := by decide +kernel
theorem dX6_digest_109 : decode cX6_digest 109 = .ok (.iconst 0, 1) := by decide +kernel
theorem dX6_digest_110 : decode cX6_digest 110 = .ok (.istore_n 1, 1) := by decide +kernel
theorem dX6_digest_111 : decode cX6_digest 111 = .ok (.iload_n 1, 1) := by decide +kernel
theorem dX6_digest_112 : decode cX6_digest 112 = .ok (.aload_n 0, 1) := by decide +kernel
theorem dX6_digest_113 : decode cX6_digest 113 = .ok (.getfield 7, 3) := by decide +kernel
theorem dX6_digest_116 : decode cX6_digest 116 = .ok (.bipush 40, 2) := by decide +kernel
theorem dX6_digest_118 : decode cX6_digest 118 = .ok (.iaload, 1) := by decide +kernel
theorem dX6_digest_119 : decode cX6_digest 119 = .ok (.if_icmp .ge 22, 3) := by decide +kernel
theorem dX6_digest_122 : decode cX6_digest 122 = .ok (.aload_n 0, 1) := by decide +kernel
theorem dX6_digest_123 : decode cX6_digest 123 = .ok (.aload_n 0, 1) := by decide +kernel
theorem dX6_digest_124 : decode cX6_digest 124 = .ok (.getfield 7, 3) := by decide +kernel
theorem dX6_digest_127 : decode cX6_digest 127 = .ok (.bipush 41, 2) := by decide +kernel
theorem dX6_digest_129 : decode cX6_digest 129 = .ok (.iload_n 1, 1) := by decide +kernel
theorem dX6_digest_130 : decode cX6_digest 130 = .ok (.iadd, 1) := by decide +kernel
theorem dX6_digest_131 : decode cX6_digest 131 = .ok (.iaload, 1) := by decide +kernel
theorem dX6_digest_132 : decode cX6_digest 132 = .ok (.invokevirtual 182, 3) := by decide +kernel
theorem dX6_digest_135 : decode cX6_digest 135 = .ok (.iinc 1 1, 3) := by decide +kernel
theorem dX6_digest_138 : decode cX6_digest 138 = .ok (.goto (-27), 3) := by decide +kernel
theorem dX6_digest_141 : decode cX6_digest 141 = .ok (.aload_n 0, 1) := by decide +kernel
theorem dX6_digest_142 : decode cX6_digest 142 = .ok (.aload_n 0, 1) := by decide +kernel
theorem dX6_digest_143 : decode cX6_digest 143 = .ok (.getfield 135, 3) := by decide +kernel
theorem dX6_digest_146 : decode cX6_digest 146 = .ok (.invokevirtual 182, 3) := by decide +kernel
theorem dX6_digest_149 : decode cX6_digest 149 = .ok (.aload_n 0, 1) := by decide +kernel
theorem dX6_digest_150 : decode cX6_digest 150 = .ok (.aload_n 0, 1) := by decide +kernel
theorem dX6_digest_151 : decode cX6_digest 151 = .ok (.getfield 31, 3) := by decide +kernel
theorem dX6_digest_154 : decode cX6_digest 154 = .ok (.invokevirtual 182, 3) := by decide +kernel
theorem dX6_digest_157 : decode cX6_digest 157 = .ok (.aload_n 0, 1) := by decide +kernel
theorem dX6_digest_158 : decode cX6_digest 158 = .ok (.aload_n 0, 1) := by decide +kernel
theorem dX6_digest_159 : decode cX6_digest 159 = .ok (.getfield 171, 3) := by decide +kernel
theorem dX6_digest_162 : decode cX6_digest 162 = .ok (.invokevirtual 182, 3) := by decide +kernel
theorem dX6_digest_165 : decode cX6_digest 165 = .ok (.aload_n 0, 1) := by decide +kernel
theorem dX6_digest_166 : decode cX6_digest 166 = .ok (.getfield 176, 3) := by decide +kernel
theorem dX6_digest_169 : decode cX6_digest 169 = .ok (.lreturn, 1) := by decide +kernel
theorem dJxf58ca_isNaN_12338_0 : decode cJxf58ca_isNaN_12338 0 = .ok (.fload_n 0, 1) := by decide +kernel
theorem dJxf58ca_isNaN_12338_1 : decode cJxf58ca_isNaN_12338 1 = .ok (.fload_n 0, 1) := by decide +kernel
theorem dJxf58ca_isNaN_12338_2 : decode cJxf58ca_isNaN_12338 2 = .ok (.fcmp .l, 1) := by decide +kernel
theorem dJxf58ca_isNaN_12338_3 : decode cJxf58ca_isNaN_12338 3 = .ok (.ifCond .eq 7, 3) := by decide +kernel
theorem dJxf58ca_isNaN_12338_6 : decode cJxf58ca_isNaN_12338 6 = .ok (.iconst 1, 1) := by decide +kernel
theorem dJxf58ca_isNaN_12338_7 : decode cJxf58ca_isNaN_12338 7 = .ok (.goto 4, 3) := by decide +kernel
theorem dJxf58ca_isNaN_12338_10 : decode cJxf58ca_isNaN_12338 10 = .ok (.iconst 0, 1) := by decide +kernel
theorem dJxf58ca_isNaN_12338_11 : decode cJxf58ca_isNaN_12338 11 = .ok (.ireturn, 1) := by decide +kernel
theorem dJxf58ca_floatToIntBits_5c35a_0 : decode cJxf58ca_floatToIntBits_5c35a 0 = .ok (.fload_n 0, 1) := by decide +kernel
theorem dJxf58ca_floatToIntBits_5c35a_1 : decode cJxf58ca_floatToIntBits_5c35a 1 = .ok (.invokestatic 59, 3) := by decide +kernel
theorem dJxf58ca_floatToIntBits_5c35a_4 : decode cJxf58ca_floatToIntBits_5c35a 4 = .ok (.ifCond .ne 8, 3) := by decide +kernel
theorem dJxf58ca_floatToIntBits_5c35a_7 : decode cJxf58ca_floatToIntBits_5c35a 7 = .ok (.fload_n 0, 1) := by decide +kernel
theorem dJxf58ca_floatToIntBits_5c35a_8 : decode cJxf58ca_floatToIntBits_5c35a 8 = .ok (.invokestatic 74, 3) := by decide +kernel
theorem dJxf58ca_floatToIntBits_5c35a_11 : decode cJxf58ca_floatToIntBits_5c35a 11 = .ok (.ireturn, 1) := by decide +kernel
theorem dJxf58ca_floatToIntBits_5c35a_12 : decode cJxf58ca_floatToIntBits_5c35a 12 = .ok (.ldc 77, 2) := by decide +kernel
theorem dJxf58ca_floatToIntBits_5c35a_14 : decode cJxf58ca_floatToIntBits_5c35a 14 = .ok (.ireturn, 1) := by decide +kernel
theorem dJ9_abs_0f7a4_0 : decode cJ9_abs_0f7a4 0 = .ok (.iload_n 0, 1) := by decide +kernel
theorem dJ9_abs_0f7a4_1 : decode cJ9_abs_0f7a4 1 = .ok (.ifCond .ge 8, 3) := by decide +kernel
theorem dJ9_abs_0f7a4_4 : decode cJ9_abs_0f7a4 4 = .ok (.iload_n 0, 1) := by decide +kernel
theorem dJ9_abs_0f7a4_5 : decode cJ9_abs_0f7a4 5 = .ok (.ineg, 1) := by decide +kernel
theorem dJ9_abs_0f7a4_6 : decode cJ9_abs_0f7a4 6 = .ok (.goto 4, 3) := by decide +kernel
theorem dJ9_abs_0f7a4_9 : decode cJ9_abs_0f7a4 9 = .ok (.iload_n 0, 1) := by decide +kernel
theorem dJ9_abs_0f7a4_10 : decode cJ9_abs_0f7a4 10 = .ok (.ireturn, 1) := by decide +kernel
theorem dL_law_0 : decode cL_law 0 = .ok (.new 7, 3) := by decide +kernel
theorem dL_law_3 : decode cL_law 3 = .ok (.dup, 1) := by decide +kernel
theorem dL_law_4 : decode cL_law 4 = .ok (.invokespecial 9, 3) := by decide +kernel
theorem dL_law_7 : decode cL_law 7 = .ok (.astore_n 1, 1) := by decide +kernel
theorem dL_law_8 : decode cL_law 8 = .ok (.new 10, 3) := by decide +kernel
theorem dL_law_11 : decode cL_law 11 = .ok (.dup, 1) := by decide +kernel
theorem dL_law_12 : decode cL_law 12 = .ok (.invokespecial 12, 3) := by decide +kernel
theorem dL_law_15 : decode cL_law 15 = .ok (.astore_n 2, 1) := by decide +kernel
theorem dL_law_16 : decode cL_law 16 = .ok (.iconst 0, 1) := by decide +kernel
theorem dL_law_17 : decode cL_law 17 = .ok (.istore_n 3, 1) := by decide +kernel
theorem dL_law_18 : decode cL_law 18 = .ok (.iload_n 3, 1) := by decide +kernel
theorem dL_law_19 : decode cL_law 19 = .ok (.aload_n 0, 1) := by decide +kernel
theorem dL_law_20 : decode cL_law 20 = .ok (.arraylength, 1) := by decide +kernel
theorem dL_law_21 : decode cL_law 21 = .ok (.iconst 4, 1) := by decide +kernel
theorem dL_law_22 : decode cL_law 22 = .ok (.isub, 1) := by decide +kernel
theorem dL_law_23 : decode cL_law 23 = .ok (.if_icmp .gt 695, 3) := by decide +kernel
theorem dL_law_26 : decode cL_law 26 = .ok (.aload_n 0, 1) := by decide +kernel
theorem dL_law_27 : decode cL_law 27 = .ok (.iload_n 3, 1) := by decide +kernel
theorem dL_law_28 : decode cL_law 28 = .ok (.iaload, 1) := by decide +kernel
theorem dL_law_29 : decode cL_law 29 = .ok (.bipush 31, 2) := by decide +kernel
theorem dL_law_31 : decode cL_law 31 = .ok (.iand, 1) := by decide +kernel
theorem dL_law_32 : decode cL_law 32 = .ok (.tableswitch 680 0 28 #[132, 165, 188, 221, 264, 287, 300, 323, 346, 359, 372, 385, 408, 431, 444, 457, 470, 483, 496, 509, 532, 555, 578, 591, 604, 617, 630, 653, 666], 132) := by decide +kernel
theorem dL_law_164 : decode cL_law 164 = .ok (.aload_n 1, 1) := by decide +kernel
theorem dL_law_165 : decode cL_law 165 = .ok (.aload_n 0, 1) := by decide +kernel
theorem dL_law_166 : decode cL_law 166 = .ok (.iload_n 3, 1) := by decide +kernel
theorem dL_law_167 : decode cL_law 167 = .ok (.iconst 1, 1) := by decide +kernel
theorem dL_law_168 : decode cL_law 168 = .ok (.iadd, 1) := by decide +kernel
theorem dL_law_169 : decode cL_law 169 = .ok (.iaload, 1) := by decide +kernel
theorem dL_law_170 : decode cL_law 170 = .ok (.aload_n 0, 1) := by decide +kernel
theorem dL_law_171 : decode cL_law 171 = .ok (.iload_n 3, 1) := by decide +kernel
theorem dL_law_172 : decode cL_law 172 = .ok (.iconst 2, 1) := by decide +kernel
theorem dL_law_173 : decode cL_law 173 = .ok (.iadd, 1) := by decide +kernel
theorem dL_law_174 : decode cL_law 174 = .ok (.iaload, 1) := by decide +kernel
theorem dL_law_175 : decode cL_law 175 = .ok (.invokevirtual 13, 3) := by decide +kernel
theorem dL_law_178 : decode cL_law 178 = .ok (.aload_n 2, 1) := by decide +kernel
theorem dL_law_179 : decode cL_law 179 = .ok (.aload_n 0, 1) := by decide +kernel
theorem dL_law_180 : decode cL_law 180 = .ok (.iload_n 3, 1) := by decide +kernel
theorem dL_law_181 : decode cL_law 181 = .ok (.iconst 1, 1) := by decide +kernel
theorem dL_law_182 : decode cL_law 182 = .ok (.iadd, 1) := by decide +kernel
theorem dL_law_183 : decode cL_law 183 = .ok (.iaload, 1) := by decide +kernel
theorem dL_law_184 : decode cL_law 184 = .ok (.aload_n 0, 1) := by decide +kernel
theorem dL_law_185 : decode cL_law 185 = .ok (.iload_n 3, 1) := by decide +kernel
theorem dL_law_186 : decode cL_law 186 = .ok (.iconst 2, 1) := by decide +kernel
theorem dL_law_187 : decode cL_law 187 = .ok (.iadd, 1) := by decide +kernel
theorem dL_law_188 : decode cL_law 188 = .ok (.iaload, 1) := by decide +kernel
theorem dL_law_189 : decode cL_law 189 = .ok (.invokevirtual 17, 3) := by decide +kernel
theorem dL_law_192 : decode cL_law 192 = .ok (.if_icmp .eq 520, 3) := by decide +kernel
theorem dL_law_195 : decode cL_law 195 = .ok (.iconst 0, 1) := by decide +kernel
theorem dL_law_196 : decode cL_law 196 = .ok (.ireturn, 1) := by decide +kernel
theorem dL_law_197 : decode cL_law 197 = .ok (.aload_n 1, 1) := by decide +kernel
theorem dL_law_198 : decode cL_law 198 = .ok (.aload_n 0, 1) := by decide +kernel
theorem dL_law_199 : decode cL_law 199 = .ok (.iload_n 3, 1) := by decide +kernel
theorem dL_law_200 : decode cL_law 200 = .ok (.iconst 1, 1) := by decide +kernel
theorem dL_law_201 : decode cL_law 201 = .ok (.iadd, 1) := by decide +kernel
theorem dL_law_202 : decode cL_law 202 = .ok (.iaload, 1) := by decide +kernel
theorem dL_law_203 : decode cL_law 203 = .ok (.invokevirtual 18, 3) := by decide +kernel
theorem dL_law_206 : decode cL_law 206 = .ok (.aload_n 2, 1) := by decide +kernel
theorem dL_law_207 : decode cL_law 207 = .ok (.aload_n 0, 1) := by decide +kernel
theorem dL_law_208 : decode cL_law 208 = .ok (.iload_n 3, 1) := by decide +kernel
theorem dL_law_209 : decode cL_law 209 = .ok (.iconst 1, 1) := by decide +kernel
theorem dL_law_210 : decode cL_law 210 = .ok (.iadd, 1) := by decide +kernel
theorem dL_law_211 : decode cL_law 211 = .ok (.iaload, 1) := by decide +kernel
theorem dL_law_212 : decode cL_law 212 = .ok (.invokevirtual 22, 3) := by decide +kernel
theorem dL_law_215 : decode cL_law 215 = .ok (.if_icmp .eq 497, 3) := by decide +kernel
theorem dL_law_218 : decode cL_law 218 = .ok (.iconst 0, 1) := by decide +kernel
theorem dL_law_219 : decode cL_law 219 = .ok (.ireturn, 1) := by decide +kernel
theorem dL_law_220 : decode cL_law 220 = .ok (.aload_n 1, 1) := by decide +kernel
theorem dL_law_221 : decode cL_law 221 = .ok (.aload_n 0, 1) := by decide +kernel
theorem dL_law_222 : decode cL_law 222 = .ok (.iload_n 3, 1) := by decide +kernel
theorem dL_law_223 : decode cL_law 223 = .ok (.iconst 1, 1) := by decide +kernel
theorem dL_law_224 : decode cL_law 224 = .ok (.iadd, 1) := by decide +kernel
theorem dL_law_225 : decode cL_law 225 = .ok (.iaload, 1) := by decide +kernel
theorem dL_law_226 : decode cL_law 226 = .ok (.aload_n 0, 1) := by decide +kernel
theorem dL_law_227 : decode cL_law 227 = .ok (.iload_n 3, 1) := by decide +kernel
theorem dL_law_228 : decode cL_law 228 = .ok (.iconst 2, 1) := by decide +kernel
theorem dL_law_229 : decode cL_law 229 = .ok (.iadd, 1) := by decide +kernel
theorem dL_law_230 : decode cL_law 230 = .ok (.iaload, 1) := by decide +kernel
theorem dL_law_231 : decode cL_law 231 = .ok (.invokevirtual 23, 3) := by decide +kernel
theorem dL_law_234 : decode cL_law 234 = .ok (.aload_n 2, 1) := by decide +kernel
theorem dL_law_235 : decode cL_law 235 = .ok (.aload_n 0, 1) := by decide +kernel
theorem dL_law_236 : decode cL_law 236 = .ok (.iload_n 3, 1) := by decide +kernel
theorem dL_law_237 : decode cL_law 237 = .ok (.iconst 1, 1) := by decide +kernel
theorem dL_law_238 : decode cL_law 238 = .ok (.iadd, 1) := by decide +kernel
theorem dL_law_239 : decode cL_law 239 = .ok (.iaload, 1) := by decide +kernel
theorem dL_law_240 : decode cL_law 240 = .ok (.aload_n 0, 1) := by decide +kernel
theorem dL_law_241 : decode cL_law 241 = .ok (.iload_n 3, 1) := by decide +kernel
theorem dL_law_242 : decode cL_law 242 = .ok (.iconst 2, 1) := by decide +kernel
theorem dL_law_243 : decode cL_law 243 = .ok (.iadd, 1) := by decide +kernel
theorem dL_law_244 : decode cL_law 244 = .ok (.iaload, 1) := by decide +kernel
theorem dL_law_245 : decode cL_law 245 = .ok (.invokevirtual 26, 3) := by decide +kernel
theorem dL_law_248 : decode cL_law 248 = .ok (.if_icmp .eq 464, 3) := by decide +kernel
theorem dL_law_251 : decode cL_law 251 = .ok (.iconst 0, 1) := by decide +kernel
theorem dL_law_252 : decode cL_law 252 = .ok (.ireturn, 1) := by decide +kernel
theorem dL_law_253 : decode cL_law 253 = .ok (.aload_n 1, 1) := by decide +kernel
theorem dL_law_254 : decode cL_law 254 = .ok (.aload_n 0, 1) := by decide +kernel
theorem dL_law_255 : decode cL_law 255 = .ok (.iload_n 3, 1) := by decide +kernel
theorem dL_law_256 : decode cL_law 256 = .ok (.iconst 1, 1) := by decide +kernel
theorem dL_law_257 : decode cL_law 257 = .ok (.iadd, 1) := by decide +kernel
theorem dL_law_258 : decode cL_law 258 = .ok (.iaload, 1) := by decide +kernel
theorem dL_law_259 : decode cL_law 259 = .ok (.aload_n 0, 1) := by decide +kernel
theorem dL_law_260 : decode cL_law 260 = .ok (.iload_n 3, 1) := by decide +kernel
theorem dL_law_261 : decode cL_law 261 = .ok (.iconst 2, 1) := by decide +kernel
theorem dL_law_262 : decode cL_law 262 = .ok (.iadd, 1) := by decide +kernel
theorem dL_law_263 : decode cL_law 263 = .ok (.iaload, 1) := by decide +kernel
theorem dL_law_264 : decode cL_law 264 = .ok (.aload_n 0, 1) := by decide +kernel
theorem dL_law_265 : decode cL_law 265 = .ok (.iload_n 3, 1) := by decide +kernel
theorem dL_law_266 : decode cL_law 266 = .ok (.iconst 3, 1) := by decide +kernel
theorem dL_law_267 : decode cL_law 267 = .ok (.iadd, 1) := by decide +kernel
theorem dL_law_268 : decode cL_law 268 = .ok (.iaload, 1) := by decide +kernel
theorem dL_law_269 : decode cL_law 269 = .ok (.invokevirtual 27, 3) := by decide +kernel
theorem dL_law_272 : decode cL_law 272 = .ok (.aload_n 2, 1) := by decide +kernel
theorem dL_law_273 : decode cL_law 273 = .ok (.aload_n 0, 1) := by decide +kernel
theorem dL_law_274 : decode cL_law 274 = .ok (.iload_n 3, 1) := by decide +kernel
theorem dL_law_275 : decode cL_law 275 = .ok (.iconst 1, 1) := by decide +kernel
theorem dL_law_276 : decode cL_law 276 = .ok (.iadd, 1) := by decide +kernel
theorem dL_law_277 : decode cL_law 277 = .ok (.iaload, 1) := by decide +kernel
theorem dL_law_278 : decode cL_law 278 = .ok (.aload_n 0, 1) := by decide +kernel
theorem dL_law_279 : decode cL_law 279 = .ok (.iload_n 3, 1) := by decide +kernel
theorem dL_law_280 : decode cL_law 280 = .ok (.iconst 2, 1) := by decide +kernel
theorem dL_law_281 : decode cL_law 281 = .ok (.iadd, 1) := by decide +kernel
theorem dL_law_282 : decode cL_law 282 = .ok (.iaload, 1) := by decide +kernel
theorem dL_law_283 : decode cL_law 283 = .ok (.aload_n 0, 1) := by decide +kernel
theorem dL_law_284 : decode cL_law 284 = .ok (.iload_n 3, 1) := by decide +kernel
theorem dL_law_285 : decode cL_law 285 = .ok (.iconst 3, 1) := by decide +kernel
theorem dL_law_286 : decode cL_law 286 = .ok (.iadd, 1) := by decide +kernel
theorem dL_law_287 : decode cL_law 287 = .ok (.iaload, 1) := by decide +kernel
theorem dL_law_288 : decode cL_law 288 = .ok (.invokevirtual 31, 3) := by decide +kernel
theorem dL_law_291 : decode cL_law 291 = .ok (.if_icmp .eq 421, 3) := by decide +kernel
theorem dL_law_294 : decode cL_law 294 = .ok (.iconst 0, 1) := by decide +kernel
theorem dL_law_295 : decode cL_law 295 = .ok (.ireturn, 1) := by decide +kernel
theorem dL_law_296 : decode cL_law 296 = .ok (.aload_n 1, 1) := by decide +kernel
theorem dL_law_297 : decode cL_law 297 = .ok (.aload_n 0, 1) := by decide +kernel
theorem dL_law_298 : decode cL_law 298 = .ok (.iload_n 3, 1) := by decide +kernel
theorem dL_law_299 : decode cL_law 299 = .ok (.iconst 1, 1) := by decide +kernel
theorem dL_law_300 : decode cL_law 300 = .ok (.iadd, 1) := by decide +kernel
theorem dL_law_301 : decode cL_law 301 = .ok (.iaload, 1) := by decide +kernel
theorem dL_law_302 : decode cL_law 302 = .ok (.invokevirtual 32, 3) := by decide +kernel
theorem dL_law_305 : decode cL_law 305 = .ok (.aload_n 2, 1) := by decide +kernel
theorem dL_law_306 : decode cL_law 306 = .ok (.aload_n 0, 1) := by decide +kernel
theorem dL_law_307 : decode cL_law 307 = .ok (.iload_n 3, 1) := by decide +kernel
theorem dL_law_308 : decode cL_law 308 = .ok (.iconst 1, 1) := by decide +kernel
theorem dL_law_309 : decode cL_law 309 = .ok (.iadd, 1) := by decide +kernel
theorem dL_law_310 : decode cL_law 310 = .ok (.iaload, 1) := by decide +kernel
theorem dL_law_311 : decode cL_law 311 = .ok (.invokevirtual 35, 3) := by decide +kernel
theorem dL_law_314 : decode cL_law 314 = .ok (.if_icmp .eq 398, 3) := by decide +kernel
theorem dL_law_317 : decode cL_law 317 = .ok (.iconst 0, 1) := by decide +kernel
theorem dL_law_318 : decode cL_law 318 = .ok (.ireturn, 1) := by decide +kernel
theorem dL_law_319 : decode cL_law 319 = .ok (.aload_n 1, 1) := by decide +kernel
theorem dL_law_320 : decode cL_law 320 = .ok (.invokevirtual 36, 3) := by decide +kernel
theorem dL_law_323 : decode cL_law 323 = .ok (.aload_n 2, 1) := by decide +kernel
theorem dL_law_324 : decode cL_law 324 = .ok (.invokevirtual 40, 3) := by decide +kernel
theorem dL_law_327 : decode cL_law 327 = .ok (.if_icmp .eq 385, 3) := by decide +kernel
theorem dL_law_330 : decode cL_law 330 = .ok (.iconst 0, 1) := by decide +kernel
theorem dL_law_331 : decode cL_law 331 = .ok (.ireturn, 1) := by decide +kernel
theorem dL_law_332 : decode cL_law 332 = .ok (.aload_n 1, 1) := by decide +kernel
theorem dL_law_333 : decode cL_law 333 = .ok (.aload_n 0, 1) := by decide +kernel
theorem dL_law_334 : decode cL_law 334 = .ok (.iload_n 3, 1) := by decide +kernel
theorem dL_law_335 : decode cL_law 335 = .ok (.iconst 1, 1) := by decide +kernel
theorem dL_law_336 : decode cL_law 336 = .ok (.iadd, 1) := by decide +kernel
theorem dL_law_337 : decode cL_law 337 = .ok (.iaload, 1) := by decide +kernel
theorem dL_law_338 : decode cL_law 338 = .ok (.invokevirtual 41, 3) := by decide +kernel
theorem dL_law_341 : decode cL_law 341 = .ok (.aload_n 2, 1) := by decide +kernel
theorem dL_law_342 : decode cL_law 342 = .ok (.aload_n 0, 1) := by decide +kernel
theorem dL_law_343 : decode cL_law 343 = .ok (.iload_n 3, 1) := by decide +kernel
theorem dL_law_344 : decode cL_law 344 = .ok (.iconst 1, 1) := by decide +kernel
theorem dL_law_345 : decode cL_law 345 = .ok (.iadd, 1) := by decide +kernel
theorem dL_law_346 : decode cL_law 346 = .ok (.iaload, 1) := by decide +kernel
theorem dL_law_347 : decode cL_law 347 = .ok (.invokevirtual 44, 3) := by decide +kernel
theorem dL_law_350 : decode cL_law 350 = .ok (.if_icmp .eq 362, 3) := by decide +kernel
theorem dL_law_353 : decode cL_law 353 = .ok (.iconst 0, 1) := by decide +kernel
theorem dL_law_354 : decode cL_law 354 = .ok (.ireturn, 1) := by decide +kernel
theorem dL_law_355 : decode cL_law 355 = .ok (.aload_n 1, 1) := by decide +kernel
theorem dL_law_356 : decode cL_law 356 = .ok (.aload_n 0, 1) := by decide +kernel
theorem dL_law_357 : decode cL_law 357 = .ok (.iload_n 3, 1) := by decide +kernel
theorem dL_law_358 : decode cL_law 358 = .ok (.iconst 1, 1) := by decide +kernel
theorem dL_law_359 : decode cL_law 359 = .ok (.iadd, 1) := by decide +kernel
theorem dL_law_360 : decode cL_law 360 = .ok (.iaload, 1) := by decide +kernel
theorem dL_law_361 : decode cL_law 361 = .ok (.invokevirtual 45, 3) := by decide +kernel
theorem dL_law_364 : decode cL_law 364 = .ok (.aload_n 2, 1) := by decide +kernel
theorem dL_law_365 : decode cL_law 365 = .ok (.aload_n 0, 1) := by decide +kernel
theorem dL_law_366 : decode cL_law 366 = .ok (.iload_n 3, 1) := by decide +kernel
theorem dL_law_367 : decode cL_law 367 = .ok (.iconst 1, 1) := by decide +kernel
theorem dL_law_368 : decode cL_law 368 = .ok (.iadd, 1) := by decide +kernel
theorem dL_law_369 : decode cL_law 369 = .ok (.iaload, 1) := by decide +kernel
theorem dL_law_370 : decode cL_law 370 = .ok (.invokevirtual 48, 3) := by decide +kernel
theorem dL_law_373 : decode cL_law 373 = .ok (.if_icmp .eq 339, 3) := by decide +kernel
theorem dL_law_376 : decode cL_law 376 = .ok (.iconst 0, 1) := by decide +kernel
theorem dL_law_377 : decode cL_law 377 = .ok (.ireturn, 1) := by decide +kernel
theorem dL_law_378 : decode cL_law 378 = .ok (.aload_n 1, 1) := by decide +kernel
theorem dL_law_379 : decode cL_law 379 = .ok (.invokevirtual 49, 3) := by decide +kernel
theorem dL_law_382 : decode cL_law 382 = .ok (.aload_n 2, 1) := by decide +kernel
theorem dL_law_383 : decode cL_law 383 = .ok (.invokevirtual 52, 3) := by decide +kernel
theorem dL_law_386 : decode cL_law 386 = .ok (.if_icmp .eq 326, 3) := by decide +kernel
theorem dL_law_389 : decode cL_law 389 = .ok (.iconst 0, 1) := by decide +kernel
theorem dL_law_390 : decode cL_law 390 = .ok (.ireturn, 1) := by decide +kernel
theorem dL_law_391 : decode cL_law 391 = .ok (.aload_n 1, 1) := by decide +kernel
theorem dL_law_392 : decode cL_law 392 = .ok (.invokevirtual 53, 3) := by decide +kernel
theorem dL_law_395 : decode cL_law 395 = .ok (.aload_n 2, 1) := by decide +kernel
theorem dL_law_396 : decode cL_law 396 = .ok (.invokevirtual 56, 3) := by decide +kernel
theorem dL_law_399 : decode cL_law 399 = .ok (.if_icmp .eq 313, 3) := by decide +kernel
theorem dL_law_402 : decode cL_law 402 = .ok (.iconst 0, 1) := by decide +kernel
theorem dL_law_403 : decode cL_law 403 = .ok (.ireturn, 1) := by decide +kernel
theorem dL_law_404 : decode cL_law 404 = .ok (.aload_n 1, 1) := by decide +kernel
theorem dL_law_405 : decode cL_law 405 = .ok (.invokevirtual 57, 3) := by decide +kernel
theorem dL_law_408 : decode cL_law 408 = .ok (.aload_n 2, 1) := by decide +kernel
theorem dL_law_409 : decode cL_law 409 = .ok (.invokevirtual 60, 3) := by decide +kernel
theorem dL_law_412 : decode cL_law 412 = .ok (.if_icmp .eq 300, 3) := by decide +kernel
theorem dL_law_415 : decode cL_law 415 = .ok (.iconst 0, 1) := by decide +kernel
theorem dL_law_416 : decode cL_law 416 = .ok (.ireturn, 1) := by decide +kernel
theorem dL_law_417 : decode cL_law 417 = .ok (.aload_n 1, 1) := by decide +kernel
theorem dL_law_418 : decode cL_law 418 = .ok (.aload_n 0, 1) := by decide +kernel
theorem dL_law_419 : decode cL_law 419 = .ok (.iload_n 3, 1) := by decide +kernel
theorem dL_law_420 : decode cL_law 420 = .ok (.iconst 1, 1) := by decide +kernel
theorem dL_law_421 : decode cL_law 421 = .ok (.iadd, 1) := by decide +kernel
theorem dL_law_422 : decode cL_law 422 = .ok (.iaload, 1) := by decide +kernel
theorem dL_law_423 : decode cL_law 423 = .ok (.invokevirtual 61, 3) := by decide +kernel
theorem dL_law_426 : decode cL_law 426 = .ok (.aload_n 2, 1) := by decide +kernel
theorem dL_law_427 : decode cL_law 427 = .ok (.aload_n 0, 1) := by decide +kernel
theorem dL_law_428 : decode cL_law 428 = .ok (.iload_n 3, 1) := by decide +kernel
theorem dL_law_429 : decode cL_law 429 = .ok (.iconst 1, 1) := by decide +kernel
theorem dL_law_430 : decode cL_law 430 = .ok (.iadd, 1) := by decide +kernel
theorem dL_law_431 : decode cL_law 431 = .ok (.iaload, 1) := by decide +kernel
theorem dL_law_432 : decode cL_law 432 = .ok (.invokevirtual 64, 3) := by decide +kernel
theorem dL_law_435 : decode cL_law 435 = .ok (.if_icmp .eq 277, 3) := by decide +kernel
theorem dL_law_438 : decode cL_law 438 = .ok (.iconst 0, 1) := by decide +kernel
theorem dL_law_439 : decode cL_law 439 = .ok (.ireturn, 1) := by decide +kernel
theorem dL_law_440 : decode cL_law 440 = .ok (.aload_n 1, 1) := by decide +kernel
theorem dL_law_441 : decode cL_law 441 = .ok (.aload_n 0, 1) := by decide +kernel
theorem dL_law_442 : decode cL_law 442 = .ok (.iload_n 3, 1) := by decide +kernel
theorem dL_law_443 : decode cL_law 443 = .ok (.iconst 1, 1) := by decide +kernel
theorem dL_law_444 : decode cL_law 444 = .ok (.iadd, 1) := by decide +kernel
theorem dL_law_445 : decode cL_law 445 = .ok (.iaload, 1) := by decide +kernel
theorem dL_law_446 : decode cL_law 446 = .ok (.invokevirtual 65, 3) := by decide +kernel
theorem dL_law_449 : decode cL_law 449 = .ok (.aload_n 2, 1) := by decide +kernel
theorem dL_law_450 : decode cL_law 450 = .ok (.aload_n 0, 1) := by decide +kernel
theorem dL_law_451 : decode cL_law 451 = .ok (.iload_n 3, 1) := by decide +kernel
theorem dL_law_452 : decode cL_law 452 = .ok (.iconst 1, 1) := by decide +kernel
theorem dL_law_453 : decode cL_law 453 = .ok (.iadd, 1) := by decide +kernel
theorem dL_law_454 : decode cL_law 454 = .ok (.iaload, 1) := by decide +kernel
theorem dL_law_455 : decode cL_law 455 = .ok (.invokevirtual 68, 3) := by decide +kernel
theorem dL_law_458 : decode cL_law 458 = .ok (.if_icmp .eq 254, 3) := by decide +kernel
theorem dL_law_461 : decode cL_law 461 = .ok (.iconst 0, 1) := by decide +kernel
theorem dL_law_462 : decode cL_law 462 = .ok (.ireturn, 1) := by decide +kernel
theorem dL_law_463 : decode cL_law 463 = .ok (.aload_n 1, 1) := by decide +kernel
theorem dL_law_464 : decode cL_law 464 = .ok (.invokevirtual 69, 3) := by decide +kernel
theorem dL_law_467 : decode cL_law 467 = .ok (.aload_n 2, 1) := by decide +kernel
theorem dL_law_468 : decode cL_law 468 = .ok (.invokevirtual 72, 3) := by decide +kernel
theorem dL_law_471 : decode cL_law 471 = .ok (.if_icmp .eq 241, 3) := by decide +kernel
theorem dL_law_474 : decode cL_law 474 = .ok (.iconst 0, 1) := by decide +kernel
theorem dL_law_475 : decode cL_law 475 = .ok (.ireturn, 1) := by decide +kernel
theorem dL_law_476 : decode cL_law 476 = .ok (.aload_n 1, 1) := by decide +kernel
theorem dL_law_477 : decode cL_law 477 = .ok (.invokevirtual 73, 3) := by decide +kernel
theorem dL_law_480 : decode cL_law 480 = .ok (.aload_n 2, 1) := by decide +kernel
theorem dL_law_481 : decode cL_law 481 = .ok (.invokevirtual 76, 3) := by decide +kernel
theorem dL_law_484 : decode cL_law 484 = .ok (.if_icmp .eq 228, 3) := by decide +kernel
theorem dL_law_487 : decode cL_law 487 = .ok (.iconst 0, 1) := by decide +kernel
theorem dL_law_488 : decode cL_law 488 = .ok (.ireturn, 1) := by decide +kernel
theorem dL_law_489 : decode cL_law 489 = .ok (.aload_n 1, 1) := by decide +kernel
theorem dL_law_490 : decode cL_law 490 = .ok (.invokevirtual 77, 3) := by decide +kernel
theorem dL_law_493 : decode cL_law 493 = .ok (.aload_n 2, 1) := by decide +kernel
theorem dL_law_494 : decode cL_law 494 = .ok (.invokevirtual 80, 3) := by decide +kernel
theorem dL_law_497 : decode cL_law 497 = .ok (.if_icmp .eq 215, 3) := by decide +kernel
theorem dL_law_500 : decode cL_law 500 = .ok (.iconst 0, 1) := by decide +kernel
theorem dL_law_501 : decode cL_law 501 = .ok (.ireturn, 1) := by decide +kernel
theorem dL_law_502 : decode cL_law 502 = .ok (.aload_n 1, 1) := by decide +kernel
theorem dL_law_503 : decode cL_law 503 = .ok (.invokevirtual 81, 3) := by decide +kernel
theorem dL_law_506 : decode cL_law 506 = .ok (.aload_n 2, 1) := by decide +kernel
theorem dL_law_507 : decode cL_law 507 = .ok (.invokevirtual 84, 3) := by decide +kernel
theorem dL_law_510 : decode cL_law 510 = .ok (.if_icmp .eq 202, 3) := by decide +kernel
theorem dL_law_513 : decode cL_law 513 = .ok (.iconst 0, 1) := by decide +kernel
theorem dL_law_514 : decode cL_law 514 = .ok (.ireturn, 1) := by decide +kernel
theorem dL_law_515 : decode cL_law 515 = .ok (.aload_n 1, 1) := by decide +kernel
theorem dL_law_516 : decode cL_law 516 = .ok (.invokevirtual 85, 3) := by decide +kernel
theorem dL_law_519 : decode cL_law 519 = .ok (.aload_n 2, 1) := by decide +kernel
theorem dL_law_520 : decode cL_law 520 = .ok (.invokevirtual 88, 3) := by decide +kernel
theorem dL_law_523 : decode cL_law 523 = .ok (.if_icmp .eq 189, 3) := by decide +kernel
theorem dL_law_526 : decode cL_law 526 = .ok (.iconst 0, 1) := by decide +kernel
theorem dL_law_527 : decode cL_law 527 = .ok (.ireturn, 1) := by decide +kernel
theorem dL_law_528 : decode cL_law 528 = .ok (.aload_n 1, 1) := by decide +kernel
theorem dL_law_529 : decode cL_law 529 = .ok (.invokevirtual 89, 3) := by decide +kernel
theorem dL_law_532 : decode cL_law 532 = .ok (.aload_n 2, 1) := by decide +kernel
theorem dL_law_533 : decode cL_law 533 = .ok (.invokevirtual 92, 3) := by decide +kernel
theorem dL_law_536 : decode cL_law 536 = .ok (.if_icmp .eq 176, 3) := by decide +kernel
theorem dL_law_539 : decode cL_law 539 = .ok (.iconst 0, 1) := by decide +kernel
theorem dL_law_540 : decode cL_law 540 = .ok (.ireturn, 1) := by decide +kernel
theorem dL_law_541 : decode cL_law 541 = .ok (.aload_n 1, 1) := by decide +kernel
theorem dL_law_542 : decode cL_law 542 = .ok (.aload_n 0, 1) := by decide +kernel
theorem dL_law_543 : decode cL_law 543 = .ok (.iload_n 3, 1) := by decide +kernel
theorem dL_law_544 : decode cL_law 544 = .ok (.iconst 1, 1) := by decide +kernel
theorem dL_law_545 : decode cL_law 545 = .ok (.iadd, 1) := by decide +kernel
theorem dL_law_546 : decode cL_law 546 = .ok (.iaload, 1) := by decide +kernel
theorem dL_law_547 : decode cL_law 547 = .ok (.invokevirtual 93, 3) := by decide +kernel
theorem dL_law_550 : decode cL_law 550 = .ok (.aload_n 2, 1) := by decide +kernel
theorem dL_law_551 : decode cL_law 551 = .ok (.aload_n 0, 1) := by decide +kernel
theorem dL_law_552 : decode cL_law 552 = .ok (.iload_n 3, 1) := by decide +kernel
theorem dL_law_553 : decode cL_law 553 = .ok (.iconst 1, 1) := by decide +kernel
theorem dL_law_554 : decode cL_law 554 = .ok (.iadd, 1) := by decide +kernel
theorem dL_law_555 : decode cL_law 555 = .ok (.iaload, 1) := by decide +kernel
theorem dL_law_556 : decode cL_law 556 = .ok (.invokevirtual 96, 3) := by decide +kernel
theorem dL_law_559 : decode cL_law 559 = .ok (.if_icmp .eq 153, 3) := by decide +kernel
theorem dL_law_562 : decode cL_law 562 = .ok (.iconst 0, 1) := by decide +kernel
theorem dL_law_563 : decode cL_law 563 = .ok (.ireturn, 1) := by decide +kernel
theorem dL_law_564 : decode cL_law 564 = .ok (.aload_n 1, 1) := by decide +kernel
theorem dL_law_565 : decode cL_law 565 = .ok (.aload_n 0, 1) := by decide +kernel
theorem dL_law_566 : decode cL_law 566 = .ok (.iload_n 3, 1) := by decide +kernel
theorem dL_law_567 : decode cL_law 567 = .ok (.iconst 1, 1) := by decide +kernel
theorem dL_law_568 : decode cL_law 568 = .ok (.iadd, 1) := by decide +kernel
theorem dL_law_569 : decode cL_law 569 = .ok (.iaload, 1) := by decide +kernel
theorem dL_law_570 : decode cL_law 570 = .ok (.invokevirtual 97, 3) := by decide +kernel
theorem dL_law_573 : decode cL_law 573 = .ok (.aload_n 2, 1) := by decide +kernel
theorem dL_law_574 : decode cL_law 574 = .ok (.aload_n 0, 1) := by decide +kernel
theorem dL_law_575 : decode cL_law 575 = .ok (.iload_n 3, 1) := by decide +kernel
theorem dL_law_576 : decode cL_law 576 = .ok (.iconst 1, 1) := by decide +kernel
theorem dL_law_577 : decode cL_law 577 = .ok (.iadd, 1) := by decide +kernel
theorem dL_law_578 : decode cL_law 578 = .ok (.iaload, 1) := by decide +kernel
theorem dL_law_579 : decode cL_law 579 = .ok (.invokevirtual 100, 3) := by decide +kernel
theorem dL_law_582 : decode cL_law 582 = .ok (.if_icmp .eq 130, 3) := by decide +kernel
theorem dL_law_585 : decode cL_law 585 = .ok (.iconst 0, 1) := by decide +kernel
theorem dL_law_586 : decode cL_law 586 = .ok (.ireturn, 1) := by decide +kernel
theorem dL_law_587 : decode cL_law 587 = .ok (.aload_n 1, 1) := by decide +kernel
theorem dL_law_588 : decode cL_law 588 = .ok (.aload_n 0, 1) := by decide +kernel
theorem dL_law_589 : decode cL_law 589 = .ok (.iload_n 3, 1) := by decide +kernel
theorem dL_law_590 : decode cL_law 590 = .ok (.iconst 1, 1) := by decide +kernel
theorem dL_law_591 : decode cL_law 591 = .ok (.iadd, 1) := by decide +kernel
theorem dL_law_592 : decode cL_law 592 = .ok (.iaload, 1) := by decide +kernel
theorem dL_law_593 : decode cL_law 593 = .ok (.invokevirtual 101, 3) := by decide +kernel
theorem dL_law_596 : decode cL_law 596 = .ok (.aload_n 2, 1) := by decide +kernel
theorem dL_law_597 : decode cL_law 597 = .ok (.aload_n 0, 1) := by decide +kernel
theorem dL_law_598 : decode cL_law 598 = .ok (.iload_n 3, 1) := by decide +kernel
theorem dL_law_599 : decode cL_law 599 = .ok (.iconst 1, 1) := by decide +kernel
theorem dL_law_600 : decode cL_law 600 = .ok (.iadd, 1) := by decide +kernel
theorem dL_law_601 : decode cL_law 601 = .ok (.iaload, 1) := by decide +kernel
theorem dL_law_602 : decode cL_law 602 = .ok (.invokevirtual 104, 3) := by decide +kernel
theorem dL_law_605 : decode cL_law 605 = .ok (.if_icmp .eq 107, 3) := by decide +kernel
theorem dL_law_608 : decode cL_law 608 = .ok (.iconst 0, 1) := by decide +kernel
theorem dL_law_609 : decode cL_law 609 = .ok (.ireturn, 1) := by decide +kernel
theorem dL_law_610 : decode cL_law 610 = .ok (.aload_n 1, 1) := by decide +kernel
theorem dL_law_611 : decode cL_law 611 = .ok (.invokevirtual 105, 3) := by decide +kernel
theorem dL_law_614 : decode cL_law 614 = .ok (.aload_n 2, 1) := by decide +kernel
theorem dL_law_615 : decode cL_law 615 = .ok (.invokevirtual 108, 3) := by decide +kernel
theorem dL_law_618 : decode cL_law 618 = .ok (.if_icmp .eq 94, 3) := by decide +kernel
theorem dL_law_621 : decode cL_law 621 = .ok (.iconst 0, 1) := by decide +kernel
theorem dL_law_622 : decode cL_law 622 = .ok (.ireturn, 1) := by decide +kernel
theorem dL_law_623 : decode cL_law 623 = .ok (.aload_n 1, 1) := by decide +kernel
theorem dL_law_624 : decode cL_law 624 = .ok (.invokevirtual 109, 3) := by decide +kernel
theorem dL_law_627 : decode cL_law 627 = .ok (.aload_n 2, 1) := by decide +kernel
theorem dL_law_628 : decode cL_law 628 = .ok (.invokevirtual 112, 3) := by decide +kernel
theorem dL_law_631 : decode cL_law 631 = .ok (.if_icmp .eq 81, 3) := by decide +kernel
theorem dL_law_634 : decode cL_law 634 = .ok (.iconst 0, 1) := by decide +kernel
theorem dL_law_635 : decode cL_law 635 = .ok (.ireturn, 1) := by decide +kernel
theorem dL_law_636 : decode cL_law 636 = .ok (.aload_n 1, 1) := by decide +kernel
theorem dL_law_637 : decode cL_law 637 = .ok (.invokevirtual 113, 3) := by decide +kernel
theorem dL_law_640 : decode cL_law 640 = .ok (.aload_n 2, 1) := by decide +kernel
theorem dL_law_641 : decode cL_law 641 = .ok (.invokevirtual 116, 3) := by decide +kernel
theorem dL_law_644 : decode cL_law 644 = .ok (.if_icmp .eq 68, 3) := by decide +kernel
theorem dL_law_647 : decode cL_law 647 = .ok (.iconst 0, 1) := by decide +kernel
theorem dL_law_648 : decode cL_law 648 = .ok (.ireturn, 1) := by decide +kernel
theorem dL_law_649 : decode cL_law 649 = .ok (.aload_n 1, 1) := by decide +kernel
theorem dL_law_650 : decode cL_law 650 = .ok (.invokevirtual 117, 3) := by decide +kernel
theorem dL_law_653 : decode cL_law 653 = .ok (.aload_n 2, 1) := by decide +kernel
theorem dL_law_654 : decode cL_law 654 = .ok (.invokevirtual 120, 3) := by decide +kernel
theorem dL_law_657 : decode cL_law 657 = .ok (.if_icmp .eq 55, 3) := by decide +kernel
theorem dL_law_660 : decode cL_law 660 = .ok (.iconst 0, 1) := by decide +kernel
theorem dL_law_661 : decode cL_law 661 = .ok (.ireturn, 1) := by decide +kernel
theorem dL_law_662 : decode cL_law 662 = .ok (.aload_n 1, 1) := by decide +kernel
theorem dL_law_663 : decode cL_law 663 = .ok (.aload_n 0, 1) := by decide +kernel
theorem dL_law_664 : decode cL_law 664 = .ok (.iload_n 3, 1) := by decide +kernel
theorem dL_law_665 : decode cL_law 665 = .ok (.iconst 1, 1) := by decide +kernel
theorem dL_law_666 : decode cL_law 666 = .ok (.iadd, 1) := by decide +kernel
theorem dL_law_667 : decode cL_law 667 = .ok (.iaload, 1) := by decide +kernel
theorem dL_law_668 : decode cL_law 668 = .ok (.invokevirtual 121, 3) := by decide +kernel
theorem dL_law_671 : decode cL_law 671 = .ok (.aload_n 2, 1) := by decide +kernel
theorem dL_law_672 : decode cL_law 672 = .ok (.aload_n 0, 1) := by decide +kernel
theorem dL_law_673 : decode cL_law 673 = .ok (.iload_n 3, 1) := by decide +kernel
theorem dL_law_674 : decode cL_law 674 = .ok (.iconst 1, 1) := by decide +kernel
theorem dL_law_675 : decode cL_law 675 = .ok (.iadd, 1) := by decide +kernel
theorem dL_law_676 : decode cL_law 676 = .ok (.iaload, 1) := by decide +kernel
theorem dL_law_677 : decode cL_law 677 = .ok (.invokevirtual 124, 3) := by decide +kernel
theorem dL_law_680 : decode cL_law 680 = .ok (.if_icmp .eq 32, 3) := by decide +kernel
theorem dL_law_683 : decode cL_law 683 = .ok (.iconst 0, 1) := by decide +kernel
theorem dL_law_684 : decode cL_law 684 = .ok (.ireturn, 1) := by decide +kernel
theorem dL_law_685 : decode cL_law 685 = .ok (.aload_n 1, 1) := by decide +kernel
theorem dL_law_686 : decode cL_law 686 = .ok (.invokevirtual 125, 3) := by decide +kernel
theorem dL_law_689 : decode cL_law 689 = .ok (.aload_n 2, 1) := by decide +kernel
theorem dL_law_690 : decode cL_law 690 = .ok (.invokevirtual 128, 3) := by decide +kernel
theorem dL_law_693 : decode cL_law 693 = .ok (.if_icmp .eq 19, 3) := by decide +kernel
theorem dL_law_696 : decode cL_law 696 = .ok (.iconst 0, 1) := by decide +kernel
theorem dL_law_697 : decode cL_law 697 = .ok (.ireturn, 1) := by decide +kernel
theorem dL_law_698 : decode cL_law 698 = .ok (.aload_n 1, 1) := by decide +kernel
theorem dL_law_699 : decode cL_law 699 = .ok (.invokevirtual 129, 3) := by decide +kernel
theorem dL_law_702 : decode cL_law 702 = .ok (.aload_n 2, 1) := by decide +kernel
theorem dL_law_703 : decode cL_law 703 = .ok (.invokevirtual 133, 3) := by decide +kernel
theorem dL_law_706 : decode cL_law 706 = .ok (.lcmp, 1) := by decide +kernel
theorem dL_law_707 : decode cL_law 707 = .ok (.ifCond .eq 5, 3) := by decide +kernel
theorem dL_law_710 : decode cL_law 710 = .ok (.iconst 0, 1) := by decide +kernel
theorem dL_law_711 : decode cL_law 711 = .ok (.ireturn, 1) := by decide +kernel
theorem dL_law_712 : decode cL_law 712 = .ok (.iinc 3 4, 3) := by decide +kernel
theorem dL_law_715 : decode cL_law 715 = .ok (.goto (-697), 3) := by decide +kernel
theorem dL_law_718 : decode cL_law 718 = .ok (.iconst 1, 1) := by decide +kernel
theorem dL_law_719 : decode cL_law 719 = .ok (.ireturn, 1) := by decide +kernel
