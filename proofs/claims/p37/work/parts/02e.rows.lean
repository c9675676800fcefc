theorem dX7_plausibility_21 : decode cX7_plausibility 21 = .ok (.dreturn, 1) := by decide +kernel
theorem dX7_doubtfulWith_0 : decode cX7_doubtfulWith 0 = .ok (.iload_n 1, 1) := by decide +kernel
theorem dX7_doubtfulWith_1 : decode cX7_doubtfulWith 1 = .ok (.ifCond .lt 11, 3) := by decide +kernel
theorem dX7_doubtfulWith_4 : decode cX7_doubtfulWith 4 = .ok (.iload_n 1, 1) := by decide +kernel
theorem dX7_doubtfulWith_5 : decode cX7_doubtfulWith 5 = .ok (.aload_n 0, 1) := by decide +kernel
theorem dX7_doubtfulWith_6 : decode cX7_doubtfulWith 6 = .ok (.invokevirtual 92, 3) := by decide +kernel
theorem dX7_doubtfulWith_9 : decode cX7_doubtfulWith 9 = .ok (.if_icmp .le 13, 3) := by decide +kernel
theorem dX7_doubtfulWith_12 : decode cX7_doubtfulWith 12 = .ok (.new 109, 3) := by decide +kernel
theorem dX7_doubtfulWith_15 : decode cX7_doubtfulWith 15 = .ok (.dup, 1) := by decide +kernel
theorem dX7_doubtfulWith_16 : decode cX7_doubtfulWith 16 = .ok (.ldc 218, 2) := by decide +kernel
theorem dX7_doubtfulWith_18 : decode cX7_doubtfulWith 18 = .ok (.invokespecial 113, 3) := by decide +kernel
theorem dX7_doubtfulWith_21 : decode cX7_doubtfulWith 21 = .ok (.athrow, 1) := by decide +kernel
theorem dX7_doubtfulWith_22 : decode cX7_doubtfulWith 22 = .ok (.iload_n 2, 1) := by decide +kernel
theorem dX7_doubtfulWith_23 : decode cX7_doubtfulWith 23 = .ok (.bipush 30, 2) := by decide +kernel
theorem dX7_doubtfulWith_25 : decode cX7_doubtfulWith 25 = .ok (.if_icmp .eq 19, 3) := by decide +kernel
theorem dX7_doubtfulWith_28 : decode cX7_doubtfulWith 28 = .ok (.iload_n 2, 1) := by decide +kernel
theorem dX7_doubtfulWith_29 : decode cX7_doubtfulWith 29 = .ok (.bipush 31, 2) := by decide +kernel
theorem dX7_doubtfulWith_31 : decode cX7_doubtfulWith 31 = .ok (.if_icmp .eq 13, 3) := by decide +kernel
theorem dX7_doubtfulWith_34 : decode cX7_doubtfulWith 34 = .ok (.new 52, 3) := by decide +kernel
theorem dX7_doubtfulWith_37 : decode cX7_doubtfulWith 37 = .ok (.dup, 1) := by decide +kernel
theorem dX7_doubtfulWith_38 : decode cX7_doubtfulWith 38 = .ok (.ldc 220, 2) := by decide +kernel
theorem dX7_doubtfulWith_40 : decode cX7_doubtfulWith 40 = .ok (.invokespecial 56, 3) := by decide +kernel
theorem dX7_doubtfulWith_43 : decode cX7_doubtfulWith 43 = .ok (.athrow, 1) := by decide +kernel
theorem dX7_doubtfulWith_44 : decode cX7_doubtfulWith 44 = .ok (.aload_n 0, 1) := by decide +kernel
theorem dX7_doubtfulWith_45 : decode cX7_doubtfulWith 45 = .ok (.invokevirtual 215, 3) := by decide +kernel
theorem dX7_doubtfulWith_48 : decode cX7_doubtfulWith 48 = .ok (.aload_n 0, 1) := by decide +kernel
theorem dX7_doubtfulWith_49 : decode cX7_doubtfulWith 49 = .ok (.iload_n 1, 1) := by decide +kernel
theorem dX7_doubtfulWith_50 : decode cX7_doubtfulWith 50 = .ok (.invokevirtual 222, 3) := by decide +kernel
theorem dX7_doubtfulWith_53 : decode cX7_doubtfulWith 53 = .ok (.iadd, 1) := by decide +kernel
theorem dX7_doubtfulWith_54 : decode cX7_doubtfulWith 54 = .ok (.ireturn, 1) := by decide +kernel
theorem dX7_bestRepair_0 : decode cX7_bestRepair 0 = .ok (.iconst 0, 1) := by decide +kernel
theorem dX7_bestRepair_1 : decode cX7_bestRepair 1 = .ok (.istore_n 1, 1) := by decide +kernel
theorem dX7_bestRepair_2 : decode cX7_bestRepair 2 = .ok (.iload_n 1, 1) := by decide +kernel
theorem dX7_bestRepair_3 : decode cX7_bestRepair 3 = .ok (.aload_n 0, 1) := by decide +kernel
theorem dX7_bestRepair_4 : decode cX7_bestRepair 4 = .ok (.invokevirtual 212, 3) := by decide +kernel
theorem dX7_bestRepair_7 : decode cX7_bestRepair 7 = .ok (.if_icmp .ge 79, 3) := by decide +kernel
theorem dX7_bestRepair_10 : decode cX7_bestRepair 10 = .ok (.aload_n 0, 1) := by decide +kernel
theorem dX7_bestRepair_11 : decode cX7_bestRepair 11 = .ok (.getfield 35, 3) := by decide +kernel
theorem dX7_bestRepair_14 : decode cX7_bestRepair 14 = .ok (.getfield 186, 3) := by decide +kernel
theorem dX7_bestRepair_17 : decode cX7_bestRepair 17 = .ok (.iload_n 1, 1) := by decide +kernel
theorem dX7_bestRepair_18 : decode cX7_bestRepair 18 = .ok (.invokevirtual 116, 3) := by decide +kernel
theorem dX7_bestRepair_21 : decode cX7_bestRepair 21 = .ok (.iconst 4, 1) := by decide +kernel
theorem dX7_bestRepair_22 : decode cX7_bestRepair 22 = .ok (.if_icmp .lt 58, 3) := by decide +kernel
theorem dX7_bestRepair_25 : decode cX7_bestRepair 25 = .ok (.aload_n 0, 1) := by decide +kernel
theorem dX7_bestRepair_26 : decode cX7_bestRepair 26 = .ok (.getfield 35, 3) := by decide +kernel
theorem dX7_bestRepair_29 : decode cX7_bestRepair 29 = .ok (.getfield 225, 3) := by decide +kernel
theorem dX7_bestRepair_32 : decode cX7_bestRepair 32 = .ok (.iload_n 1, 1) := by decide +kernel
theorem dX7_bestRepair_33 : decode cX7_bestRepair 33 = .ok (.invokevirtual 116, 3) := by decide +kernel
theorem dX7_bestRepair_36 : decode cX7_bestRepair 36 = .ok (.istore_n 2, 1) := by decide +kernel
theorem dX7_bestRepair_37 : decode cX7_bestRepair 37 = .ok (.iload_n 2, 1) := by decide +kernel
theorem dX7_bestRepair_38 : decode cX7_bestRepair 38 = .ok (.aload_n 0, 1) := by decide +kernel
theorem dX7_bestRepair_39 : decode cX7_bestRepair 39 = .ok (.getfield 35, 3) := by decide +kernel
theorem dX7_bestRepair_42 : decode cX7_bestRepair 42 = .ok (.getfield 189, 3) := by decide +kernel
theorem dX7_bestRepair_45 : decode cX7_bestRepair 45 = .ok (.iload_n 1, 1) := by decide +kernel
theorem dX7_bestRepair_46 : decode cX7_bestRepair 46 = .ok (.invokevirtual 116, 3) := by decide +kernel
theorem dX7_bestRepair_49 : decode cX7_bestRepair 49 = .ok (.iadd, 1) := by decide +kernel
theorem dX7_bestRepair_50 : decode cX7_bestRepair 50 = .ok (.istore_n 3, 1) := by decide +kernel
theorem dX7_bestRepair_51 : decode cX7_bestRepair 51 = .ok (.aload_n 0, 1) := by decide +kernel
theorem dX7_bestRepair_52 : decode cX7_bestRepair 52 = .ok (.getfield 28, 3) := by decide +kernel
theorem dX7_bestRepair_55 : decode cX7_bestRepair 55 = .ok (.aload_n 0, 1) := by decide +kernel
theorem dX7_bestRepair_56 : decode cX7_bestRepair 56 = .ok (.getfield 21, 3) := by decide +kernel
theorem dX7_bestRepair_59 : decode cX7_bestRepair 59 = .ok (.getfield 126, 3) := by decide +kernel
theorem dX7_bestRepair_62 : decode cX7_bestRepair 62 = .ok (.iload_n 2, 1) := by decide +kernel
theorem dX7_bestRepair_63 : decode cX7_bestRepair 63 = .ok (.iload_n 3, 1) := by decide +kernel
theorem dX7_bestRepair_64 : decode cX7_bestRepair 64 = .ok (.invokevirtual 228, 3) := by decide +kernel
theorem dX7_bestRepair_67 : decode cX7_bestRepair 67 = .ok (.istore 4, 2) := by decide +kernel
theorem dX7_bestRepair_69 : decode cX7_bestRepair 69 = .ok (.iload 4, 2) := by decide +kernel
theorem dX7_bestRepair_71 : decode cX7_bestRepair 71 = .ok (.iconst (-1), 1) := by decide +kernel
theorem dX7_bestRepair_72 : decode cX7_bestRepair 72 = .ok (.if_icmp .eq 8, 3) := by decide +kernel
theorem dX7_bestRepair_75 : decode cX7_bestRepair 75 = .ok (.iconst 2, 1) := by decide +kernel
theorem dX7_bestRepair_76 : decode cX7_bestRepair 76 = .ok (.iload 4, 2) := by decide +kernel
theorem dX7_bestRepair_78 : decode cX7_bestRepair 78 = .ok (.imul, 1) := by decide +kernel
theorem dX7_bestRepair_79 : decode cX7_bestRepair 79 = .ok (.ireturn, 1) := by decide +kernel
theorem dX7_bestRepair_80 : decode cX7_bestRepair 80 = .ok (.iinc 1 1, 3) := by decide +kernel
theorem dX7_bestRepair_83 : decode cX7_bestRepair 83 = .ok (.goto (-81), 3) := by decide +kernel
theorem dX7_bestRepair_86 : decode cX7_bestRepair 86 = .ok (.iconst (-1), 1) := by decide +kernel
theorem dX7_bestRepair_87 : decode cX7_bestRepair 87 = .ok (.ireturn, 1) := by decide +kernel
theorem dX7_changeByCut_0 : decode cX7_changeByCut 0 = .ok (.aload_n 0, 1) := by decide +kernel
theorem dX7_changeByCut_1 : decode cX7_changeByCut 1 = .ok (.getfield 21, 3) := by decide +kernel
theorem dX7_changeByCut_4 : decode cX7_changeByCut 4 = .ok (.getfield 126, 3) := by decide +kernel
theorem dX7_changeByCut_7 : decode cX7_changeByCut 7 = .ok (.astore_n 2, 1) := by decide +kernel
theorem dX7_changeByCut_8 : decode cX7_changeByCut 8 = .ok (.aload_n 2, 1) := by decide +kernel
theorem dX7_changeByCut_9 : decode cX7_changeByCut 9 = .ok (.iload_n 1, 1) := by decide +kernel
theorem dX7_changeByCut_10 : decode cX7_changeByCut 10 = .ok (.invokestatic 232, 3) := by decide +kernel
theorem dX7_changeByCut_13 : decode cX7_changeByCut 13 = .ok (.istore_n 3, 1) := by decide +kernel
theorem dX7_changeByCut_14 : decode cX7_changeByCut 14 = .ok (.aload_n 2, 1) := by decide +kernel
theorem dX7_changeByCut_15 : decode cX7_changeByCut 15 = .ok (.iload_n 1, 1) := by decide +kernel
theorem dX7_changeByCut_16 : decode cX7_changeByCut 16 = .ok (.invokestatic 236, 3) := by decide +kernel
theorem dX7_changeByCut_19 : decode cX7_changeByCut 19 = .ok (.istore 4, 2) := by decide +kernel
theorem dX7_changeByCut_21 : decode cX7_changeByCut 21 = .ok (.iload_n 3, 1) := by decide +kernel
theorem dX7_changeByCut_22 : decode cX7_changeByCut 22 = .ok (.iload_n 1, 1) := by decide +kernel
theorem dX7_changeByCut_23 : decode cX7_changeByCut 23 = .ok (.if_icmp .eq 9, 3) := by decide +kernel
theorem dX7_changeByCut_26 : decode cX7_changeByCut 26 = .ok (.iload 4, 2) := by decide +kernel
theorem dX7_changeByCut_28 : decode cX7_changeByCut 28 = .ok (.iload_n 1, 1) := by decide +kernel
theorem dX7_changeByCut_29 : decode cX7_changeByCut 29 = .ok (.if_icmp .ne 5, 3) := by decide +kernel
theorem dX7_changeByCut_32 : decode cX7_changeByCut 32 = .ok (.iconst 0, 1) := by decide +kernel
theorem dX7_changeByCut_33 : decode cX7_changeByCut 33 = .ok (.ireturn, 1) := by decide +kernel
theorem dX7_changeByCut_34 : decode cX7_changeByCut 34 = .ok (.aload_n 0, 1) := by decide +kernel
theorem dX7_changeByCut_35 : decode cX7_changeByCut 35 = .ok (.getfield 28, 3) := by decide +kernel
theorem dX7_changeByCut_38 : decode cX7_changeByCut 38 = .ok (.aload_n 2, 1) := by decide +kernel
theorem dX7_changeByCut_39 : decode cX7_changeByCut 39 = .ok (.iload_n 3, 1) := by decide +kernel
theorem dX7_changeByCut_40 : decode cX7_changeByCut 40 = .ok (.iload_n 1, 1) := by decide +kernel
theorem dX7_changeByCut_41 : decode cX7_changeByCut 41 = .ok (.invokevirtual 239, 3) := by decide +kernel
theorem dX7_changeByCut_44 : decode cX7_changeByCut 44 = .ok (.aload_n 0, 1) := by decide +kernel
theorem dX7_changeByCut_45 : decode cX7_changeByCut 45 = .ok (.getfield 28, 3) := by decide +kernel
theorem dX7_changeByCut_48 : decode cX7_changeByCut 48 = .ok (.aload_n 2, 1) := by decide +kernel
theorem dX7_changeByCut_49 : decode cX7_changeByCut 49 = .ok (.iload_n 1, 1) := by decide +kernel
theorem dX7_changeByCut_50 : decode cX7_changeByCut 50 = .ok (.iload 4, 2) := by decide +kernel
theorem dX7_changeByCut_52 : decode cX7_changeByCut 52 = .ok (.invokevirtual 239, 3) := by decide +kernel
theorem dX7_changeByCut_55 : decode cX7_changeByCut 55 = .ok (.iadd, 1) := by decide +kernel
theorem dX7_changeByCut_56 : decode cX7_changeByCut 56 = .ok (.aload_n 0, 1) := by decide +kernel
theorem dX7_changeByCut_57 : decode cX7_changeByCut 57 = .ok (.getfield 28, 3) := by decide +kernel
theorem dX7_changeByCut_60 : decode cX7_changeByCut 60 = .ok (.aload_n 2, 1) := by decide +kernel
theorem dX7_changeByCut_61 : decode cX7_changeByCut 61 = .ok (.iload_n 3, 1) := by decide +kernel
theorem dX7_changeByCut_62 : decode cX7_changeByCut 62 = .ok (.iload 4, 2) := by decide +kernel
theorem dX7_changeByCut_64 : decode cX7_changeByCut 64 = .ok (.invokevirtual 239, 3) := by decide +kernel
theorem dX7_changeByCut_67 : decode cX7_changeByCut 67 = .ok (.isub, 1) := by decide +kernel
theorem dX7_changeByCut_68 : decode cX7_changeByCut 68 = .ok (.ireturn, 1) := by decide +kernel
theorem dX7_undo_0 : decode cX7_undo 0 = .ok (.aload_n 0, 1) := by decide +kernel
theorem dX7_undo_1 : decode cX7_undo 1 = .ok (.getfield 42, 3) := by decide +kernel
theorem dX7_undo_4 : decode cX7_undo 4 = .ok (.getfield 242, 3) := by decide +kernel
theorem dX7_undo_7 : decode cX7_undo 7 = .ok (.ifCond .ne 13, 3) := by decide +kernel
theorem dX7_undo_10 : decode cX7_undo 10 = .ok (.new 63, 3) := by decide +kernel
theorem dX7_undo_13 : decode cX7_undo 13 = .ok (.dup, 1) := by decide +kernel
theorem dX7_undo_14 : decode cX7_undo 14 = .ok (.ldc 244, 2) := by decide +kernel
theorem dX7_undo_16 : decode cX7_undo 16 = .ok (.invokespecial 67, 3) := by decide +kernel
theorem dX7_undo_19 : decode cX7_undo 19 = .ok (.athrow, 1) := by decide +kernel
theorem dX7_undo_20 : decode cX7_undo 20 = .ok (.aload_n 0, 1) := by decide +kernel
theorem dX7_undo_21 : decode cX7_undo 21 = .ok (.getfield 42, 3) := by decide +kernel
theorem dX7_undo_24 : decode cX7_undo 24 = .ok (.aload_n 0, 1) := by decide +kernel
theorem dX7_undo_25 : decode cX7_undo 25 = .ok (.getfield 21, 3) := by decide +kernel
theorem dX7_undo_28 : decode cX7_undo 28 = .ok (.aload_n 0, 1) := by decide +kernel
theorem dX7_undo_29 : decode cX7_undo 29 = .ok (.getfield 28, 3) := by decide +kernel
theorem dX7_undo_32 : decode cX7_undo 32 = .ok (.invokevirtual 246, 3) := by decide +kernel
theorem dX7_undo_35 : decode cX7_undo 35 = .ok (.aload_n 0, 1) := by decide +kernel
theorem dX7_undo_36 : decode cX7_undo 36 = .ok (.getfield 35, 3) := by decide +kernel
theorem dX7_undo_39 : decode cX7_undo 39 = .ok (.aload_n 0, 1) := by decide +kernel
theorem dX7_undo_40 : decode cX7_undo 40 = .ok (.getfield 21, 3) := by decide +kernel
theorem dX7_undo_43 : decode cX7_undo 43 = .ok (.aload_n 0, 1) := by decide +kernel
theorem dX7_undo_44 : decode cX7_undo 44 = .ok (.getfield 28, 3) := by decide +kernel
theorem dX7_undo_47 : decode cX7_undo 47 = .ok (.invokevirtual 99, 3) := by decide +kernel
theorem dX7_undo_50 : decode cX7_undo 50 = .ok (.aload_n 0, 1) := by decide +kernel
theorem dX7_undo_51 : decode cX7_undo 51 = .ok (.getfield 42, 3) := by decide +kernel
theorem dX7_undo_54 : decode cX7_undo 54 = .ok (.getfield 242, 3) := by decide +kernel
theorem dX7_undo_57 : decode cX7_undo 57 = .ok (.ireturn, 1) := by decide +kernel
theorem dX7_savedStates_0 : decode cX7_savedStates 0 = .ok (.aload_n 0, 1) := by decide +kernel
theorem dX7_savedStates_1 : decode cX7_savedStates 1 = .ok (.getfield 42, 3) := by decide +kernel
theorem dX7_savedStates_4 : decode cX7_savedStates 4 = .ok (.getfield 242, 3) := by decide +kernel
theorem dX7_savedStates_7 : decode cX7_savedStates 7 = .ok (.ireturn, 1) := by decide +kernel
theorem dX7_digest_0 : decode cX7_digest 0 = .ok (.ldc2_w 249, 3) := by decide +kernel
theorem dX7_digest_3 : decode cX7_digest 3 = .ok (.lstore_n 1, 1) := by decide +kernel
theorem dX7_digest_4 : decode cX7_digest 4 = .ok (.ldc2_w 251, 3) := by decide +kernel
theorem dX7_digest_7 : decode cX7_digest 7 = .ok (.lload_n 1, 1) := by decide +kernel
theorem dX7_digest_8 : decode cX7_digest 8 = .ok (.lmul, 1) := by decide +kernel
theorem dX7_digest_9 : decode cX7_digest 9 = .ok (.aload_n 0, 1) := by decide +kernel
theorem dX7_digest_10 : decode cX7_digest 10 = .ok (.invokevirtual 80, 3) := by decide +kernel
theorem dX7_digest_13 : decode cX7_digest 13 = .ok (.i2l, 1) := by decide +kernel
theorem dX7_digest_14 : decode cX7_digest 14 = .ok (.ladd, 1) := by decide +kernel
theorem dX7_digest_15 : decode cX7_digest 15 = .ok (.lstore_n 1, 1) := by decide +kernel
theorem dX7_digest_16 : decode cX7_digest 16 = .ok (.ldc2_w 251, 3) := by decide +kernel
theorem dX7_digest_19 : decode cX7_digest 19 = .ok (.lload_n 1, 1) := by decide +kernel
theorem dX7_digest_20 : decode cX7_digest 20 = .ok (.lmul, 1) := by decide +kernel
theorem dX7_digest_21 : decode cX7_digest 21 = .ok (.aload_n 0, 1) := by decide +kernel
theorem dX7_digest_22 : decode cX7_digest 22 = .ok (.invokevirtual 92, 3) := by decide +kernel
theorem dX7_digest_25 : decode cX7_digest 25 = .ok (.i2l, 1) := by decide +kernel
theorem dX7_digest_26 : decode cX7_digest 26 = .ok (.ladd, 1) := by decide +kernel
theorem dX7_digest_27 : decode cX7_digest 27 = .ok (.lstore_n 1, 1) := by decide +kernel
theorem dX7_digest_28 : decode cX7_digest 28 = .ok (.ldc2_w 251, 3) := by decide +kernel
theorem dX7_digest_31 : decode cX7_digest 31 = .ok (.lload_n 1, 1) := by decide +kernel
theorem dX7_digest_32 : decode cX7_digest 32 = .ok (.lmul, 1) := by decide +kernel
theorem dX7_digest_33 : decode cX7_digest 33 = .ok (.aload_n 0, 1) := by decide +kernel
theorem dX7_digest_34 : decode cX7_digest 34 = .ok (.invokevirtual 253, 3) := by decide +kernel
theorem dX7_digest_37 : decode cX7_digest 37 = .ok (.i2l, 1) := by decide +kernel
theorem dX7_digest_38 : decode cX7_digest 38 = .ok (.ladd, 1) := by decide +kernel
theorem dX7_digest_39 : decode cX7_digest 39 = .ok (.lstore_n 1, 1) := by decide +kernel
theorem dX7_digest_40 : decode cX7_digest 40 = .ok (.ldc2_w 251, 3) := by decide +kernel
theorem dX7_digest_43 : decode cX7_digest 43 = .ok (.lload_n 1, 1) := by decide +kernel
theorem dX7_digest_44 : decode cX7_digest 44 = .ok (.lmul, 1) := by decide +kernel
theorem dX7_digest_45 : decode cX7_digest 45 = .ok (.aload_n 0, 1) := by decide +kernel
theorem dX7_digest_46 : decode cX7_digest 46 = .ok (.invokevirtual 256, 3) := by decide +kernel
theorem dX7_digest_49 : decode cX7_digest 49 = .ok (.i2l, 1) := by decide +kernel
theorem dX7_digest_50 : decode cX7_digest 50 = .ok (.ladd, 1) := by decide +kernel
theorem dX7_digest_51 : decode cX7_digest 51 = .ok (.lstore_n 1, 1) := by decide +kernel
theorem dX7_digest_52 : decode cX7_digest 52 = .ok (.ldc2_w 251, 3) := by decide +kernel
theorem dX7_digest_55 : decode cX7_digest 55 = .ok (.lload_n 1, 1) := by decide +kernel
theorem dX7_digest_56 : decode cX7_digest 56 = .ok (.lmul, 1) := by decide +kernel
theorem dX7_digest_57 : decode cX7_digest 57 = .ok (.aload_n 0, 1) := by decide +kernel
theorem dX7_digest_58 : decode cX7_digest 58 = .ok (.invokevirtual 156, 3) := by decide +kernel
theorem dX7_digest_61 : decode cX7_digest 61 = .ok (.i2l, 1) := by decide +kernel
theorem dX7_digest_62 : decode cX7_digest 62 = .ok (.ladd, 1) := by decide +kernel
theorem dX7_digest_63 : decode cX7_digest 63 = .ok (.lstore_n 1, 1) := by decide +kernel
theorem dX7_digest_64 : decode cX7_digest 64 = .ok (.ldc2_w 251, 3) := by decide +kernel
theorem dX7_digest_67 : decode cX7_digest 67 = .ok (.lload_n 1, 1) := by decide +kernel
theorem dX7_digest_68 : decode cX7_digest 68 = .ok (.lmul, 1) := by decide +kernel
theorem dX7_digest_69 : decode cX7_digest 69 = .ok (.aload_n 0, 1) := by decide +kernel
theorem dX7_digest_70 : decode cX7_digest 70 = .ok (.invokevirtual 259, 3) := by decide +kernel
theorem dX7_digest_73 : decode cX7_digest 73 = .ok (.i2l, 1) := by decide +kernel
theorem dX7_digest_74 : decode cX7_digest 74 = .ok (.ladd, 1) := by decide +kernel
theorem dX7_digest_75 : decode cX7_digest 75 = .ok (.lstore_n 1, 1) := by decide +kernel
theorem dX7_digest_76 : decode cX7_digest 76 = .ok (.ldc2_w 251, 3) := by decide +kernel
theorem dX7_digest_79 : decode cX7_digest 79 = .ok (.lload_n 1, 1) := by decide +kernel
theorem dX7_digest_80 : decode cX7_digest 80 = .ok (.lmul, 1) := by decide +kernel
theorem dX7_digest_81 : decode cX7_digest 81 = .ok (.aload_n 0, 1) := by decide +kernel
theorem dX7_digest_82 : decode cX7_digest 82 = .ok (.invokevirtual 212, 3) := by decide +kernel
theorem dX7_digest_85 : decode cX7_digest 85 = .ok (.i2l, 1) := by decide +kernel
theorem dX7_digest_86 : decode cX7_digest 86 = .ok (.ladd, 1) := by decide +kernel
theorem dX7_digest_87 : decode cX7_digest 87 = .ok (.lstore_n 1, 1) := by decide +kernel
theorem dX7_digest_88 : decode cX7_digest 88 = .ok (.ldc2_w 251, 3) := by decide +kernel
theorem dX7_digest_91 : decode cX7_digest 91 = .ok (.lload_n 1, 1) := by decide +kernel
theorem dX7_digest_92 : decode cX7_digest 92 = .ok (.lmul, 1) := by decide +kernel
theorem dX7_digest_93 : decode cX7_digest 93 = .ok (.aload_n 0, 1) := by decide +kernel
theorem dX7_digest_94 : decode cX7_digest 94 = .ok (.invokevirtual 262, 3) := by decide +kernel
theorem dX7_digest_97 : decode cX7_digest 97 = .ok (.i2l, 1) := by decide +kernel
theorem dX7_digest_98 : decode cX7_digest 98 = .ok (.ladd, 1) := by decide +kernel
theorem dX7_digest_99 : decode cX7_digest 99 = .ok (.lstore_n 1, 1) := by decide +kernel
theorem dX7_digest_100 : decode cX7_digest 100 = .ok (.ldc2_w 251, 3) := by decide +kernel
theorem dX7_digest_103 : decode cX7_digest 103 = .ok (.lload_n 1, 1) := by decide +kernel
theorem dX7_digest_104 : decode cX7_digest 104 = .ok (.lmul, 1) := by decide +kernel
theorem dX7_digest_105 : decode cX7_digest 105 = .ok (.aload_n 0, 1) := by decide +kernel
theorem dX7_digest_106 : decode cX7_digest 106 = .ok (.invokevirtual 215, 3) := by decide +kernel
theorem dX7_digest_109 : decode cX7_digest 109 = .ok (.i2l, 1) := by decide +kernel
theorem dX7_digest_110 : decode cX7_digest 110 = .ok (.ladd, 1) := by decide +kernel
theorem dX7_digest_111 : decode cX7_digest 111 = .ok (.lstore_n 1, 1) := by decide +kernel
theorem dX7_digest_112 : decode cX7_digest 112 = .ok (.ldc2_w 251, 3) := by decide +kernel
theorem dX7_digest_115 : decode cX7_digest 115 = .ok (.lload_n 1, 1) := by decide +kernel
theorem dX7_digest_116 : decode cX7_digest 116 = .ok (.lmul, 1) := by decide +kernel
theorem dX7_digest_117 : decode cX7_digest 117 = .ok (.aload_n 0, 1) := by decide +kernel
theorem dX7_digest_118 : decode cX7_digest 118 = .ok (.invokevirtual 265, 3) := by decide +kernel
theorem dX7_digest_121 : decode cX7_digest 121 = .ok (.i2l, 1) := by decide +kernel
theorem dX7_digest_122 : decode cX7_digest 122 = .ok (.ladd, 1) := by decide +kernel
theorem dX7_digest_123 : decode cX7_digest 123 = .ok (.lstore_n 1, 1) := by decide +kernel
theorem dX7_digest_124 : decode cX7_digest 124 = .ok (.ldc2_w 251, 3) := by decide +kernel
theorem dX7_digest_127 : decode cX7_digest 127 = .ok (.lload_n 1, 1) := by decide +kernel
theorem dX7_digest_128 : decode cX7_digest 128 = .ok (.lmul, 1) := by decide +kernel
theorem dX7_digest_129 : decode cX7_digest 129 = .ok (.aload_n 0, 1) := by decide +kernel
theorem dX7_digest_130 : decode cX7_digest 130 = .ok (.invokevirtual 268, 3) := by decide +kernel
theorem dX7_digest_133 : decode cX7_digest 133 = .ok (.i2l, 1) := by decide +kernel
theorem dX7_digest_134 : decode cX7_digest 134 = .ok (.ladd, 1) := by decide +kernel
theorem dX7_digest_135 : decode cX7_digest 135 = .ok (.lstore_n 1, 1) := by decide +kernel
theorem dX7_digest_136 : decode cX7_digest 136 = .ok (.ldc2_w 251, 3) := by decide +kernel
theorem dX7_digest_139 : decode cX7_digest 139 = .ok (.lload_n 1, 1) := by decide +kernel
theorem dX7_digest_140 : decode cX7_digest 140 = .ok (.lmul, 1) := by decide +kernel
theorem dX7_digest_141 : decode cX7_digest 141 = .ok (.aload_n 0, 1) := by decide +kernel
theorem dX7_digest_142 : decode cX7_digest 142 = .ok (.invokevirtual 271, 3) := by decide +kernel
theorem dX7_digest_145 : decode cX7_digest 145 = .ok (.i2l, 1) := by decide +kernel
theorem dX7_digest_146 : decode cX7_digest 146 = .ok (.ladd, 1) := by decide +kernel
theorem dX7_digest_147 : decode cX7_digest 147 = .ok (.lstore_n 1, 1) := by decide +kernel
theorem dX7_digest_148 : decode cX7_digest 148 = .ok (.ldc2_w 251, 3) := by decide +kernel
theorem dX7_digest_151 : decode cX7_digest 151 = .ok (.lload_n 1, 1) := by decide +kernel
theorem dX7_digest_152 : decode cX7_digest 152 = .ok (.lmul, 1) := by decide +kernel
theorem dX7_digest_153 : decode cX7_digest 153 = .ok (.aload_n 0, 1) := by decide +kernel
theorem dX7_digest_154 : decode cX7_digest 154 = .ok (.invokevirtual 274, 3) := by decide +kernel
theorem dX7_digest_157 : decode cX7_digest 157 = .ok (.i2l, 1) := by decide +kernel
theorem dX7_digest_158 : decode cX7_digest 158 = .ok (.ladd, 1) := by decide +kernel
theorem dX7_digest_159 : decode cX7_digest 159 = .ok (.lstore_n 1, 1) := by decide +kernel
theorem dX7_digest_160 : decode cX7_digest 160 = .ok (.ldc2_w 251, 3) := by decide +kernel
theorem dX7_digest_163 : decode cX7_digest 163 = .ok (.lload_n 1, 1) := by decide +kernel
theorem dX7_digest_164 : decode cX7_digest 164 = .ok (.lmul, 1) := by decide +kernel
theorem dX7_digest_165 : decode cX7_digest 165 = .ok (.aload_n 0, 1) := by decide +kernel
theorem dX7_digest_166 : decode cX7_digest 166 = .ok (.invokevirtual 277, 3) := by decide +kernel
theorem dX7_digest_169 : decode cX7_digest 169 = .ok (.i2l, 1) := by decide +kernel
theorem dX7_digest_170 : decode cX7_digest 170 = .ok (.ladd, 1) := by decide +kernel
theorem dX7_digest_171 : decode cX7_digest 171 = .ok (.lstore_n 1, 1) := by decide +kernel
theorem dX7_digest_172 : decode cX7_digest 172 = .ok (.aload_n 0, 1) := by decide +kernel
theorem dX7_digest_173 : decode cX7_digest 173 = .ok (.getfield 21, 3) := by decide +kernel
theorem dX7_digest_176 : decode cX7_digest 176 = .ok (.getfield 126, 3) := by decide +kernel
theorem dX7_digest_179 : decode cX7_digest 179 = .ok (.lload_n 1, 1) := by decide +kernel
theorem dX7_digest_180 : decode cX7_digest 180 = .ok (.invokevirtual 280, 3) := by decide +kernel
theorem dX7_digest_183 : decode cX7_digest 183 = .ok (.lstore_n 1, 1) := by decide +kernel
theorem dX7_digest_184 : decode cX7_digest 184 = .ok (.aload_n 0, 1) := by decide +kernel
theorem dX7_digest_185 : decode cX7_digest 185 = .ok (.getfield 35, 3) := by decide +kernel
theorem dX7_digest_188 : decode cX7_digest 188 = .ok (.getfield 181, 3) := by decide +kernel
theorem dX7_digest_191 : decode cX7_digest 191 = .ok (.lload_n 1, 1) := by decide +kernel
theorem dX7_digest_192 : decode cX7_digest 192 = .ok (.invokevirtual 280, 3) := by decide +kernel
theorem dX7_digest_195 : decode cX7_digest 195 = .ok (.lstore_n 1, 1) := by decide +kernel
theorem dX7_digest_196 : decode cX7_digest 196 = .ok (.iconst 0, 1) := by decide +kernel
theorem dX7_digest_197 : decode cX7_digest 197 = .ok (.istore_n 3, 1) := by decide +kernel
theorem dX7_digest_198 : decode cX7_digest 198 = .ok (.iload_n 3, 1) := by decide +kernel
theorem dX7_digest_199 : decode cX7_digest 199 = .ok (.aload_n 0, 1) := by decide +kernel
theorem dX7_digest_200 : decode cX7_digest 200 = .ok (.invokevirtual 212, 3) := by decide +kernel
theorem dX7_digest_203 : decode cX7_digest 203 = .ok (.if_icmp .ge 47, 3) := by decide +kernel
theorem dX7_digest_206 : decode cX7_digest 206 = .ok (.ldc2_w 251, 3) := by decide +kernel
theorem dX7_digest_209 : decode cX7_digest 209 = .ok (.lload_n 1, 1) := by decide +kernel
theorem dX7_digest_210 : decode cX7_digest 210 = .ok (.lmul, 1) := by decide +kernel
theorem dX7_digest_211 : decode cX7_digest 211 = .ok (.aload_n 0, 1) := by decide +kernel
theorem dX7_digest_212 : decode cX7_digest 212 = .ok (.getfield 35, 3) := by decide +kernel
theorem dX7_digest_215 : decode cX7_digest 215 = .ok (.getfield 189, 3) := by decide +kernel
theorem dX7_digest_218 : decode cX7_digest 218 = .ok (.iload_n 3, 1) := by decide +kernel
theorem dX7_digest_219 : decode cX7_digest 219 = .ok (.invokevirtual 116, 3) := by decide +kernel
theorem dX7_digest_222 : decode cX7_digest 222 = .ok (.i2l, 1) := by decide +kernel
theorem dX7_digest_223 : decode cX7_digest 223 = .ok (.ladd, 1) := by decide +kernel
theorem dX7_digest_224 : decode cX7_digest 224 = .ok (.lstore_n 1, 1) := by decide +kernel
theorem dX7_digest_225 : decode cX7_digest 225 = .ok (.ldc2_w 251, 3) := by decide +kernel
theorem dX7_digest_228 : decode cX7_digest 228 = .ok (.lload_n 1, 1) := by decide +kernel
theorem dX7_digest_229 : decode cX7_digest 229 = .ok (.lmul, 1) := by decide +kernel
theorem dX7_digest_230 : decode cX7_digest 230 = .ok (.aload_n 0, 1) := by decide +kernel
theorem dX7_digest_231 : decode cX7_digest 231 = .ok (.getfield 35, 3) := by decide +kernel
theorem dX7_digest_234 : decode cX7_digest 234 = .ok (.getfield 186, 3) := by decide +kernel
theorem dX7_digest_237 : decode cX7_digest 237 = .ok (.iload_n 3, 1) := by decide +kernel
theorem dX7_digest_238 : decode cX7_digest 238 = .ok (.invokevirtual 116, 3) := by decide +kernel
theorem dX7_digest_241 : decode cX7_digest 241 = .ok (.i2l, 1) := by decide +kernel
theorem dX7_digest_242 : decode cX7_digest 242 = .ok (.ladd, 1) := by decide +kernel
theorem dX7_digest_243 : decode cX7_digest 243 = .ok (.lstore_n 1, 1) := by decide +kernel
theorem dX7_digest_244 : decode cX7_digest 244 = .ok (.iinc 3 1, 3) := by decide +kernel
theorem dX7_digest_247 : decode cX7_digest 247 = .ok (.goto (-49), 3) := by decide +kernel
theorem dX7_digest_250 : decode cX7_digest 250 = .ok (.iconst 0, 1) := by decide +kernel
theorem dX7_digest_251 : decode cX7_digest 251 = .ok (.istore_n 3, 1) := by decide +kernel
theorem dX7_digest_252 : decode cX7_digest 252 = .ok (.iload_n 3, 1) := by decide +kernel
theorem dX7_digest_253 : decode cX7_digest 253 = .ok (.aload_n 0, 1) := by decide +kernel
theorem dX7_digest_254 : decode cX7_digest 254 = .ok (.invokevirtual 156, 3) := by decide +kernel
theorem dX7_digest_257 : decode cX7_digest 257 = .ok (.if_icmp .ge 44, 3) := by decide +kernel
theorem dX7_digest_260 : decode cX7_digest 260 = .ok (.ldc2_w 251, 3) := by decide +kernel
theorem dX7_digest_263 : decode cX7_digest 263 = .ok (.lload_n 1, 1) := by decide +kernel
theorem dX7_digest_264 : decode cX7_digest 264 = .ok (.lmul, 1) := by decide +kernel
theorem dX7_digest_265 : decode cX7_digest 265 = .ok (.aload_n 0, 1) := by decide +kernel
theorem dX7_digest_266 : decode cX7_digest 266 = .ok (.getfield 28, 3) := by decide +kernel
theorem dX7_digest_269 : decode cX7_digest 269 = .ok (.iload_n 3, 1) := by decide +kernel
theorem dX7_digest_270 : decode cX7_digest 270 = .ok (.invokevirtual 163, 3) := by decide +kernel
theorem dX7_digest_273 : decode cX7_digest 273 = .ok (.i2l, 1) := by decide +kernel
theorem dX7_digest_274 : decode cX7_digest 274 = .ok (.ladd, 1) := by decide +kernel
theorem dX7_digest_275 : decode cX7_digest 275 = .ok (.lstore_n 1, 1) := by decide +kernel
theorem dX7_digest_276 : decode cX7_digest 276 = .ok (.ldc2_w 251, 3) := by decide +kernel
theorem dX7_digest_279 : decode cX7_digest 279 = .ok (.lload_n 1, 1) := by decide +kernel
theorem dX7_digest_280 : decode cX7_digest 280 = .ok (.lmul, 1) := by decide +kernel
theorem dX7_digest_281 : decode cX7_digest 281 = .ok (.aload_n 0, 1) := by decide +kernel
theorem dX7_digest_282 : decode cX7_digest 282 = .ok (.getfield 35, 3) := by decide +kernel
theorem dX7_digest_285 : decode cX7_digest 285 = .ok (.getfield 180, 3) := by decide +kernel
theorem dX7_digest_288 : decode cX7_digest 288 = .ok (.iload_n 3, 1) := by decide +kernel
theorem dX7_digest_289 : decode cX7_digest 289 = .ok (.invokevirtual 137, 3) := by decide +kernel
theorem dX7_digest_292 : decode cX7_digest 292 = .ok (.i2l, 1) := by decide +kernel
theorem dX7_digest_293 : decode cX7_digest 293 = .ok (.ladd, 1) := by decide +kernel
theorem dX7_digest_294 : decode cX7_digest 294 = .ok (.lstore_n 1, 1) := by decide +kernel
theorem dX7_digest_295 : decode cX7_digest 295 = .ok (.iinc 3 1, 3) := by decide +kernel
theorem dX7_digest_298 : decode cX7_digest 298 = .ok (.goto (-46), 3) := by decide +kernel
theorem dX7_digest_301 : decode cX7_digest 301 = .ok (.lload_n 1, 1) := by decide +kernel
theorem dX7_digest_302 : decode cX7_digest 302 = .ok (.lreturn, 1) := by decide +kernel
theorem dJ0_length_8abf5_0 : decode cJ0_length_8abf5 0 = .ok (.aload_n 0, 1) := by decide +kernel
theorem dJ0_length_8abf5_1 : decode cJ0_length_8abf5 1 = .ok (.getfield 9, 3) := by decide +kernel
theorem dJ0_length_8abf5_4 : decode cJ0_length_8abf5 4 = .ok (.arraylength, 1) := by decide +kernel
theorem dJ0_length_8abf5_5 : decode cJ0_length_8abf5 5 = .ok (.aload_n 0, 1) := by decide +kernel
theorem dJ0_length_8abf5_6 : decode cJ0_length_8abf5 6 = .ok (.invokevirtual 335, 3) := by decide +kernel
theorem dJ0_length_8abf5_9 : decode cJ0_length_8abf5 9 = .ok (.ishr, 1) := by decide +kernel
theorem dJ0_length_8abf5_10 : decode cJ0_length_8abf5 10 = .ok (.ireturn, 1) := by decide +kernel
theorem dJ0_charAt_5068e_0 : decode cJ0_charAt_5068e 0 = .ok (.aload_n 0, 1) := by decide +kernel
theorem dJ0_charAt_5068e_1 : decode cJ0_charAt_5068e 1 = .ok (.invokevirtual 492, 3) := by decide +kernel
theorem dJ0_charAt_5068e_4 : decode cJ0_charAt_5068e 4 = .ok (.ifCond .eq 12, 3) := by decide +kernel
theorem dJ0_charAt_5068e_7 : decode cJ0_charAt_5068e 7 = .ok (.aload_n 0, 1) := by decide +kernel
theorem dJ0_charAt_5068e_8 : decode cJ0_charAt_5068e 8 = .ok (.getfield 9, 3) := by decide +kernel
theorem dJ0_charAt_5068e_11 : decode cJ0_charAt_5068e 11 = .ok (.iload_n 1, 1) := by decide +kernel
theorem dJ0_charAt_5068e_12 : decode cJ0_charAt_5068e 12 = .ok (.invokestatic 495, 3) := by decide +kernel
theorem dJ0_charAt_5068e_15 : decode cJ0_charAt_5068e 15 = .ok (.ireturn, 1) := by decide +kernel
theorem dJ0_charAt_5068e_16 : decode cJ0_charAt_5068e 16 = .ok (.aload_n 0, 1) := by decide +kernel
theorem dJ0_charAt_5068e_17 : decode cJ0_charAt_5068e 17 = .ok (.getfield 9, 3) := by decide +kernel
theorem dJ0_charAt_5068e_20 : decode cJ0_charAt_5068e 20 = .ok (.iload_n 1, 1) := by decide +kernel
theorem dJ0_indexOf_0f7a4_0 : decode cJ0_indexOf_0f7a4 0 = .ok (.aload_n 0, 1) := by decide +kernel
theorem dJ0_indexOf_0f7a4_1 : decode cJ0_indexOf_0f7a4 1 = .ok (.iload_n 1, 1) := by decide +kernel
theorem dJ0_indexOf_0f7a4_2 : decode cJ0_indexOf_0f7a4 2 = .ok (.iconst 0, 1) := by decide +kernel
theorem dJ0_indexOf_0f7a4_3 : decode cJ0_indexOf_0f7a4 3 = .ok (.invokevirtual 633, 3) := by decide +kernel
theorem dJ0_indexOf_0f7a4_6 : decode cJ0_indexOf_0f7a4 6 = .ok (.ireturn, 1) := by decide +kernel
theorem dJ0_indexOf_7cf53_0 : decode cJ0_indexOf_7cf53 0 = .ok (.aload_n 0, 1) := by decide +kernel
theorem dJ0_indexOf_7cf53_1 : decode cJ0_indexOf_7cf53 1 = .ok (.invokevirtual 492, 3) := by decide +kernel
theorem dJ0_indexOf_7cf53_4 : decode cJ0_indexOf_7cf53 4 = .ok (.ifCond .eq 19, 3) := by decide +kernel
theorem dJ0_indexOf_7cf53_7 : decode cJ0_indexOf_7cf53 7 = .ok (.aload_n 0, 1) := by decide +kernel
theorem dJ0_indexOf_7cf53_8 : decode cJ0_indexOf_7cf53 8 = .ok (.getfield 9, 3) := by decide +kernel
theorem dJ0_indexOf_7cf53_11 : decode cJ0_indexOf_7cf53 11 = .ok (.iload_n 1, 1) := by decide +kernel
theorem dJ0_indexOf_7cf53_12 : decode cJ0_indexOf_7cf53 12 = .ok (.iload_n 2, 1) := by decide +kernel
theorem dJ0_indexOf_7cf53_13 : decode cJ0_indexOf_7cf53 13 = .ok (.aload_n 0, 1) := by decide +kernel
theorem dJ0_indexOf_7cf53_14 : decode cJ0_indexOf_7cf53 14 = .ok (.invokevirtual 505, 3) := by decide +kernel
theorem dJ0_indexOf_7cf53_17 : decode cJ0_indexOf_7cf53 17 = .ok (.invokestatic 637, 3) := by decide +kernel
theorem dJ0_indexOf_7cf53_20 : decode cJ0_indexOf_7cf53 20 = .ok (.goto 16, 3) := by decide +kernel
theorem dJ0_indexOf_7cf53_23 : decode cJ0_indexOf_7cf53 23 = .ok (.aload_n 0, 1) := by decide +kernel
theorem dJ0_indexOf_7cf53_24 : decode cJ0_indexOf_7cf53 24 = .ok (.getfield 9, 3) := by decide +kernel
theorem dJ0_indexOf_7cf53_27 : decode cJ0_indexOf_7cf53 27 = .ok (.iload_n 1, 1) := by decide +kernel
theorem dJ0_indexOf_7cf53_28 : decode cJ0_indexOf_7cf53 28 = .ok (.iload_n 2, 1) := by decide +kernel
theorem dJ0_indexOf_7cf53_29 : decode cJ0_indexOf_7cf53 29 = .ok (.aload_n 0, 1) := by decide +kernel
theorem dJ0_indexOf_7cf53_30 : decode cJ0_indexOf_7cf53 30 = .ok (.invokevirtual 505, 3) := by decide +kernel
theorem dJ0_indexOf_7cf53_36 : decode cJ0_indexOf_7cf53 36 = .ok (.ireturn, 1) := by decide +kernel
theorem dJ0_coder_7d493_0 : decode cJ0_coder_7d493 0 = .ok (.getstatic 38, 3) := by decide +kernel
theorem dJ0_coder_7d493_3 : decode cJ0_coder_7d493 3 = .ok (.ifCond .eq 10, 3) := by decide +kernel
theorem dJ0_coder_7d493_6 : decode cJ0_coder_7d493 6 = .ok (.aload_n 0, 1) := by decide +kernel
theorem dJ0_coder_7d493_7 : decode cJ0_coder_7d493 7 = .ok (.getfield 15, 3) := by decide +kernel
theorem dJ0_coder_7d493_10 : decode cJ0_coder_7d493 10 = .ok (.goto 4, 3) := by decide +kernel
theorem dJ0_coder_7d493_14 : decode cJ0_coder_7d493 14 = .ok (.ireturn, 1) := by decide +kernel
theorem dJ0_isLatin1_aae02_0 : decode cJ0_isLatin1_aae02 0 = .ok (.getstatic 38, 3) := by decide +kernel
theorem dJ0_isLatin1_aae02_3 : decode cJ0_isLatin1_aae02 3 = .ok (.ifCond .eq 14, 3) := by decide +kernel
theorem dJ0_isLatin1_aae02_6 : decode cJ0_isLatin1_aae02 6 = .ok (.aload_n 0, 1) := by decide +kernel
theorem dJ0_isLatin1_aae02_7 : decode cJ0_isLatin1_aae02 7 = .ok (.getfield 15, 3) := by decide +kernel
theorem dJ0_isLatin1_aae02_10 : decode cJ0_isLatin1_aae02 10 = .ok (.ifCond .ne 7, 3) := by decide +kernel
theorem dJ0_isLatin1_aae02_13 : decode cJ0_isLatin1_aae02 13 = .ok (.iconst 1, 1) := by decide +kernel
theorem dJ0_isLatin1_aae02_14 : decode cJ0_isLatin1_aae02 14 = .ok (.goto 4, 3) := by decide +kernel
theorem dJ0_isLatin1_aae02_18 : decode cJ0_isLatin1_aae02 18 = .ok (.ireturn, 1) := by decide +kernel
theorem dJ0_checkIndex_df160_0 : decode cJ0_checkIndex_df160 0 = .ok (.iload_n 0, 1) := by decide +kernel
theorem dJ0_checkIndex_df160_1 : decode cJ0_checkIndex_df160 1 = .ok (.iload_n 1, 1) := by decide +kernel
theorem dJ0_checkIndex_df160_2 : decode cJ0_checkIndex_df160 2 = .ok (.getstatic 1053, 3) := by decide +kernel
theorem dJ0_checkIndex_df160_5 : decode cJ0_checkIndex_df160 5 = .ok (.invokestatic 1059, 3) := by decide +kernel
theorem dJ0_checkIndex_df160_8 : decode cJ0_checkIndex_df160 8 = .ok (.pop, 1) := by decide +kernel
theorem dJ0_checkIndex_df160_9 : decode cJ0_checkIndex_df160 9 = .ok (.return_, 1) := by decide +kernel
theorem dJ1_charAt_3b067_0 : decode cJ1_charAt_3b067 0 = .ok (.iload_n 1, 1) := by decide +kernel
theorem dJ1_charAt_3b067_1 : decode cJ1_charAt_3b067 1 = .ok (.aload_n 0, 1) := by decide +kernel
theorem dJ1_charAt_3b067_2 : decode cJ1_charAt_3b067 2 = .ok (.arraylength, 1) := by decide +kernel
theorem dJ1_charAt_3b067_3 : decode cJ1_charAt_3b067 3 = .ok (.invokestatic 9, 3) := by decide +kernel
theorem dJ1_charAt_3b067_6 : decode cJ1_charAt_3b067 6 = .ok (.aload_n 0, 1) := by decide +kernel
theorem dJ1_charAt_3b067_7 : decode cJ1_charAt_3b067 7 = .ok (.iload_n 1, 1) := by decide +kernel
theorem dJ1_charAt_3b067_8 : decode cJ1_charAt_3b067 8 = .ok (.baload, 1) := by decide +kernel
theorem dJ1_charAt_3b067_9 : decode cJ1_charAt_3b067 9 = .ok (.sipush 255, 3) := by decide +kernel
theorem dJ1_charAt_3b067_12 : decode cJ1_charAt_3b067 12 = .ok (.iand, 1) := by decide +kernel
theorem dJ1_charAt_3b067_13 : decode cJ1_charAt_3b067 13 = .ok (.i2c, 1) := by decide +kernel
theorem dJ1_charAt_3b067_14 : decode cJ1_charAt_3b067 14 = .ok (.ireturn, 1) := by decide +kernel
theorem dJ1_canEncode_9a6ad_0 : decode cJ1_canEncode_9a6ad 0 = .ok (.iload_n 0, 1) := by decide +kernel
theorem dJ1_canEncode_9a6ad_1 : decode cJ1_canEncode_9a6ad 1 = .ok (.ifCond .lt 14, 3) := by decide +kernel
theorem dJ1_canEncode_9a6ad_4 : decode cJ1_canEncode_9a6ad 4 = .ok (.iload_n 0, 1) := by decide +kernel
theorem dJ1_canEncode_9a6ad_5 : decode cJ1_canEncode_9a6ad 5 = .ok (.sipush 255, 3) := by decide +kernel
theorem dJ1_canEncode_9a6ad_8 : decode cJ1_canEncode_9a6ad 8 = .ok (.if_icmp .gt 7, 3) := by decide +kernel
theorem dJ1_canEncode_9a6ad_11 : decode cJ1_canEncode_9a6ad 11 = .ok (.iconst 1, 1) := by decide +kernel
theorem dJ1_canEncode_9a6ad_12 : decode cJ1_canEncode_9a6ad 12 = .ok (.goto 4, 3) := by decide +kernel
theorem dJ1_canEncode_9a6ad_15 : decode cJ1_canEncode_9a6ad 15 = .ok (.iconst 0, 1) := by decide +kernel
theorem dJ1_canEncode_9a6ad_16 : decode cJ1_canEncode_9a6ad 16 = .ok (.ireturn, 1) := by decide +kernel
theorem dJ1_indexOf_4cfef_0 : decode cJ1_indexOf_4cfef 0 = .ok (.iload_n 1, 1) := by decide +kernel
theorem dJ1_indexOf_4cfef_1 : decode cJ1_indexOf_4cfef 1 = .ok (.invokestatic 88, 3) := by decide +kernel
theorem dJ1_indexOf_4cfef_4 : decode cJ1_indexOf_4cfef 4 = .ok (.ifCond .ne 5, 3) := by decide +kernel
theorem dJ1_indexOf_4cfef_7 : decode cJ1_indexOf_4cfef 7 = .ok (.iconst (-1), 1) := by decide +kernel
theorem dJ1_indexOf_4cfef_8 : decode cJ1_indexOf_4cfef 8 = .ok (.ireturn, 1) := by decide +kernel
theorem dJ1_indexOf_4cfef_9 : decode cJ1_indexOf_4cfef 9 = .ok (.iload_n 2, 1) := by decide +kernel
theorem dJ1_indexOf_4cfef_10 : decode cJ1_indexOf_4cfef 10 = .ok (.iconst 0, 1) := by decide +kernel
theorem dJ1_indexOf_4cfef_11 : decode cJ1_indexOf_4cfef 11 = .ok (.invokestatic 92, 3) := by decide +kernel
theorem dJ1_indexOf_4cfef_14 : decode cJ1_indexOf_4cfef 14 = .ok (.istore_n 2, 1) := by decide +kernel
theorem dJ1_indexOf_4cfef_15 : decode cJ1_indexOf_4cfef 15 = .ok (.iload_n 3, 1) := by decide +kernel
theorem dJ1_indexOf_4cfef_16 : decode cJ1_indexOf_4cfef 16 = .ok (.aload_n 0, 1) := by decide +kernel
theorem dJ1_indexOf_4cfef_17 : decode cJ1_indexOf_4cfef 17 = .ok (.arraylength, 1) := by decide +kernel
theorem dJ1_indexOf_4cfef_18 : decode cJ1_indexOf_4cfef 18 = .ok (.invokestatic 38, 3) := by decide +kernel
theorem dJ1_indexOf_4cfef_21 : decode cJ1_indexOf_4cfef 21 = .ok (.istore_n 3, 1) := by decide +kernel
theorem dJ1_indexOf_4cfef_22 : decode cJ1_indexOf_4cfef 22 = .ok (.iload_n 2, 1) := by decide +kernel
theorem dJ1_indexOf_4cfef_23 : decode cJ1_indexOf_4cfef 23 = .ok (.iload_n 3, 1) := by decide +kernel
theorem dJ1_indexOf_4cfef_24 : decode cJ1_indexOf_4cfef 24 = .ok (.if_icmp .lt 5, 3) := by decide +kernel
theorem dJ1_indexOf_4cfef_27 : decode cJ1_indexOf_4cfef 27 = .ok (.iconst (-1), 1) := by decide +kernel
theorem dJ1_indexOf_4cfef_28 : decode cJ1_indexOf_4cfef 28 = .ok (.ireturn, 1) := by decide +kernel
theorem dJ1_indexOf_4cfef_29 : decode cJ1_indexOf_4cfef 29 = .ok (.aload_n 0, 1) := by decide +kernel
theorem dJ1_indexOf_4cfef_30 : decode cJ1_indexOf_4cfef 30 = .ok (.iload_n 1, 1) := by decide +kernel
theorem dJ1_indexOf_4cfef_31 : decode cJ1_indexOf_4cfef 31 = .ok (.iload_n 2, 1) := by decide +kernel
theorem dJ1_indexOf_4cfef_32 : decode cJ1_indexOf_4cfef 32 = .ok (.iload_n 3, 1) := by decide +kernel
theorem dJ1_indexOf_4cfef_33 : decode cJ1_indexOf_4cfef 33 = .ok (.invokestatic 95, 3) := by decide +kernel
theorem dJ1_indexOf_4cfef_36 : decode cJ1_indexOf_4cfef 36 = .ok (.ireturn, 1) := by decide +kernel
theorem dJ1_indexOfChar_4cfef_0 : decode cJ1_indexOfChar_4cfef 0 = .ok (.iload_n 1, 1) := by decide +kernel
theorem dJ1_indexOfChar_4cfef_1 : decode cJ1_indexOfChar_4cfef 1 = .ok (.i2b, 1) := by decide +kernel
theorem dJ1_indexOfChar_4cfef_2 : decode cJ1_indexOfChar_4cfef 2 = .ok (.istore 4, 2) := by decide +kernel
theorem dJ1_indexOfChar_4cfef_4 : decode cJ1_indexOfChar_4cfef 4 = .ok (.iload_n 2, 1) := by decide +kernel
theorem dJ1_indexOfChar_4cfef_5 : decode cJ1_indexOfChar_4cfef 5 = .ok (.istore 5, 2) := by decide +kernel
theorem dJ1_indexOfChar_4cfef_7 : decode cJ1_indexOfChar_4cfef 7 = .ok (.iload 5, 2) := by decide +kernel
theorem dJ1_indexOfChar_4cfef_9 : decode cJ1_indexOfChar_4cfef 9 = .ok (.iload_n 3, 1) := by decide +kernel
theorem dJ1_indexOfChar_4cfef_10 : decode cJ1_indexOfChar_4cfef 10 = .ok (.if_icmp .ge 21, 3) := by decide +kernel
theorem dJ1_indexOfChar_4cfef_13 : decode cJ1_indexOfChar_4cfef 13 = .ok (.aload_n 0, 1) := by decide +kernel
theorem dJ1_indexOfChar_4cfef_14 : decode cJ1_indexOfChar_4cfef 14 = .ok (.iload 5, 2) := by decide +kernel
theorem dJ1_indexOfChar_4cfef_16 : decode cJ1_indexOfChar_4cfef 16 = .ok (.baload, 1) := by decide +kernel
theorem dJ1_indexOfChar_4cfef_17 : decode cJ1_indexOfChar_4cfef 17 = .ok (.iload 4, 2) := by decide +kernel
theorem dJ1_indexOfChar_4cfef_19 : decode cJ1_indexOfChar_4cfef 19 = .ok (.if_icmp .ne 6, 3) := by decide +kernel
theorem dJ1_indexOfChar_4cfef_22 : decode cJ1_indexOfChar_4cfef 22 = .ok (.iload 5, 2) := by decide +kernel
theorem dJ1_indexOfChar_4cfef_24 : decode cJ1_indexOfChar_4cfef 24 = .ok (.ireturn, 1) := by decide +kernel
theorem dJ1_indexOfChar_4cfef_25 : decode cJ1_indexOfChar_4cfef 25 = .ok (.iinc 5 1, 3) := by decide +kernel
theorem dJ1_indexOfChar_4cfef_28 : decode cJ1_indexOfChar_4cfef 28 = .ok (.goto (-21), 3) := by decide +kernel
theorem dJ1_indexOfChar_4cfef_31 : decode cJ1_indexOfChar_4cfef 31 = .ok (.iconst (-1), 1) := by decide +kernel
theorem dJ1_indexOfChar_4cfef_32 : decode cJ1_indexOfChar_4cfef 32 = .ok (.ireturn, 1) := by decide +kernel
theorem dJ3_checkIndex_8e157_0 : decode cJ3_checkIndex_8e157 0 = .ok (.iload_n 0, 1) := by decide +kernel
theorem dJ3_checkIndex_8e157_1 : decode cJ3_checkIndex_8e157 1 = .ok (.ifCond .lt 8, 3) := by decide +kernel
theorem dJ3_checkIndex_8e157_4 : decode cJ3_checkIndex_8e157 4 = .ok (.iload_n 0, 1) := by decide +kernel
theorem dJ3_checkIndex_8e157_5 : decode cJ3_checkIndex_8e157 5 = .ok (.iload_n 1, 1) := by decide +kernel
theorem dJ3_checkIndex_8e157_6 : decode cJ3_checkIndex_8e157 6 = .ok (.if_icmp .lt 10, 3) := by decide +kernel
theorem dJ3_checkIndex_8e157_16 : decode cJ3_checkIndex_8e157 16 = .ok (.iload_n 0, 1) := by decide +kernel
theorem dJ3_checkIndex_8e157_17 : decode cJ3_checkIndex_8e157 17 = .ok (.ireturn, 1) := by decide +kernel
theorem dL_cell_0 : decode cL_cell 0 = .ok (.iload_n 1, 1) := by decide +kernel
theorem dL_cell_1 : decode cL_cell 1 = .ok (.aload_n 0, 1) := by decide +kernel
theorem dL_cell_2 : decode cL_cell 2 = .ok (.arraylength, 1) := by decide +kernel
theorem dL_cell_3 : decode cL_cell 3 = .ok (.if_icmp .ge 9, 3) := by decide +kernel
theorem dL_cell_6 : decode cL_cell 6 = .ok (.aload_n 0, 1) := by decide +kernel
theorem dL_cell_7 : decode cL_cell 7 = .ok (.iload_n 1, 1) := by decide +kernel
theorem dL_cell_8 : decode cL_cell 8 = .ok (.iaload, 1) := by decide +kernel
theorem dL_cell_9 : decode cL_cell 9 = .ok (.goto 12, 3) := by decide +kernel
theorem dL_cell_12 : decode cL_cell 12 = .ok (.ldc 7, 2) := by decide +kernel
theorem dL_cell_14 : decode cL_cell 14 = .ok (.iload_n 1, 1) := by decide +kernel
theorem dL_cell_15 : decode cL_cell 15 = .ok (.iconst 3, 1) := by decide +kernel
theorem dL_cell_16 : decode cL_cell 16 = .ok (.iadd, 1) := by decide +kernel
theorem dL_cell_17 : decode cL_cell 17 = .ok (.imul, 1) := by decide +kernel
theorem dL_cell_18 : decode cL_cell 18 = .ok (.bipush 19, 2) := by decide +kernel
theorem dL_cell_20 : decode cL_cell 20 = .ok (.iadd, 1) := by decide +kernel
theorem dL_cell_21 : decode cL_cell 21 = .ok (.ldc 8, 2) := by decide +kernel
theorem dL_cell_23 : decode cL_cell 23 = .ok (.iand, 1) := by decide +kernel
theorem dL_cell_24 : decode cL_cell 24 = .ok (.ireturn, 1) := by decide +kernel
theorem dL_append_0 : decode cL_append 0 = .ok (.aload_n 0, 1) := by decide +kernel
theorem dL_append_1 : decode cL_append 1 = .ok (.iload_n 1, 1) := by decide +kernel
theorem dL_append_2 : decode cL_append 2 = .ok (.invokevirtual 9, 3) := by decide +kernel
theorem dL_append_5 : decode cL_append 5 = .ok (.ireturn, 1) := by decide +kernel
theorem dL_append_6 : decode cL_append 6 = .ok (.astore_n 2, 1) := by decide +kernel
theorem dL_append_7 : decode cL_append 7 = .ok (.bipush (-2), 2) := by decide +kernel
theorem dL_append_9 : decode cL_append 9 = .ok (.ireturn, 1) := by decide +kernel
theorem dL_append_10 : decode cL_append 10 = .ok (.astore_n 2, 1) := by decide +kernel
theorem dL_append_11 : decode cL_append 11 = .ok (.bipush (-3), 2) := by decide +kernel
theorem dL_append_13 : decode cL_append 13 = .ok (.ireturn, 1) := by decide +kernel
theorem dL_send_0 : decode cL_send 0 = .ok (.aload_n 0, 1) := by decide +kernel
theorem dL_send_1 : decode cL_send 1 = .ok (.invokevirtual 19, 3) := by decide +kernel
theorem dL_send_4 : decode cL_send 4 = .ok (.ireturn, 1) := by decide +kernel
theorem dL_send_5 : decode cL_send 5 = .ok (.astore_n 1, 1) := by decide +kernel
theorem dL_send_6 : decode cL_send 6 = .ok (.bipush (-2), 2) := by decide +kernel
theorem dL_send_8 : decode cL_send 8 = .ok (.ireturn, 1) := by decide +kernel
theorem dL_setFault_0 : decode cL_setFault 0 = .ok (.aload_n 0, 1) := by decide +kernel
theorem dL_setFault_1 : decode cL_setFault 1 = .ok (.iload_n 1, 1) := by decide +kernel
theorem dL_setFault_2 : decode cL_setFault 2 = .ok (.iload_n 2, 1) := by decide +kernel
theorem dL_setFault_3 : decode cL_setFault 3 = .ok (.invokevirtual 23, 3) := by decide +kernel
theorem dL_setFault_6 : decode cL_setFault 6 = .ok (.ireturn, 1) := by decide +kernel
theorem dL_setFault_7 : decode cL_setFault 7 = .ok (.astore_n 3, 1) := by decide +kernel
theorem dL_setFault_8 : decode cL_setFault 8 = .ok (.bipush (-3), 2) := by decide +kernel
theorem dL_setFault_10 : decode cL_setFault 10 = .ok (.ireturn, 1) := by decide +kernel
theorem dL_setFault_11 : decode cL_setFault 11 = .ok (.astore_n 3, 1) := by decide +kernel
theorem dL_setFault_12 : decode cL_setFault 12 = .ok (.bipush (-2), 2) := by decide +kernel
theorem dL_setFault_14 : decode cL_setFault 14 = .ok (.ireturn, 1) := by decide +kernel
theorem dL_learn_0 : decode cL_learn 0 = .ok (.aload_n 0, 1) := by decide +kernel
theorem dL_learn_1 : decode cL_learn 1 = .ok (.invokevirtual 29, 3) := by decide +kernel
theorem dL_learn_4 : decode cL_learn 4 = .ok (.ireturn, 1) := by decide +kernel
theorem dL_learn_5 : decode cL_learn 5 = .ok (.astore_n 1, 1) := by decide +kernel
theorem dL_learn_6 : decode cL_learn 6 = .ok (.bipush (-2), 2) := by decide +kernel
theorem dL_learn_8 : decode cL_learn 8 = .ok (.ireturn, 1) := by decide +kernel
theorem dL_learn_9 : decode cL_learn 9 = .ok (.astore_n 1, 1) := by decide +kernel
theorem dL_learn_10 : decode cL_learn 10 = .ok (.bipush (-3), 2) := by decide +kernel
theorem dL_learn_12 : decode cL_learn 12 = .ok (.ireturn, 1) := by decide +kernel
theorem dL_forget_0 : decode cL_forget 0 = .ok (.aload_n 0, 1) := by decide +kernel
theorem dL_forget_1 : decode cL_forget 1 = .ok (.iload_n 1, 1) := by decide +kernel
theorem dL_forget_2 : decode cL_forget 2 = .ok (.invokevirtual 32, 3) := by decide +kernel
theorem dL_forget_5 : decode cL_forget 5 = .ok (.ireturn, 1) := by decide +kernel
theorem dL_forget_6 : decode cL_forget 6 = .ok (.astore_n 2, 1) := by decide +kernel
theorem dL_forget_7 : decode cL_forget 7 = .ok (.bipush (-2), 2) := by decide +kernel
theorem dL_forget_9 : decode cL_forget 9 = .ok (.ireturn, 1) := by decide +kernel
theorem dL_sentCode_0 : decode cL_sentCode 0 = .ok (.aload_n 0, 1) := by decide +kernel
theorem dL_sentCode_1 : decode cL_sentCode 1 = .ok (.iload_n 1, 1) := by decide +kernel
theorem dL_sentCode_2 : decode cL_sentCode 2 = .ok (.invokevirtual 35, 3) := by decide +kernel
theorem dL_sentCode_5 : decode cL_sentCode 5 = .ok (.ireturn, 1) := by decide +kernel
theorem dL_sentCode_6 : decode cL_sentCode 6 = .ok (.astore_n 2, 1) := by decide +kernel
theorem dL_sentCode_7 : decode cL_sentCode 7 = .ok (.bipush (-2), 2) := by decide +kernel
theorem dL_sentCode_9 : decode cL_sentCode 9 = .ok (.ireturn, 1) := by decide +kernel
theorem dL_receivedCode_0 : decode cL_receivedCode 0 = .ok (.aload_n 0, 1) := by decide +kernel
theorem dL_receivedCode_1 : decode cL_receivedCode 1 = .ok (.iload_n 1, 1) := by decide +kernel
theorem dL_receivedCode_2 : decode cL_receivedCode 2 = .ok (.invokevirtual 38, 3) := by decide +kernel
theorem dL_receivedCode_5 : decode cL_receivedCode 5 = .ok (.ireturn, 1) := by decide +kernel
theorem dL_receivedCode_6 : decode cL_receivedCode 6 = .ok (.astore_n 2, 1) := by decide +kernel
theorem dL_receivedCode_7 : decode cL_receivedCode 7 = .ok (.bipush (-2), 2) := by decide +kernel
theorem dL_receivedCode_9 : decode cL_receivedCode 9 = .ok (.ireturn, 1) := by decide +kernel
theorem dL_printed_0 : decode cL_printed 0 = .ok (.aload_n 0, 1) := by decide +kernel
theorem dL_printed_1 : decode cL_printed 1 = .ok (.iload_n 1, 1) := by decide +kernel
theorem dL_printed_2 : decode cL_printed 2 = .ok (.invokevirtual 41, 3) := by decide +kernel
theorem dL_printed_5 : decode cL_printed 5 = .ok (.ireturn, 1) := by decide +kernel
theorem dL_printed_6 : decode cL_printed 6 = .ok (.astore_n 2, 1) := by decide +kernel
theorem dL_printed_7 : decode cL_printed 7 = .ok (.bipush (-2), 2) := by decide +kernel
theorem dL_printed_9 : decode cL_printed 9 = .ok (.ireturn, 1) := by decide +kernel
theorem dL_segmentLength_0 : decode cL_segmentLength 0 = .ok (.aload_n 0, 1) := by decide +kernel
theorem dL_segmentLength_1 : decode cL_segmentLength 1 = .ok (.iload_n 1, 1) := by decide +kernel
theorem dL_segmentLength_2 : decode cL_segmentLength 2 = .ok (.invokevirtual 44, 3) := by decide +kernel
theorem dL_segmentLength_5 : decode cL_segmentLength 5 = .ok (.ireturn, 1) := by decide +kernel
theorem dL_segmentLength_6 : decode cL_segmentLength 6 = .ok (.astore_n 2, 1) := by decide +kernel
theorem dL_segmentLength_7 : decode cL_segmentLength 7 = .ok (.bipush (-2), 2) := by decide +kernel
theorem dL_segmentLength_9 : decode cL_segmentLength 9 = .ok (.ireturn, 1) := by decide +kernel
theorem dL_segmentKind_0 : decode cL_segmentKind 0 = .ok (.aload_n 0, 1) := by decide +kernel
theorem dL_segmentKind_1 : decode cL_segmentKind 1 = .ok (.iload_n 1, 1) := by decide +kernel
theorem dL_segmentKind_2 : decode cL_segmentKind 2 = .ok (.invokevirtual 47, 3) := by decide +kernel
theorem dL_segmentKind_5 : decode cL_segmentKind 5 = .ok (.ireturn, 1) := by decide +kernel
theorem dL_segmentKind_6 : decode cL_segmentKind 6 = .ok (.astore_n 2, 1) := by decide +kernel
theorem dL_segmentKind_7 : decode cL_segmentKind 7 = .ok (.bipush (-2), 2) := by decide +kernel
theorem dL_segmentKind_9 : decode cL_segmentKind 9 = .ok (.ireturn, 1) := by decide +kernel
theorem dL_wordLetter_0 : decode cL_wordLetter 0 = .ok (.aload_n 0, 1) := by decide +kernel
theorem dL_wordLetter_1 : decode cL_wordLetter 1 = .ok (.iload_n 1, 1) := by decide +kernel
theorem dL_wordLetter_2 : decode cL_wordLetter 2 = .ok (.iload_n 2, 1) := by decide +kernel
theorem dL_wordLetter_3 : decode cL_wordLetter 3 = .ok (.invokevirtual 50, 3) := by decide +kernel
theorem dL_wordLetter_6 : decode cL_wordLetter 6 = .ok (.ireturn, 1) := by decide +kernel
theorem dL_wordLetter_7 : decode cL_wordLetter 7 = .ok (.astore_n 3, 1) := by decide +kernel
theorem dL_wordLetter_8 : decode cL_wordLetter 8 = .ok (.bipush (-2), 2) := by decide +kernel
theorem dL_wordLetter_10 : decode cL_wordLetter 10 = .ok (.ireturn, 1) := by decide +kernel
theorem dL_uses_0 : decode cL_uses 0 = .ok (.aload_n 0, 1) := by decide +kernel
theorem dL_uses_1 : decode cL_uses 1 = .ok (.iload_n 1, 1) := by decide +kernel
theorem dL_uses_2 : decode cL_uses 2 = .ok (.invokevirtual 53, 3) := by decide +kernel
theorem dL_uses_5 : decode cL_uses 5 = .ok (.ireturn, 1) := by decide +kernel
theorem dL_uses_6 : decode cL_uses 6 = .ok (.astore_n 2, 1) := by decide +kernel
theorem dL_uses_7 : decode cL_uses 7 = .ok (.bipush (-2), 2) := by decide +kernel
theorem dL_uses_9 : decode cL_uses 9 = .ok (.ireturn, 1) := by decide +kernel
theorem dL_undo_0 : decode cL_undo 0 = .ok (.aload_n 0, 1) := by decide +kernel
theorem dL_undo_1 : decode cL_undo 1 = .ok (.invokevirtual 56, 3) := by decide +kernel
theorem dL_undo_4 : decode cL_undo 4 = .ok (.ireturn, 1) := by decide +kernel
theorem dL_undo_5 : decode cL_undo 5 = .ok (.astore_n 1, 1) := by decide +kernel
theorem dL_undo_6 : decode cL_undo 6 = .ok (.bipush (-2), 2) := by decide +kernel
theorem dL_undo_8 : decode cL_undo 8 = .ok (.ireturn, 1) := by decide +kernel
theorem dL_doubtfulWith_0 : decode cL_doubtfulWith 0 = .ok (.aload_n 0, 1) := by decide +kernel
theorem dL_doubtfulWith_1 : decode cL_doubtfulWith 1 = .ok (.iload_n 1, 1) := by decide +kernel
theorem dL_doubtfulWith_2 : decode cL_doubtfulWith 2 = .ok (.iload_n 2, 1) := by decide +kernel
theorem dL_doubtfulWith_3 : decode cL_doubtfulWith 3 = .ok (.invokevirtual 59, 3) := by decide +kernel
theorem dL_doubtfulWith_6 : decode cL_doubtfulWith 6 = .ok (.ireturn, 1) := by decide +kernel
theorem dL_doubtfulWith_7 : decode cL_doubtfulWith 7 = .ok (.astore_n 3, 1) := by decide +kernel
theorem dL_doubtfulWith_8 : decode cL_doubtfulWith 8 = .ok (.bipush (-3), 2) := by decide +kernel
theorem dL_doubtfulWith_10 : decode cL_doubtfulWith 10 = .ok (.ireturn, 1) := by decide +kernel
theorem dL_doubtfulWith_11 : decode cL_doubtfulWith 11 = .ok (.astore_n 3, 1) := by decide +kernel
theorem dL_doubtfulWith_12 : decode cL_doubtfulWith 12 = .ok (.bipush (-2), 2) := by decide +kernel
theorem dL_doubtfulWith_14 : decode cL_doubtfulWith 14 = .ok (.ireturn, 1) := by decide +kernel
theorem dL_acts_0 : decode cL_acts 0 = .ok (.iload_n 1, 1) := by decide +kernel
theorem dL_acts_1 : decode cL_acts 1 = .ok (.bipush 32, 2) := by decide +kernel
theorem dL_acts_3 : decode cL_acts 3 = .ok (.idiv, 1) := by decide +kernel
theorem dL_acts_4 : decode cL_acts 4 = .ok (.istore_n 2, 1) := by decide +kernel
theorem dL_acts_5 : decode cL_acts 5 = .ok (.iload_n 1, 1) := by decide +kernel
theorem dL_acts_6 : decode cL_acts 6 = .ok (.bipush 32, 2) := by decide +kernel
theorem dL_acts_8 : decode cL_acts 8 = .ok (.irem, 1) := by decide +kernel
theorem dL_acts_9 : decode cL_acts 9 = .ok (.tableswitch 180 0 12 #[67, 67, 91, 91, 91, 91, 110, 110, 110, 110, 166, 175, 175], 67) := by decide +kernel
theorem dL_acts_76 : decode cL_acts 76 = .ok (.aload_n 0, 1) := by decide +kernel
theorem dL_acts_77 : decode cL_acts 77 = .ok (.iload_n 2, 1) := by decide +kernel
theorem dL_acts_78 : decode cL_acts 78 = .ok (.iconst 2, 1) := by decide +kernel
theorem dL_acts_79 : decode cL_acts 79 = .ok (.irem, 1) := by decide +kernel
theorem dL_acts_80 : decode cL_acts 80 = .ok (.ifCond .ne 7, 3) := by decide +kernel
theorem dL_acts_83 : decode cL_acts 83 = .ok (.iconst 1, 1) := by decide +kernel
theorem dL_acts_84 : decode cL_acts 84 = .ok (.goto 4, 3) := by decide +kernel
theorem dL_acts_87 : decode cL_acts 87 = .ok (.iconst 0, 1) := by decide +kernel
theorem dL_acts_88 : decode cL_acts 88 = .ok (.invokevirtual 73, 3) := by decide +kernel
theorem dL_acts_91 : decode cL_acts 91 = .ok (.ifCond .eq 7, 3) := by decide +kernel
theorem dL_acts_94 : decode cL_acts 94 = .ok (.iconst 1, 1) := by decide +kernel
theorem dL_acts_95 : decode cL_acts 95 = .ok (.goto 4, 3) := by decide +kernel
theorem dL_acts_98 : decode cL_acts 98 = .ok (.iconst 0, 1) := by decide +kernel
theorem dL_acts_99 : decode cL_acts 99 = .ok (.ireturn, 1) := by decide +kernel
theorem dL_acts_100 : decode cL_acts 100 = .ok (.aload_n 0, 1) := by decide +kernel
theorem dL_acts_101 : decode cL_acts 101 = .ok (.iload_n 2, 1) := by decide +kernel
theorem dL_acts_102 : decode cL_acts 102 = .ok (.bipush 120, 2) := by decide +kernel
theorem dL_acts_104 : decode cL_acts 104 = .ok (.irem, 1) := by decide +kernel
theorem dL_acts_105 : decode cL_acts 105 = .ok (.iload_n 2, 1) := by decide +kernel
theorem dL_acts_106 : decode cL_acts 106 = .ok (.sipush 128, 3) := by decide +kernel
theorem dL_acts_109 : decode cL_acts 109 = .ok (.idiv, 1) := by decide +kernel
theorem dL_acts_110 : decode cL_acts 110 = .ok (.bipush 7, 2) := by decide +kernel
theorem dL_acts_112 : decode cL_acts 112 = .ok (.irem, 1) := by decide +kernel
theorem dL_acts_113 : decode cL_acts 113 = .ok (.iconst 1, 1) := by decide +kernel
theorem dL_acts_114 : decode cL_acts 114 = .ok (.isub, 1) := by decide +kernel
theorem dL_acts_115 : decode cL_acts 115 = .ok (.invokestatic 77, 3) := by decide +kernel
theorem dL_acts_118 : decode cL_acts 118 = .ok (.ireturn, 1) := by decide +kernel
theorem dL_acts_119 : decode cL_acts 119 = .ok (.aload_n 0, 1) := by decide +kernel
theorem dL_acts_120 : decode cL_acts 120 = .ok (.invokevirtual 80, 3) := by decide +kernel
theorem dL_acts_123 : decode cL_acts 123 = .ok (.istore_n 3, 1) := by decide +kernel
theorem dL_acts_124 : decode cL_acts 124 = .ok (.iconst 0, 1) := by decide +kernel
theorem dL_acts_125 : decode cL_acts 125 = .ok (.istore 4, 2) := by decide +kernel
theorem dL_acts_127 : decode cL_acts 127 = .ok (.iload 4, 2) := by decide +kernel
theorem dL_acts_129 : decode cL_acts 129 = .ok (.iconst 1, 1) := by decide +kernel
theorem dL_acts_130 : decode cL_acts 130 = .ok (.iload_n 2, 1) := by decide +kernel
theorem dL_acts_131 : decode cL_acts 131 = .ok (.iconst 3, 1) := by decide +kernel
theorem dL_acts_132 : decode cL_acts 132 = .ok (.irem, 1) := by decide +kernel
theorem dL_acts_133 : decode cL_acts 133 = .ok (.iadd, 1) := by decide +kernel
theorem dL_acts_134 : decode cL_acts 134 = .ok (.if_icmp .ge 27, 3) := by decide +kernel
theorem dL_acts_137 : decode cL_acts 137 = .ok (.aload_n 0, 1) := by decide +kernel
theorem dL_acts_138 : decode cL_acts 138 = .ok (.bipush 97, 2) := by decide +kernel
theorem dL_acts_140 : decode cL_acts 140 = .ok (.iload_n 2, 1) := by decide +kernel
theorem dL_acts_141 : decode cL_acts 141 = .ok (.iconst 4, 1) := by decide +kernel
theorem dL_acts_142 : decode cL_acts 142 = .ok (.idiv, 1) := by decide +kernel
theorem dL_acts_143 : decode cL_acts 143 = .ok (.iconst 2, 1) := by decide +kernel
theorem dL_acts_144 : decode cL_acts 144 = .ok (.iload 4, 2) := by decide +kernel
theorem dL_acts_146 : decode cL_acts 146 = .ok (.imul, 1) := by decide +kernel
theorem dL_acts_147 : decode cL_acts 147 = .ok (.ishr, 1) := by decide +kernel
theorem dL_acts_148 : decode cL_acts 148 = .ok (.iconst 3, 1) := by decide +kernel
theorem dL_acts_149 : decode cL_acts 149 = .ok (.irem, 1) := by decide +kernel
theorem dL_acts_150 : decode cL_acts 150 = .ok (.iadd, 1) := by decide +kernel
theorem dL_acts_151 : decode cL_acts 151 = .ok (.invokestatic 83, 3) := by decide +kernel
theorem dL_acts_154 : decode cL_acts 154 = .ok (.istore_n 3, 1) := by decide +kernel
theorem dL_acts_155 : decode cL_acts 155 = .ok (.iinc 4 1, 3) := by decide +kernel
theorem dL_acts_158 : decode cL_acts 158 = .ok (.goto (-31), 3) := by decide +kernel
theorem dL_acts_161 : decode cL_acts 161 = .ok (.iload_n 3, 1) := by decide +kernel
theorem dL_acts_162 : decode cL_acts 162 = .ok (.ifCond .ge 8, 3) := by decide +kernel
theorem dL_acts_165 : decode cL_acts 165 = .ok (.bipush (-9), 2) := by decide +kernel
theorem dL_acts_167 : decode cL_acts 167 = .ok (.goto 7, 3) := by decide +kernel
theorem dL_acts_170 : decode cL_acts 170 = .ok (.aload_n 0, 1) := by decide +kernel
theorem dL_acts_171 : decode cL_acts 171 = .ok (.invokestatic 86, 3) := by decide +kernel
theorem dL_acts_174 : decode cL_acts 174 = .ok (.ireturn, 1) := by decide +kernel
theorem dL_acts_175 : decode cL_acts 175 = .ok (.aload_n 0, 1) := by decide +kernel
theorem dL_acts_176 : decode cL_acts 176 = .ok (.iload_n 2, 1) := by decide +kernel
theorem dL_acts_177 : decode cL_acts 177 = .ok (.bipush 8, 2) := by decide +kernel
theorem dL_acts_179 : decode cL_acts 179 = .ok (.irem, 1) := by decide +kernel
theorem dL_acts_180 : decode cL_acts 180 = .ok (.invokestatic 89, 3) := by decide +kernel
theorem dL_acts_183 : decode cL_acts 183 = .ok (.ireturn, 1) := by decide +kernel
theorem dL_acts_184 : decode cL_acts 184 = .ok (.aload_n 0, 1) := by decide +kernel
theorem dL_acts_185 : decode cL_acts 185 = .ok (.invokestatic 91, 3) := by decide +kernel
theorem dL_acts_188 : decode cL_acts 188 = .ok (.ireturn, 1) := by decide +kernel
theorem dL_acts_189 : decode cL_acts 189 = .ok (.aload_n 0, 1) := by decide +kernel
theorem dL_acts_190 : decode cL_acts 190 = .ok (.invokevirtual 80, 3) := by decide +kernel
theorem dL_acts_193 : decode cL_acts 193 = .ok (.istore 4, 2) := by decide +kernel
theorem dL_acts_195 : decode cL_acts 195 = .ok (.iconst 0, 1) := by decide +kernel
theorem dL_acts_196 : decode cL_acts 196 = .ok (.istore 5, 2) := by decide +kernel
theorem dL_acts_198 : decode cL_acts 198 = .ok (.iload 5, 2) := by decide +kernel
theorem dL_acts_200 : decode cL_acts 200 = .ok (.iconst 1, 1) := by decide +kernel
theorem dL_acts_201 : decode cL_acts 201 = .ok (.iload_n 2, 1) := by decide +kernel
theorem dL_acts_202 : decode cL_acts 202 = .ok (.bipush 8, 2) := by decide +kernel
theorem dL_acts_204 : decode cL_acts 204 = .ok (.irem, 1) := by decide +kernel
theorem dL_acts_205 : decode cL_acts 205 = .ok (.iadd, 1) := by decide +kernel
theorem dL_acts_206 : decode cL_acts 206 = .ok (.if_icmp .ge 112, 3) := by decide +kernel
theorem dL_acts_209 : decode cL_acts 209 = .ok (.iload_n 2, 1) := by decide +kernel
theorem dL_acts_210 : decode cL_acts 210 = .ok (.bipush 8, 2) := by decide +kernel
theorem dL_acts_212 : decode cL_acts 212 = .ok (.idiv, 1) := by decide +kernel
theorem dL_acts_213 : decode cL_acts 213 = .ok (.iconst 2, 1) := by decide +kernel
theorem dL_acts_214 : decode cL_acts 214 = .ok (.iload 5, 2) := by decide +kernel
theorem dL_acts_216 : decode cL_acts 216 = .ok (.imul, 1) := by decide +kernel
theorem dL_acts_217 : decode cL_acts 217 = .ok (.ishr, 1) := by decide +kernel
theorem dL_acts_218 : decode cL_acts 218 = .ok (.istore 6, 2) := by decide +kernel
theorem dL_acts_220 : decode cL_acts 220 = .ok (.iload 6, 2) := by decide +kernel
theorem dL_acts_222 : decode cL_acts 222 = .ok (.bipush 16, 2) := by decide +kernel
theorem dL_acts_224 : decode cL_acts 224 = .ok (.irem, 1) := by decide +kernel
theorem dL_acts_225 : decode cL_acts 225 = .ok (.istore 7, 2) := by decide +kernel
theorem dL_acts_227 : decode cL_acts 227 = .ok (.aload_n 0, 1) := by decide +kernel
theorem dL_acts_228 : decode cL_acts 228 = .ok (.iload 7, 2) := by decide +kernel
theorem dL_acts_230 : decode cL_acts 230 = .ok (.bipush 7, 2) := by decide +kernel
theorem dL_acts_232 : decode cL_acts 232 = .ok (.if_icmp .ge 16, 3) := by decide +kernel
theorem dL_acts_235 : decode cL_acts 235 = .ok (.bipush 97, 2) := by decide +kernel
theorem dL_acts_237 : decode cL_acts 237 = .ok (.iload 6, 2) := by decide +kernel
theorem dL_acts_239 : decode cL_acts 239 = .ok (.bipush 16, 2) := by decide +kernel
theorem dL_acts_241 : decode cL_acts 241 = .ok (.idiv, 1) := by decide +kernel
theorem dL_acts_242 : decode cL_acts 242 = .ok (.iconst 3, 1) := by decide +kernel
theorem dL_acts_243 : decode cL_acts 243 = .ok (.irem, 1) := by decide +kernel
theorem dL_acts_244 : decode cL_acts 244 = .ok (.iadd, 1) := by decide +kernel
theorem dL_acts_245 : decode cL_acts 245 = .ok (.goto 62, 3) := by decide +kernel
theorem dL_acts_248 : decode cL_acts 248 = .ok (.iload 7, 2) := by decide +kernel
theorem dL_acts_250 : decode cL_acts 250 = .ok (.bipush 10, 2) := by decide +kernel
theorem dL_acts_252 : decode cL_acts 252 = .ok (.if_icmp .ge 17, 3) := by decide +kernel
theorem dL_acts_255 : decode cL_acts 255 = .ok (.bipush 48, 2) := by decide +kernel
theorem dL_acts_257 : decode cL_acts 257 = .ok (.iload 6, 2) := by decide +kernel
theorem dL_acts_259 : decode cL_acts 259 = .ok (.bipush 16, 2) := by decide +kernel
theorem dL_acts_261 : decode cL_acts 261 = .ok (.idiv, 1) := by decide +kernel
theorem dL_acts_262 : decode cL_acts 262 = .ok (.bipush 10, 2) := by decide +kernel
theorem dL_acts_264 : decode cL_acts 264 = .ok (.irem, 1) := by decide +kernel
theorem dL_acts_265 : decode cL_acts 265 = .ok (.iadd, 1) := by decide +kernel
theorem dL_acts_266 : decode cL_acts 266 = .ok (.goto 41, 3) := by decide +kernel
theorem dL_acts_269 : decode cL_acts 269 = .ok (.iload 7, 2) := by decide +kernel
theorem dL_acts_271 : decode cL_acts 271 = .ok (.bipush 13, 2) := by decide +kernel
theorem dL_acts_273 : decode cL_acts 273 = .ok (.if_icmp .ge 8, 3) := by decide +kernel
theorem dL_acts_276 : decode cL_acts 276 = .ok (.bipush 32, 2) := by decide +kernel
theorem dL_acts_278 : decode cL_acts 278 = .ok (.goto 29, 3) := by decide +kernel
theorem dL_acts_281 : decode cL_acts 281 = .ok (.iload 7, 2) := by decide +kernel
theorem dL_acts_283 : decode cL_acts 283 = .ok (.bipush 13, 2) := by decide +kernel
theorem dL_acts_285 : decode cL_acts 285 = .ok (.if_icmp .ne 8, 3) := by decide +kernel
theorem dL_acts_288 : decode cL_acts 288 = .ok (.bipush 64, 2) := by decide +kernel
theorem dL_acts_290 : decode cL_acts 290 = .ok (.goto 17, 3) := by decide +kernel
theorem dL_acts_293 : decode cL_acts 293 = .ok (.iload 7, 2) := by decide +kernel
theorem dL_acts_295 : decode cL_acts 295 = .ok (.bipush 14, 2) := by decide +kernel
theorem dL_acts_297 : decode cL_acts 297 = .ok (.if_icmp .ne 8, 3) := by decide +kernel
theorem dL_acts_300 : decode cL_acts 300 = .ok (.bipush 35, 2) := by decide +kernel
theorem dL_acts_302 : decode cL_acts 302 = .ok (.goto 5, 3) := by decide +kernel
theorem dL_acts_305 : decode cL_acts 305 = .ok (.bipush 10, 2) := by decide +kernel
theorem dL_acts_307 : decode cL_acts 307 = .ok (.invokestatic 83, 3) := by decide +kernel
theorem dL_acts_310 : decode cL_acts 310 = .ok (.istore 4, 2) := by decide +kernel
theorem dL_acts_312 : decode cL_acts 312 = .ok (.iinc 5 1, 3) := by decide +kernel
theorem dL_acts_315 : decode cL_acts 315 = .ok (.goto (-117), 3) := by decide +kernel
theorem dL_acts_318 : decode cL_acts 318 = .ok (.iload 4, 2) := by decide +kernel
theorem dL_acts_320 : decode cL_acts 320 = .ok (.ifCond .ge 8, 3) := by decide +kernel
theorem dL_acts_323 : decode cL_acts 323 = .ok (.bipush (-9), 2) := by decide +kernel
theorem dL_acts_325 : decode cL_acts 325 = .ok (.goto 7, 3) := by decide +kernel
theorem dL_acts_328 : decode cL_acts 328 = .ok (.aload_n 0, 1) := by decide +kernel
theorem dL_acts_329 : decode cL_acts 329 = .ok (.invokestatic 93, 3) := by decide +kernel
theorem dL_acts_332 : decode cL_acts 332 = .ok (.ireturn, 1) := by decide +kernel
theorem dL_hangs_0 : decode cL_hangs 0 = .ok (.aload_n 0, 1) := by decide +kernel
theorem dL_hangs_1 : decode cL_hangs 1 = .ok (.invokevirtual 95, 3) := by decide +kernel
theorem dL_hangs_4 : decode cL_hangs 4 = .ok (.istore_n 1, 1) := by decide +kernel
theorem dL_hangs_5 : decode cL_hangs 5 = .ok (.aload_n 0, 1) := by decide +kernel
theorem dL_hangs_6 : decode cL_hangs 6 = .ok (.invokevirtual 98, 3) := by decide +kernel
theorem dL_hangs_9 : decode cL_hangs 9 = .ok (.istore_n 2, 1) := by decide +kernel
theorem dL_hangs_10 : decode cL_hangs 10 = .ok (.aload_n 0, 1) := by decide +kernel
theorem dL_hangs_11 : decode cL_hangs 11 = .ok (.invokevirtual 101, 3) := by decide +kernel
theorem dL_hangs_14 : decode cL_hangs 14 = .ok (.istore_n 3, 1) := by decide +kernel
theorem dL_hangs_15 : decode cL_hangs 15 = .ok (.iload_n 1, 1) := by decide +kernel
theorem dL_hangs_16 : decode cL_hangs 16 = .ok (.ifCond .lt 59, 3) := by decide +kernel
theorem dL_hangs_19 : decode cL_hangs 19 = .ok (.iload_n 1, 1) := by decide +kernel
theorem dL_hangs_20 : decode cL_hangs 20 = .ok (.aload_n 0, 1) := by decide +kernel
theorem dL_hangs_21 : decode cL_hangs 21 = .ok (.invokevirtual 104, 3) := by decide +kernel
theorem dL_hangs_24 : decode cL_hangs 24 = .ok (.if_icmp .gt 51, 3) := by decide +kernel
theorem dL_hangs_27 : decode cL_hangs 27 = .ok (.aload_n 0, 1) := by decide +kernel
theorem dL_hangs_28 : decode cL_hangs 28 = .ok (.invokevirtual 104, 3) := by decide +kernel
theorem dL_hangs_31 : decode cL_hangs 31 = .ok (.sipush 200, 3) := by decide +kernel
theorem dL_hangs_34 : decode cL_hangs 34 = .ok (.if_icmp .gt 41, 3) := by decide +kernel
theorem dL_hangs_37 : decode cL_hangs 37 = .ok (.aload_n 0, 1) := by decide +kernel
theorem dL_hangs_38 : decode cL_hangs 38 = .ok (.invokevirtual 107, 3) := by decide +kernel
theorem dL_hangs_41 : decode cL_hangs 41 = .ok (.ifCond .lt 34, 3) := by decide +kernel
theorem dL_hangs_44 : decode cL_hangs 44 = .ok (.aload_n 0, 1) := by decide +kernel
theorem dL_hangs_45 : decode cL_hangs 45 = .ok (.invokevirtual 107, 3) := by decide +kernel
theorem dL_hangs_48 : decode cL_hangs 48 = .ok (.bipush 20, 2) := by decide +kernel
theorem dL_hangs_50 : decode cL_hangs 50 = .ok (.if_icmp .gt 25, 3) := by decide +kernel
theorem dL_hangs_53 : decode cL_hangs 53 = .ok (.iload_n 2, 1) := by decide +kernel
theorem dL_hangs_54 : decode cL_hangs 54 = .ok (.ifCond .lt 21, 3) := by decide +kernel
theorem dL_hangs_57 : decode cL_hangs 57 = .ok (.iload_n 2, 1) := by decide +kernel
theorem dL_hangs_58 : decode cL_hangs 58 = .ok (.iload_n 1, 1) := by decide +kernel
theorem dL_hangs_59 : decode cL_hangs 59 = .ok (.if_icmp .gt 16, 3) := by decide +kernel
theorem dL_hangs_62 : decode cL_hangs 62 = .ok (.iload_n 3, 1) := by decide +kernel
theorem dL_hangs_63 : decode cL_hangs 63 = .ok (.ifCond .lt 12, 3) := by decide +kernel
theorem dL_hangs_66 : decode cL_hangs 66 = .ok (.iload_n 3, 1) := by decide +kernel
theorem dL_hangs_67 : decode cL_hangs 67 = .ok (.iload_n 1, 1) := by decide +kernel
theorem dL_hangs_68 : decode cL_hangs 68 = .ok (.if_icmp .gt 7, 3) := by decide +kernel
theorem dL_hangs_71 : decode cL_hangs 71 = .ok (.iconst 1, 1) := by decide +kernel
theorem dL_hangs_72 : decode cL_hangs 72 = .ok (.goto 4, 3) := by decide +kernel
theorem dL_hangs_75 : decode cL_hangs 75 = .ok (.iconst 0, 1) := by decide +kernel
theorem dL_hangs_76 : decode cL_hangs 76 = .ok (.istore 4, 2) := by decide +kernel
theorem dL_hangs_78 : decode cL_hangs 78 = .ok (.iconst 0, 1) := by decide +kernel
theorem dL_hangs_79 : decode cL_hangs 79 = .ok (.istore 5, 2) := by decide +kernel
theorem dL_hangs_81 : decode cL_hangs 81 = .ok (.iconst 0, 1) := by decide +kernel
theorem dL_hangs_82 : decode cL_hangs 82 = .ok (.istore 6, 2) := by decide +kernel
theorem dL_hangs_84 : decode cL_hangs 84 = .ok (.iconst 0, 1) := by decide +kernel
theorem dL_hangs_85 : decode cL_hangs 85 = .ok (.istore 7, 2) := by decide +kernel
theorem dL_hangs_87 : decode cL_hangs 87 = .ok (.iconst 0, 1) := by decide +kernel
theorem dL_hangs_88 : decode cL_hangs 88 = .ok (.istore 8, 2) := by decide +kernel
theorem dL_hangs_90 : decode cL_hangs 90 = .ok (.iconst 0, 1) := by decide +kernel
theorem dL_hangs_91 : decode cL_hangs 91 = .ok (.istore 9, 2) := by decide +kernel
theorem dL_hangs_93 : decode cL_hangs 93 = .ok (.iconst 0, 1) := by decide +kernel
theorem dL_hangs_94 : decode cL_hangs 94 = .ok (.istore 10, 2) := by decide +kernel
theorem dL_hangs_96 : decode cL_hangs 96 = .ok (.iload 10, 2) := by decide +kernel
theorem dL_hangs_98 : decode cL_hangs 98 = .ok (.iload_n 1, 1) := by decide +kernel
theorem dL_hangs_99 : decode cL_hangs 99 = .ok (.if_icmp .ge 140, 3) := by decide +kernel
theorem dL_hangs_102 : decode cL_hangs 102 = .ok (.iload 4, 2) := by decide +kernel
theorem dL_hangs_104 : decode cL_hangs 104 = .ok (.ifCond .eq 135, 3) := by decide +kernel
theorem dL_hangs_107 : decode cL_hangs 107 = .ok (.aload_n 0, 1) := by decide +kernel
theorem dL_hangs_108 : decode cL_hangs 108 = .ok (.iload 10, 2) := by decide +kernel
theorem dL_hangs_110 : decode cL_hangs 110 = .ok (.invokestatic 110, 3) := by decide +kernel
theorem dL_hangs_113 : decode cL_hangs 113 = .ok (.istore 11, 2) := by decide +kernel
theorem dL_hangs_115 : decode cL_hangs 115 = .ok (.iload 11, 2) := by decide +kernel
theorem dL_hangs_117 : decode cL_hangs 117 = .ok (.ifCond .le 14, 3) := by decide +kernel
theorem dL_hangs_120 : decode cL_hangs 120 = .ok (.iload 11, 2) := by decide +kernel
theorem dL_hangs_122 : decode cL_hangs 122 = .ok (.bipush 27, 2) := by decide +kernel
theorem dL_hangs_124 : decode cL_hangs 124 = .ok (.if_icmp .ge 7, 3) := by decide +kernel
theorem dL_hangs_127 : decode cL_hangs 127 = .ok (.iconst 1, 1) := by decide +kernel
theorem dL_hangs_128 : decode cL_hangs 128 = .ok (.goto 4, 3) := by decide +kernel
theorem dL_hangs_131 : decode cL_hangs 131 = .ok (.iconst 0, 1) := by decide +kernel
theorem dL_hangs_132 : decode cL_hangs 132 = .ok (.istore 12, 2) := by decide +kernel
theorem dL_hangs_134 : decode cL_hangs 134 = .ok (.iload 11, 2) := by decide +kernel
theorem dL_hangs_136 : decode cL_hangs 136 = .ok (.ifCond .lt 14, 3) := by decide +kernel
theorem dL_hangs_139 : decode cL_hangs 139 = .ok (.iload 11, 2) := by decide +kernel
theorem dL_hangs_141 : decode cL_hangs 141 = .ok (.bipush 32, 2) := by decide +kernel
theorem dL_hangs_143 : decode cL_hangs 143 = .ok (.if_icmp .ge 7, 3) := by decide +kernel
theorem dL_hangs_146 : decode cL_hangs 146 = .ok (.iconst 1, 1) := by decide +kernel
theorem dL_hangs_147 : decode cL_hangs 147 = .ok (.goto 4, 3) := by decide +kernel
theorem dL_hangs_150 : decode cL_hangs 150 = .ok (.iconst 0, 1) := by decide +kernel
theorem dL_hangs_151 : decode cL_hangs 151 = .ok (.istore 4, 2) := by decide +kernel
theorem dL_hangs_153 : decode cL_hangs 153 = .ok (.iload 5, 2) := by decide +kernel
theorem dL_hangs_155 : decode cL_hangs 155 = .ok (.iload 12, 2) := by decide +kernel
theorem dL_hangs_157 : decode cL_hangs 157 = .ok (.ifCond .eq 7, 3) := by decide +kernel
theorem dL_hangs_160 : decode cL_hangs 160 = .ok (.iconst 1, 1) := by decide +kernel
theorem dL_hangs_161 : decode cL_hangs 161 = .ok (.goto 4, 3) := by decide +kernel
theorem dL_hangs_164 : decode cL_hangs 164 = .ok (.iconst 0, 1) := by decide +kernel
theorem dL_hangs_165 : decode cL_hangs 165 = .ok (.iadd, 1) := by decide +kernel
theorem dL_hangs_166 : decode cL_hangs 166 = .ok (.istore 5, 2) := by decide +kernel
theorem dL_hangs_168 : decode cL_hangs 168 = .ok (.iload 6, 2) := by decide +kernel
theorem dL_hangs_170 : decode cL_hangs 170 = .ok (.iload 11, 2) := by decide +kernel
theorem dL_hangs_172 : decode cL_hangs 172 = .ok (.bipush 27, 2) := by decide +kernel
theorem dL_hangs_174 : decode cL_hangs 174 = .ok (.if_icmp .eq 10, 3) := by decide +kernel
theorem dL_hangs_177 : decode cL_hangs 177 = .ok (.iload 11, 2) := by decide +kernel
theorem dL_hangs_179 : decode cL_hangs 179 = .ok (.bipush 28, 2) := by decide +kernel
theorem dL_hangs_181 : decode cL_hangs 181 = .ok (.if_icmp .ne 7, 3) := by decide +kernel
theorem dL_hangs_184 : decode cL_hangs 184 = .ok (.iconst 1, 1) := by decide +kernel
theorem dL_hangs_185 : decode cL_hangs 185 = .ok (.goto 4, 3) := by decide +kernel
theorem dL_hangs_188 : decode cL_hangs 188 = .ok (.iconst 0, 1) := by decide +kernel
theorem dL_hangs_189 : decode cL_hangs 189 = .ok (.iadd, 1) := by decide +kernel
theorem dL_hangs_190 : decode cL_hangs 190 = .ok (.istore 6, 2) := by decide +kernel
theorem dL_hangs_192 : decode cL_hangs 192 = .ok (.iload 7, 2) := by decide +kernel
theorem dL_hangs_194 : decode cL_hangs 194 = .ok (.iload 11, 2) := by decide +kernel
theorem dL_hangs_196 : decode cL_hangs 196 = .ok (.bipush 29, 2) := by decide +kernel
theorem dL_hangs_198 : decode cL_hangs 198 = .ok (.if_icmp .ne 7, 3) := by decide +kernel
theorem dL_hangs_201 : decode cL_hangs 201 = .ok (.iconst 1, 1) := by decide +kernel
theorem dL_hangs_202 : decode cL_hangs 202 = .ok (.goto 4, 3) := by decide +kernel
theorem dL_hangs_205 : decode cL_hangs 205 = .ok (.iconst 0, 1) := by decide +kernel
theorem dL_hangs_206 : decode cL_hangs 206 = .ok (.iadd, 1) := by decide +kernel
theorem dL_hangs_207 : decode cL_hangs 207 = .ok (.istore 7, 2) := by decide +kernel
theorem dL_hangs_209 : decode cL_hangs 209 = .ok (.iload 8, 2) := by decide +kernel
theorem dL_hangs_211 : decode cL_hangs 211 = .ok (.iload 12, 2) := by decide +kernel
theorem dL_hangs_213 : decode cL_hangs 213 = .ok (.ifCond .eq 12, 3) := by decide +kernel
theorem dL_hangs_216 : decode cL_hangs 216 = .ok (.iload 9, 2) := by decide +kernel
theorem dL_hangs_218 : decode cL_hangs 218 = .ok (.ifCond .ne 7, 3) := by decide +kernel
theorem dL_hangs_221 : decode cL_hangs 221 = .ok (.iconst 1, 1) := by decide +kernel
theorem dL_hangs_222 : decode cL_hangs 222 = .ok (.goto 4, 3) := by decide +kernel
theorem dL_hangs_225 : decode cL_hangs 225 = .ok (.iconst 0, 1) := by decide +kernel
theorem dL_hangs_226 : decode cL_hangs 226 = .ok (.iadd, 1) := by decide +kernel
theorem dL_hangs_227 : decode cL_hangs 227 = .ok (.istore 8, 2) := by decide +kernel
theorem dL_hangs_229 : decode cL_hangs 229 = .ok (.iload 12, 2) := by decide +kernel
theorem dL_hangs_231 : decode cL_hangs 231 = .ok (.istore 9, 2) := by decide +kernel
theorem dL_hangs_233 : decode cL_hangs 233 = .ok (.iinc 10 1, 3) := by decide +kernel
theorem dL_hangs_236 : decode cL_hangs 236 = .ok (.goto (-140), 3) := by decide +kernel
theorem dL_hangs_239 : decode cL_hangs 239 = .ok (.iconst 0, 1) := by decide +kernel
theorem dL_hangs_240 : decode cL_hangs 240 = .ok (.istore 10, 2) := by decide +kernel
theorem dL_hangs_242 : decode cL_hangs 242 = .ok (.iconst 0, 1) := by decide +kernel
theorem dL_hangs_243 : decode cL_hangs 243 = .ok (.istore 11, 2) := by decide +kernel
theorem dL_hangs_245 : decode cL_hangs 245 = .ok (.iconst 0, 1) := by decide +kernel
theorem dL_hangs_246 : decode cL_hangs 246 = .ok (.istore 12, 2) := by decide +kernel
theorem dL_hangs_248 : decode cL_hangs 248 = .ok (.iconst 0, 1) := by decide +kernel
theorem dL_hangs_249 : decode cL_hangs 249 = .ok (.istore 13, 2) := by decide +kernel
theorem dL_hangs_251 : decode cL_hangs 251 = .ok (.iconst 0, 1) := by decide +kernel
