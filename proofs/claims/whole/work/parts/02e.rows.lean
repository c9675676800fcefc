theorem dX7_plausibility_21 : decode cX7_plausibility 21 = .ok (.dreturn, 1) := by decide +kernel
theorem dX7_doubtfulWith_0 : decode cX7_doubtfulWith 0 = .ok (.iload_n 1, 1) := by decide +kernel
theorem dX7_doubtfulWith_1 : decode cX7_doubtfulWith 1 = .ok (.ifCond .lt 11, 3) := by decide +kernel
theorem dX7_doubtfulWith_4 : decode cX7_doubtfulWith 4 = .ok (.iload_n 1, 1) := by decide +kernel
theorem dX7_doubtfulWith_5 : decode cX7_doubtfulWith 5 = .ok (.aload_n 0, 1) := by decide +kernel
theorem dX7_doubtfulWith_6 : decode cX7_doubtfulWith 6 = .ok (.invokevirtual 92, 3) := by decide +kernel
theorem dX7_doubtfulWith_9 : decode cX7_doubtfulWith 9 = .ok (.if_icmp .le 13, 3) := by decide +kernel
theorem dX7_doubtfulWith_12 : decode cX7_doubtfulWith 12 = .ok (.new 109, 3) := by decide +kernel
theorem dX7_doubtfulWith_15 : decode cX7_doubtfulWith 15 = .ok (.dup, 1) := by decide +kernel
theorem dX7_doubtfulWith_16 : decode cX7_doubtfulWith 16 = .ok (.ldc 218, 2) := by decide +kernel
theorem dX7_doubtfulWith_18 : decode cX7_doubtfulWith 18 = .ok (.invokespecial 113, 3) := by decide +kernel
theorem dX7_doubtfulWith_21 : decode cX7_doubtfulWith 21 = .ok (.athrow, 1) := by decide +kernel
theorem dX7_doubtfulWith_22 : decode cX7_doubtfulWith 22 = .ok (.iload_n 2, 1) := by decide +kernel
theorem dX7_doubtfulWith_23 : decode cX7_doubtfulWith 23 = .ok (.bipush 30, 2) := by decide +kernel
theorem dX7_doubtfulWith_25 : decode cX7_doubtfulWith 25 = .ok (.if_icmp .eq 19, 3) := by decide +kernel
theorem dX7_doubtfulWith_28 : decode cX7_doubtfulWith 28 = .ok (.iload_n 2, 1) := by decide +kernel
theorem dX7_doubtfulWith_29 : decode cX7_doubtfulWith 29 = .ok (.bipush 31, 2) := by decide +kernel
theorem dX7_doubtfulWith_31 : decode cX7_doubtfulWith 31 = .ok (.if_icmp .eq 13, 3) := by decide +kernel
theorem dX7_doubtfulWith_34 : decode cX7_doubtfulWith 34 = .ok (.new 52, 3) := by decide +kernel
theorem dX7_doubtfulWith_37 : decode cX7_doubtfulWith 37 = .ok (.dup, 1) := by decide +kernel
theorem dX7_doubtfulWith_38 : decode cX7_doubtfulWith 38 = .ok (.ldc 220, 2) := by decide +kernel
theorem dX7_doubtfulWith_40 : decode cX7_doubtfulWith 40 = .ok (.invokespecial 56, 3) := by decide +kernel
theorem dX7_doubtfulWith_43 : decode cX7_doubtfulWith 43 = .ok (.athrow, 1) := by decide +kernel
theorem dX7_doubtfulWith_44 : decode cX7_doubtfulWith 44 = .ok (.aload_n 0, 1) := by decide +kernel
theorem dX7_doubtfulWith_45 : decode cX7_doubtfulWith 45 = .ok (.invokevirtual 215, 3) := by decide +kernel
theorem dX7_doubtfulWith_48 : decode cX7_doubtfulWith 48 = .ok (.aload_n 0, 1) := by decide +kernel
theorem dX7_doubtfulWith_49 : decode cX7_doubtfulWith 49 = .ok (.iload_n 1, 1) := by decide +kernel
theorem dX7_doubtfulWith_50 : decode cX7_doubtfulWith 50 = .ok (.invokevirtual 222, 3) := by decide +kernel
theorem dX7_doubtfulWith_53 : decode cX7_doubtfulWith 53 = .ok (.iadd, 1) := by decide +kernel
theorem dX7_doubtfulWith_54 : decode cX7_doubtfulWith 54 = .ok (.ireturn, 1) := by decide +kernel
theorem dX7_bestRepair_0 : decode cX7_bestRepair 0 = .ok (.iconst 0, 1) := by decide +kernel
theorem dX7_bestRepair_1 : decode cX7_bestRepair 1 = .ok (.istore_n 1, 1) := by decide +kernel
theorem dX7_bestRepair_2 : decode cX7_bestRepair 2 = .ok (.iload_n 1, 1) := by decide +kernel
theorem dX7_bestRepair_3 : decode cX7_bestRepair 3 = .ok (.aload_n 0, 1) := by decide +kernel
theorem dX7_bestRepair_4 : decode cX7_bestRepair 4 = .ok (.invokevirtual 212, 3) := by decide +kernel
theorem dX7_bestRepair_7 : decode cX7_bestRepair 7 = .ok (.if_icmp .ge 79, 3) := by decide +kernel
theorem dX7_bestRepair_10 : decode cX7_bestRepair 10 = .ok (.aload_n 0, 1) := by decide +kernel
theorem dX7_bestRepair_11 : decode cX7_bestRepair 11 = .ok (.getfield 35, 3) := by decide +kernel
theorem dX7_bestRepair_14 : decode cX7_bestRepair 14 = .ok (.getfield 186, 3) := by decide +kernel
theorem dX7_bestRepair_17 : decode cX7_bestRepair 17 = .ok (.iload_n 1, 1) := by decide +kernel
theorem dX7_bestRepair_18 : decode cX7_bestRepair 18 = .ok (.invokevirtual 116, 3) := by decide +kernel
theorem dX7_bestRepair_21 : decode cX7_bestRepair 21 = .ok (.iconst 4, 1) := by decide +kernel
theorem dX7_bestRepair_22 : decode cX7_bestRepair 22 = .ok (.if_icmp .lt 58, 3) := by decide +kernel
theorem dX7_bestRepair_25 : decode cX7_bestRepair 25 = .ok (.aload_n 0, 1) := by decide +kernel
theorem dX7_bestRepair_26 : decode cX7_bestRepair 26 = .ok (.getfield 35, 3) := by decide +kernel
theorem dX7_bestRepair_29 : decode cX7_bestRepair 29 = .ok (.getfield 225, 3) := by decide +kernel
theorem dX7_bestRepair_32 : decode cX7_bestRepair 32 = .ok (.iload_n 1, 1) := by decide +kernel
theorem dX7_bestRepair_33 : decode cX7_bestRepair 33 = .ok (.invokevirtual 116, 3) := by decide +kernel
theorem dX7_bestRepair_36 : decode cX7_bestRepair 36 = .ok (.istore_n 2, 1) := by decide +kernel
theorem dX7_bestRepair_37 : decode cX7_bestRepair 37 = .ok (.iload_n 2, 1) := by decide +kernel
theorem dX7_bestRepair_38 : decode cX7_bestRepair 38 = .ok (.aload_n 0, 1) := by decide +kernel
theorem dX7_bestRepair_39 : decode cX7_bestRepair 39 = .ok (.getfield 35, 3) := by decide +kernel
theorem dX7_bestRepair_42 : decode cX7_bestRepair 42 = .ok (.getfield 189, 3) := by decide +kernel
theorem dX7_bestRepair_45 : decode cX7_bestRepair 45 = .ok (.iload_n 1, 1) := by decide +kernel
theorem dX7_bestRepair_46 : decode cX7_bestRepair 46 = .ok (.invokevirtual 116, 3) := by decide +kernel
theorem dX7_bestRepair_49 : decode cX7_bestRepair 49 = .ok (.iadd, 1) := by decide +kernel
theorem dX7_bestRepair_50 : decode cX7_bestRepair 50 = .ok (.istore_n 3, 1) := by decide +kernel
theorem dX7_bestRepair_51 : decode cX7_bestRepair 51 = .ok (.aload_n 0, 1) := by decide +kernel
theorem dX7_bestRepair_52 : decode cX7_bestRepair 52 = .ok (.getfield 28, 3) := by decide +kernel
theorem dX7_bestRepair_55 : decode cX7_bestRepair 55 = .ok (.aload_n 0, 1) := by decide +kernel
theorem dX7_bestRepair_56 : decode cX7_bestRepair 56 = .ok (.getfield 21, 3) := by decide +kernel
theorem dX7_bestRepair_59 : decode cX7_bestRepair 59 = .ok (.getfield 126, 3) := by decide +kernel
theorem dX7_bestRepair_62 : decode cX7_bestRepair 62 = .ok (.iload_n 2, 1) := by decide +kernel
theorem dX7_bestRepair_63 : decode cX7_bestRepair 63 = .ok (.iload_n 3, 1) := by decide +kernel
theorem dX7_bestRepair_64 : decode cX7_bestRepair 64 = .ok (.invokevirtual 228, 3) := by decide +kernel
theorem dX7_bestRepair_67 : decode cX7_bestRepair 67 = .ok (.istore 4, 2) := by decide +kernel
theorem dX7_bestRepair_69 : decode cX7_bestRepair 69 = .ok (.iload 4, 2) := by decide +kernel
theorem dX7_bestRepair_71 : decode cX7_bestRepair 71 = .ok (.iconst (-1), 1) := by decide +kernel
theorem dX7_bestRepair_72 : decode cX7_bestRepair 72 = .ok (.if_icmp .eq 8, 3) := by decide +kernel
theorem dX7_bestRepair_75 : decode cX7_bestRepair 75 = .ok (.iconst 2, 1) := by decide +kernel
theorem dX7_bestRepair_76 : decode cX7_bestRepair 76 = .ok (.iload 4, 2) := by decide +kernel
theorem dX7_bestRepair_78 : decode cX7_bestRepair 78 = .ok (.imul, 1) := by decide +kernel
theorem dX7_bestRepair_79 : decode cX7_bestRepair 79 = .ok (.ireturn, 1) := by decide +kernel
theorem dX7_bestRepair_80 : decode cX7_bestRepair 80 = .ok (.iinc 1 1, 3) := by decide +kernel
theorem dX7_bestRepair_83 : decode cX7_bestRepair 83 = .ok (.goto (-81), 3) := by decide +kernel
theorem dX7_bestRepair_86 : decode cX7_bestRepair 86 = .ok (.iconst (-1), 1) := by decide +kernel
theorem dX7_bestRepair_87 : decode cX7_bestRepair 87 = .ok (.ireturn, 1) := by decide +kernel
theorem dX7_changeByCut_0 : decode cX7_changeByCut 0 = .ok (.aload_n 0, 1) := by decide +kernel
theorem dX7_changeByCut_1 : decode cX7_changeByCut 1 = .ok (.getfield 21, 3) := by decide +kernel
theorem dX7_changeByCut_4 : decode cX7_changeByCut 4 = .ok (.getfield 126, 3) := by decide +kernel
theorem dX7_changeByCut_7 : decode cX7_changeByCut 7 = .ok (.astore_n 2, 1) := by decide +kernel
theorem dX7_changeByCut_8 : decode cX7_changeByCut 8 = .ok (.aload_n 2, 1) := by decide +kernel
theorem dX7_changeByCut_9 : decode cX7_changeByCut 9 = .ok (.iload_n 1, 1) := by decide +kernel
theorem dX7_changeByCut_10 : decode cX7_changeByCut 10 = .ok (.invokestatic 232, 3) := by decide +kernel
theorem dX7_changeByCut_13 : decode cX7_changeByCut 13 = .ok (.istore_n 3, 1) := by decide +kernel
theorem dX7_changeByCut_14 : decode cX7_changeByCut 14 = .ok (.aload_n 2, 1) := by decide +kernel
theorem dX7_changeByCut_15 : decode cX7_changeByCut 15 = .ok (.iload_n 1, 1) := by decide +kernel
theorem dX7_changeByCut_16 : decode cX7_changeByCut 16 = .ok (.invokestatic 236, 3) := by decide +kernel
theorem dX7_changeByCut_19 : decode cX7_changeByCut 19 = .ok (.istore 4, 2) := by decide +kernel
theorem dX7_changeByCut_21 : decode cX7_changeByCut 21 = .ok (.iload_n 3, 1) := by decide +kernel
theorem dX7_changeByCut_22 : decode cX7_changeByCut 22 = .ok (.iload_n 1, 1) := by decide +kernel
theorem dX7_changeByCut_23 : decode cX7_changeByCut 23 = .ok (.if_icmp .eq 9, 3) := by decide +kernel
theorem dX7_changeByCut_26 : decode cX7_changeByCut 26 = .ok (.iload 4, 2) := by decide +kernel
theorem dX7_changeByCut_28 : decode cX7_changeByCut 28 = .ok (.iload_n 1, 1) := by decide +kernel
theorem dX7_changeByCut_29 : decode cX7_changeByCut 29 = .ok (.if_icmp .ne 5, 3) := by decide +kernel
theorem dX7_changeByCut_32 : decode cX7_changeByCut 32 = .ok (.iconst 0, 1) := by decide +kernel
theorem dX7_changeByCut_33 : decode cX7_changeByCut 33 = .ok (.ireturn, 1) := by decide +kernel
theorem dX7_changeByCut_34 : decode cX7_changeByCut 34 = .ok (.aload_n 0, 1) := by decide +kernel
theorem dX7_changeByCut_35 : decode cX7_changeByCut 35 = .ok (.getfield 28, 3) := by decide +kernel
theorem dX7_changeByCut_38 : decode cX7_changeByCut 38 = .ok (.aload_n 2, 1) := by decide +kernel
theorem dX7_changeByCut_39 : decode cX7_changeByCut 39 = .ok (.iload_n 3, 1) := by decide +kernel
theorem dX7_changeByCut_40 : decode cX7_changeByCut 40 = .ok (.iload_n 1, 1) := by decide +kernel
theorem dX7_changeByCut_41 : decode cX7_changeByCut 41 = .ok (.invokevirtual 239, 3) := by decide +kernel
theorem dX7_changeByCut_44 : decode cX7_changeByCut 44 = .ok (.aload_n 0, 1) := by decide +kernel
theorem dX7_changeByCut_45 : decode cX7_changeByCut 45 = .ok (.getfield 28, 3) := by decide +kernel
theorem dX7_changeByCut_48 : decode cX7_changeByCut 48 = .ok (.aload_n 2, 1) := by decide +kernel
theorem dX7_changeByCut_49 : decode cX7_changeByCut 49 = .ok (.iload_n 1, 1) := by decide +kernel
theorem dX7_changeByCut_50 : decode cX7_changeByCut 50 = .ok (.iload 4, 2) := by decide +kernel
theorem dX7_changeByCut_52 : decode cX7_changeByCut 52 = .ok (.invokevirtual 239, 3) := by decide +kernel
theorem dX7_changeByCut_55 : decode cX7_changeByCut 55 = .ok (.iadd, 1) := by decide +kernel
theorem dX7_changeByCut_56 : decode cX7_changeByCut 56 = .ok (.aload_n 0, 1) := by decide +kernel
theorem dX7_changeByCut_57 : decode cX7_changeByCut 57 = .ok (.getfield 28, 3) := by decide +kernel
theorem dX7_changeByCut_60 : decode cX7_changeByCut 60 = .ok (.aload_n 2, 1) := by decide +kernel
theorem dX7_changeByCut_61 : decode cX7_changeByCut 61 = .ok (.iload_n 3, 1) := by decide +kernel
theorem dX7_changeByCut_62 : decode cX7_changeByCut 62 = .ok (.iload 4, 2) := by decide +kernel
theorem dX7_changeByCut_64 : decode cX7_changeByCut 64 = .ok (.invokevirtual 239, 3) := by decide +kernel
theorem dX7_changeByCut_67 : decode cX7_changeByCut 67 = .ok (.isub, 1) := by decide +kernel
theorem dX7_changeByCut_68 : decode cX7_changeByCut 68 = .ok (.ireturn, 1) := by decide +kernel
theorem dX7_undo_0 : decode cX7_undo 0 = .ok (.aload_n 0, 1) := by decide +kernel
theorem dX7_undo_1 : decode cX7_undo 1 = .ok (.getfield 42, 3) := by decide +kernel
theorem dX7_undo_4 : decode cX7_undo 4 = .ok (.getfield 242, 3) := by decide +kernel
theorem dX7_undo_7 : decode cX7_undo 7 = .ok (.ifCond .ne 13, 3) := by decide +kernel
theorem dX7_undo_10 : decode cX7_undo 10 = .ok (.new 63, 3) := by decide +kernel
theorem dX7_undo_13 : decode cX7_undo 13 = .ok (.dup, 1) := by decide +kernel
theorem dX7_undo_14 : decode cX7_undo 14 = .ok (.ldc 244, 2) := by decide +kernel
theorem dX7_undo_16 : decode cX7_undo 16 = .ok (.invokespecial 67, 3) := by decide +kernel
theorem dX7_undo_19 : decode cX7_undo 19 = .ok (.athrow, 1) := by decide +kernel
theorem dX7_undo_20 : decode cX7_undo 20 = .ok (.aload_n 0, 1) := by decide +kernel
theorem dX7_undo_21 : decode cX7_undo 21 = .ok (.getfield 42, 3) := by decide +kernel
theorem dX7_undo_24 : decode cX7_undo 24 = .ok (.aload_n 0, 1) := by decide +kernel
theorem dX7_undo_25 : decode cX7_undo 25 = .ok (.getfield 21, 3) := by decide +kernel
theorem dX7_undo_28 : decode cX7_undo 28 = .ok (.aload_n 0, 1) := by decide +kernel
theorem dX7_undo_29 : decode cX7_undo 29 = .ok (.getfield 28, 3) := by decide +kernel
theorem dX7_undo_32 : decode cX7_undo 32 = .ok (.invokevirtual 246, 3) := by decide +kernel
theorem dX7_undo_35 : decode cX7_undo 35 = .ok (.aload_n 0, 1) := by decide +kernel
theorem dX7_undo_36 : decode cX7_undo 36 = .ok (.getfield 35, 3) := by decide +kernel
theorem dX7_undo_39 : decode cX7_undo 39 = .ok (.aload_n 0, 1) := by decide +kernel
theorem dX7_undo_40 : decode cX7_undo 40 = .ok (.getfield 21, 3) := by decide +kernel
theorem dX7_undo_43 : decode cX7_undo 43 = .ok (.aload_n 0, 1) := by decide +kernel
theorem dX7_undo_44 : decode cX7_undo 44 = .ok (.getfield 28, 3) := by decide +kernel
theorem dX7_undo_47 : decode cX7_undo 47 = .ok (.invokevirtual 99, 3) := by decide +kernel
theorem dX7_undo_50 : decode cX7_undo 50 = .ok (.aload_n 0, 1) := by decide +kernel
theorem dX7_undo_51 : decode cX7_undo 51 = .ok (.getfield 42, 3) := by decide +kernel
theorem dX7_undo_54 : decode cX7_undo 54 = .ok (.getfield 242, 3) := by decide +kernel
theorem dX7_undo_57 : decode cX7_undo 57 = .ok (.ireturn, 1) := by decide +kernel
theorem dX7_savedStates_0 : decode cX7_savedStates 0 = .ok (.aload_n 0, 1) := by decide +kernel
theorem dX7_savedStates_1 : decode cX7_savedStates 1 = .ok (.getfield 42, 3) := by decide +kernel
theorem dX7_savedStates_4 : decode cX7_savedStates 4 = .ok (.getfield 242, 3) := by decide +kernel
theorem dX7_savedStates_7 : decode cX7_savedStates 7 = .ok (.ireturn, 1) := by decide +kernel
theorem dX7_digest_0 : decode cX7_digest 0 = .ok (.ldc2_w 249, 3) := by decide +kernel
theorem dX7_digest_3 : decode cX7_digest 3 = .ok (.lstore_n 1, 1) := by decide +kernel
theorem dX7_digest_4 : decode cX7_digest 4 = .ok (.ldc2_w 251, 3) := by decide +kernel
theorem dX7_digest_7 : decode cX7_digest 7 = .ok (.lload_n 1, 1) := by decide +kernel
theorem dX7_digest_8 : decode cX7_digest 8 = .ok (.lmul, 1) := by decide +kernel
theorem dX7_digest_9 : decode cX7_digest 9 = .ok (.aload_n 0, 1) := by decide +kernel
theorem dX7_digest_10 : decode cX7_digest 10 = .ok (.invokevirtual 80, 3) := by decide +kernel
theorem dX7_digest_13 : decode cX7_digest 13 = .ok (.i2l, 1) := by decide +kernel
theorem dX7_digest_14 : decode cX7_digest 14 = .ok (.ladd, 1) := by decide +kernel
theorem dX7_digest_15 : decode cX7_digest 15 = .ok (.lstore_n 1, 1) := by decide +kernel
theorem dX7_digest_16 : decode cX7_digest 16 = .ok (.ldc2_w 251, 3) := by decide +kernel
theorem dX7_digest_19 : decode cX7_digest 19 = .ok (.lload_n 1, 1) := by decide +kernel
theorem dX7_digest_20 : decode cX7_digest 20 = .ok (.lmul, 1) := by decide +kernel
theorem dX7_digest_21 : decode cX7_digest 21 = .ok (.aload_n 0, 1) := by decide +kernel
theorem dX7_digest_22 : decode cX7_digest 22 = .ok (.invokevirtual 92, 3) := by decide +kernel
theorem dX7_digest_25 : decode cX7_digest 25 = .ok (.i2l, 1) := by decide +kernel
theorem dX7_digest_26 : decode cX7_digest 26 = .ok (.ladd, 1) := by decide +kernel
theorem dX7_digest_27 : decode cX7_digest 27 = .ok (.lstore_n 1, 1) := by decide +kernel
theorem dX7_digest_28 : decode cX7_digest 28 = .ok (.ldc2_w 251, 3) := by decide +kernel
theorem dX7_digest_31 : decode cX7_digest 31 = .ok (.lload_n 1, 1) := by decide +kernel
theorem dX7_digest_32 : decode cX7_digest 32 = .ok (.lmul, 1) := by decide +kernel
theorem dX7_digest_33 : decode cX7_digest 33 = .ok (.aload_n 0, 1) := by decide +kernel
theorem dX7_digest_34 : decode cX7_digest 34 = .ok (.invokevirtual 253, 3) := by decide +kernel
theorem dX7_digest_37 : decode cX7_digest 37 = .ok (.i2l, 1) := by decide +kernel
theorem dX7_digest_38 : decode cX7_digest 38 = .ok (.ladd, 1) := by decide +kernel
theorem dX7_digest_39 : decode cX7_digest 39 = .ok (.lstore_n 1, 1) := by decide +kernel
theorem dX7_digest_40 : decode cX7_digest 40 = .ok (.ldc2_w 251, 3) := by decide +kernel
theorem dX7_digest_43 : decode cX7_digest 43 = .ok (.lload_n 1, 1) := by decide +kernel
theorem dX7_digest_44 : decode cX7_digest 44 = .ok (.lmul, 1) := by decide +kernel
theorem dX7_digest_45 : decode cX7_digest 45 = .ok (.aload_n 0, 1) := by decide +kernel
theorem dX7_digest_46 : decode cX7_digest 46 = .ok (.invokevirtual 256, 3) := by decide +kernel
theorem dX7_digest_49 : decode cX7_digest 49 = .ok (.i2l, 1) := by decide +kernel
theorem dX7_digest_50 : decode cX7_digest 50 = .ok (.ladd, 1) := by decide +kernel
theorem dX7_digest_51 : decode cX7_digest 51 = .ok (.lstore_n 1, 1) := by decide +kernel
theorem dX7_digest_52 : decode cX7_digest 52 = .ok (.ldc2_w 251, 3) := by decide +kernel
theorem dX7_digest_55 : decode cX7_digest 55 = .ok (.lload_n 1, 1) := by decide +kernel
theorem dX7_digest_56 : decode cX7_digest 56 = .ok (.lmul, 1) := by decide +kernel
theorem dX7_digest_57 : decode cX7_digest 57 = .ok (.aload_n 0, 1) := by decide +kernel
theorem dX7_digest_58 : decode cX7_digest 58 = .ok (.invokevirtual 156, 3) := by decide +kernel
theorem dX7_digest_61 : decode cX7_digest 61 = .ok (.i2l, 1) := by decide +kernel
theorem dX7_digest_62 : decode cX7_digest 62 = .ok (.ladd, 1) := by decide +kernel
theorem dX7_digest_63 : decode cX7_digest 63 = .ok (.lstore_n 1, 1) := by decide +kernel
theorem dX7_digest_64 : decode cX7_digest 64 = .ok (.ldc2_w 251, 3) := by decide +kernel
theorem dX7_digest_67 : decode cX7_digest 67 = .ok (.lload_n 1, 1) := by decide +kernel
theorem dX7_digest_68 : decode cX7_digest 68 = .ok (.lmul, 1) := by decide +kernel
theorem dX7_digest_69 : decode cX7_digest 69 = .ok (.aload_n 0, 1) := by decide +kernel
theorem dX7_digest_70 : decode cX7_digest 70 = .ok (.invokevirtual 259, 3) := by decide +kernel
theorem dX7_digest_73 : decode cX7_digest 73 = .ok (.i2l, 1) := by decide +kernel
theorem dX7_digest_74 : decode cX7_digest 74 = .ok (.ladd, 1) := by decide +kernel
theorem dX7_digest_75 : decode cX7_digest 75 = .ok (.lstore_n 1, 1) := by decide +kernel
theorem dX7_digest_76 : decode cX7_digest 76 = .ok (.ldc2_w 251, 3) := by decide +kernel
theorem dX7_digest_79 : decode cX7_digest 79 = .ok (.lload_n 1, 1) := by decide +kernel
theorem dX7_digest_80 : decode cX7_digest 80 = .ok (.lmul, 1) := by decide +kernel
theorem dX7_digest_81 : decode cX7_digest 81 = .ok (.aload_n 0, 1) := by decide +kernel
theorem dX7_digest_82 : decode cX7_digest 82 = .ok (.invokevirtual 212, 3) := by decide +kernel
theorem dX7_digest_85 : decode cX7_digest 85 = .ok (.i2l, 1) := by decide +kernel
theorem dX7_digest_86 : decode cX7_digest 86 = .ok (.ladd, 1) := by decide +kernel
theorem dX7_digest_87 : decode cX7_digest 87 = .ok (.lstore_n 1, 1) := by decide +kernel
theorem dX7_digest_88 : decode cX7_digest 88 = .ok (.ldc2_w 251, 3) := by decide +kernel
theorem dX7_digest_91 : decode cX7_digest 91 = .ok (.lload_n 1, 1) := by decide +kernel
theorem dX7_digest_92 : decode cX7_digest 92 = .ok (.lmul, 1) := by decide +kernel
theorem dX7_digest_93 : decode cX7_digest 93 = .ok (.aload_n 0, 1) := by decide +kernel
theorem dX7_digest_94 : decode cX7_digest 94 = .ok (.invokevirtual 262, 3) := by decide +kernel
theorem dX7_digest_97 : decode cX7_digest 97 = .ok (.i2l, 1) := by decide +kernel
theorem dX7_digest_98 : decode cX7_digest 98 = .ok (.ladd, 1) := by decide +kernel
theorem dX7_digest_99 : decode cX7_digest 99 = .ok (.lstore_n 1, 1) := by decide +kernel
theorem dX7_digest_100 : decode cX7_digest 100 = .ok (.ldc2_w 251, 3) := by decide +kernel
theorem dX7_digest_103 : decode cX7_digest 103 = .ok (.lload_n 1, 1) := by decide +kernel
theorem dX7_digest_104 : decode cX7_digest 104 = .ok (.lmul, 1) := by decide +kernel
theorem dX7_digest_105 : decode cX7_digest 105 = .ok (.aload_n 0, 1) := by decide +kernel
theorem dX7_digest_106 : decode cX7_digest 106 = .ok (.invokevirtual 215, 3) := by decide +kernel
theorem dX7_digest_109 : decode cX7_digest 109 = .ok (.i2l, 1) := by decide +kernel
theorem dX7_digest_110 : decode cX7_digest 110 = .ok (.ladd, 1) := by decide +kernel
theorem dX7_digest_111 : decode cX7_digest 111 = .ok (.lstore_n 1, 1) := by decide +kernel
theorem dX7_digest_112 : decode cX7_digest 112 = .ok (.ldc2_w 251, 3) := by decide +kernel
theorem dX7_digest_115 : decode cX7_digest 115 = .ok (.lload_n 1, 1) := by decide +kernel
theorem dX7_digest_116 : decode cX7_digest 116 = .ok (.lmul, 1) := by decide +kernel
theorem dX7_digest_117 : decode cX7_digest 117 = .ok (.aload_n 0, 1) := by decide +kernel
theorem dX7_digest_118 : decode cX7_digest 118 = .ok (.invokevirtual 265, 3) := by decide +kernel
theorem dX7_digest_121 : decode cX7_digest 121 = .ok (.i2l, 1) := by decide +kernel
theorem dX7_digest_122 : decode cX7_digest 122 = .ok (.ladd, 1) := by decide +kernel
theorem dX7_digest_123 : decode cX7_digest 123 = .ok (.lstore_n 1, 1) := by decide +kernel
theorem dX7_digest_124 : decode cX7_digest 124 = .ok (.ldc2_w 251, 3) := by decide +kernel
theorem dX7_digest_127 : decode cX7_digest 127 = .ok (.lload_n 1, 1) := by decide +kernel
theorem dX7_digest_128 : decode cX7_digest 128 = .ok (.lmul, 1) := by decide +kernel
theorem dX7_digest_129 : decode cX7_digest 129 = .ok (.aload_n 0, 1) := by decide +kernel
theorem dX7_digest_130 : decode cX7_digest 130 = .ok (.invokevirtual 268, 3) := by decide +kernel
theorem dX7_digest_133 : decode cX7_digest 133 = .ok (.i2l, 1) := by decide +kernel
theorem dX7_digest_134 : decode cX7_digest 134 = .ok (.ladd, 1) := by decide +kernel
theorem dX7_digest_135 : decode cX7_digest 135 = .ok (.lstore_n 1, 1) := by decide +kernel
theorem dX7_digest_136 : decode cX7_digest 136 = .ok (.ldc2_w 251, 3) := by decide +kernel
theorem dX7_digest_139 : decode cX7_digest 139 = .ok (.lload_n 1, 1) := by decide +kernel
theorem dX7_digest_140 : decode cX7_digest 140 = .ok (.lmul, 1) := by decide +kernel
theorem dX7_digest_141 : decode cX7_digest 141 = .ok (.aload_n 0, 1) := by decide +kernel
theorem dX7_digest_142 : decode cX7_digest 142 = .ok (.invokevirtual 271, 3) := by decide +kernel
theorem dX7_digest_145 : decode cX7_digest 145 = .ok (.i2l, 1) := by decide +kernel
theorem dX7_digest_146 : decode cX7_digest 146 = .ok (.ladd, 1) := by decide +kernel
theorem dX7_digest_147 : decode cX7_digest 147 = .ok (.lstore_n 1, 1) := by decide +kernel
theorem dX7_digest_148 : decode cX7_digest 148 = .ok (.ldc2_w 251, 3) := by decide +kernel
theorem dX7_digest_151 : decode cX7_digest 151 = .ok (.lload_n 1, 1) := by decide +kernel
theorem dX7_digest_152 : decode cX7_digest 152 = .ok (.lmul, 1) := by decide +kernel
theorem dX7_digest_153 : decode cX7_digest 153 = .ok (.aload_n 0, 1) := by decide +kernel
theorem dX7_digest_154 : decode cX7_digest 154 = .ok (.invokevirtual 274, 3) := by decide +kernel
theorem dX7_digest_157 : decode cX7_digest 157 = .ok (.i2l, 1) := by decide +kernel
theorem dX7_digest_158 : decode cX7_digest 158 = .ok (.ladd, 1) := by decide +kernel
theorem dX7_digest_159 : decode cX7_digest 159 = .ok (.lstore_n 1, 1) := by decide +kernel
theorem dX7_digest_160 : decode cX7_digest 160 = .ok (.ldc2_w 251, 3) := by decide +kernel
theorem dX7_digest_163 : decode cX7_digest 163 = .ok (.lload_n 1, 1) := by decide +kernel
theorem dX7_digest_164 : decode cX7_digest 164 = .ok (.lmul, 1) := by decide +kernel
theorem dX7_digest_165 : decode cX7_digest 165 = .ok (.aload_n 0, 1) := by decide +kernel
theorem dX7_digest_166 : decode cX7_digest 166 = .ok (.invokevirtual 277, 3) := by decide +kernel
theorem dX7_digest_169 : decode cX7_digest 169 = .ok (.i2l, 1) := by decide +kernel
theorem dX7_digest_170 : decode cX7_digest 170 = .ok (.ladd, 1) := by decide +kernel
theorem dX7_digest_171 : decode cX7_digest 171 = .ok (.lstore_n 1, 1) := by decide +kernel
theorem dX7_digest_172 : decode cX7_digest 172 = .ok (.aload_n 0, 1) := by decide +kernel
theorem dX7_digest_173 : decode cX7_digest 173 = .ok (.getfield 21, 3) := by decide +kernel
theorem dX7_digest_176 : decode cX7_digest 176 = .ok (.getfield 126, 3) := by decide +kernel
theorem dX7_digest_179 : decode cX7_digest 179 = .ok (.lload_n 1, 1) := by decide +kernel
theorem dX7_digest_180 : decode cX7_digest 180 = .ok (.invokevirtual 280, 3) := by decide +kernel
theorem dX7_digest_183 : decode cX7_digest 183 = .ok (.lstore_n 1, 1) := by decide +kernel
theorem dX7_digest_184 : decode cX7_digest 184 = .ok (.aload_n 0, 1) := by decide +kernel
theorem dX7_digest_185 : decode cX7_digest 185 = .ok (.getfield 35, 3) := by decide +kernel
theorem dX7_digest_188 : decode cX7_digest 188 = .ok (.getfield 181, 3) := by decide +kernel
theorem dX7_digest_191 : decode cX7_digest 191 = .ok (.lload_n 1, 1) := by decide +kernel
theorem dX7_digest_192 : decode cX7_digest 192 = .ok (.invokevirtual 280, 3) := by decide +kernel
theorem dX7_digest_195 : decode cX7_digest 195 = .ok (.lstore_n 1, 1) := by decide +kernel
theorem dX7_digest_196 : decode cX7_digest 196 = .ok (.iconst 0, 1) := by decide +kernel
theorem dX7_digest_197 : decode cX7_digest 197 = .ok (.istore_n 3, 1) := by decide +kernel
theorem dX7_digest_198 : decode cX7_digest 198 = .ok (.iload_n 3, 1) := by decide +kernel
theorem dX7_digest_199 : decode cX7_digest 199 = .ok (.aload_n 0, 1) := by decide +kernel
theorem dX7_digest_200 : decode cX7_digest 200 = .ok (.invokevirtual 212, 3) := by decide +kernel
theorem dX7_digest_203 : decode cX7_digest 203 = .ok (.if_icmp .ge 47, 3) := by decide +kernel
theorem dX7_digest_206 : decode cX7_digest 206 = .ok (.ldc2_w 251, 3) := by decide +kernel
theorem dX7_digest_209 : decode cX7_digest 209 = .ok (.lload_n 1, 1) := by decide +kernel
theorem dX7_digest_210 : decode cX7_digest 210 = .ok (.lmul, 1) := by decide +kernel
theorem dX7_digest_211 : decode cX7_digest 211 = .ok (.aload_n 0, 1) := by decide +kernel
theorem dX7_digest_212 : decode cX7_digest 212 = .ok (.getfield 35, 3) := by decide +kernel
theorem dX7_digest_215 : decode cX7_digest 215 = .ok (.getfield 189, 3) := by decide +kernel
theorem dX7_digest_218 : decode cX7_digest 218 = .ok (.iload_n 3, 1) := by decide +kernel
theorem dX7_digest_219 : decode cX7_digest 219 = .ok (.invokevirtual 116, 3) := by decide +kernel
theorem dX7_digest_222 : decode cX7_digest 222 = .ok (.i2l, 1) := by decide +kernel
theorem dX7_digest_223 : decode cX7_digest 223 = .ok (.ladd, 1) := by decide +kernel
theorem dX7_digest_224 : decode cX7_digest 224 = .ok (.lstore_n 1, 1) := by decide +kernel
theorem dX7_digest_225 : decode cX7_digest 225 = .ok (.ldc2_w 251, 3) := by decide +kernel
theorem dX7_digest_228 : decode cX7_digest 228 = .ok (.lload_n 1, 1) := by decide +kernel
theorem dX7_digest_229 : decode cX7_digest 229 = .ok (.lmul, 1) := by decide +kernel
theorem dX7_digest_230 : decode cX7_digest 230 = .ok (.aload_n 0, 1) := by decide +kernel
theorem dX7_digest_231 : decode cX7_digest 231 = .ok (.getfield 35, 3) := by decide +kernel
theorem dX7_digest_234 : decode cX7_digest 234 = .ok (.getfield 186, 3) := by decide +kernel
theorem dX7_digest_237 : decode cX7_digest 237 = .ok (.iload_n 3, 1) := by decide +kernel
theorem dX7_digest_238 : decode cX7_digest 238 = .ok (.invokevirtual 116, 3) := by decide +kernel
theorem dX7_digest_241 : decode cX7_digest 241 = .ok (.i2l, 1) := by decide +kernel
theorem dX7_digest_242 : decode cX7_digest 242 = .ok (.ladd, 1) := by decide +kernel
theorem dX7_digest_243 : decode cX7_digest 243 = .ok (.lstore_n 1, 1) := by decide +kernel
theorem dX7_digest_244 : decode cX7_digest 244 = .ok (.iinc 3 1, 3) := by decide +kernel
theorem dX7_digest_247 : decode cX7_digest 247 = .ok (.goto (-49), 3) := by decide +kernel
theorem dX7_digest_250 : decode cX7_digest 250 = .ok (.iconst 0, 1) := by decide +kernel
theorem dX7_digest_251 : decode cX7_digest 251 = .ok (.istore_n 3, 1) := by decide +kernel
theorem dX7_digest_252 : decode cX7_digest 252 = .ok (.iload_n 3, 1) := by decide +kernel
theorem dX7_digest_253 : decode cX7_digest 253 = .ok (.aload_n 0, 1) := by decide +kernel
theorem dX7_digest_254 : decode cX7_digest 254 = .ok (.invokevirtual 156, 3) := by decide +kernel
theorem dX7_digest_257 : decode cX7_digest 257 = .ok (.if_icmp .ge 44, 3) := by decide +kernel
theorem dX7_digest_260 : decode cX7_digest 260 = .ok (.ldc2_w 251, 3) := by decide +kernel
theorem dX7_digest_263 : decode cX7_digest 263 = .ok (.lload_n 1, 1) := by decide +kernel
theorem dX7_digest_264 : decode cX7_digest 264 = .ok (.lmul, 1) := by decide +kernel
theorem dX7_digest_265 : decode cX7_digest 265 = .ok (.aload_n 0, 1) := by decide +kernel
theorem dX7_digest_266 : decode cX7_digest 266 = .ok (.getfield 28, 3) := by decide +kernel
theorem dX7_digest_269 : decode cX7_digest 269 = .ok (.iload_n 3, 1) := by decide +kernel
theorem dX7_digest_270 : decode cX7_digest 270 = .ok (.invokevirtual 163, 3) := by decide +kernel
theorem dX7_digest_273 : decode cX7_digest 273 = .ok (.i2l, 1) := by decide +kernel
theorem dX7_digest_274 : decode cX7_digest 274 = .ok (.ladd, 1) := by decide +kernel
theorem dX7_digest_275 : decode cX7_digest 275 = .ok (.lstore_n 1, 1) := by decide +kernel
theorem dX7_digest_276 : decode cX7_digest 276 = .ok (.ldc2_w 251, 3) := by decide +kernel
theorem dX7_digest_279 : decode cX7_digest 279 = .ok (.lload_n 1, 1) := by decide +kernel
theorem dX7_digest_280 : decode cX7_digest 280 = .ok (.lmul, 1) := by decide +kernel
theorem dX7_digest_281 : decode cX7_digest 281 = .ok (.aload_n 0, 1) := by decide +kernel
theorem dX7_digest_282 : decode cX7_digest 282 = .ok (.getfield 35, 3) := by decide +kernel
theorem dX7_digest_285 : decode cX7_digest 285 = .ok (.getfield 180, 3) := by decide +kernel
theorem dX7_digest_288 : decode cX7_digest 288 = .ok (.iload_n 3, 1) := by decide +kernel
theorem dX7_digest_289 : decode cX7_digest 289 = .ok (.invokevirtual 137, 3) := by decide +kernel
theorem dX7_digest_292 : decode cX7_digest 292 = .ok (.i2l, 1) := by decide +kernel
theorem dX7_digest_293 : decode cX7_digest 293 = .ok (.ladd, 1) := by decide +kernel
theorem dX7_digest_294 : decode cX7_digest 294 = .ok (.lstore_n 1, 1) := by decide +kernel
theorem dX7_digest_295 : decode cX7_digest 295 = .ok (.iinc 3 1, 3) := by decide +kernel
theorem dX7_digest_298 : decode cX7_digest 298 = .ok (.goto (-46), 3) := by decide +kernel
theorem dX7_digest_301 : decode cX7_digest 301 = .ok (.lload_n 1, 1) := by decide +kernel
theorem dX7_digest_302 : decode cX7_digest 302 = .ok (.lreturn, 1) := by decide +kernel
theorem dX8_init_0 : decode cX8_init 0 = .ok (.aload_n 0, 1) := by decide +kernel
theorem dX8_init_1 : decode cX8_init 1 = .ok (.invokespecial 1, 3) := by decide +kernel
theorem dX8_init_4 : decode cX8_init 4 = .ok (.aload_n 0, 1) := by decide +kernel
theorem dX8_init_5 : decode cX8_init 5 = .ok (.sipush 946, 3) := by decide +kernel
theorem dX8_init_8 : decode cX8_init 8 = .ok (.newarray .int, 2) := by decide +kernel
theorem dX8_init_10 : decode cX8_init 10 = .ok (.putfield 7, 3) := by decide +kernel
theorem dX8_init_13 : decode cX8_init 13 = .ok (.aload_n 0, 1) := by decide +kernel
theorem dX8_init_14 : decode cX8_init 14 = .ok (.sipush 5676, 3) := by decide +kernel
theorem dX8_init_17 : decode cX8_init 17 = .ok (.newarray .int, 2) := by decide +kernel
theorem dX8_init_19 : decode cX8_init 19 = .ok (.putfield 13, 3) := by decide +kernel
theorem dX8_init_22 : decode cX8_init 22 = .ok (.aload_n 0, 1) := by decide +kernel
theorem dX8_init_23 : decode cX8_init 23 = .ok (.bipush 60, 2) := by decide +kernel
theorem dX8_init_25 : decode cX8_init 25 = .ok (.newarray .int, 2) := by decide +kernel
theorem dX8_init_27 : decode cX8_init 27 = .ok (.putfield 16, 3) := by decide +kernel
theorem dX8_init_30 : decode cX8_init 30 = .ok (.aload_n 0, 1) := by decide +kernel
theorem dX8_init_31 : decode cX8_init 31 = .ok (.sipush 201, 3) := by decide +kernel
theorem dX8_init_34 : decode cX8_init 34 = .ok (.newarray .int, 2) := by decide +kernel
theorem dX8_init_36 : decode cX8_init 36 = .ok (.putfield 19, 3) := by decide +kernel
theorem dX8_init_39 : decode cX8_init 39 = .ok (.aload_n 0, 1) := by decide +kernel
theorem dX8_init_40 : decode cX8_init 40 = .ok (.sipush 201, 3) := by decide +kernel
theorem dX8_init_43 : decode cX8_init 43 = .ok (.newarray .int, 2) := by decide +kernel
theorem dX8_init_45 : decode cX8_init 45 = .ok (.putfield 22, 3) := by decide +kernel
theorem dX8_init_48 : decode cX8_init 48 = .ok (.aload_n 0, 1) := by decide +kernel
theorem dX8_init_49 : decode cX8_init 49 = .ok (.sipush 201, 3) := by decide +kernel
theorem dX8_init_52 : decode cX8_init 52 = .ok (.newarray .int, 2) := by decide +kernel
theorem dX8_init_54 : decode cX8_init 54 = .ok (.putfield 25, 3) := by decide +kernel
theorem dX8_init_57 : decode cX8_init 57 = .ok (.aload_n 0, 1) := by decide +kernel
theorem dX8_init_58 : decode cX8_init 58 = .ok (.sipush 201, 3) := by decide +kernel
theorem dX8_init_61 : decode cX8_init 61 = .ok (.newarray .int, 2) := by decide +kernel
theorem dX8_init_63 : decode cX8_init 63 = .ok (.putfield 28, 3) := by decide +kernel
theorem dX8_init_66 : decode cX8_init 66 = .ok (.aload_n 0, 1) := by decide +kernel
theorem dX8_init_67 : decode cX8_init 67 = .ok (.sipush 201, 3) := by decide +kernel
theorem dX8_init_70 : decode cX8_init 70 = .ok (.newarray .int, 2) := by decide +kernel
theorem dX8_init_72 : decode cX8_init 72 = .ok (.putfield 31, 3) := by decide +kernel
theorem dX8_init_75 : decode cX8_init 75 = .ok (.aload_n 0, 1) := by decide +kernel
theorem dX8_init_76 : decode cX8_init 76 = .ok (.iconst 0, 1) := by decide +kernel
theorem dX8_init_77 : decode cX8_init 77 = .ok (.putfield 34, 3) := by decide +kernel
theorem dX8_init_80 : decode cX8_init 80 = .ok (.return_, 1) := by decide +kernel
theorem dX8_thrown_0 : decode cX8_thrown 0 = .ok (.aload_n 0, 1) := by decide +kernel
theorem dX8_thrown_1 : decode cX8_thrown 1 = .ok (.getfield 38, 3) := by decide +kernel
theorem dX8_thrown_4 : decode cX8_thrown 4 = .ok (.ireturn, 1) := by decide +kernel
theorem dX8_refused_0 : decode cX8_refused 0 = .ok (.aload_n 0, 1) := by decide +kernel
theorem dX8_refused_1 : decode cX8_refused 1 = .ok (.iload_n 1, 1) := by decide +kernel
theorem dX8_refused_2 : decode cX8_refused 2 = .ok (.putfield 38, 3) := by decide +kernel
theorem dX8_refused_5 : decode cX8_refused 5 = .ok (.iload_n 1, 1) := by decide +kernel
theorem dX8_refused_6 : decode cX8_refused 6 = .ok (.ifCond .le 7, 3) := by decide +kernel
theorem dX8_refused_9 : decode cX8_refused 9 = .ok (.iconst 1, 1) := by decide +kernel
theorem dX8_refused_10 : decode cX8_refused 10 = .ok (.goto 4, 3) := by decide +kernel
theorem dX8_refused_13 : decode cX8_refused 13 = .ok (.iconst 0, 1) := by decide +kernel
theorem dX8_refused_14 : decode cX8_refused 14 = .ok (.ireturn, 1) := by decide +kernel
theorem dX8_in_0 : decode cX8_in 0 = .ok (.iload_n 0, 1) := by decide +kernel
theorem dX8_in_1 : decode cX8_in 1 = .ok (.iload_n 1, 1) := by decide +kernel
theorem dX8_in_2 : decode cX8_in 2 = .ok (.if_icmp .lt 12, 3) := by decide +kernel
theorem dX8_in_5 : decode cX8_in 5 = .ok (.iload_n 0, 1) := by decide +kernel
theorem dX8_in_6 : decode cX8_in 6 = .ok (.iload_n 2, 1) := by decide +kernel
theorem dX8_in_7 : decode cX8_in 7 = .ok (.if_icmp .gt 7, 3) := by decide +kernel
theorem dX8_in_10 : decode cX8_in 10 = .ok (.iconst 1, 1) := by decide +kernel
theorem dX8_in_11 : decode cX8_in 11 = .ok (.goto 4, 3) := by decide +kernel
theorem dX8_in_14 : decode cX8_in 14 = .ok (.iconst 0, 1) := by decide +kernel
theorem dX8_in_15 : decode cX8_in 15 = .ok (.ireturn, 1) := by decide +kernel
theorem dX8_saves_0 : decode cX8_saves 0 = .ok (.aload_n 0, 1) := by decide +kernel
theorem dX8_saves_1 : decode cX8_saves 1 = .ok (.getfield 41, 3) := by decide +kernel
theorem dX8_saves_4 : decode cX8_saves 4 = .ok (.bipush 6, 2) := by decide +kernel
theorem dX8_saves_6 : decode cX8_saves 6 = .ok (.if_icmp .ne 44, 3) := by decide +kernel
theorem dX8_saves_9 : decode cX8_saves 9 = .ok (.iconst 0, 1) := by decide +kernel
theorem dX8_saves_10 : decode cX8_saves 10 = .ok (.istore_n 1, 1) := by decide +kernel
theorem dX8_saves_11 : decode cX8_saves 11 = .ok (.iload_n 1, 1) := by decide +kernel
theorem dX8_saves_12 : decode cX8_saves 12 = .ok (.sipush 4730, 3) := by decide +kernel
theorem dX8_saves_15 : decode cX8_saves 15 = .ok (.if_icmp .ge 25, 3) := by decide +kernel
theorem dX8_saves_18 : decode cX8_saves 18 = .ok (.aload_n 0, 1) := by decide +kernel
theorem dX8_saves_19 : decode cX8_saves 19 = .ok (.getfield 13, 3) := by decide +kernel
theorem dX8_saves_22 : decode cX8_saves 22 = .ok (.iload_n 1, 1) := by decide +kernel
theorem dX8_saves_23 : decode cX8_saves 23 = .ok (.aload_n 0, 1) := by decide +kernel
theorem dX8_saves_24 : decode cX8_saves 24 = .ok (.getfield 13, 3) := by decide +kernel
theorem dX8_saves_27 : decode cX8_saves 27 = .ok (.sipush 946, 3) := by decide +kernel
theorem dX8_saves_30 : decode cX8_saves 30 = .ok (.iload_n 1, 1) := by decide +kernel
theorem dX8_saves_31 : decode cX8_saves 31 = .ok (.iadd, 1) := by decide +kernel
theorem dX8_saves_32 : decode cX8_saves 32 = .ok (.iaload, 1) := by decide +kernel
theorem dX8_saves_33 : decode cX8_saves 33 = .ok (.iastore, 1) := by decide +kernel
theorem dX8_saves_34 : decode cX8_saves 34 = .ok (.iinc 1 1, 3) := by decide +kernel
theorem dX8_saves_37 : decode cX8_saves 37 = .ok (.goto (-26), 3) := by decide +kernel
theorem dX8_saves_40 : decode cX8_saves 40 = .ok (.aload_n 0, 1) := by decide +kernel
theorem dX8_saves_41 : decode cX8_saves 41 = .ok (.dup, 1) := by decide +kernel
theorem dX8_saves_42 : decode cX8_saves 42 = .ok (.getfield 41, 3) := by decide +kernel
theorem dX8_saves_45 : decode cX8_saves 45 = .ok (.iconst 1, 1) := by decide +kernel
theorem dX8_saves_46 : decode cX8_saves 46 = .ok (.isub, 1) := by decide +kernel
theorem dX8_saves_47 : decode cX8_saves 47 = .ok (.putfield 41, 3) := by decide +kernel
theorem dX8_saves_50 : decode cX8_saves 50 = .ok (.iconst 0, 1) := by decide +kernel
theorem dX8_saves_51 : decode cX8_saves 51 = .ok (.istore_n 1, 1) := by decide +kernel
theorem dX8_saves_52 : decode cX8_saves 52 = .ok (.iload_n 1, 1) := by decide +kernel
theorem dX8_saves_53 : decode cX8_saves 53 = .ok (.sipush 946, 3) := by decide +kernel
theorem dX8_saves_56 : decode cX8_saves 56 = .ok (.if_icmp .ge 30, 3) := by decide +kernel
theorem dX8_saves_59 : decode cX8_saves 59 = .ok (.aload_n 0, 1) := by decide +kernel
theorem dX8_saves_60 : decode cX8_saves 60 = .ok (.getfield 13, 3) := by decide +kernel
theorem dX8_saves_63 : decode cX8_saves 63 = .ok (.sipush 946, 3) := by decide +kernel
theorem dX8_saves_66 : decode cX8_saves 66 = .ok (.aload_n 0, 1) := by decide +kernel
theorem dX8_saves_67 : decode cX8_saves 67 = .ok (.getfield 41, 3) := by decide +kernel
theorem dX8_saves_70 : decode cX8_saves 70 = .ok (.imul, 1) := by decide +kernel
theorem dX8_saves_71 : decode cX8_saves 71 = .ok (.iload_n 1, 1) := by decide +kernel
theorem dX8_saves_72 : decode cX8_saves 72 = .ok (.iadd, 1) := by decide +kernel
theorem dX8_saves_73 : decode cX8_saves 73 = .ok (.aload_n 0, 1) := by decide +kernel
theorem dX8_saves_74 : decode cX8_saves 74 = .ok (.getfield 7, 3) := by decide +kernel
theorem dX8_saves_77 : decode cX8_saves 77 = .ok (.iload_n 1, 1) := by decide +kernel
theorem dX8_saves_78 : decode cX8_saves 78 = .ok (.iaload, 1) := by decide +kernel
theorem dX8_saves_79 : decode cX8_saves 79 = .ok (.iastore, 1) := by decide +kernel
theorem dX8_saves_80 : decode cX8_saves 80 = .ok (.iinc 1 1, 3) := by decide +kernel
theorem dX8_saves_83 : decode cX8_saves 83 = .ok (.goto (-31), 3) := by decide +kernel
theorem dX8_saves_86 : decode cX8_saves 86 = .ok (.aload_n 0, 1) := by decide +kernel
theorem dX8_saves_87 : decode cX8_saves 87 = .ok (.dup, 1) := by decide +kernel
theorem dX8_saves_88 : decode cX8_saves 88 = .ok (.getfield 41, 3) := by decide +kernel
theorem dX8_saves_91 : decode cX8_saves 91 = .ok (.iconst 1, 1) := by decide +kernel
theorem dX8_saves_92 : decode cX8_saves 92 = .ok (.iadd, 1) := by decide +kernel
theorem dX8_saves_93 : decode cX8_saves 93 = .ok (.putfield 41, 3) := by decide +kernel
theorem dX8_saves_96 : decode cX8_saves 96 = .ok (.return_, 1) := by decide +kernel
theorem dX8_isLetter_0 : decode cX8_isLetter 0 = .ok (.iload_n 0, 1) := by decide +kernel
theorem dX8_isLetter_1 : decode cX8_isLetter 1 = .ok (.bipush 97, 2) := by decide +kernel
theorem dX8_isLetter_3 : decode cX8_isLetter 3 = .ok (.bipush 122, 2) := by decide +kernel
theorem dX8_isLetter_5 : decode cX8_isLetter 5 = .ok (.invokestatic 44, 3) := by decide +kernel
theorem dX8_isLetter_8 : decode cX8_isLetter 8 = .ok (.ireturn, 1) := by decide +kernel
theorem dX8_signOf_0 : decode cX8_signOf 0 = .ok (.iload_n 0, 1) := by decide +kernel
theorem dX8_signOf_1 : decode cX8_signOf 1 = .ok (.tableswitch 120 11 25 #[75, 78, 81, 84, 87, 90, 93, 96, 99, 102, 105, 108, 111, 114, 117], 75) := by decide +kernel
theorem dX8_signOf_76 : decode cX8_signOf 76 = .ok (.bipush 46, 2) := by decide +kernel
theorem dX8_signOf_78 : decode cX8_signOf 78 = .ok (.ireturn, 1) := by decide +kernel
theorem dX8_signOf_79 : decode cX8_signOf 79 = .ok (.bipush 44, 2) := by decide +kernel
theorem dX8_signOf_81 : decode cX8_signOf 81 = .ok (.ireturn, 1) := by decide +kernel
theorem dX8_signOf_82 : decode cX8_signOf 82 = .ok (.bipush 58, 2) := by decide +kernel
theorem dX8_signOf_84 : decode cX8_signOf 84 = .ok (.ireturn, 1) := by decide +kernel
theorem dX8_signOf_85 : decode cX8_signOf 85 = .ok (.bipush 59, 2) := by decide +kernel
theorem dX8_signOf_87 : decode cX8_signOf 87 = .ok (.ireturn, 1) := by decide +kernel
theorem dX8_signOf_88 : decode cX8_signOf 88 = .ok (.bipush 63, 2) := by decide +kernel
theorem dX8_signOf_90 : decode cX8_signOf 90 = .ok (.ireturn, 1) := by decide +kernel
theorem dX8_signOf_91 : decode cX8_signOf 91 = .ok (.bipush 33, 2) := by decide +kernel
theorem dX8_signOf_93 : decode cX8_signOf 93 = .ok (.ireturn, 1) := by decide +kernel
theorem dX8_signOf_94 : decode cX8_signOf 94 = .ok (.bipush 39, 2) := by decide +kernel
theorem dX8_signOf_96 : decode cX8_signOf 96 = .ok (.ireturn, 1) := by decide +kernel
theorem dX8_signOf_97 : decode cX8_signOf 97 = .ok (.bipush 40, 2) := by decide +kernel
theorem dX8_signOf_99 : decode cX8_signOf 99 = .ok (.ireturn, 1) := by decide +kernel
theorem dX8_signOf_100 : decode cX8_signOf 100 = .ok (.bipush 41, 2) := by decide +kernel
theorem dX8_signOf_102 : decode cX8_signOf 102 = .ok (.ireturn, 1) := by decide +kernel
theorem dX8_signOf_103 : decode cX8_signOf 103 = .ok (.bipush 47, 2) := by decide +kernel
theorem dX8_signOf_105 : decode cX8_signOf 105 = .ok (.ireturn, 1) := by decide +kernel
theorem dX8_signOf_106 : decode cX8_signOf 106 = .ok (.bipush 45, 2) := by decide +kernel
theorem dX8_signOf_108 : decode cX8_signOf 108 = .ok (.ireturn, 1) := by decide +kernel
theorem dX8_signOf_109 : decode cX8_signOf 109 = .ok (.bipush 43, 2) := by decide +kernel
theorem dX8_signOf_111 : decode cX8_signOf 111 = .ok (.ireturn, 1) := by decide +kernel
theorem dX8_signOf_112 : decode cX8_signOf 112 = .ok (.bipush 61, 2) := by decide +kernel
theorem dX8_signOf_114 : decode cX8_signOf 114 = .ok (.ireturn, 1) := by decide +kernel
theorem dX8_signOf_115 : decode cX8_signOf 115 = .ok (.bipush 38, 2) := by decide +kernel
theorem dX8_signOf_117 : decode cX8_signOf 117 = .ok (.ireturn, 1) := by decide +kernel
theorem dX8_signOf_118 : decode cX8_signOf 118 = .ok (.bipush 37, 2) := by decide +kernel
theorem dX8_signOf_120 : decode cX8_signOf 120 = .ok (.ireturn, 1) := by decide +kernel
theorem dX8_signOf_121 : decode cX8_signOf 121 = .ok (.bipush 34, 2) := by decide +kernel
theorem dX8_signOf_123 : decode cX8_signOf 123 = .ok (.ireturn, 1) := by decide +kernel
theorem dX8_characterOf_0 : decode cX8_characterOf 0 = .ok (.iload_n 1, 1) := by decide +kernel
theorem dX8_characterOf_1 : decode cX8_characterOf 1 = .ok (.ifCond .ne 10, 3) := by decide +kernel
theorem dX8_characterOf_4 : decode cX8_characterOf 4 = .ok (.bipush 97, 2) := by decide +kernel
theorem dX8_characterOf_6 : decode cX8_characterOf 6 = .ok (.iload_n 0, 1) := by decide +kernel
theorem dX8_characterOf_7 : decode cX8_characterOf 7 = .ok (.iadd, 1) := by decide +kernel
theorem dX8_characterOf_8 : decode cX8_characterOf 8 = .ok (.iconst 1, 1) := by decide +kernel
theorem dX8_characterOf_9 : decode cX8_characterOf 9 = .ok (.isub, 1) := by decide +kernel
theorem dX8_characterOf_10 : decode cX8_characterOf 10 = .ok (.ireturn, 1) := by decide +kernel
theorem dX8_characterOf_11 : decode cX8_characterOf 11 = .ok (.iload_n 0, 1) := by decide +kernel
theorem dX8_characterOf_12 : decode cX8_characterOf 12 = .ok (.bipush 10, 2) := by decide +kernel
theorem dX8_characterOf_14 : decode cX8_characterOf 14 = .ok (.if_icmp .ne 8, 3) := by decide +kernel
theorem dX8_characterOf_17 : decode cX8_characterOf 17 = .ok (.bipush 48, 2) := by decide +kernel
theorem dX8_characterOf_19 : decode cX8_characterOf 19 = .ok (.goto 20, 3) := by decide +kernel
theorem dX8_characterOf_22 : decode cX8_characterOf 22 = .ok (.iload_n 0, 1) := by decide +kernel
theorem dX8_characterOf_23 : decode cX8_characterOf 23 = .ok (.bipush 10, 2) := by decide +kernel
theorem dX8_characterOf_25 : decode cX8_characterOf 25 = .ok (.if_icmp .ge 10, 3) := by decide +kernel
theorem dX8_characterOf_28 : decode cX8_characterOf 28 = .ok (.bipush 48, 2) := by decide +kernel
theorem dX8_characterOf_30 : decode cX8_characterOf 30 = .ok (.iload_n 0, 1) := by decide +kernel
theorem dX8_characterOf_31 : decode cX8_characterOf 31 = .ok (.iadd, 1) := by decide +kernel
theorem dX8_characterOf_32 : decode cX8_characterOf 32 = .ok (.goto 7, 3) := by decide +kernel
theorem dX8_characterOf_35 : decode cX8_characterOf 35 = .ok (.iload_n 0, 1) := by decide +kernel
theorem dX8_characterOf_36 : decode cX8_characterOf 36 = .ok (.invokestatic 48, 3) := by decide +kernel
theorem dX8_characterOf_39 : decode cX8_characterOf 39 = .ok (.ireturn, 1) := by decide +kernel
theorem dX8_codeOfSign_0 : decode cX8_codeOfSign 0 = .ok (.iconst 0, 1) := by decide +kernel
theorem dX8_codeOfSign_1 : decode cX8_codeOfSign 1 = .ok (.istore_n 1, 1) := by decide +kernel
theorem dX8_codeOfSign_2 : decode cX8_codeOfSign 2 = .ok (.bipush 11, 2) := by decide +kernel
theorem dX8_codeOfSign_4 : decode cX8_codeOfSign 4 = .ok (.istore_n 2, 1) := by decide +kernel
theorem dX8_codeOfSign_5 : decode cX8_codeOfSign 5 = .ok (.iload_n 2, 1) := by decide +kernel
theorem dX8_codeOfSign_6 : decode cX8_codeOfSign 6 = .ok (.bipush 27, 2) := by decide +kernel
theorem dX8_codeOfSign_8 : decode cX8_codeOfSign 8 = .ok (.if_icmp .ge 23, 3) := by decide +kernel
theorem dX8_codeOfSign_11 : decode cX8_codeOfSign 11 = .ok (.iload_n 2, 1) := by decide +kernel
theorem dX8_codeOfSign_12 : decode cX8_codeOfSign 12 = .ok (.invokestatic 48, 3) := by decide +kernel
theorem dX8_codeOfSign_15 : decode cX8_codeOfSign 15 = .ok (.iload_n 0, 1) := by decide +kernel
theorem dX8_codeOfSign_16 : decode cX8_codeOfSign 16 = .ok (.if_icmp .ne 7, 3) := by decide +kernel
theorem dX8_codeOfSign_19 : decode cX8_codeOfSign 19 = .ok (.iload_n 2, 1) := by decide +kernel
theorem dX8_codeOfSign_20 : decode cX8_codeOfSign 20 = .ok (.goto 4, 3) := by decide +kernel
theorem dX8_codeOfSign_23 : decode cX8_codeOfSign 23 = .ok (.iload_n 1, 1) := by decide +kernel
theorem dX8_codeOfSign_24 : decode cX8_codeOfSign 24 = .ok (.istore_n 1, 1) := by decide +kernel
theorem dX8_codeOfSign_25 : decode cX8_codeOfSign 25 = .ok (.iinc 2 1, 3) := by decide +kernel
theorem dX8_codeOfSign_28 : decode cX8_codeOfSign 28 = .ok (.goto (-23), 3) := by decide +kernel
theorem dX8_codeOfSign_31 : decode cX8_codeOfSign 31 = .ok (.iload_n 1, 1) := by decide +kernel
theorem dX8_codeOfSign_32 : decode cX8_codeOfSign 32 = .ok (.ireturn, 1) := by decide +kernel
theorem dX8_codeOf_0 : decode cX8_codeOf 0 = .ok (.iload_n 0, 1) := by decide +kernel
theorem dX8_codeOf_1 : decode cX8_codeOf 1 = .ok (.invokestatic 52, 3) := by decide +kernel
theorem dX8_codeOf_4 : decode cX8_codeOf 4 = .ok (.ifCond .eq 10, 3) := by decide +kernel
theorem dX8_codeOf_7 : decode cX8_codeOf 7 = .ok (.iload_n 0, 1) := by decide +kernel
theorem dX8_codeOf_8 : decode cX8_codeOf 8 = .ok (.bipush 97, 2) := by decide +kernel
theorem dX8_codeOf_10 : decode cX8_codeOf 10 = .ok (.isub, 1) := by decide +kernel
theorem dX8_codeOf_11 : decode cX8_codeOf 11 = .ok (.iconst 1, 1) := by decide +kernel
theorem dX8_codeOf_12 : decode cX8_codeOf 12 = .ok (.iadd, 1) := by decide +kernel
theorem dX8_codeOf_13 : decode cX8_codeOf 13 = .ok (.ireturn, 1) := by decide +kernel
theorem dX8_codeOf_14 : decode cX8_codeOf 14 = .ok (.iload_n 0, 1) := by decide +kernel
theorem dX8_codeOf_15 : decode cX8_codeOf 15 = .ok (.bipush 48, 2) := by decide +kernel
theorem dX8_codeOf_17 : decode cX8_codeOf 17 = .ok (.bipush 57, 2) := by decide +kernel
theorem dX8_codeOf_19 : decode cX8_codeOf 19 = .ok (.invokestatic 44, 3) := by decide +kernel
theorem dX8_codeOf_22 : decode cX8_codeOf 22 = .ok (.ifCond .eq 19, 3) := by decide +kernel
theorem dX8_codeOf_25 : decode cX8_codeOf 25 = .ok (.iload_n 0, 1) := by decide +kernel
theorem dX8_codeOf_26 : decode cX8_codeOf 26 = .ok (.bipush 48, 2) := by decide +kernel
theorem dX8_codeOf_28 : decode cX8_codeOf 28 = .ok (.if_icmp .ne 8, 3) := by decide +kernel
theorem dX8_codeOf_31 : decode cX8_codeOf 31 = .ok (.bipush 10, 2) := by decide +kernel
theorem dX8_codeOf_33 : decode cX8_codeOf 33 = .ok (.goto 7, 3) := by decide +kernel
theorem dX8_codeOf_36 : decode cX8_codeOf 36 = .ok (.iload_n 0, 1) := by decide +kernel
theorem dX8_codeOf_37 : decode cX8_codeOf 37 = .ok (.bipush 48, 2) := by decide +kernel
theorem dX8_codeOf_39 : decode cX8_codeOf 39 = .ok (.isub, 1) := by decide +kernel
theorem dX8_codeOf_40 : decode cX8_codeOf 40 = .ok (.ireturn, 1) := by decide +kernel
theorem dX8_codeOf_41 : decode cX8_codeOf 41 = .ok (.iload_n 0, 1) := by decide +kernel
theorem dX8_codeOf_42 : decode cX8_codeOf 42 = .ok (.bipush 32, 2) := by decide +kernel
theorem dX8_codeOf_44 : decode cX8_codeOf 44 = .ok (.if_icmp .ne 8, 3) := by decide +kernel
theorem dX8_codeOf_47 : decode cX8_codeOf 47 = .ok (.bipush 27, 2) := by decide +kernel
theorem dX8_codeOf_49 : decode cX8_codeOf 49 = .ok (.goto 35, 3) := by decide +kernel
theorem dX8_codeOf_52 : decode cX8_codeOf 52 = .ok (.iload_n 0, 1) := by decide +kernel
theorem dX8_codeOf_53 : decode cX8_codeOf 53 = .ok (.bipush 10, 2) := by decide +kernel
theorem dX8_codeOf_55 : decode cX8_codeOf 55 = .ok (.if_icmp .ne 8, 3) := by decide +kernel
theorem dX8_codeOf_58 : decode cX8_codeOf 58 = .ok (.bipush 28, 2) := by decide +kernel
theorem dX8_codeOf_60 : decode cX8_codeOf 60 = .ok (.goto 24, 3) := by decide +kernel
theorem dX8_codeOf_63 : decode cX8_codeOf 63 = .ok (.iload_n 0, 1) := by decide +kernel
theorem dX8_codeOf_64 : decode cX8_codeOf 64 = .ok (.bipush 64, 2) := by decide +kernel
theorem dX8_codeOf_66 : decode cX8_codeOf 66 = .ok (.if_icmp .eq 9, 3) := by decide +kernel
theorem dX8_codeOf_69 : decode cX8_codeOf 69 = .ok (.iload_n 0, 1) := by decide +kernel
theorem dX8_codeOf_70 : decode cX8_codeOf 70 = .ok (.bipush 35, 2) := by decide +kernel
theorem dX8_codeOf_72 : decode cX8_codeOf 72 = .ok (.if_icmp .ne 8, 3) := by decide +kernel
theorem dX8_codeOf_75 : decode cX8_codeOf 75 = .ok (.bipush 29, 2) := by decide +kernel
theorem dX8_codeOf_77 : decode cX8_codeOf 77 = .ok (.goto 7, 3) := by decide +kernel
theorem dX8_codeOf_80 : decode cX8_codeOf 80 = .ok (.iload_n 0, 1) := by decide +kernel
theorem dX8_codeOf_81 : decode cX8_codeOf 81 = .ok (.invokestatic 56, 3) := by decide +kernel
theorem dX8_codeOf_84 : decode cX8_codeOf 84 = .ok (.ireturn, 1) := by decide +kernel
theorem dX8_shiftOf_0 : decode cX8_shiftOf 0 = .ok (.iload_n 0, 1) := by decide +kernel
theorem dX8_shiftOf_1 : decode cX8_shiftOf 1 = .ok (.invokestatic 52, 3) := by decide +kernel
theorem dX8_shiftOf_4 : decode cX8_shiftOf 4 = .ok (.ifCond .ne 9, 3) := by decide +kernel
theorem dX8_shiftOf_7 : decode cX8_shiftOf 7 = .ok (.iload_n 0, 1) := by decide +kernel
theorem dX8_shiftOf_8 : decode cX8_shiftOf 8 = .ok (.bipush 64, 2) := by decide +kernel
theorem dX8_shiftOf_10 : decode cX8_shiftOf 10 = .ok (.if_icmp .ne 7, 3) := by decide +kernel
theorem dX8_shiftOf_13 : decode cX8_shiftOf 13 = .ok (.iconst 0, 1) := by decide +kernel
theorem dX8_shiftOf_14 : decode cX8_shiftOf 14 = .ok (.goto 20, 3) := by decide +kernel
theorem dX8_shiftOf_17 : decode cX8_shiftOf 17 = .ok (.iload_n 0, 1) := by decide +kernel
theorem dX8_shiftOf_18 : decode cX8_shiftOf 18 = .ok (.bipush 32, 2) := by decide +kernel
theorem dX8_shiftOf_20 : decode cX8_shiftOf 20 = .ok (.if_icmp .eq 9, 3) := by decide +kernel
theorem dX8_shiftOf_23 : decode cX8_shiftOf 23 = .ok (.iload_n 0, 1) := by decide +kernel
theorem dX8_shiftOf_24 : decode cX8_shiftOf 24 = .ok (.bipush 10, 2) := by decide +kernel
theorem dX8_shiftOf_26 : decode cX8_shiftOf 26 = .ok (.if_icmp .ne 7, 3) := by decide +kernel
theorem dX8_shiftOf_29 : decode cX8_shiftOf 29 = .ok (.iconst (-1), 1) := by decide +kernel
theorem dX8_shiftOf_30 : decode cX8_shiftOf 30 = .ok (.goto 4, 3) := by decide +kernel
theorem dX8_shiftOf_33 : decode cX8_shiftOf 33 = .ok (.iconst 1, 1) := by decide +kernel
theorem dX8_shiftOf_34 : decode cX8_shiftOf 34 = .ok (.ireturn, 1) := by decide +kernel
theorem dX8_append_0 : decode cX8_append 0 = .ok (.aload_n 0, 1) := by decide +kernel
theorem dX8_append_1 : decode cX8_append 1 = .ok (.iload_n 1, 1) := by decide +kernel
theorem dX8_append_2 : decode cX8_append 2 = .ok (.invokestatic 59, 3) := by decide +kernel
theorem dX8_append_5 : decode cX8_append 5 = .ok (.ifCond .ne 7, 3) := by decide +kernel
theorem dX8_append_8 : decode cX8_append 8 = .ok (.iconst 1, 1) := by decide +kernel
theorem dX8_append_9 : decode cX8_append 9 = .ok (.goto 17, 3) := by decide +kernel
theorem dX8_append_12 : decode cX8_append 12 = .ok (.aload_n 0, 1) := by decide +kernel
theorem dX8_append_13 : decode cX8_append 13 = .ok (.getfield 62, 3) := by decide +kernel
theorem dX8_append_16 : decode cX8_append 16 = .ok (.bipush 60, 2) := by decide +kernel
theorem dX8_append_18 : decode cX8_append 18 = .ok (.if_icmp .ne 7, 3) := by decide +kernel
theorem dX8_append_21 : decode cX8_append 21 = .ok (.iconst 2, 1) := by decide +kernel
theorem dX8_append_22 : decode cX8_append 22 = .ok (.goto 4, 3) := by decide +kernel
theorem dX8_append_25 : decode cX8_append 25 = .ok (.iconst 0, 1) := by decide +kernel
theorem dX8_append_26 : decode cX8_append 26 = .ok (.invokevirtual 65, 3) := by decide +kernel
theorem dX8_append_29 : decode cX8_append 29 = .ok (.ifCond .eq 5, 3) := by decide +kernel
theorem dX8_append_32 : decode cX8_append 32 = .ok (.iconst 0, 1) := by decide +kernel
theorem dX8_append_33 : decode cX8_append 33 = .ok (.ireturn, 1) := by decide +kernel
theorem dX8_append_34 : decode cX8_append 34 = .ok (.aload_n 0, 1) := by decide +kernel
theorem dX8_append_35 : decode cX8_append 35 = .ok (.getfield 16, 3) := by decide +kernel
theorem dX8_append_38 : decode cX8_append 38 = .ok (.aload_n 0, 1) := by decide +kernel
theorem dX8_append_39 : decode cX8_append 39 = .ok (.getfield 62, 3) := by decide +kernel
theorem dX8_append_42 : decode cX8_append 42 = .ok (.iload_n 1, 1) := by decide +kernel
theorem dX8_append_43 : decode cX8_append 43 = .ok (.iastore, 1) := by decide +kernel
theorem dX8_append_44 : decode cX8_append 44 = .ok (.aload_n 0, 1) := by decide +kernel
theorem dX8_append_45 : decode cX8_append 45 = .ok (.dup, 1) := by decide +kernel
theorem dX8_append_46 : decode cX8_append 46 = .ok (.getfield 62, 3) := by decide +kernel
theorem dX8_append_49 : decode cX8_append 49 = .ok (.iconst 1, 1) := by decide +kernel
theorem dX8_append_50 : decode cX8_append 50 = .ok (.iadd, 1) := by decide +kernel
theorem dX8_append_51 : decode cX8_append 51 = .ok (.putfield 62, 3) := by decide +kernel
theorem dX8_append_54 : decode cX8_append 54 = .ok (.aload_n 0, 1) := by decide +kernel
theorem dX8_append_55 : decode cX8_append 55 = .ok (.getfield 62, 3) := by decide +kernel
theorem dX8_append_58 : decode cX8_append 58 = .ok (.ireturn, 1) := by decide +kernel
theorem dX8_clearBuffer_0 : decode cX8_clearBuffer 0 = .ok (.aload_n 0, 1) := by decide +kernel
theorem dX8_clearBuffer_1 : decode cX8_clearBuffer 1 = .ok (.iconst 0, 1) := by decide +kernel
theorem dX8_clearBuffer_2 : decode cX8_clearBuffer 2 = .ok (.putfield 38, 3) := by decide +kernel
theorem dX8_clearBuffer_5 : decode cX8_clearBuffer 5 = .ok (.aload_n 0, 1) := by decide +kernel
theorem dX8_clearBuffer_6 : decode cX8_clearBuffer 6 = .ok (.getfield 62, 3) := by decide +kernel
theorem dX8_clearBuffer_9 : decode cX8_clearBuffer 9 = .ok (.istore_n 1, 1) := by decide +kernel
theorem dX8_clearBuffer_10 : decode cX8_clearBuffer 10 = .ok (.aload_n 0, 1) := by decide +kernel
theorem dX8_clearBuffer_11 : decode cX8_clearBuffer 11 = .ok (.iconst 0, 1) := by decide +kernel
theorem dX8_clearBuffer_12 : decode cX8_clearBuffer 12 = .ok (.putfield 62, 3) := by decide +kernel
theorem dX8_clearBuffer_15 : decode cX8_clearBuffer 15 = .ok (.iload_n 1, 1) := by decide +kernel
theorem dX8_clearBuffer_16 : decode cX8_clearBuffer 16 = .ok (.ireturn, 1) := by decide +kernel
theorem dX8_needed_0 : decode cX8_needed 0 = .ok (.aload_n 0, 1) := by decide +kernel
theorem dX8_needed_1 : decode cX8_needed 1 = .ok (.getfield 7, 3) := by decide +kernel
theorem dX8_needed_4 : decode cX8_needed 4 = .ok (.sipush 603, 3) := by decide +kernel
theorem dX8_needed_7 : decode cX8_needed 7 = .ok (.iaload, 1) := by decide +kernel
theorem dX8_needed_8 : decode cX8_needed 8 = .ok (.istore_n 1, 1) := by decide +kernel
theorem dX8_needed_9 : decode cX8_needed 9 = .ok (.iconst 0, 1) := by decide +kernel
theorem dX8_needed_10 : decode cX8_needed 10 = .ok (.istore_n 2, 1) := by decide +kernel
theorem dX8_needed_11 : decode cX8_needed 11 = .ok (.iconst 0, 1) := by decide +kernel
theorem dX8_needed_12 : decode cX8_needed 12 = .ok (.istore_n 3, 1) := by decide +kernel
theorem dX8_needed_13 : decode cX8_needed 13 = .ok (.iload_n 3, 1) := by decide +kernel
theorem dX8_needed_14 : decode cX8_needed 14 = .ok (.aload_n 0, 1) := by decide +kernel
theorem dX8_needed_15 : decode cX8_needed 15 = .ok (.getfield 62, 3) := by decide +kernel
theorem dX8_needed_18 : decode cX8_needed 18 = .ok (.if_icmp .ge 82, 3) := by decide +kernel
theorem dX8_needed_21 : decode cX8_needed 21 = .ok (.aload_n 0, 1) := by decide +kernel
theorem dX8_needed_22 : decode cX8_needed 22 = .ok (.getfield 16, 3) := by decide +kernel
theorem dX8_needed_25 : decode cX8_needed 25 = .ok (.iload_n 3, 1) := by decide +kernel
theorem dX8_needed_26 : decode cX8_needed 26 = .ok (.iaload, 1) := by decide +kernel
theorem dX8_needed_27 : decode cX8_needed 27 = .ok (.invokestatic 68, 3) := by decide +kernel
theorem dX8_needed_30 : decode cX8_needed 30 = .ok (.istore 4, 2) := by decide +kernel
theorem dX8_needed_32 : decode cX8_needed 32 = .ok (.iload_n 2, 1) := by decide +kernel
theorem dX8_needed_33 : decode cX8_needed 33 = .ok (.iload 4, 2) := by decide +kernel
theorem dX8_needed_35 : decode cX8_needed 35 = .ok (.iconst (-1), 1) := by decide +kernel
theorem dX8_needed_36 : decode cX8_needed 36 = .ok (.if_icmp .eq 13, 3) := by decide +kernel
theorem dX8_needed_39 : decode cX8_needed 39 = .ok (.iload 4, 2) := by decide +kernel
theorem dX8_needed_41 : decode cX8_needed 41 = .ok (.iload_n 1, 1) := by decide +kernel
theorem dX8_needed_42 : decode cX8_needed 42 = .ok (.if_icmp .eq 7, 3) := by decide +kernel
theorem dX8_needed_45 : decode cX8_needed 45 = .ok (.iconst 2, 1) := by decide +kernel
theorem dX8_needed_46 : decode cX8_needed 46 = .ok (.goto 4, 3) := by decide +kernel
theorem dX8_needed_49 : decode cX8_needed 49 = .ok (.iconst 1, 1) := by decide +kernel
theorem dX8_needed_50 : decode cX8_needed 50 = .ok (.iadd, 1) := by decide +kernel
theorem dX8_needed_51 : decode cX8_needed 51 = .ok (.istore_n 2, 1) := by decide +kernel
theorem dX8_needed_52 : decode cX8_needed 52 = .ok (.iload 4, 2) := by decide +kernel
theorem dX8_needed_54 : decode cX8_needed 54 = .ok (.iconst (-1), 1) := by decide +kernel
theorem dX8_needed_55 : decode cX8_needed 55 = .ok (.if_icmp .ne 7, 3) := by decide +kernel
theorem dX8_needed_58 : decode cX8_needed 58 = .ok (.iload_n 1, 1) := by decide +kernel
theorem dX8_needed_59 : decode cX8_needed 59 = .ok (.goto 5, 3) := by decide +kernel
theorem dX8_needed_62 : decode cX8_needed 62 = .ok (.iload 4, 2) := by decide +kernel
theorem dX8_needed_64 : decode cX8_needed 64 = .ok (.istore_n 1, 1) := by decide +kernel
theorem dX8_needed_65 : decode cX8_needed 65 = .ok (.aload_n 0, 1) := by decide +kernel
theorem dX8_needed_66 : decode cX8_needed 66 = .ok (.getfield 16, 3) := by decide +kernel
theorem dX8_needed_69 : decode cX8_needed 69 = .ok (.iload_n 3, 1) := by decide +kernel
theorem dX8_needed_70 : decode cX8_needed 70 = .ok (.iaload, 1) := by decide +kernel
theorem dX8_needed_71 : decode cX8_needed 71 = .ok (.bipush 32, 2) := by decide +kernel
theorem dX8_needed_73 : decode cX8_needed 73 = .ok (.if_icmp .ne 19, 3) := by decide +kernel
theorem dX8_needed_76 : decode cX8_needed 76 = .ok (.aload_n 0, 1) := by decide +kernel
theorem dX8_needed_77 : decode cX8_needed 77 = .ok (.getfield 7, 3) := by decide +kernel
theorem dX8_needed_80 : decode cX8_needed 80 = .ok (.sipush 604, 3) := by decide +kernel
theorem dX8_needed_83 : decode cX8_needed 83 = .ok (.iaload, 1) := by decide +kernel
theorem dX8_needed_84 : decode cX8_needed 84 = .ok (.iconst 1, 1) := by decide +kernel
theorem dX8_needed_85 : decode cX8_needed 85 = .ok (.if_icmp .ne 7, 3) := by decide +kernel
theorem dX8_needed_88 : decode cX8_needed 88 = .ok (.iconst 0, 1) := by decide +kernel
theorem dX8_needed_89 : decode cX8_needed 89 = .ok (.goto 4, 3) := by decide +kernel
theorem dX8_needed_92 : decode cX8_needed 92 = .ok (.iload_n 1, 1) := by decide +kernel
theorem dX8_needed_93 : decode cX8_needed 93 = .ok (.istore_n 1, 1) := by decide +kernel
theorem dX8_needed_94 : decode cX8_needed 94 = .ok (.iinc 3 1, 3) := by decide +kernel
theorem dX8_needed_97 : decode cX8_needed 97 = .ok (.goto (-84), 3) := by decide +kernel
theorem dX8_needed_100 : decode cX8_needed 100 = .ok (.iload_n 2, 1) := by decide +kernel
theorem dX8_needed_101 : decode cX8_needed 101 = .ok (.ireturn, 1) := by decide +kernel
theorem dX8_codesToSend_0 : decode cX8_codesToSend 0 = .ok (.aload_n 0, 1) := by decide +kernel
theorem dX8_codesToSend_1 : decode cX8_codesToSend 1 = .ok (.iconst 0, 1) := by decide +kernel
theorem dX8_codesToSend_2 : decode cX8_codesToSend 2 = .ok (.putfield 38, 3) := by decide +kernel
theorem dX8_codesToSend_5 : decode cX8_codesToSend 5 = .ok (.aload_n 0, 1) := by decide +kernel
theorem dX8_codesToSend_6 : decode cX8_codesToSend 6 = .ok (.invokevirtual 71, 3) := by decide +kernel
theorem dX8_codesToSend_9 : decode cX8_codesToSend 9 = .ok (.ireturn, 1) := by decide +kernel
theorem dX8_sends_0 : decode cX8_sends 0 = .ok (.aload_n 0, 1) := by decide +kernel
theorem dX8_sends_1 : decode cX8_sends 1 = .ok (.getfield 7, 3) := by decide +kernel
theorem dX8_sends_4 : decode cX8_sends 4 = .ok (.sipush 605, 3) := by decide +kernel
theorem dX8_sends_7 : decode cX8_sends 7 = .ok (.aload_n 0, 1) := by decide +kernel
theorem dX8_sends_8 : decode cX8_sends 8 = .ok (.getfield 7, 3) := by decide +kernel
theorem dX8_sends_11 : decode cX8_sends 11 = .ok (.iconst 0, 1) := by decide +kernel
theorem dX8_sends_12 : decode cX8_sends 12 = .ok (.iaload, 1) := by decide +kernel
theorem dX8_sends_13 : decode cX8_sends 13 = .ok (.iadd, 1) := by decide +kernel
theorem dX8_sends_14 : decode cX8_sends 14 = .ok (.iaload, 1) := by decide +kernel
theorem dX8_sends_15 : decode cX8_sends 15 = .ok (.iconst 1, 1) := by decide +kernel
theorem dX8_sends_16 : decode cX8_sends 16 = .ok (.isub, 1) := by decide +kernel
theorem dX8_sends_17 : decode cX8_sends 17 = .ok (.istore_n 2, 1) := by decide +kernel
theorem dX8_sends_18 : decode cX8_sends 18 = .ok (.aload_n 0, 1) := by decide +kernel
theorem dX8_sends_19 : decode cX8_sends 19 = .ok (.getfield 7, 3) := by decide +kernel
theorem dX8_sends_22 : decode cX8_sends 22 = .ok (.iconst 1, 1) := by decide +kernel
theorem dX8_sends_23 : decode cX8_sends 23 = .ok (.aload_n 0, 1) := by decide +kernel
theorem dX8_sends_24 : decode cX8_sends 24 = .ok (.getfield 7, 3) := by decide +kernel
theorem dX8_sends_27 : decode cX8_sends 27 = .ok (.iconst 0, 1) := by decide +kernel
theorem dX8_sends_28 : decode cX8_sends 28 = .ok (.iaload, 1) := by decide +kernel
theorem dX8_sends_29 : decode cX8_sends 29 = .ok (.iadd, 1) := by decide +kernel
theorem dX8_sends_30 : decode cX8_sends 30 = .ok (.iload_n 1, 1) := by decide +kernel
theorem dX8_sends_31 : decode cX8_sends 31 = .ok (.iastore, 1) := by decide +kernel
theorem dX8_sends_32 : decode cX8_sends 32 = .ok (.aload_n 0, 1) := by decide +kernel
theorem dX8_sends_33 : decode cX8_sends 33 = .ok (.getfield 7, 3) := by decide +kernel
theorem dX8_sends_36 : decode cX8_sends 36 = .ok (.iconst 0, 1) := by decide +kernel
theorem dX8_sends_37 : decode cX8_sends 37 = .ok (.dup2, 1) := by decide +kernel
theorem dX8_sends_38 : decode cX8_sends 38 = .ok (.iaload, 1) := by decide +kernel
theorem dX8_sends_39 : decode cX8_sends 39 = .ok (.iconst 1, 1) := by decide +kernel
theorem dX8_sends_40 : decode cX8_sends 40 = .ok (.iadd, 1) := by decide +kernel
theorem dX8_sends_41 : decode cX8_sends 41 = .ok (.iastore, 1) := by decide +kernel
theorem dX8_sends_42 : decode cX8_sends 42 = .ok (.iload_n 2, 1) := by decide +kernel
theorem dX8_sends_43 : decode cX8_sends 43 = .ok (.ifCond .eq 47, 3) := by decide +kernel
theorem dX8_sends_46 : decode cX8_sends 46 = .ok (.aload_n 0, 1) := by decide +kernel
theorem dX8_sends_47 : decode cX8_sends 47 = .ok (.getfield 7, 3) := by decide +kernel
theorem dX8_sends_50 : decode cX8_sends 50 = .ok (.sipush 202, 3) := by decide +kernel
theorem dX8_sends_53 : decode cX8_sends 53 = .ok (.aload_n 0, 1) := by decide +kernel
theorem dX8_sends_54 : decode cX8_sends 54 = .ok (.getfield 7, 3) := by decide +kernel
theorem dX8_sends_57 : decode cX8_sends 57 = .ok (.sipush 201, 3) := by decide +kernel
theorem dX8_sends_60 : decode cX8_sends 60 = .ok (.iaload, 1) := by decide +kernel
theorem dX8_sends_61 : decode cX8_sends 61 = .ok (.iadd, 1) := by decide +kernel
theorem dX8_sends_62 : decode cX8_sends 62 = .ok (.iload_n 2, 1) := by decide +kernel
theorem dX8_sends_63 : decode cX8_sends 63 = .ok (.ifCond .ge 7, 3) := by decide +kernel
theorem dX8_sends_66 : decode cX8_sends 66 = .ok (.iload_n 1, 1) := by decide +kernel
theorem dX8_sends_67 : decode cX8_sends 67 = .ok (.goto 10, 3) := by decide +kernel
theorem dX8_sends_70 : decode cX8_sends 70 = .ok (.iload_n 1, 1) := by decide +kernel
theorem dX8_sends_71 : decode cX8_sends 71 = .ok (.iconst 1, 1) := by decide +kernel
theorem dX8_sends_72 : decode cX8_sends 72 = .ok (.iload_n 2, 1) := by decide +kernel
theorem dX8_sends_73 : decode cX8_sends 73 = .ok (.iconst 1, 1) := by decide +kernel
theorem dX8_sends_74 : decode cX8_sends 74 = .ok (.isub, 1) := by decide +kernel
theorem dX8_sends_75 : decode cX8_sends 75 = .ok (.ishl, 1) := by decide +kernel
theorem dX8_sends_76 : decode cX8_sends 76 = .ok (.ixor, 1) := by decide +kernel
theorem dX8_sends_77 : decode cX8_sends 77 = .ok (.iastore, 1) := by decide +kernel
theorem dX8_sends_78 : decode cX8_sends 78 = .ok (.aload_n 0, 1) := by decide +kernel
theorem dX8_sends_79 : decode cX8_sends 79 = .ok (.getfield 7, 3) := by decide +kernel
theorem dX8_sends_82 : decode cX8_sends 82 = .ok (.sipush 201, 3) := by decide +kernel
theorem dX8_sends_85 : decode cX8_sends 85 = .ok (.dup2, 1) := by decide +kernel
theorem dX8_sends_86 : decode cX8_sends 86 = .ok (.iaload, 1) := by decide +kernel
theorem dX8_sends_87 : decode cX8_sends 87 = .ok (.iconst 1, 1) := by decide +kernel
theorem dX8_sends_88 : decode cX8_sends 88 = .ok (.iadd, 1) := by decide +kernel
theorem dX8_sends_89 : decode cX8_sends 89 = .ok (.iastore, 1) := by decide +kernel
theorem dX8_sends_90 : decode cX8_sends 90 = .ok (.return_, 1) := by decide +kernel
theorem dX8_send_0 : decode cX8_send 0 = .ok (.aload_n 0, 1) := by decide +kernel
theorem dX8_send_1 : decode cX8_send 1 = .ok (.aload_n 0, 1) := by decide +kernel
theorem dX8_send_2 : decode cX8_send 2 = .ok (.getfield 62, 3) := by decide +kernel
theorem dX8_send_5 : decode cX8_send 5 = .ok (.ifCond .eq 20, 3) := by decide +kernel
theorem dX8_send_8 : decode cX8_send 8 = .ok (.aload_n 0, 1) := by decide +kernel
theorem dX8_send_9 : decode cX8_send 9 = .ok (.getfield 7, 3) := by decide +kernel
theorem dX8_send_12 : decode cX8_send 12 = .ok (.iconst 0, 1) := by decide +kernel
theorem dX8_send_13 : decode cX8_send 13 = .ok (.iaload, 1) := by decide +kernel
theorem dX8_send_14 : decode cX8_send 14 = .ok (.aload_n 0, 1) := by decide +kernel
theorem dX8_send_15 : decode cX8_send 15 = .ok (.invokevirtual 71, 3) := by decide +kernel
theorem dX8_send_18 : decode cX8_send 18 = .ok (.iadd, 1) := by decide +kernel
theorem dX8_send_19 : decode cX8_send 19 = .ok (.sipush 200, 3) := by decide +kernel
theorem dX8_send_22 : decode cX8_send 22 = .ok (.if_icmp .le 7, 3) := by decide +kernel
theorem dX8_send_25 : decode cX8_send 25 = .ok (.iconst 1, 1) := by decide +kernel
theorem dX8_send_26 : decode cX8_send 26 = .ok (.goto 4, 3) := by decide +kernel
theorem dX8_send_29 : decode cX8_send 29 = .ok (.iconst 0, 1) := by decide +kernel
theorem dX8_send_30 : decode cX8_send 30 = .ok (.invokevirtual 65, 3) := by decide +kernel
theorem dX8_send_33 : decode cX8_send 33 = .ok (.ifCond .eq 5, 3) := by decide +kernel
theorem dX8_send_36 : decode cX8_send 36 = .ok (.iconst 0, 1) := by decide +kernel
theorem dX8_send_37 : decode cX8_send 37 = .ok (.ireturn, 1) := by decide +kernel
theorem dX8_send_38 : decode cX8_send 38 = .ok (.aload_n 0, 1) := by decide +kernel
theorem dX8_send_39 : decode cX8_send 39 = .ok (.invokevirtual 75, 3) := by decide +kernel
theorem dX8_send_42 : decode cX8_send 42 = .ok (.aload_n 0, 1) := by decide +kernel
theorem dX8_send_43 : decode cX8_send 43 = .ok (.getfield 7, 3) := by decide +kernel
theorem dX8_send_46 : decode cX8_send 46 = .ok (.sipush 201, 3) := by decide +kernel
theorem dX8_send_49 : decode cX8_send 49 = .ok (.iaload, 1) := by decide +kernel
theorem dX8_send_50 : decode cX8_send 50 = .ok (.istore_n 1, 1) := by decide +kernel
theorem dX8_send_51 : decode cX8_send 51 = .ok (.iconst 0, 1) := by decide +kernel
theorem dX8_send_52 : decode cX8_send 52 = .ok (.istore_n 2, 1) := by decide +kernel
theorem dX8_send_53 : decode cX8_send 53 = .ok (.iload_n 2, 1) := by decide +kernel
theorem dX8_send_54 : decode cX8_send 54 = .ok (.aload_n 0, 1) := by decide +kernel
theorem dX8_send_55 : decode cX8_send 55 = .ok (.getfield 62, 3) := by decide +kernel
theorem dX8_send_58 : decode cX8_send 58 = .ok (.if_icmp .ge 156, 3) := by decide +kernel
theorem dX8_send_61 : decode cX8_send 61 = .ok (.aload_n 0, 1) := by decide +kernel
theorem dX8_send_62 : decode cX8_send 62 = .ok (.getfield 16, 3) := by decide +kernel
theorem dX8_send_65 : decode cX8_send 65 = .ok (.iload_n 2, 1) := by decide +kernel
theorem dX8_send_66 : decode cX8_send 66 = .ok (.iaload, 1) := by decide +kernel
theorem dX8_send_67 : decode cX8_send 67 = .ok (.istore_n 3, 1) := by decide +kernel
theorem dX8_send_68 : decode cX8_send 68 = .ok (.iload_n 3, 1) := by decide +kernel
theorem dX8_send_69 : decode cX8_send 69 = .ok (.invokestatic 68, 3) := by decide +kernel
theorem dX8_send_72 : decode cX8_send 72 = .ok (.istore 4, 2) := by decide +kernel
theorem dX8_send_74 : decode cX8_send 74 = .ok (.iload 4, 2) := by decide +kernel
theorem dX8_send_76 : decode cX8_send 76 = .ok (.iconst (-1), 1) := by decide +kernel
theorem dX8_send_77 : decode cX8_send 77 = .ok (.if_icmp .eq 43, 3) := by decide +kernel
theorem dX8_send_80 : decode cX8_send 80 = .ok (.iload 4, 2) := by decide +kernel
theorem dX8_send_82 : decode cX8_send 82 = .ok (.aload_n 0, 1) := by decide +kernel
theorem dX8_send_83 : decode cX8_send 83 = .ok (.getfield 7, 3) := by decide +kernel
theorem dX8_send_86 : decode cX8_send 86 = .ok (.sipush 603, 3) := by decide +kernel
theorem dX8_send_89 : decode cX8_send 89 = .ok (.iaload, 1) := by decide +kernel
theorem dX8_send_90 : decode cX8_send 90 = .ok (.if_icmp .eq 30, 3) := by decide +kernel
theorem dX8_send_93 : decode cX8_send 93 = .ok (.aload_n 0, 1) := by decide +kernel
theorem dX8_send_94 : decode cX8_send 94 = .ok (.iload 4, 2) := by decide +kernel
theorem dX8_send_96 : decode cX8_send 96 = .ok (.iconst 1, 1) := by decide +kernel
theorem dX8_send_97 : decode cX8_send 97 = .ok (.if_icmp .ne 8, 3) := by decide +kernel
theorem dX8_send_100 : decode cX8_send 100 = .ok (.bipush 30, 2) := by decide +kernel
theorem dX8_send_102 : decode cX8_send 102 = .ok (.goto 5, 3) := by decide +kernel
theorem dX8_send_105 : decode cX8_send 105 = .ok (.bipush 31, 2) := by decide +kernel
theorem dX8_send_107 : decode cX8_send 107 = .ok (.invokevirtual 78, 3) := by decide +kernel
theorem dX8_send_110 : decode cX8_send 110 = .ok (.aload_n 0, 1) := by decide +kernel
theorem dX8_send_111 : decode cX8_send 111 = .ok (.getfield 7, 3) := by decide +kernel
theorem dX8_send_114 : decode cX8_send 114 = .ok (.sipush 603, 3) := by decide +kernel
theorem dX8_send_117 : decode cX8_send 117 = .ok (.iload 4, 2) := by decide +kernel
theorem dX8_send_119 : decode cX8_send 119 = .ok (.iastore, 1) := by decide +kernel
theorem dX8_send_120 : decode cX8_send 120 = .ok (.aload_n 0, 1) := by decide +kernel
theorem dX8_send_121 : decode cX8_send 121 = .ok (.iload_n 3, 1) := by decide +kernel
theorem dX8_send_122 : decode cX8_send 122 = .ok (.invokestatic 59, 3) := by decide +kernel
theorem dX8_send_125 : decode cX8_send 125 = .ok (.invokevirtual 78, 3) := by decide +kernel
theorem dX8_send_128 : decode cX8_send 128 = .ok (.aload_n 0, 1) := by decide +kernel
theorem dX8_send_129 : decode cX8_send 129 = .ok (.getfield 7, 3) := by decide +kernel
theorem dX8_send_132 : decode cX8_send 132 = .ok (.sipush 603, 3) := by decide +kernel
theorem dX8_send_135 : decode cX8_send 135 = .ok (.iload_n 3, 1) := by decide +kernel
theorem dX8_send_136 : decode cX8_send 136 = .ok (.bipush 32, 2) := by decide +kernel
theorem dX8_send_138 : decode cX8_send 138 = .ok (.if_icmp .ne 19, 3) := by decide +kernel
theorem dX8_send_141 : decode cX8_send 141 = .ok (.aload_n 0, 1) := by decide +kernel
theorem dX8_send_142 : decode cX8_send 142 = .ok (.getfield 7, 3) := by decide +kernel
theorem dX8_send_145 : decode cX8_send 145 = .ok (.sipush 604, 3) := by decide +kernel
theorem dX8_send_148 : decode cX8_send 148 = .ok (.iaload, 1) := by decide +kernel
theorem dX8_send_149 : decode cX8_send 149 = .ok (.iconst 1, 1) := by decide +kernel
theorem dX8_send_150 : decode cX8_send 150 = .ok (.if_icmp .ne 7, 3) := by decide +kernel
theorem dX8_send_153 : decode cX8_send 153 = .ok (.iconst 0, 1) := by decide +kernel
theorem dX8_send_154 : decode cX8_send 154 = .ok (.goto 11, 3) := by decide +kernel
theorem dX8_send_157 : decode cX8_send 157 = .ok (.aload_n 0, 1) := by decide +kernel
theorem dX8_send_158 : decode cX8_send 158 = .ok (.getfield 7, 3) := by decide +kernel
theorem dX8_send_161 : decode cX8_send 161 = .ok (.sipush 603, 3) := by decide +kernel
theorem dX8_send_164 : decode cX8_send 164 = .ok (.iaload, 1) := by decide +kernel
theorem dX8_send_165 : decode cX8_send 165 = .ok (.iastore, 1) := by decide +kernel
theorem dX8_send_166 : decode cX8_send 166 = .ok (.iload_n 3, 1) := by decide +kernel
theorem dX8_send_167 : decode cX8_send 167 = .ok (.bipush 64, 2) := by decide +kernel
theorem dX8_send_169 : decode cX8_send 169 = .ok (.if_icmp .eq 39, 3) := by decide +kernel
theorem dX8_send_172 : decode cX8_send 172 = .ok (.iload_n 3, 1) := by decide +kernel
theorem dX8_send_173 : decode cX8_send 173 = .ok (.bipush 35, 2) := by decide +kernel
theorem dX8_send_175 : decode cX8_send 175 = .ok (.if_icmp .eq 33, 3) := by decide +kernel
theorem dX8_send_178 : decode cX8_send 178 = .ok (.aload_n 0, 1) := by decide +kernel
theorem dX8_send_179 : decode cX8_send 179 = .ok (.getfield 7, 3) := by decide +kernel
theorem dX8_send_182 : decode cX8_send 182 = .ok (.sipush 403, 3) := by decide +kernel
theorem dX8_send_185 : decode cX8_send 185 = .ok (.aload_n 0, 1) := by decide +kernel
theorem dX8_send_186 : decode cX8_send 186 = .ok (.getfield 7, 3) := by decide +kernel
theorem dX8_send_189 : decode cX8_send 189 = .ok (.sipush 402, 3) := by decide +kernel
theorem dX8_send_192 : decode cX8_send 192 = .ok (.iaload, 1) := by decide +kernel
theorem dX8_send_193 : decode cX8_send 193 = .ok (.iadd, 1) := by decide +kernel
theorem dX8_send_194 : decode cX8_send 194 = .ok (.iload_n 3, 1) := by decide +kernel
theorem dX8_send_195 : decode cX8_send 195 = .ok (.iastore, 1) := by decide +kernel
theorem dX8_send_196 : decode cX8_send 196 = .ok (.aload_n 0, 1) := by decide +kernel
theorem dX8_send_197 : decode cX8_send 197 = .ok (.getfield 7, 3) := by decide +kernel
theorem dX8_send_200 : decode cX8_send 200 = .ok (.sipush 402, 3) := by decide +kernel
theorem dX8_send_203 : decode cX8_send 203 = .ok (.dup2, 1) := by decide +kernel
theorem dX8_send_204 : decode cX8_send 204 = .ok (.iaload, 1) := by decide +kernel
theorem dX8_send_205 : decode cX8_send 205 = .ok (.iconst 1, 1) := by decide +kernel
theorem dX8_send_206 : decode cX8_send 206 = .ok (.iadd, 1) := by decide +kernel
theorem dX8_send_207 : decode cX8_send 207 = .ok (.iastore, 1) := by decide +kernel
theorem dX8_send_208 : decode cX8_send 208 = .ok (.iinc 2 1, 3) := by decide +kernel
theorem dX8_send_211 : decode cX8_send 211 = .ok (.goto (-158), 3) := by decide +kernel
theorem dX8_send_214 : decode cX8_send 214 = .ok (.aload_n 0, 1) := by decide +kernel
theorem dX8_send_215 : decode cX8_send 215 = .ok (.iconst 0, 1) := by decide +kernel
theorem dX8_send_216 : decode cX8_send 216 = .ok (.putfield 62, 3) := by decide +kernel
theorem dX8_send_219 : decode cX8_send 219 = .ok (.aload_n 0, 1) := by decide +kernel
theorem dX8_send_220 : decode cX8_send 220 = .ok (.getfield 7, 3) := by decide +kernel
theorem dX8_send_223 : decode cX8_send 223 = .ok (.sipush 201, 3) := by decide +kernel
theorem dX8_send_226 : decode cX8_send 226 = .ok (.iaload, 1) := by decide +kernel
