theorem dX8_send_227 : decode cX8_send 227 = .ok (.iload_n 1, 1) := by decide +kernel
theorem dX8_send_228 : decode cX8_send 228 = .ok (.isub, 1) := by decide +kernel
theorem dX8_send_229 : decode cX8_send 229 = .ok (.ireturn, 1) := by decide +kernel
theorem dX8_setFault_0 : decode cX8_setFault 0 = .ok (.aload_n 0, 1) := by decide +kernel
theorem dX8_setFault_1 : decode cX8_setFault 1 = .ok (.iload_n 1, 1) := by decide +kernel
theorem dX8_setFault_2 : decode cX8_setFault 2 = .ok (.iconst 0, 1) := by decide +kernel
theorem dX8_setFault_3 : decode cX8_setFault 3 = .ok (.sipush 199, 3) := by decide +kernel
theorem dX8_setFault_6 : decode cX8_setFault 6 = .ok (.invokestatic 44, 3) := by decide +kernel
theorem dX8_setFault_9 : decode cX8_setFault 9 = .ok (.ifCond .ne 7, 3) := by decide +kernel
theorem dX8_setFault_12 : decode cX8_setFault 12 = .ok (.iconst 1, 1) := by decide +kernel
theorem dX8_setFault_13 : decode cX8_setFault 13 = .ok (.goto 17, 3) := by decide +kernel
theorem dX8_setFault_16 : decode cX8_setFault 16 = .ok (.iload_n 2, 1) := by decide +kernel
theorem dX8_setFault_17 : decode cX8_setFault 17 = .ok (.iconst (-1), 1) := by decide +kernel
theorem dX8_setFault_18 : decode cX8_setFault 18 = .ok (.iconst 5, 1) := by decide +kernel
theorem dX8_setFault_19 : decode cX8_setFault 19 = .ok (.invokestatic 44, 3) := by decide +kernel
theorem dX8_setFault_22 : decode cX8_setFault 22 = .ok (.ifCond .eq 7, 3) := by decide +kernel
theorem dX8_setFault_25 : decode cX8_setFault 25 = .ok (.iconst 0, 1) := by decide +kernel
theorem dX8_setFault_26 : decode cX8_setFault 26 = .ok (.goto 4, 3) := by decide +kernel
theorem dX8_setFault_29 : decode cX8_setFault 29 = .ok (.iconst 2, 1) := by decide +kernel
theorem dX8_setFault_30 : decode cX8_setFault 30 = .ok (.invokevirtual 65, 3) := by decide +kernel
theorem dX8_setFault_33 : decode cX8_setFault 33 = .ok (.ifCond .eq 5, 3) := by decide +kernel
theorem dX8_setFault_36 : decode cX8_setFault 36 = .ok (.iconst 0, 1) := by decide +kernel
theorem dX8_setFault_37 : decode cX8_setFault 37 = .ok (.ireturn, 1) := by decide +kernel
theorem dX8_setFault_38 : decode cX8_setFault 38 = .ok (.aload_n 0, 1) := by decide +kernel
theorem dX8_setFault_39 : decode cX8_setFault 39 = .ok (.invokevirtual 75, 3) := by decide +kernel
theorem dX8_setFault_42 : decode cX8_setFault 42 = .ok (.aload_n 0, 1) := by decide +kernel
theorem dX8_setFault_43 : decode cX8_setFault 43 = .ok (.getfield 7, 3) := by decide +kernel
theorem dX8_setFault_46 : decode cX8_setFault 46 = .ok (.sipush 605, 3) := by decide +kernel
theorem dX8_setFault_49 : decode cX8_setFault 49 = .ok (.iload_n 1, 1) := by decide +kernel
theorem dX8_setFault_50 : decode cX8_setFault 50 = .ok (.iadd, 1) := by decide +kernel
theorem dX8_setFault_51 : decode cX8_setFault 51 = .ok (.iaload, 1) := by decide +kernel
theorem dX8_setFault_52 : decode cX8_setFault 52 = .ok (.iconst 1, 1) := by decide +kernel
theorem dX8_setFault_53 : decode cX8_setFault 53 = .ok (.isub, 1) := by decide +kernel
theorem dX8_setFault_54 : decode cX8_setFault 54 = .ok (.istore_n 3, 1) := by decide +kernel
theorem dX8_setFault_55 : decode cX8_setFault 55 = .ok (.aload_n 0, 1) := by decide +kernel
theorem dX8_setFault_56 : decode cX8_setFault 56 = .ok (.getfield 7, 3) := by decide +kernel
theorem dX8_setFault_59 : decode cX8_setFault 59 = .ok (.sipush 605, 3) := by decide +kernel
theorem dX8_setFault_62 : decode cX8_setFault 62 = .ok (.iload_n 1, 1) := by decide +kernel
theorem dX8_setFault_63 : decode cX8_setFault 63 = .ok (.iadd, 1) := by decide +kernel
theorem dX8_setFault_64 : decode cX8_setFault 64 = .ok (.iload_n 2, 1) := by decide +kernel
theorem dX8_setFault_65 : decode cX8_setFault 65 = .ok (.iconst 1, 1) := by decide +kernel
theorem dX8_setFault_66 : decode cX8_setFault 66 = .ok (.iadd, 1) := by decide +kernel
theorem dX8_setFault_67 : decode cX8_setFault 67 = .ok (.iastore, 1) := by decide +kernel
theorem dX8_setFault_68 : decode cX8_setFault 68 = .ok (.iload_n 3, 1) := by decide +kernel
theorem dX8_setFault_69 : decode cX8_setFault 69 = .ok (.ireturn, 1) := by decide +kernel
theorem dX8_sent_0 : decode cX8_sent 0 = .ok (.aload_n 0, 1) := by decide +kernel
theorem dX8_sent_1 : decode cX8_sent 1 = .ok (.iconst 0, 1) := by decide +kernel
theorem dX8_sent_2 : decode cX8_sent 2 = .ok (.putfield 38, 3) := by decide +kernel
theorem dX8_sent_5 : decode cX8_sent 5 = .ok (.aload_n 0, 1) := by decide +kernel
theorem dX8_sent_6 : decode cX8_sent 6 = .ok (.getfield 7, 3) := by decide +kernel
theorem dX8_sent_9 : decode cX8_sent 9 = .ok (.iconst 0, 1) := by decide +kernel
theorem dX8_sent_10 : decode cX8_sent 10 = .ok (.iaload, 1) := by decide +kernel
theorem dX8_sent_11 : decode cX8_sent 11 = .ok (.ireturn, 1) := by decide +kernel
theorem dX8_received_0 : decode cX8_received 0 = .ok (.aload_n 0, 1) := by decide +kernel
theorem dX8_received_1 : decode cX8_received 1 = .ok (.iconst 0, 1) := by decide +kernel
theorem dX8_received_2 : decode cX8_received 2 = .ok (.putfield 38, 3) := by decide +kernel
theorem dX8_received_5 : decode cX8_received 5 = .ok (.aload_n 0, 1) := by decide +kernel
theorem dX8_received_6 : decode cX8_received 6 = .ok (.getfield 7, 3) := by decide +kernel
theorem dX8_received_9 : decode cX8_received 9 = .ok (.sipush 201, 3) := by decide +kernel
theorem dX8_received_12 : decode cX8_received 12 = .ok (.iaload, 1) := by decide +kernel
theorem dX8_received_13 : decode cX8_received 13 = .ok (.ireturn, 1) := by decide +kernel
theorem dX8_sentCode_0 : decode cX8_sentCode 0 = .ok (.aload_n 0, 1) := by decide +kernel
theorem dX8_sentCode_1 : decode cX8_sentCode 1 = .ok (.iload_n 1, 1) := by decide +kernel
theorem dX8_sentCode_2 : decode cX8_sentCode 2 = .ok (.iconst 0, 1) := by decide +kernel
theorem dX8_sentCode_3 : decode cX8_sentCode 3 = .ok (.aload_n 0, 1) := by decide +kernel
theorem dX8_sentCode_4 : decode cX8_sentCode 4 = .ok (.getfield 7, 3) := by decide +kernel
theorem dX8_sentCode_7 : decode cX8_sentCode 7 = .ok (.iconst 0, 1) := by decide +kernel
theorem dX8_sentCode_8 : decode cX8_sentCode 8 = .ok (.iaload, 1) := by decide +kernel
theorem dX8_sentCode_9 : decode cX8_sentCode 9 = .ok (.iconst 1, 1) := by decide +kernel
theorem dX8_sentCode_10 : decode cX8_sentCode 10 = .ok (.isub, 1) := by decide +kernel
theorem dX8_sentCode_11 : decode cX8_sentCode 11 = .ok (.invokestatic 44, 3) := by decide +kernel
theorem dX8_sentCode_14 : decode cX8_sentCode 14 = .ok (.ifCond .eq 7, 3) := by decide +kernel
theorem dX8_sentCode_17 : decode cX8_sentCode 17 = .ok (.iconst 0, 1) := by decide +kernel
theorem dX8_sentCode_18 : decode cX8_sentCode 18 = .ok (.goto 4, 3) := by decide +kernel
theorem dX8_sentCode_21 : decode cX8_sentCode 21 = .ok (.iconst 1, 1) := by decide +kernel
theorem dX8_sentCode_22 : decode cX8_sentCode 22 = .ok (.invokevirtual 65, 3) := by decide +kernel
theorem dX8_sentCode_25 : decode cX8_sentCode 25 = .ok (.ifCond .eq 5, 3) := by decide +kernel
theorem dX8_sentCode_28 : decode cX8_sentCode 28 = .ok (.iconst 0, 1) := by decide +kernel
theorem dX8_sentCode_29 : decode cX8_sentCode 29 = .ok (.ireturn, 1) := by decide +kernel
theorem dX8_sentCode_30 : decode cX8_sentCode 30 = .ok (.aload_n 0, 1) := by decide +kernel
theorem dX8_sentCode_31 : decode cX8_sentCode 31 = .ok (.getfield 7, 3) := by decide +kernel
theorem dX8_sentCode_34 : decode cX8_sentCode 34 = .ok (.iconst 1, 1) := by decide +kernel
theorem dX8_sentCode_35 : decode cX8_sentCode 35 = .ok (.iload_n 1, 1) := by decide +kernel
theorem dX8_sentCode_36 : decode cX8_sentCode 36 = .ok (.iadd, 1) := by decide +kernel
theorem dX8_sentCode_37 : decode cX8_sentCode 37 = .ok (.iaload, 1) := by decide +kernel
theorem dX8_sentCode_38 : decode cX8_sentCode 38 = .ok (.ireturn, 1) := by decide +kernel
theorem dX8_receivedCode_0 : decode cX8_receivedCode 0 = .ok (.aload_n 0, 1) := by decide +kernel
theorem dX8_receivedCode_1 : decode cX8_receivedCode 1 = .ok (.iload_n 1, 1) := by decide +kernel
theorem dX8_receivedCode_2 : decode cX8_receivedCode 2 = .ok (.iconst 0, 1) := by decide +kernel
theorem dX8_receivedCode_3 : decode cX8_receivedCode 3 = .ok (.aload_n 0, 1) := by decide +kernel
theorem dX8_receivedCode_4 : decode cX8_receivedCode 4 = .ok (.getfield 7, 3) := by decide +kernel
theorem dX8_receivedCode_7 : decode cX8_receivedCode 7 = .ok (.sipush 201, 3) := by decide +kernel
theorem dX8_receivedCode_10 : decode cX8_receivedCode 10 = .ok (.iaload, 1) := by decide +kernel
theorem dX8_receivedCode_11 : decode cX8_receivedCode 11 = .ok (.iconst 1, 1) := by decide +kernel
theorem dX8_receivedCode_12 : decode cX8_receivedCode 12 = .ok (.isub, 1) := by decide +kernel
theorem dX8_receivedCode_13 : decode cX8_receivedCode 13 = .ok (.invokestatic 44, 3) := by decide +kernel
theorem dX8_receivedCode_16 : decode cX8_receivedCode 16 = .ok (.ifCond .eq 7, 3) := by decide +kernel
theorem dX8_receivedCode_19 : decode cX8_receivedCode 19 = .ok (.iconst 0, 1) := by decide +kernel
theorem dX8_receivedCode_20 : decode cX8_receivedCode 20 = .ok (.goto 4, 3) := by decide +kernel
theorem dX8_receivedCode_23 : decode cX8_receivedCode 23 = .ok (.iconst 1, 1) := by decide +kernel
theorem dX8_receivedCode_24 : decode cX8_receivedCode 24 = .ok (.invokevirtual 65, 3) := by decide +kernel
theorem dX8_receivedCode_27 : decode cX8_receivedCode 27 = .ok (.ifCond .eq 5, 3) := by decide +kernel
theorem dX8_receivedCode_30 : decode cX8_receivedCode 30 = .ok (.iconst 0, 1) := by decide +kernel
theorem dX8_receivedCode_31 : decode cX8_receivedCode 31 = .ok (.ireturn, 1) := by decide +kernel
theorem dX8_receivedCode_32 : decode cX8_receivedCode 32 = .ok (.aload_n 0, 1) := by decide +kernel
theorem dX8_receivedCode_33 : decode cX8_receivedCode 33 = .ok (.getfield 7, 3) := by decide +kernel
theorem dX8_receivedCode_36 : decode cX8_receivedCode 36 = .ok (.sipush 202, 3) := by decide +kernel
theorem dX8_receivedCode_39 : decode cX8_receivedCode 39 = .ok (.iload_n 1, 1) := by decide +kernel
theorem dX8_receivedCode_40 : decode cX8_receivedCode 40 = .ok (.iadd, 1) := by decide +kernel
theorem dX8_receivedCode_41 : decode cX8_receivedCode 41 = .ok (.iaload, 1) := by decide +kernel
theorem dX8_receivedCode_42 : decode cX8_receivedCode 42 = .ok (.ireturn, 1) := by decide +kernel
theorem dX8_senderShift_0 : decode cX8_senderShift 0 = .ok (.aload_n 0, 1) := by decide +kernel
theorem dX8_senderShift_1 : decode cX8_senderShift 1 = .ok (.iconst 0, 1) := by decide +kernel
theorem dX8_senderShift_2 : decode cX8_senderShift 2 = .ok (.putfield 38, 3) := by decide +kernel
theorem dX8_senderShift_5 : decode cX8_senderShift 5 = .ok (.aload_n 0, 1) := by decide +kernel
theorem dX8_senderShift_6 : decode cX8_senderShift 6 = .ok (.getfield 7, 3) := by decide +kernel
theorem dX8_senderShift_9 : decode cX8_senderShift 9 = .ok (.sipush 603, 3) := by decide +kernel
theorem dX8_senderShift_12 : decode cX8_senderShift 12 = .ok (.iaload, 1) := by decide +kernel
theorem dX8_senderShift_13 : decode cX8_senderShift 13 = .ok (.ireturn, 1) := by decide +kernel
theorem dX8_faulty_0 : decode cX8_faulty 0 = .ok (.iconst 0, 1) := by decide +kernel
theorem dX8_faulty_1 : decode cX8_faulty 1 = .ok (.istore_n 1, 1) := by decide +kernel
theorem dX8_faulty_2 : decode cX8_faulty 2 = .ok (.iconst 0, 1) := by decide +kernel
theorem dX8_faulty_3 : decode cX8_faulty 3 = .ok (.istore_n 2, 1) := by decide +kernel
theorem dX8_faulty_4 : decode cX8_faulty 4 = .ok (.iload_n 2, 1) := by decide +kernel
theorem dX8_faulty_5 : decode cX8_faulty 5 = .ok (.sipush 200, 3) := by decide +kernel
theorem dX8_faulty_8 : decode cX8_faulty 8 = .ok (.if_icmp .ge 30, 3) := by decide +kernel
theorem dX8_faulty_11 : decode cX8_faulty 11 = .ok (.iload_n 1, 1) := by decide +kernel
theorem dX8_faulty_12 : decode cX8_faulty 12 = .ok (.aload_n 0, 1) := by decide +kernel
theorem dX8_faulty_13 : decode cX8_faulty 13 = .ok (.getfield 7, 3) := by decide +kernel
theorem dX8_faulty_16 : decode cX8_faulty 16 = .ok (.sipush 605, 3) := by decide +kernel
theorem dX8_faulty_19 : decode cX8_faulty 19 = .ok (.iload_n 2, 1) := by decide +kernel
theorem dX8_faulty_20 : decode cX8_faulty 20 = .ok (.iadd, 1) := by decide +kernel
theorem dX8_faulty_21 : decode cX8_faulty 21 = .ok (.iaload, 1) := by decide +kernel
theorem dX8_faulty_22 : decode cX8_faulty 22 = .ok (.ifCond .le 7, 3) := by decide +kernel
theorem dX8_faulty_25 : decode cX8_faulty 25 = .ok (.iconst 1, 1) := by decide +kernel
theorem dX8_faulty_26 : decode cX8_faulty 26 = .ok (.goto 4, 3) := by decide +kernel
theorem dX8_faulty_29 : decode cX8_faulty 29 = .ok (.iconst 0, 1) := by decide +kernel
theorem dX8_faulty_30 : decode cX8_faulty 30 = .ok (.iadd, 1) := by decide +kernel
theorem dX8_faulty_31 : decode cX8_faulty 31 = .ok (.istore_n 1, 1) := by decide +kernel
theorem dX8_faulty_32 : decode cX8_faulty 32 = .ok (.iinc 2 1, 3) := by decide +kernel
theorem dX8_faulty_35 : decode cX8_faulty 35 = .ok (.goto (-31), 3) := by decide +kernel
theorem dX8_faulty_38 : decode cX8_faulty 38 = .ok (.iload_n 1, 1) := by decide +kernel
theorem dX8_faulty_39 : decode cX8_faulty 39 = .ok (.ireturn, 1) := by decide +kernel
theorem dX8_faults_0 : decode cX8_faults 0 = .ok (.aload_n 0, 1) := by decide +kernel
theorem dX8_faults_1 : decode cX8_faults 1 = .ok (.iconst 0, 1) := by decide +kernel
theorem dX8_faults_2 : decode cX8_faults 2 = .ok (.putfield 38, 3) := by decide +kernel
theorem dX8_faults_5 : decode cX8_faults 5 = .ok (.aload_n 0, 1) := by decide +kernel
theorem dX8_faults_6 : decode cX8_faults 6 = .ok (.invokevirtual 82, 3) := by decide +kernel
theorem dX8_faults_9 : decode cX8_faults 9 = .ok (.ireturn, 1) := by decide +kernel
theorem dX8_isWord_0 : decode cX8_isWord 0 = .ok (.aload_n 0, 1) := by decide +kernel
theorem dX8_isWord_1 : decode cX8_isWord 1 = .ok (.getfield 7, 3) := by decide +kernel
theorem dX8_isWord_4 : decode cX8_isWord 4 = .ok (.sipush 806, 3) := by decide +kernel
theorem dX8_isWord_7 : decode cX8_isWord 7 = .ok (.iload_n 1, 1) := by decide +kernel
theorem dX8_isWord_8 : decode cX8_isWord 8 = .ok (.iadd, 1) := by decide +kernel
theorem dX8_isWord_9 : decode cX8_isWord 9 = .ok (.iaload, 1) := by decide +kernel
theorem dX8_isWord_10 : decode cX8_isWord 10 = .ok (.iload_n 3, 1) := by decide +kernel
theorem dX8_isWord_11 : decode cX8_isWord 11 = .ok (.if_icmp .ne 7, 3) := by decide +kernel
theorem dX8_isWord_14 : decode cX8_isWord 14 = .ok (.iconst 1, 1) := by decide +kernel
theorem dX8_isWord_15 : decode cX8_isWord 15 = .ok (.goto 4, 3) := by decide +kernel
theorem dX8_isWord_18 : decode cX8_isWord 18 = .ok (.iconst 0, 1) := by decide +kernel
theorem dX8_isWord_19 : decode cX8_isWord 19 = .ok (.istore 4, 2) := by decide +kernel
theorem dX8_isWord_21 : decode cX8_isWord 21 = .ok (.iconst 0, 1) := by decide +kernel
theorem dX8_isWord_22 : decode cX8_isWord 22 = .ok (.istore 5, 2) := by decide +kernel
theorem dX8_isWord_24 : decode cX8_isWord 24 = .ok (.iload 5, 2) := by decide +kernel
theorem dX8_isWord_26 : decode cX8_isWord 26 = .ok (.iload_n 3, 1) := by decide +kernel
theorem dX8_isWord_27 : decode cX8_isWord 27 = .ok (.if_icmp .ge 49, 3) := by decide +kernel
theorem dX8_isWord_30 : decode cX8_isWord 30 = .ok (.iload 4, 2) := by decide +kernel
theorem dX8_isWord_32 : decode cX8_isWord 32 = .ok (.ifCond .eq 44, 3) := by decide +kernel
theorem dX8_isWord_35 : decode cX8_isWord 35 = .ok (.aload_n 0, 1) := by decide +kernel
theorem dX8_isWord_36 : decode cX8_isWord 36 = .ok (.getfield 7, 3) := by decide +kernel
theorem dX8_isWord_39 : decode cX8_isWord 39 = .ok (.sipush 826, 3) := by decide +kernel
theorem dX8_isWord_42 : decode cX8_isWord 42 = .ok (.bipush 6, 2) := by decide +kernel
theorem dX8_isWord_44 : decode cX8_isWord 44 = .ok (.iload_n 1, 1) := by decide +kernel
theorem dX8_isWord_45 : decode cX8_isWord 45 = .ok (.imul, 1) := by decide +kernel
theorem dX8_isWord_46 : decode cX8_isWord 46 = .ok (.iadd, 1) := by decide +kernel
theorem dX8_isWord_47 : decode cX8_isWord 47 = .ok (.iload 5, 2) := by decide +kernel
theorem dX8_isWord_49 : decode cX8_isWord 49 = .ok (.iadd, 1) := by decide +kernel
theorem dX8_isWord_50 : decode cX8_isWord 50 = .ok (.iaload, 1) := by decide +kernel
theorem dX8_isWord_51 : decode cX8_isWord 51 = .ok (.aload_n 0, 1) := by decide +kernel
theorem dX8_isWord_52 : decode cX8_isWord 52 = .ok (.getfield 31, 3) := by decide +kernel
theorem dX8_isWord_55 : decode cX8_isWord 55 = .ok (.iload_n 2, 1) := by decide +kernel
theorem dX8_isWord_56 : decode cX8_isWord 56 = .ok (.iload 5, 2) := by decide +kernel
theorem dX8_isWord_58 : decode cX8_isWord 58 = .ok (.iadd, 1) := by decide +kernel
theorem dX8_isWord_59 : decode cX8_isWord 59 = .ok (.iaload, 1) := by decide +kernel
theorem dX8_isWord_60 : decode cX8_isWord 60 = .ok (.if_icmp .ne 7, 3) := by decide +kernel
theorem dX8_isWord_63 : decode cX8_isWord 63 = .ok (.iconst 1, 1) := by decide +kernel
theorem dX8_isWord_64 : decode cX8_isWord 64 = .ok (.goto 4, 3) := by decide +kernel
theorem dX8_isWord_67 : decode cX8_isWord 67 = .ok (.iconst 0, 1) := by decide +kernel
theorem dX8_isWord_68 : decode cX8_isWord 68 = .ok (.istore 4, 2) := by decide +kernel
theorem dX8_isWord_70 : decode cX8_isWord 70 = .ok (.iinc 5 1, 3) := by decide +kernel
theorem dX8_isWord_73 : decode cX8_isWord 73 = .ok (.goto (-49), 3) := by decide +kernel
theorem dX8_isWord_76 : decode cX8_isWord 76 = .ok (.iload 4, 2) := by decide +kernel
theorem dX8_isWord_78 : decode cX8_isWord 78 = .ok (.ireturn, 1) := by decide +kernel
theorem dX8_isPlausible_0 : decode cX8_isPlausible 0 = .ok (.iload_n 3, 1) := by decide +kernel
theorem dX8_isPlausible_1 : decode cX8_isPlausible 1 = .ok (.iconst 1, 1) := by decide +kernel
theorem dX8_isPlausible_2 : decode cX8_isPlausible 2 = .ok (.if_icmp .ne 50, 3) := by decide +kernel
theorem dX8_isPlausible_5 : decode cX8_isPlausible 5 = .ok (.iconst 1, 1) := by decide +kernel
theorem dX8_isPlausible_6 : decode cX8_isPlausible 6 = .ok (.istore 4, 2) := by decide +kernel
theorem dX8_isPlausible_8 : decode cX8_isPlausible 8 = .ok (.iconst 0, 1) := by decide +kernel
theorem dX8_isPlausible_9 : decode cX8_isPlausible 9 = .ok (.istore 5, 2) := by decide +kernel
theorem dX8_isPlausible_11 : decode cX8_isPlausible 11 = .ok (.iload 5, 2) := by decide +kernel
theorem dX8_isPlausible_13 : decode cX8_isPlausible 13 = .ok (.iload_n 2, 1) := by decide +kernel
theorem dX8_isPlausible_14 : decode cX8_isPlausible 14 = .ok (.if_icmp .ge 35, 3) := by decide +kernel
theorem dX8_isPlausible_17 : decode cX8_isPlausible 17 = .ok (.iload 4, 2) := by decide +kernel
theorem dX8_isPlausible_19 : decode cX8_isPlausible 19 = .ok (.ifCond .eq 21, 3) := by decide +kernel
theorem dX8_isPlausible_22 : decode cX8_isPlausible 22 = .ok (.aload_n 0, 1) := by decide +kernel
theorem dX8_isPlausible_23 : decode cX8_isPlausible 23 = .ok (.getfield 31, 3) := by decide +kernel
theorem dX8_isPlausible_26 : decode cX8_isPlausible 26 = .ok (.iload_n 1, 1) := by decide +kernel
theorem dX8_isPlausible_27 : decode cX8_isPlausible 27 = .ok (.iload 5, 2) := by decide +kernel
theorem dX8_isPlausible_29 : decode cX8_isPlausible 29 = .ok (.iadd, 1) := by decide +kernel
theorem dX8_isPlausible_30 : decode cX8_isPlausible 30 = .ok (.iaload, 1) := by decide +kernel
theorem dX8_isPlausible_31 : decode cX8_isPlausible 31 = .ok (.bipush 11, 2) := by decide +kernel
theorem dX8_isPlausible_33 : decode cX8_isPlausible 33 = .ok (.if_icmp .ge 7, 3) := by decide +kernel
theorem dX8_isPlausible_36 : decode cX8_isPlausible 36 = .ok (.iconst 1, 1) := by decide +kernel
theorem dX8_isPlausible_37 : decode cX8_isPlausible 37 = .ok (.goto 4, 3) := by decide +kernel
theorem dX8_isPlausible_40 : decode cX8_isPlausible 40 = .ok (.iconst 0, 1) := by decide +kernel
theorem dX8_isPlausible_41 : decode cX8_isPlausible 41 = .ok (.istore 4, 2) := by decide +kernel
theorem dX8_isPlausible_43 : decode cX8_isPlausible 43 = .ok (.iinc 5 1, 3) := by decide +kernel
theorem dX8_isPlausible_46 : decode cX8_isPlausible 46 = .ok (.goto (-35), 3) := by decide +kernel
theorem dX8_isPlausible_49 : decode cX8_isPlausible 49 = .ok (.iload 4, 2) := by decide +kernel
theorem dX8_isPlausible_51 : decode cX8_isPlausible 51 = .ok (.ireturn, 1) := by decide +kernel
theorem dX8_isPlausible_52 : decode cX8_isPlausible 52 = .ok (.iconst 0, 1) := by decide +kernel
theorem dX8_isPlausible_53 : decode cX8_isPlausible 53 = .ok (.istore 4, 2) := by decide +kernel
theorem dX8_isPlausible_55 : decode cX8_isPlausible 55 = .ok (.iconst 0, 1) := by decide +kernel
theorem dX8_isPlausible_56 : decode cX8_isPlausible 56 = .ok (.istore 5, 2) := by decide +kernel
theorem dX8_isPlausible_58 : decode cX8_isPlausible 58 = .ok (.iload 5, 2) := by decide +kernel
theorem dX8_isPlausible_60 : decode cX8_isPlausible 60 = .ok (.aload_n 0, 1) := by decide +kernel
theorem dX8_isPlausible_61 : decode cX8_isPlausible 61 = .ok (.getfield 7, 3) := by decide +kernel
theorem dX8_isPlausible_64 : decode cX8_isPlausible 64 = .ok (.sipush 805, 3) := by decide +kernel
theorem dX8_isPlausible_67 : decode cX8_isPlausible 67 = .ok (.iaload, 1) := by decide +kernel
theorem dX8_isPlausible_68 : decode cX8_isPlausible 68 = .ok (.if_icmp .ge 32, 3) := by decide +kernel
theorem dX8_isPlausible_71 : decode cX8_isPlausible 71 = .ok (.iload 4, 2) := by decide +kernel
theorem dX8_isPlausible_73 : decode cX8_isPlausible 73 = .ok (.ifCond .ne 14, 3) := by decide +kernel
theorem dX8_isPlausible_76 : decode cX8_isPlausible 76 = .ok (.aload_n 0, 1) := by decide +kernel
theorem dX8_isPlausible_77 : decode cX8_isPlausible 77 = .ok (.iload 5, 2) := by decide +kernel
theorem dX8_isPlausible_79 : decode cX8_isPlausible 79 = .ok (.iload_n 1, 1) := by decide +kernel
theorem dX8_isPlausible_80 : decode cX8_isPlausible 80 = .ok (.iload_n 2, 1) := by decide +kernel
theorem dX8_isPlausible_81 : decode cX8_isPlausible 81 = .ok (.invokevirtual 85, 3) := by decide +kernel
theorem dX8_isPlausible_84 : decode cX8_isPlausible 84 = .ok (.ifCond .eq 7, 3) := by decide +kernel
theorem dX8_isPlausible_87 : decode cX8_isPlausible 87 = .ok (.iconst 1, 1) := by decide +kernel
theorem dX8_isPlausible_88 : decode cX8_isPlausible 88 = .ok (.goto 4, 3) := by decide +kernel
theorem dX8_isPlausible_91 : decode cX8_isPlausible 91 = .ok (.iconst 0, 1) := by decide +kernel
theorem dX8_isPlausible_92 : decode cX8_isPlausible 92 = .ok (.istore 4, 2) := by decide +kernel
theorem dX8_isPlausible_94 : decode cX8_isPlausible 94 = .ok (.iinc 5 1, 3) := by decide +kernel
theorem dX8_isPlausible_97 : decode cX8_isPlausible 97 = .ok (.goto (-39), 3) := by decide +kernel
theorem dX8_isPlausible_100 : decode cX8_isPlausible 100 = .ok (.iload 4, 2) := by decide +kernel
theorem dX8_isPlausible_102 : decode cX8_isPlausible 102 = .ok (.ireturn, 1) := by decide +kernel
theorem dX8_prints_0 : decode cX8_prints 0 = .ok (.aload_n 0, 1) := by decide +kernel
theorem dX8_prints_1 : decode cX8_prints 1 = .ok (.getfield 19, 3) := by decide +kernel
theorem dX8_prints_4 : decode cX8_prints 4 = .ok (.aload_n 0, 1) := by decide +kernel
theorem dX8_prints_5 : decode cX8_prints 5 = .ok (.getfield 88, 3) := by decide +kernel
theorem dX8_prints_8 : decode cX8_prints 8 = .ok (.iload_n 1, 1) := by decide +kernel
theorem dX8_prints_9 : decode cX8_prints 9 = .ok (.iastore, 1) := by decide +kernel
theorem dX8_prints_10 : decode cX8_prints 10 = .ok (.aload_n 0, 1) := by decide +kernel
theorem dX8_prints_11 : decode cX8_prints 11 = .ok (.dup, 1) := by decide +kernel
theorem dX8_prints_12 : decode cX8_prints 12 = .ok (.getfield 88, 3) := by decide +kernel
theorem dX8_prints_15 : decode cX8_prints 15 = .ok (.iconst 1, 1) := by decide +kernel
theorem dX8_prints_16 : decode cX8_prints 16 = .ok (.iadd, 1) := by decide +kernel
theorem dX8_prints_17 : decode cX8_prints 17 = .ok (.putfield 88, 3) := by decide +kernel
theorem dX8_prints_20 : decode cX8_prints 20 = .ok (.return_, 1) := by decide +kernel
theorem dX8_segment_0 : decode cX8_segment 0 = .ok (.iload_n 1, 1) := by decide +kernel
theorem dX8_segment_1 : decode cX8_segment 1 = .ok (.istore_n 2, 1) := by decide +kernel
theorem dX8_segment_2 : decode cX8_segment 2 = .ok (.iload_n 2, 1) := by decide +kernel
theorem dX8_segment_3 : decode cX8_segment 3 = .ok (.aload_n 0, 1) := by decide +kernel
theorem dX8_segment_4 : decode cX8_segment 4 = .ok (.getfield 34, 3) := by decide +kernel
theorem dX8_segment_7 : decode cX8_segment 7 = .ok (.if_icmp .ge 24, 3) := by decide +kernel
theorem dX8_segment_10 : decode cX8_segment 10 = .ok (.aload_n 0, 1) := by decide +kernel
theorem dX8_segment_11 : decode cX8_segment 11 = .ok (.getfield 31, 3) := by decide +kernel
theorem dX8_segment_14 : decode cX8_segment 14 = .ok (.iload_n 2, 1) := by decide +kernel
theorem dX8_segment_15 : decode cX8_segment 15 = .ok (.iaload, 1) := by decide +kernel
theorem dX8_segment_16 : decode cX8_segment 16 = .ok (.iconst 1, 1) := by decide +kernel
theorem dX8_segment_17 : decode cX8_segment 17 = .ok (.bipush 26, 2) := by decide +kernel
theorem dX8_segment_19 : decode cX8_segment 19 = .ok (.invokestatic 44, 3) := by decide +kernel
theorem dX8_segment_22 : decode cX8_segment 22 = .ok (.ifCond .eq 9, 3) := by decide +kernel
theorem dX8_segment_25 : decode cX8_segment 25 = .ok (.iinc 2 1, 3) := by decide +kernel
theorem dX8_segment_28 : decode cX8_segment 28 = .ok (.goto (-26), 3) := by decide +kernel
theorem dX8_segment_31 : decode cX8_segment 31 = .ok (.aload_n 0, 1) := by decide +kernel
theorem dX8_segment_32 : decode cX8_segment 32 = .ok (.getfield 91, 3) := by decide +kernel
theorem dX8_segment_35 : decode cX8_segment 35 = .ok (.istore_n 3, 1) := by decide +kernel
theorem dX8_segment_36 : decode cX8_segment 36 = .ok (.aload_n 0, 1) := by decide +kernel
theorem dX8_segment_37 : decode cX8_segment 37 = .ok (.iload_n 1, 1) := by decide +kernel
theorem dX8_segment_38 : decode cX8_segment 38 = .ok (.iload_n 2, 1) := by decide +kernel
theorem dX8_segment_39 : decode cX8_segment 39 = .ok (.iload_n 1, 1) := by decide +kernel
theorem dX8_segment_40 : decode cX8_segment 40 = .ok (.isub, 1) := by decide +kernel
theorem dX8_segment_41 : decode cX8_segment 41 = .ok (.aload_n 0, 1) := by decide +kernel
theorem dX8_segment_42 : decode cX8_segment 42 = .ok (.getfield 91, 3) := by decide +kernel
theorem dX8_segment_45 : decode cX8_segment 45 = .ok (.invokevirtual 94, 3) := by decide +kernel
theorem dX8_segment_48 : decode cX8_segment 48 = .ok (.ifCond .ne 57, 3) := by decide +kernel
theorem dX8_segment_51 : decode cX8_segment 51 = .ok (.aload_n 0, 1) := by decide +kernel
theorem dX8_segment_52 : decode cX8_segment 52 = .ok (.iload_n 1, 1) := by decide +kernel
theorem dX8_segment_53 : decode cX8_segment 53 = .ok (.iload_n 2, 1) := by decide +kernel
theorem dX8_segment_54 : decode cX8_segment 54 = .ok (.iload_n 1, 1) := by decide +kernel
theorem dX8_segment_55 : decode cX8_segment 55 = .ok (.isub, 1) := by decide +kernel
theorem dX8_segment_56 : decode cX8_segment 56 = .ok (.iconst 1, 1) := by decide +kernel
theorem dX8_segment_57 : decode cX8_segment 57 = .ok (.aload_n 0, 1) := by decide +kernel
theorem dX8_segment_58 : decode cX8_segment 58 = .ok (.getfield 91, 3) := by decide +kernel
theorem dX8_segment_61 : decode cX8_segment 61 = .ok (.isub, 1) := by decide +kernel
theorem dX8_segment_62 : decode cX8_segment 62 = .ok (.invokevirtual 94, 3) := by decide +kernel
theorem dX8_segment_65 : decode cX8_segment 65 = .ok (.istore 4, 2) := by decide +kernel
theorem dX8_segment_67 : decode cX8_segment 67 = .ok (.aload_n 0, 1) := by decide +kernel
theorem dX8_segment_68 : decode cX8_segment 68 = .ok (.iload 4, 2) := by decide +kernel
theorem dX8_segment_70 : decode cX8_segment 70 = .ok (.ifCond .eq 12, 3) := by decide +kernel
theorem dX8_segment_73 : decode cX8_segment 73 = .ok (.iconst 1, 1) := by decide +kernel
theorem dX8_segment_74 : decode cX8_segment 74 = .ok (.aload_n 0, 1) := by decide +kernel
theorem dX8_segment_75 : decode cX8_segment 75 = .ok (.getfield 91, 3) := by decide +kernel
theorem dX8_segment_78 : decode cX8_segment 78 = .ok (.isub, 1) := by decide +kernel
theorem dX8_segment_79 : decode cX8_segment 79 = .ok (.goto 7, 3) := by decide +kernel
theorem dX8_segment_82 : decode cX8_segment 82 = .ok (.aload_n 0, 1) := by decide +kernel
theorem dX8_segment_83 : decode cX8_segment 83 = .ok (.getfield 91, 3) := by decide +kernel
theorem dX8_segment_86 : decode cX8_segment 86 = .ok (.putfield 91, 3) := by decide +kernel
theorem dX8_segment_89 : decode cX8_segment 89 = .ok (.aload_n 0, 1) := by decide +kernel
theorem dX8_segment_90 : decode cX8_segment 90 = .ok (.getfield 91, 3) := by decide +kernel
theorem dX8_segment_93 : decode cX8_segment 93 = .ok (.iload 4, 2) := by decide +kernel
theorem dX8_segment_95 : decode cX8_segment 95 = .ok (.ifCond .eq 7, 3) := by decide +kernel
theorem dX8_segment_98 : decode cX8_segment 98 = .ok (.iconst 2, 1) := by decide +kernel
theorem dX8_segment_99 : decode cX8_segment 99 = .ok (.goto 4, 3) := by decide +kernel
theorem dX8_segment_102 : decode cX8_segment 102 = .ok (.iconst 4, 1) := by decide +kernel
theorem dX8_segment_103 : decode cX8_segment 103 = .ok (.iadd, 1) := by decide +kernel
theorem dX8_segment_104 : decode cX8_segment 104 = .ok (.istore_n 3, 1) := by decide +kernel
theorem dX8_segment_105 : decode cX8_segment 105 = .ok (.aload_n 0, 1) := by decide +kernel
theorem dX8_segment_106 : decode cX8_segment 106 = .ok (.getfield 22, 3) := by decide +kernel
theorem dX8_segment_109 : decode cX8_segment 109 = .ok (.aload_n 0, 1) := by decide +kernel
theorem dX8_segment_110 : decode cX8_segment 110 = .ok (.getfield 97, 3) := by decide +kernel
theorem dX8_segment_113 : decode cX8_segment 113 = .ok (.iload_n 1, 1) := by decide +kernel
theorem dX8_segment_114 : decode cX8_segment 114 = .ok (.iastore, 1) := by decide +kernel
theorem dX8_segment_115 : decode cX8_segment 115 = .ok (.aload_n 0, 1) := by decide +kernel
theorem dX8_segment_116 : decode cX8_segment 116 = .ok (.getfield 25, 3) := by decide +kernel
theorem dX8_segment_119 : decode cX8_segment 119 = .ok (.aload_n 0, 1) := by decide +kernel
theorem dX8_segment_120 : decode cX8_segment 120 = .ok (.getfield 97, 3) := by decide +kernel
theorem dX8_segment_123 : decode cX8_segment 123 = .ok (.iload_n 2, 1) := by decide +kernel
theorem dX8_segment_124 : decode cX8_segment 124 = .ok (.iload_n 1, 1) := by decide +kernel
theorem dX8_segment_125 : decode cX8_segment 125 = .ok (.isub, 1) := by decide +kernel
theorem dX8_segment_126 : decode cX8_segment 126 = .ok (.iastore, 1) := by decide +kernel
theorem dX8_segment_127 : decode cX8_segment 127 = .ok (.aload_n 0, 1) := by decide +kernel
theorem dX8_segment_128 : decode cX8_segment 128 = .ok (.getfield 28, 3) := by decide +kernel
theorem dX8_segment_131 : decode cX8_segment 131 = .ok (.aload_n 0, 1) := by decide +kernel
theorem dX8_segment_132 : decode cX8_segment 132 = .ok (.getfield 97, 3) := by decide +kernel
theorem dX8_segment_135 : decode cX8_segment 135 = .ok (.iload_n 3, 1) := by decide +kernel
theorem dX8_segment_136 : decode cX8_segment 136 = .ok (.iastore, 1) := by decide +kernel
theorem dX8_segment_137 : decode cX8_segment 137 = .ok (.aload_n 0, 1) := by decide +kernel
theorem dX8_segment_138 : decode cX8_segment 138 = .ok (.dup, 1) := by decide +kernel
theorem dX8_segment_139 : decode cX8_segment 139 = .ok (.getfield 97, 3) := by decide +kernel
theorem dX8_segment_142 : decode cX8_segment 142 = .ok (.iconst 1, 1) := by decide +kernel
theorem dX8_segment_143 : decode cX8_segment 143 = .ok (.iadd, 1) := by decide +kernel
theorem dX8_segment_144 : decode cX8_segment 144 = .ok (.putfield 97, 3) := by decide +kernel
theorem dX8_segment_147 : decode cX8_segment 147 = .ok (.iload_n 1, 1) := by decide +kernel
theorem dX8_segment_148 : decode cX8_segment 148 = .ok (.istore 4, 2) := by decide +kernel
theorem dX8_segment_150 : decode cX8_segment 150 = .ok (.iload 4, 2) := by decide +kernel
theorem dX8_segment_152 : decode cX8_segment 152 = .ok (.iload_n 2, 1) := by decide +kernel
theorem dX8_segment_153 : decode cX8_segment 153 = .ok (.if_icmp .ge 27, 3) := by decide +kernel
theorem dX8_segment_156 : decode cX8_segment 156 = .ok (.aload_n 0, 1) := by decide +kernel
theorem dX8_segment_157 : decode cX8_segment 157 = .ok (.aload_n 0, 1) := by decide +kernel
theorem dX8_segment_158 : decode cX8_segment 158 = .ok (.getfield 31, 3) := by decide +kernel
theorem dX8_segment_161 : decode cX8_segment 161 = .ok (.iload 4, 2) := by decide +kernel
theorem dX8_segment_163 : decode cX8_segment 163 = .ok (.iaload, 1) := by decide +kernel
theorem dX8_segment_164 : decode cX8_segment 164 = .ok (.aload_n 0, 1) := by decide +kernel
theorem dX8_segment_165 : decode cX8_segment 165 = .ok (.getfield 91, 3) := by decide +kernel
theorem dX8_segment_168 : decode cX8_segment 168 = .ok (.invokestatic 100, 3) := by decide +kernel
theorem dX8_segment_171 : decode cX8_segment 171 = .ok (.invokevirtual 104, 3) := by decide +kernel
theorem dX8_segment_174 : decode cX8_segment 174 = .ok (.iinc 4 1, 3) := by decide +kernel
theorem dX8_segment_177 : decode cX8_segment 177 = .ok (.goto (-27), 3) := by decide +kernel
theorem dX8_segment_180 : decode cX8_segment 180 = .ok (.iload_n 2, 1) := by decide +kernel
theorem dX8_segment_181 : decode cX8_segment 181 = .ok (.ireturn, 1) := by decide +kernel
theorem dX8_decodes_0 : decode cX8_decodes 0 = .ok (.aload_n 0, 1) := by decide +kernel
theorem dX8_decodes_1 : decode cX8_decodes 1 = .ok (.iconst 0, 1) := by decide +kernel
theorem dX8_decodes_2 : decode cX8_decodes 2 = .ok (.putfield 34, 3) := by decide +kernel
theorem dX8_decodes_5 : decode cX8_decodes 5 = .ok (.iconst 0, 1) := by decide +kernel
theorem dX8_decodes_6 : decode cX8_decodes 6 = .ok (.istore_n 3, 1) := by decide +kernel
theorem dX8_decodes_7 : decode cX8_decodes 7 = .ok (.iload_n 3, 1) := by decide +kernel
theorem dX8_decodes_8 : decode cX8_decodes 8 = .ok (.aload_n 0, 1) := by decide +kernel
theorem dX8_decodes_9 : decode cX8_decodes 9 = .ok (.getfield 7, 3) := by decide +kernel
theorem dX8_decodes_12 : decode cX8_decodes 12 = .ok (.sipush 201, 3) := by decide +kernel
theorem dX8_decodes_15 : decode cX8_decodes 15 = .ok (.iaload, 1) := by decide +kernel
theorem dX8_decodes_16 : decode cX8_decodes 16 = .ok (.if_icmp .gt 75, 3) := by decide +kernel
theorem dX8_decodes_19 : decode cX8_decodes 19 = .ok (.iload_n 3, 1) := by decide +kernel
theorem dX8_decodes_20 : decode cX8_decodes 20 = .ok (.iload_n 1, 1) := by decide +kernel
theorem dX8_decodes_21 : decode cX8_decodes 21 = .ok (.if_icmp .ne 23, 3) := by decide +kernel
theorem dX8_decodes_24 : decode cX8_decodes 24 = .ok (.aload_n 0, 1) := by decide +kernel
theorem dX8_decodes_25 : decode cX8_decodes 25 = .ok (.getfield 31, 3) := by decide +kernel
theorem dX8_decodes_28 : decode cX8_decodes 28 = .ok (.aload_n 0, 1) := by decide +kernel
theorem dX8_decodes_29 : decode cX8_decodes 29 = .ok (.getfield 34, 3) := by decide +kernel
theorem dX8_decodes_32 : decode cX8_decodes 32 = .ok (.iload_n 2, 1) := by decide +kernel
theorem dX8_decodes_33 : decode cX8_decodes 33 = .ok (.iastore, 1) := by decide +kernel
theorem dX8_decodes_34 : decode cX8_decodes 34 = .ok (.aload_n 0, 1) := by decide +kernel
theorem dX8_decodes_35 : decode cX8_decodes 35 = .ok (.dup, 1) := by decide +kernel
theorem dX8_decodes_36 : decode cX8_decodes 36 = .ok (.getfield 34, 3) := by decide +kernel
theorem dX8_decodes_39 : decode cX8_decodes 39 = .ok (.iconst 1, 1) := by decide +kernel
theorem dX8_decodes_40 : decode cX8_decodes 40 = .ok (.iadd, 1) := by decide +kernel
theorem dX8_decodes_41 : decode cX8_decodes 41 = .ok (.putfield 34, 3) := by decide +kernel
theorem dX8_decodes_44 : decode cX8_decodes 44 = .ok (.iload_n 3, 1) := by decide +kernel
theorem dX8_decodes_45 : decode cX8_decodes 45 = .ok (.aload_n 0, 1) := by decide +kernel
theorem dX8_decodes_46 : decode cX8_decodes 46 = .ok (.getfield 7, 3) := by decide +kernel
theorem dX8_decodes_49 : decode cX8_decodes 49 = .ok (.sipush 201, 3) := by decide +kernel
theorem dX8_decodes_52 : decode cX8_decodes 52 = .ok (.iaload, 1) := by decide +kernel
theorem dX8_decodes_53 : decode cX8_decodes 53 = .ok (.if_icmp .ge 32, 3) := by decide +kernel
theorem dX8_decodes_56 : decode cX8_decodes 56 = .ok (.aload_n 0, 1) := by decide +kernel
theorem dX8_decodes_57 : decode cX8_decodes 57 = .ok (.getfield 31, 3) := by decide +kernel
theorem dX8_decodes_60 : decode cX8_decodes 60 = .ok (.aload_n 0, 1) := by decide +kernel
theorem dX8_decodes_61 : decode cX8_decodes 61 = .ok (.getfield 34, 3) := by decide +kernel
theorem dX8_decodes_64 : decode cX8_decodes 64 = .ok (.aload_n 0, 1) := by decide +kernel
theorem dX8_decodes_65 : decode cX8_decodes 65 = .ok (.getfield 7, 3) := by decide +kernel
theorem dX8_decodes_68 : decode cX8_decodes 68 = .ok (.sipush 202, 3) := by decide +kernel
theorem dX8_decodes_71 : decode cX8_decodes 71 = .ok (.iload_n 3, 1) := by decide +kernel
theorem dX8_decodes_72 : decode cX8_decodes 72 = .ok (.iadd, 1) := by decide +kernel
theorem dX8_decodes_73 : decode cX8_decodes 73 = .ok (.iaload, 1) := by decide +kernel
theorem dX8_decodes_74 : decode cX8_decodes 74 = .ok (.iastore, 1) := by decide +kernel
theorem dX8_decodes_75 : decode cX8_decodes 75 = .ok (.aload_n 0, 1) := by decide +kernel
theorem dX8_decodes_76 : decode cX8_decodes 76 = .ok (.dup, 1) := by decide +kernel
theorem dX8_decodes_77 : decode cX8_decodes 77 = .ok (.getfield 34, 3) := by decide +kernel
theorem dX8_decodes_80 : decode cX8_decodes 80 = .ok (.iconst 1, 1) := by decide +kernel
theorem dX8_decodes_81 : decode cX8_decodes 81 = .ok (.iadd, 1) := by decide +kernel
theorem dX8_decodes_82 : decode cX8_decodes 82 = .ok (.putfield 34, 3) := by decide +kernel
theorem dX8_decodes_85 : decode cX8_decodes 85 = .ok (.iinc 3 1, 3) := by decide +kernel
theorem dX8_decodes_88 : decode cX8_decodes 88 = .ok (.goto (-81), 3) := by decide +kernel
theorem dX8_decodes_91 : decode cX8_decodes 91 = .ok (.aload_n 0, 1) := by decide +kernel
theorem dX8_decodes_92 : decode cX8_decodes 92 = .ok (.iconst 0, 1) := by decide +kernel
theorem dX8_decodes_93 : decode cX8_decodes 93 = .ok (.putfield 88, 3) := by decide +kernel
theorem dX8_decodes_96 : decode cX8_decodes 96 = .ok (.aload_n 0, 1) := by decide +kernel
theorem dX8_decodes_97 : decode cX8_decodes 97 = .ok (.iconst 0, 1) := by decide +kernel
theorem dX8_decodes_98 : decode cX8_decodes 98 = .ok (.putfield 97, 3) := by decide +kernel
theorem dX8_decodes_101 : decode cX8_decodes 101 = .ok (.aload_n 0, 1) := by decide +kernel
theorem dX8_decodes_102 : decode cX8_decodes 102 = .ok (.iconst 0, 1) := by decide +kernel
theorem dX8_decodes_103 : decode cX8_decodes 103 = .ok (.putfield 107, 3) := by decide +kernel
theorem dX8_decodes_106 : decode cX8_decodes 106 = .ok (.aload_n 0, 1) := by decide +kernel
theorem dX8_decodes_107 : decode cX8_decodes 107 = .ok (.iconst 0, 1) := by decide +kernel
theorem dX8_decodes_108 : decode cX8_decodes 108 = .ok (.putfield 110, 3) := by decide +kernel
theorem dX8_decodes_111 : decode cX8_decodes 111 = .ok (.aload_n 0, 1) := by decide +kernel
theorem dX8_decodes_112 : decode cX8_decodes 112 = .ok (.iconst 0, 1) := by decide +kernel
theorem dX8_decodes_113 : decode cX8_decodes 113 = .ok (.putfield 91, 3) := by decide +kernel
theorem dX8_decodes_116 : decode cX8_decodes 116 = .ok (.iconst 0, 1) := by decide +kernel
theorem dX8_decodes_117 : decode cX8_decodes 117 = .ok (.istore_n 3, 1) := by decide +kernel
theorem dX8_decodes_118 : decode cX8_decodes 118 = .ok (.iload_n 3, 1) := by decide +kernel
theorem dX8_decodes_119 : decode cX8_decodes 119 = .ok (.aload_n 0, 1) := by decide +kernel
theorem dX8_decodes_120 : decode cX8_decodes 120 = .ok (.getfield 34, 3) := by decide +kernel
theorem dX8_decodes_123 : decode cX8_decodes 123 = .ok (.if_icmp .ge 175, 3) := by decide +kernel
theorem dX8_decodes_126 : decode cX8_decodes 126 = .ok (.aload_n 0, 1) := by decide +kernel
theorem dX8_decodes_127 : decode cX8_decodes 127 = .ok (.getfield 31, 3) := by decide +kernel
theorem dX8_decodes_130 : decode cX8_decodes 130 = .ok (.iload_n 3, 1) := by decide +kernel
theorem dX8_decodes_131 : decode cX8_decodes 131 = .ok (.iaload, 1) := by decide +kernel
theorem dX8_decodes_132 : decode cX8_decodes 132 = .ok (.istore 4, 2) := by decide +kernel
theorem dX8_decodes_134 : decode cX8_decodes 134 = .ok (.iload 4, 2) := by decide +kernel
theorem dX8_decodes_136 : decode cX8_decodes 136 = .ok (.iconst 1, 1) := by decide +kernel
theorem dX8_decodes_137 : decode cX8_decodes 137 = .ok (.bipush 26, 2) := by decide +kernel
theorem dX8_decodes_139 : decode cX8_decodes 139 = .ok (.invokestatic 44, 3) := by decide +kernel
theorem dX8_decodes_142 : decode cX8_decodes 142 = .ok (.ifCond .eq 12, 3) := by decide +kernel
theorem dX8_decodes_145 : decode cX8_decodes 145 = .ok (.aload_n 0, 1) := by decide +kernel
theorem dX8_decodes_146 : decode cX8_decodes 146 = .ok (.iload_n 3, 1) := by decide +kernel
theorem dX8_decodes_147 : decode cX8_decodes 147 = .ok (.invokevirtual 113, 3) := by decide +kernel
theorem dX8_decodes_150 : decode cX8_decodes 150 = .ok (.istore_n 3, 1) := by decide +kernel
theorem dX8_decodes_151 : decode cX8_decodes 151 = .ok (.goto 144, 3) := by decide +kernel
theorem dX8_decodes_154 : decode cX8_decodes 154 = .ok (.aload_n 0, 1) := by decide +kernel
theorem dX8_decodes_155 : decode cX8_decodes 155 = .ok (.dup, 1) := by decide +kernel
theorem dX8_decodes_156 : decode cX8_decodes 156 = .ok (.getfield 107, 3) := by decide +kernel
theorem dX8_decodes_159 : decode cX8_decodes 159 = .ok (.iload 4, 2) := by decide +kernel
theorem dX8_decodes_161 : decode cX8_decodes 161 = .ok (.bipush 29, 2) := by decide +kernel
theorem dX8_decodes_163 : decode cX8_decodes 163 = .ok (.if_icmp .ne 15, 3) := by decide +kernel
theorem dX8_decodes_166 : decode cX8_decodes 166 = .ok (.aload_n 0, 1) := by decide +kernel
theorem dX8_decodes_167 : decode cX8_decodes 167 = .ok (.getfield 91, 3) := by decide +kernel
theorem dX8_decodes_170 : decode cX8_decodes 170 = .ok (.iconst 1, 1) := by decide +kernel
theorem dX8_decodes_171 : decode cX8_decodes 171 = .ok (.if_icmp .ne 7, 3) := by decide +kernel
theorem dX8_decodes_174 : decode cX8_decodes 174 = .ok (.iconst 1, 1) := by decide +kernel
theorem dX8_decodes_175 : decode cX8_decodes 175 = .ok (.goto 4, 3) := by decide +kernel
theorem dX8_decodes_178 : decode cX8_decodes 178 = .ok (.iconst 0, 1) := by decide +kernel
theorem dX8_decodes_179 : decode cX8_decodes 179 = .ok (.iadd, 1) := by decide +kernel
theorem dX8_decodes_180 : decode cX8_decodes 180 = .ok (.putfield 107, 3) := by decide +kernel
theorem dX8_decodes_183 : decode cX8_decodes 183 = .ok (.aload_n 0, 1) := by decide +kernel
theorem dX8_decodes_184 : decode cX8_decodes 184 = .ok (.dup, 1) := by decide +kernel
theorem dX8_decodes_185 : decode cX8_decodes 185 = .ok (.getfield 110, 3) := by decide +kernel
theorem dX8_decodes_188 : decode cX8_decodes 188 = .ok (.iload 4, 2) := by decide +kernel
theorem dX8_decodes_190 : decode cX8_decodes 190 = .ok (.bipush 29, 2) := by decide +kernel
theorem dX8_decodes_192 : decode cX8_decodes 192 = .ok (.if_icmp .ne 14, 3) := by decide +kernel
theorem dX8_decodes_195 : decode cX8_decodes 195 = .ok (.aload_n 0, 1) := by decide +kernel
theorem dX8_decodes_196 : decode cX8_decodes 196 = .ok (.getfield 91, 3) := by decide +kernel
theorem dX8_decodes_199 : decode cX8_decodes 199 = .ok (.ifCond .ne 7, 3) := by decide +kernel
theorem dX8_decodes_202 : decode cX8_decodes 202 = .ok (.iconst 1, 1) := by decide +kernel
theorem dX8_decodes_203 : decode cX8_decodes 203 = .ok (.goto 4, 3) := by decide +kernel
theorem dX8_decodes_206 : decode cX8_decodes 206 = .ok (.iconst 0, 1) := by decide +kernel
theorem dX8_decodes_207 : decode cX8_decodes 207 = .ok (.iadd, 1) := by decide +kernel
theorem dX8_decodes_208 : decode cX8_decodes 208 = .ok (.putfield 110, 3) := by decide +kernel
theorem dX8_decodes_211 : decode cX8_decodes 211 = .ok (.iload 4, 2) := by decide +kernel
theorem dX8_decodes_213 : decode cX8_decodes 213 = .ok (.bipush 27, 2) := by decide +kernel
theorem dX8_decodes_215 : decode cX8_decodes 215 = .ok (.if_icmp .eq 10, 3) := by decide +kernel
theorem dX8_decodes_218 : decode cX8_decodes 218 = .ok (.iload 4, 2) := by decide +kernel
theorem dX8_decodes_220 : decode cX8_decodes 220 = .ok (.bipush 28, 2) := by decide +kernel
theorem dX8_decodes_222 : decode cX8_decodes 222 = .ok (.if_icmp .ne 21, 3) := by decide +kernel
theorem dX8_decodes_225 : decode cX8_decodes 225 = .ok (.aload_n 0, 1) := by decide +kernel
theorem dX8_decodes_226 : decode cX8_decodes 226 = .ok (.iload 4, 2) := by decide +kernel
theorem dX8_decodes_228 : decode cX8_decodes 228 = .ok (.bipush 27, 2) := by decide +kernel
theorem dX8_decodes_230 : decode cX8_decodes 230 = .ok (.if_icmp .ne 8, 3) := by decide +kernel
theorem dX8_decodes_233 : decode cX8_decodes 233 = .ok (.bipush 32, 2) := by decide +kernel
theorem dX8_decodes_235 : decode cX8_decodes 235 = .ok (.goto 5, 3) := by decide +kernel
theorem dX8_decodes_238 : decode cX8_decodes 238 = .ok (.bipush 10, 2) := by decide +kernel
theorem dX8_decodes_240 : decode cX8_decodes 240 = .ok (.invokevirtual 104, 3) := by decide +kernel
theorem dX8_decodes_243 : decode cX8_decodes 243 = .ok (.aload_n 0, 1) := by decide +kernel
theorem dX8_decodes_244 : decode cX8_decodes 244 = .ok (.iload 4, 2) := by decide +kernel
theorem dX8_decodes_246 : decode cX8_decodes 246 = .ok (.bipush 30, 2) := by decide +kernel
theorem dX8_decodes_248 : decode cX8_decodes 248 = .ok (.if_icmp .ne 7, 3) := by decide +kernel
theorem dX8_decodes_251 : decode cX8_decodes 251 = .ok (.iconst 1, 1) := by decide +kernel
theorem dX8_decodes_252 : decode cX8_decodes 252 = .ok (.goto 37, 3) := by decide +kernel
theorem dX8_decodes_255 : decode cX8_decodes 255 = .ok (.iload 4, 2) := by decide +kernel
theorem dX8_decodes_257 : decode cX8_decodes 257 = .ok (.bipush 31, 2) := by decide +kernel
theorem dX8_decodes_259 : decode cX8_decodes 259 = .ok (.if_icmp .eq 22, 3) := by decide +kernel
theorem dX8_decodes_262 : decode cX8_decodes 262 = .ok (.iload 4, 2) := by decide +kernel
theorem dX8_decodes_264 : decode cX8_decodes 264 = .ok (.bipush 27, 2) := by decide +kernel
theorem dX8_decodes_266 : decode cX8_decodes 266 = .ok (.if_icmp .ne 19, 3) := by decide +kernel
theorem dX8_decodes_269 : decode cX8_decodes 269 = .ok (.aload_n 0, 1) := by decide +kernel
theorem dX8_decodes_270 : decode cX8_decodes 270 = .ok (.getfield 7, 3) := by decide +kernel
theorem dX8_decodes_273 : decode cX8_decodes 273 = .ok (.sipush 604, 3) := by decide +kernel
theorem dX8_decodes_276 : decode cX8_decodes 276 = .ok (.iaload, 1) := by decide +kernel
theorem dX8_decodes_277 : decode cX8_decodes 277 = .ok (.iconst 1, 1) := by decide +kernel
theorem dX8_decodes_278 : decode cX8_decodes 278 = .ok (.if_icmp .ne 7, 3) := by decide +kernel
theorem dX8_decodes_281 : decode cX8_decodes 281 = .ok (.iconst 0, 1) := by decide +kernel
theorem dX8_decodes_282 : decode cX8_decodes 282 = .ok (.goto 7, 3) := by decide +kernel
theorem dX8_decodes_285 : decode cX8_decodes 285 = .ok (.aload_n 0, 1) := by decide +kernel
theorem dX8_decodes_286 : decode cX8_decodes 286 = .ok (.getfield 91, 3) := by decide +kernel
theorem dX8_decodes_289 : decode cX8_decodes 289 = .ok (.putfield 91, 3) := by decide +kernel
theorem dX8_decodes_292 : decode cX8_decodes 292 = .ok (.iinc 3 1, 3) := by decide +kernel
theorem dX8_decodes_295 : decode cX8_decodes 295 = .ok (.goto (-177), 3) := by decide +kernel
theorem dX8_decodes_298 : decode cX8_decodes 298 = .ok (.return_, 1) := by decide +kernel
theorem dX8_withBit_0 : decode cX8_withBit 0 = .ok (.iconst 0, 1) := by decide +kernel
theorem dX8_withBit_1 : decode cX8_withBit 1 = .ok (.istore_n 2, 1) := by decide +kernel
theorem dX8_withBit_2 : decode cX8_withBit 2 = .ok (.iconst 0, 1) := by decide +kernel
theorem dX8_withBit_3 : decode cX8_withBit 3 = .ok (.istore_n 3, 1) := by decide +kernel
theorem dX8_withBit_4 : decode cX8_withBit 4 = .ok (.iload_n 3, 1) := by decide +kernel
theorem dX8_withBit_5 : decode cX8_withBit 5 = .ok (.aload_n 0, 1) := by decide +kernel
theorem dX8_withBit_6 : decode cX8_withBit 6 = .ok (.getfield 97, 3) := by decide +kernel
theorem dX8_withBit_9 : decode cX8_withBit 9 = .ok (.if_icmp .ge 28, 3) := by decide +kernel
theorem dX8_withBit_12 : decode cX8_withBit 12 = .ok (.iload_n 2, 1) := by decide +kernel
theorem dX8_withBit_13 : decode cX8_withBit 13 = .ok (.aload_n 0, 1) := by decide +kernel
theorem dX8_withBit_14 : decode cX8_withBit 14 = .ok (.getfield 28, 3) := by decide +kernel
theorem dX8_withBit_17 : decode cX8_withBit 17 = .ok (.iload_n 3, 1) := by decide +kernel
theorem dX8_withBit_18 : decode cX8_withBit 18 = .ok (.iaload, 1) := by decide +kernel
theorem dX8_withBit_19 : decode cX8_withBit 19 = .ok (.iload_n 1, 1) := by decide +kernel
theorem dX8_withBit_20 : decode cX8_withBit 20 = .ok (.iand, 1) := by decide +kernel
theorem dX8_withBit_21 : decode cX8_withBit 21 = .ok (.ifCond .eq 7, 3) := by decide +kernel
theorem dX8_withBit_24 : decode cX8_withBit 24 = .ok (.iconst 1, 1) := by decide +kernel
theorem dX8_withBit_25 : decode cX8_withBit 25 = .ok (.goto 4, 3) := by decide +kernel
theorem dX8_withBit_28 : decode cX8_withBit 28 = .ok (.iconst 0, 1) := by decide +kernel
theorem dX8_withBit_29 : decode cX8_withBit 29 = .ok (.iadd, 1) := by decide +kernel
theorem dX8_withBit_30 : decode cX8_withBit 30 = .ok (.istore_n 2, 1) := by decide +kernel
theorem dX8_withBit_31 : decode cX8_withBit 31 = .ok (.iinc 3 1, 3) := by decide +kernel
theorem dX8_withBit_34 : decode cX8_withBit 34 = .ok (.goto (-30), 3) := by decide +kernel
theorem dX8_withBit_37 : decode cX8_withBit 37 = .ok (.iload_n 2, 1) := by decide +kernel
theorem dX8_withBit_38 : decode cX8_withBit 38 = .ok (.ireturn, 1) := by decide +kernel
theorem dX8_unshiftOnSpace_0 : decode cX8_unshiftOnSpace 0 = .ok (.aload_n 0, 1) := by decide +kernel
theorem dX8_unshiftOnSpace_1 : decode cX8_unshiftOnSpace 1 = .ok (.iconst 0, 1) := by decide +kernel
theorem dX8_unshiftOnSpace_2 : decode cX8_unshiftOnSpace 2 = .ok (.putfield 38, 3) := by decide +kernel
theorem dX8_unshiftOnSpace_5 : decode cX8_unshiftOnSpace 5 = .ok (.aload_n 0, 1) := by decide +kernel
theorem dX8_unshiftOnSpace_6 : decode cX8_unshiftOnSpace 6 = .ok (.invokevirtual 75, 3) := by decide +kernel
theorem dX8_unshiftOnSpace_9 : decode cX8_unshiftOnSpace 9 = .ok (.aload_n 0, 1) := by decide +kernel
theorem dX8_unshiftOnSpace_10 : decode cX8_unshiftOnSpace 10 = .ok (.getfield 7, 3) := by decide +kernel
theorem dX8_unshiftOnSpace_13 : decode cX8_unshiftOnSpace 13 = .ok (.sipush 604, 3) := by decide +kernel
theorem dX8_unshiftOnSpace_16 : decode cX8_unshiftOnSpace 16 = .ok (.iaload, 1) := by decide +kernel
theorem dX8_unshiftOnSpace_17 : decode cX8_unshiftOnSpace 17 = .ok (.iconst 1, 1) := by decide +kernel
theorem dX8_unshiftOnSpace_18 : decode cX8_unshiftOnSpace 18 = .ok (.if_icmp .ne 7, 3) := by decide +kernel
theorem dX8_unshiftOnSpace_21 : decode cX8_unshiftOnSpace 21 = .ok (.iconst 1, 1) := by decide +kernel
theorem dX8_unshiftOnSpace_22 : decode cX8_unshiftOnSpace 22 = .ok (.goto 4, 3) := by decide +kernel
theorem dX8_unshiftOnSpace_25 : decode cX8_unshiftOnSpace 25 = .ok (.iconst 0, 1) := by decide +kernel
theorem dX8_unshiftOnSpace_26 : decode cX8_unshiftOnSpace 26 = .ok (.istore_n 2, 1) := by decide +kernel
theorem dX8_unshiftOnSpace_27 : decode cX8_unshiftOnSpace 27 = .ok (.aload_n 0, 1) := by decide +kernel
theorem dX8_unshiftOnSpace_28 : decode cX8_unshiftOnSpace 28 = .ok (.getfield 7, 3) := by decide +kernel
theorem dX8_unshiftOnSpace_31 : decode cX8_unshiftOnSpace 31 = .ok (.sipush 604, 3) := by decide +kernel
theorem dX8_unshiftOnSpace_34 : decode cX8_unshiftOnSpace 34 = .ok (.iload_n 1, 1) := by decide +kernel
theorem dX8_unshiftOnSpace_35 : decode cX8_unshiftOnSpace 35 = .ok (.ifCond .eq 7, 3) := by decide +kernel
theorem dX8_unshiftOnSpace_38 : decode cX8_unshiftOnSpace 38 = .ok (.iconst 1, 1) := by decide +kernel
theorem dX8_unshiftOnSpace_39 : decode cX8_unshiftOnSpace 39 = .ok (.goto 4, 3) := by decide +kernel
theorem dX8_unshiftOnSpace_42 : decode cX8_unshiftOnSpace 42 = .ok (.iconst 0, 1) := by decide +kernel
theorem dX8_unshiftOnSpace_43 : decode cX8_unshiftOnSpace 43 = .ok (.iastore, 1) := by decide +kernel
theorem dX8_unshiftOnSpace_44 : decode cX8_unshiftOnSpace 44 = .ok (.iload_n 2, 1) := by decide +kernel
theorem dX8_unshiftOnSpace_45 : decode cX8_unshiftOnSpace 45 = .ok (.ireturn, 1) := by decide +kernel
theorem dX8_known_0 : decode cX8_known 0 = .ok (.iconst 0, 1) := by decide +kernel
theorem dX8_known_1 : decode cX8_known 1 = .ok (.istore_n 1, 1) := by decide +kernel
theorem dX8_known_2 : decode cX8_known 2 = .ok (.iconst 0, 1) := by decide +kernel
theorem dX8_known_3 : decode cX8_known 3 = .ok (.istore_n 2, 1) := by decide +kernel
theorem dX8_known_4 : decode cX8_known 4 = .ok (.iload_n 1, 1) := by decide +kernel
theorem dX8_known_5 : decode cX8_known 5 = .ok (.aload_n 0, 1) := by decide +kernel
theorem dX8_known_6 : decode cX8_known 6 = .ok (.getfield 7, 3) := by decide +kernel
theorem dX8_known_9 : decode cX8_known 9 = .ok (.sipush 805, 3) := by decide +kernel
theorem dX8_known_12 : decode cX8_known 12 = .ok (.iaload, 1) := by decide +kernel
theorem dX8_known_13 : decode cX8_known 13 = .ok (.if_icmp .ge 98, 3) := by decide +kernel
theorem dX8_known_16 : decode cX8_known 16 = .ok (.iload_n 2, 1) := by decide +kernel
theorem dX8_known_17 : decode cX8_known 17 = .ok (.ifCond .ne 94, 3) := by decide +kernel
theorem dX8_known_20 : decode cX8_known 20 = .ok (.aload_n 0, 1) := by decide +kernel
theorem dX8_known_21 : decode cX8_known 21 = .ok (.getfield 7, 3) := by decide +kernel
theorem dX8_known_24 : decode cX8_known 24 = .ok (.sipush 806, 3) := by decide +kernel
theorem dX8_known_27 : decode cX8_known 27 = .ok (.iload_n 1, 1) := by decide +kernel
theorem dX8_known_28 : decode cX8_known 28 = .ok (.iadd, 1) := by decide +kernel
theorem dX8_known_29 : decode cX8_known 29 = .ok (.iaload, 1) := by decide +kernel
theorem dX8_known_30 : decode cX8_known 30 = .ok (.aload_n 0, 1) := by decide +kernel
theorem dX8_known_31 : decode cX8_known 31 = .ok (.getfield 62, 3) := by decide +kernel
theorem dX8_known_34 : decode cX8_known 34 = .ok (.if_icmp .ne 7, 3) := by decide +kernel
theorem dX8_known_37 : decode cX8_known 37 = .ok (.iconst 1, 1) := by decide +kernel
theorem dX8_known_38 : decode cX8_known 38 = .ok (.goto 4, 3) := by decide +kernel
theorem dX8_known_41 : decode cX8_known 41 = .ok (.iconst 0, 1) := by decide +kernel
theorem dX8_known_42 : decode cX8_known 42 = .ok (.istore_n 2, 1) := by decide +kernel
theorem dX8_known_43 : decode cX8_known 43 = .ok (.iconst 0, 1) := by decide +kernel
theorem dX8_known_44 : decode cX8_known 44 = .ok (.istore_n 3, 1) := by decide +kernel
theorem dX8_known_45 : decode cX8_known 45 = .ok (.iload_n 3, 1) := by decide +kernel
theorem dX8_known_46 : decode cX8_known 46 = .ok (.aload_n 0, 1) := by decide +kernel
theorem dX8_known_47 : decode cX8_known 47 = .ok (.getfield 62, 3) := by decide +kernel
theorem dX8_known_50 : decode cX8_known 50 = .ok (.if_icmp .ge 46, 3) := by decide +kernel
theorem dX8_known_53 : decode cX8_known 53 = .ok (.iload_n 2, 1) := by decide +kernel
theorem dX8_known_54 : decode cX8_known 54 = .ok (.ifCond .eq 42, 3) := by decide +kernel
theorem dX8_known_57 : decode cX8_known 57 = .ok (.aload_n 0, 1) := by decide +kernel
theorem dX8_known_58 : decode cX8_known 58 = .ok (.getfield 7, 3) := by decide +kernel
theorem dX8_known_61 : decode cX8_known 61 = .ok (.sipush 826, 3) := by decide +kernel
theorem dX8_known_64 : decode cX8_known 64 = .ok (.bipush 6, 2) := by decide +kernel
theorem dX8_known_66 : decode cX8_known 66 = .ok (.iload_n 1, 1) := by decide +kernel
theorem dX8_known_67 : decode cX8_known 67 = .ok (.imul, 1) := by decide +kernel
theorem dX8_known_68 : decode cX8_known 68 = .ok (.iadd, 1) := by decide +kernel
theorem dX8_known_69 : decode cX8_known 69 = .ok (.iload_n 3, 1) := by decide +kernel
theorem dX8_known_70 : decode cX8_known 70 = .ok (.iadd, 1) := by decide +kernel
theorem dX8_known_71 : decode cX8_known 71 = .ok (.iaload, 1) := by decide +kernel
theorem dX8_known_72 : decode cX8_known 72 = .ok (.aload_n 0, 1) := by decide +kernel
theorem dX8_known_73 : decode cX8_known 73 = .ok (.getfield 16, 3) := by decide +kernel
theorem dX8_known_76 : decode cX8_known 76 = .ok (.iload_n 3, 1) := by decide +kernel
theorem dX8_known_77 : decode cX8_known 77 = .ok (.iaload, 1) := by decide +kernel
theorem dX8_known_78 : decode cX8_known 78 = .ok (.invokestatic 59, 3) := by decide +kernel
theorem dX8_known_81 : decode cX8_known 81 = .ok (.if_icmp .ne 7, 3) := by decide +kernel
theorem dX8_known_84 : decode cX8_known 84 = .ok (.iconst 1, 1) := by decide +kernel
theorem dX8_known_85 : decode cX8_known 85 = .ok (.goto 4, 3) := by decide +kernel
theorem dX8_known_88 : decode cX8_known 88 = .ok (.iconst 0, 1) := by decide +kernel
theorem dX8_known_89 : decode cX8_known 89 = .ok (.istore_n 2, 1) := by decide +kernel
theorem dX8_known_90 : decode cX8_known 90 = .ok (.iinc 3 1, 3) := by decide +kernel
theorem dX8_known_93 : decode cX8_known 93 = .ok (.goto (-48), 3) := by decide +kernel
theorem dX8_known_96 : decode cX8_known 96 = .ok (.iload_n 1, 1) := by decide +kernel
theorem dX8_known_97 : decode cX8_known 97 = .ok (.iload_n 2, 1) := by decide +kernel
theorem dX8_known_98 : decode cX8_known 98 = .ok (.ifCond .eq 7, 3) := by decide +kernel
theorem dX8_known_101 : decode cX8_known 101 = .ok (.iconst 0, 1) := by decide +kernel
theorem dX8_known_102 : decode cX8_known 102 = .ok (.goto 4, 3) := by decide +kernel
theorem dX8_known_105 : decode cX8_known 105 = .ok (.iconst 1, 1) := by decide +kernel
theorem dX8_known_106 : decode cX8_known 106 = .ok (.iadd, 1) := by decide +kernel
theorem dX8_known_107 : decode cX8_known 107 = .ok (.istore_n 1, 1) := by decide +kernel
theorem dX8_known_108 : decode cX8_known 108 = .ok (.goto (-104), 3) := by decide +kernel
theorem dX8_known_111 : decode cX8_known 111 = .ok (.iload_n 1, 1) := by decide +kernel
theorem dX8_known_112 : decode cX8_known 112 = .ok (.ireturn, 1) := by decide +kernel
theorem dX8_hasWord_0 : decode cX8_hasWord 0 = .ok (.aload_n 0, 1) := by decide +kernel
theorem dX8_hasWord_1 : decode cX8_hasWord 1 = .ok (.getfield 62, 3) := by decide +kernel
theorem dX8_hasWord_4 : decode cX8_hasWord 4 = .ok (.iconst 1, 1) := by decide +kernel
theorem dX8_hasWord_5 : decode cX8_hasWord 5 = .ok (.bipush 6, 2) := by decide +kernel
theorem dX8_hasWord_7 : decode cX8_hasWord 7 = .ok (.invokestatic 44, 3) := by decide +kernel
theorem dX8_hasWord_10 : decode cX8_hasWord 10 = .ok (.istore_n 1, 1) := by decide +kernel
theorem dX8_hasWord_11 : decode cX8_hasWord 11 = .ok (.iconst 0, 1) := by decide +kernel
theorem dX8_hasWord_12 : decode cX8_hasWord 12 = .ok (.istore_n 2, 1) := by decide +kernel
theorem dX8_hasWord_13 : decode cX8_hasWord 13 = .ok (.iload_n 2, 1) := by decide +kernel
theorem dX8_hasWord_14 : decode cX8_hasWord 14 = .ok (.aload_n 0, 1) := by decide +kernel
theorem dX8_hasWord_15 : decode cX8_hasWord 15 = .ok (.getfield 62, 3) := by decide +kernel
theorem dX8_hasWord_18 : decode cX8_hasWord 18 = .ok (.if_icmp .ge 31, 3) := by decide +kernel
theorem dX8_hasWord_21 : decode cX8_hasWord 21 = .ok (.iload_n 1, 1) := by decide +kernel
theorem dX8_hasWord_22 : decode cX8_hasWord 22 = .ok (.ifCond .eq 19, 3) := by decide +kernel
theorem dX8_hasWord_25 : decode cX8_hasWord 25 = .ok (.aload_n 0, 1) := by decide +kernel
theorem dX8_hasWord_26 : decode cX8_hasWord 26 = .ok (.getfield 16, 3) := by decide +kernel
theorem dX8_hasWord_29 : decode cX8_hasWord 29 = .ok (.iload_n 2, 1) := by decide +kernel
theorem dX8_hasWord_30 : decode cX8_hasWord 30 = .ok (.iaload, 1) := by decide +kernel
theorem dX8_hasWord_31 : decode cX8_hasWord 31 = .ok (.invokestatic 52, 3) := by decide +kernel
theorem dX8_hasWord_34 : decode cX8_hasWord 34 = .ok (.ifCond .eq 7, 3) := by decide +kernel
theorem dX8_hasWord_37 : decode cX8_hasWord 37 = .ok (.iconst 1, 1) := by decide +kernel
theorem dX8_hasWord_38 : decode cX8_hasWord 38 = .ok (.goto 4, 3) := by decide +kernel
theorem dX8_hasWord_41 : decode cX8_hasWord 41 = .ok (.iconst 0, 1) := by decide +kernel
theorem dX8_hasWord_42 : decode cX8_hasWord 42 = .ok (.istore_n 1, 1) := by decide +kernel
theorem dX8_hasWord_43 : decode cX8_hasWord 43 = .ok (.iinc 2 1, 3) := by decide +kernel
theorem dX8_hasWord_46 : decode cX8_hasWord 46 = .ok (.goto (-33), 3) := by decide +kernel
theorem dX8_hasWord_49 : decode cX8_hasWord 49 = .ok (.iload_n 1, 1) := by decide +kernel
theorem dX8_hasWord_50 : decode cX8_hasWord 50 = .ok (.ireturn, 1) := by decide +kernel
theorem dX8_learn_0 : decode cX8_learn 0 = .ok (.aload_n 0, 1) := by decide +kernel
theorem dX8_learn_1 : decode cX8_learn 1 = .ok (.aload_n 0, 1) := by decide +kernel
theorem dX8_learn_2 : decode cX8_learn 2 = .ok (.invokevirtual 116, 3) := by decide +kernel
theorem dX8_learn_5 : decode cX8_learn 5 = .ok (.ifCond .ne 7, 3) := by decide +kernel
theorem dX8_learn_8 : decode cX8_learn 8 = .ok (.iconst 1, 1) := by decide +kernel
theorem dX8_learn_9 : decode cX8_learn 9 = .ok (.goto 17, 3) := by decide +kernel
theorem dX8_learn_12 : decode cX8_learn 12 = .ok (.aload_n 0, 1) := by decide +kernel
theorem dX8_learn_13 : decode cX8_learn 13 = .ok (.invokevirtual 120, 3) := by decide +kernel
theorem dX8_learn_16 : decode cX8_learn 16 = .ok (.bipush 20, 2) := by decide +kernel
theorem dX8_learn_18 : decode cX8_learn 18 = .ok (.if_icmp .ne 7, 3) := by decide +kernel
theorem dX8_learn_21 : decode cX8_learn 21 = .ok (.iconst 2, 1) := by decide +kernel
theorem dX8_learn_22 : decode cX8_learn 22 = .ok (.goto 4, 3) := by decide +kernel
theorem dX8_learn_25 : decode cX8_learn 25 = .ok (.iconst 0, 1) := by decide +kernel
theorem dX8_learn_26 : decode cX8_learn 26 = .ok (.invokevirtual 65, 3) := by decide +kernel
theorem dX8_learn_29 : decode cX8_learn 29 = .ok (.ifCond .eq 5, 3) := by decide +kernel
theorem dX8_learn_32 : decode cX8_learn 32 = .ok (.iconst 0, 1) := by decide +kernel
theorem dX8_learn_33 : decode cX8_learn 33 = .ok (.ireturn, 1) := by decide +kernel
theorem dX8_learn_34 : decode cX8_learn 34 = .ok (.aload_n 0, 1) := by decide +kernel
theorem dX8_learn_35 : decode cX8_learn 35 = .ok (.invokevirtual 75, 3) := by decide +kernel
theorem dX8_learn_38 : decode cX8_learn 38 = .ok (.aload_n 0, 1) := by decide +kernel
theorem dX8_learn_39 : decode cX8_learn 39 = .ok (.invokevirtual 120, 3) := by decide +kernel
theorem dX8_learn_42 : decode cX8_learn 42 = .ok (.istore_n 1, 1) := by decide +kernel
theorem dX8_learn_43 : decode cX8_learn 43 = .ok (.iload_n 1, 1) := by decide +kernel
theorem dX8_learn_44 : decode cX8_learn 44 = .ok (.aload_n 0, 1) := by decide +kernel
theorem dX8_learn_45 : decode cX8_learn 45 = .ok (.getfield 7, 3) := by decide +kernel
theorem dX8_learn_48 : decode cX8_learn 48 = .ok (.sipush 805, 3) := by decide +kernel
theorem dX8_learn_51 : decode cX8_learn 51 = .ok (.iaload, 1) := by decide +kernel
theorem dX8_learn_52 : decode cX8_learn 52 = .ok (.if_icmp .ne 79, 3) := by decide +kernel
theorem dX8_learn_55 : decode cX8_learn 55 = .ok (.aload_n 0, 1) := by decide +kernel
theorem dX8_learn_56 : decode cX8_learn 56 = .ok (.getfield 7, 3) := by decide +kernel
theorem dX8_learn_59 : decode cX8_learn 59 = .ok (.sipush 806, 3) := by decide +kernel
theorem dX8_learn_62 : decode cX8_learn 62 = .ok (.iload_n 1, 1) := by decide +kernel
theorem dX8_learn_63 : decode cX8_learn 63 = .ok (.iadd, 1) := by decide +kernel
theorem dX8_learn_64 : decode cX8_learn 64 = .ok (.aload_n 0, 1) := by decide +kernel
theorem dX8_learn_65 : decode cX8_learn 65 = .ok (.getfield 62, 3) := by decide +kernel
theorem dX8_learn_68 : decode cX8_learn 68 = .ok (.iastore, 1) := by decide +kernel
theorem dX8_learn_69 : decode cX8_learn 69 = .ok (.iconst 0, 1) := by decide +kernel
theorem dX8_learn_70 : decode cX8_learn 70 = .ok (.istore_n 2, 1) := by decide +kernel
theorem dX8_learn_71 : decode cX8_learn 71 = .ok (.iload_n 2, 1) := by decide +kernel
theorem dX8_learn_72 : decode cX8_learn 72 = .ok (.bipush 6, 2) := by decide +kernel
theorem dX8_learn_74 : decode cX8_learn 74 = .ok (.if_icmp .ge 45, 3) := by decide +kernel
theorem dX8_learn_77 : decode cX8_learn 77 = .ok (.aload_n 0, 1) := by decide +kernel
theorem dX8_learn_78 : decode cX8_learn 78 = .ok (.getfield 7, 3) := by decide +kernel
theorem dX8_learn_81 : decode cX8_learn 81 = .ok (.sipush 826, 3) := by decide +kernel
theorem dX8_learn_84 : decode cX8_learn 84 = .ok (.bipush 6, 2) := by decide +kernel
theorem dX8_learn_86 : decode cX8_learn 86 = .ok (.iload_n 1, 1) := by decide +kernel
theorem dX8_learn_87 : decode cX8_learn 87 = .ok (.imul, 1) := by decide +kernel
theorem dX8_learn_88 : decode cX8_learn 88 = .ok (.iadd, 1) := by decide +kernel
theorem dX8_learn_89 : decode cX8_learn 89 = .ok (.iload_n 2, 1) := by decide +kernel
theorem dX8_learn_90 : decode cX8_learn 90 = .ok (.iadd, 1) := by decide +kernel
theorem dX8_learn_91 : decode cX8_learn 91 = .ok (.iload_n 2, 1) := by decide +kernel
theorem dX8_learn_92 : decode cX8_learn 92 = .ok (.aload_n 0, 1) := by decide +kernel
theorem dX8_learn_93 : decode cX8_learn 93 = .ok (.getfield 62, 3) := by decide +kernel
theorem dX8_learn_96 : decode cX8_learn 96 = .ok (.if_icmp .ge 15, 3) := by decide +kernel
theorem dX8_learn_99 : decode cX8_learn 99 = .ok (.aload_n 0, 1) := by decide +kernel
theorem dX8_learn_100 : decode cX8_learn 100 = .ok (.getfield 16, 3) := by decide +kernel
theorem dX8_learn_103 : decode cX8_learn 103 = .ok (.iload_n 2, 1) := by decide +kernel
theorem dX8_learn_104 : decode cX8_learn 104 = .ok (.iaload, 1) := by decide +kernel
theorem dX8_learn_105 : decode cX8_learn 105 = .ok (.invokestatic 59, 3) := by decide +kernel
theorem dX8_learn_108 : decode cX8_learn 108 = .ok (.goto 4, 3) := by decide +kernel
theorem dX8_learn_111 : decode cX8_learn 111 = .ok (.iconst 0, 1) := by decide +kernel
theorem dX8_learn_112 : decode cX8_learn 112 = .ok (.iastore, 1) := by decide +kernel
theorem dX8_learn_113 : decode cX8_learn 113 = .ok (.iinc 2 1, 3) := by decide +kernel
theorem dX8_learn_116 : decode cX8_learn 116 = .ok (.goto (-45), 3) := by decide +kernel
theorem dX8_learn_119 : decode cX8_learn 119 = .ok (.aload_n 0, 1) := by decide +kernel
theorem dX8_learn_120 : decode cX8_learn 120 = .ok (.getfield 7, 3) := by decide +kernel
theorem dX8_learn_123 : decode cX8_learn 123 = .ok (.sipush 805, 3) := by decide +kernel
theorem dX8_learn_126 : decode cX8_learn 126 = .ok (.dup2, 1) := by decide +kernel
theorem dX8_learn_127 : decode cX8_learn 127 = .ok (.iaload, 1) := by decide +kernel
theorem dX8_learn_128 : decode cX8_learn 128 = .ok (.iconst 1, 1) := by decide +kernel
theorem dX8_learn_129 : decode cX8_learn 129 = .ok (.iadd, 1) := by decide +kernel
theorem dX8_learn_130 : decode cX8_learn 130 = .ok (.iastore, 1) := by decide +kernel
theorem dX8_learn_131 : decode cX8_learn 131 = .ok (.aload_n 0, 1) := by decide +kernel
theorem dX8_learn_132 : decode cX8_learn 132 = .ok (.iconst 0, 1) := by decide +kernel
theorem dX8_learn_133 : decode cX8_learn 133 = .ok (.putfield 62, 3) := by decide +kernel
theorem dX8_learn_136 : decode cX8_learn 136 = .ok (.aload_n 0, 1) := by decide +kernel
theorem dX8_learn_137 : decode cX8_learn 137 = .ok (.getfield 7, 3) := by decide +kernel
theorem dX8_learn_140 : decode cX8_learn 140 = .ok (.sipush 805, 3) := by decide +kernel
theorem dX8_learn_143 : decode cX8_learn 143 = .ok (.iaload, 1) := by decide +kernel
theorem dX8_learn_144 : decode cX8_learn 144 = .ok (.ireturn, 1) := by decide +kernel
theorem dX8_isIn_0 : decode cX8_isIn 0 = .ok (.iload_n 1, 1) := by decide +kernel
theorem dX8_isIn_1 : decode cX8_isIn 1 = .ok (.iconst 0, 1) := by decide +kernel
theorem dX8_isIn_2 : decode cX8_isIn 2 = .ok (.aload_n 0, 1) := by decide +kernel
theorem dX8_isIn_3 : decode cX8_isIn 3 = .ok (.getfield 7, 3) := by decide +kernel
theorem dX8_isIn_6 : decode cX8_isIn 6 = .ok (.sipush 805, 3) := by decide +kernel
theorem dX8_isIn_9 : decode cX8_isIn 9 = .ok (.iaload, 1) := by decide +kernel
theorem dX8_isIn_10 : decode cX8_isIn 10 = .ok (.iconst 1, 1) := by decide +kernel
theorem dX8_isIn_11 : decode cX8_isIn 11 = .ok (.isub, 1) := by decide +kernel
theorem dX8_isIn_12 : decode cX8_isIn 12 = .ok (.invokestatic 44, 3) := by decide +kernel
theorem dX8_isIn_15 : decode cX8_isIn 15 = .ok (.ireturn, 1) := by decide +kernel
theorem dX8_forget_0 : decode cX8_forget 0 = .ok (.aload_n 0, 1) := by decide +kernel
theorem dX8_forget_1 : decode cX8_forget 1 = .ok (.aload_n 0, 1) := by decide +kernel
theorem dX8_forget_2 : decode cX8_forget 2 = .ok (.iload_n 1, 1) := by decide +kernel
theorem dX8_forget_3 : decode cX8_forget 3 = .ok (.invokevirtual 123, 3) := by decide +kernel
theorem dX8_forget_6 : decode cX8_forget 6 = .ok (.ifCond .eq 7, 3) := by decide +kernel
theorem dX8_forget_9 : decode cX8_forget 9 = .ok (.iconst 0, 1) := by decide +kernel
theorem dX8_forget_10 : decode cX8_forget 10 = .ok (.goto 4, 3) := by decide +kernel
theorem dX8_forget_13 : decode cX8_forget 13 = .ok (.iconst 1, 1) := by decide +kernel
theorem dX8_forget_14 : decode cX8_forget 14 = .ok (.invokevirtual 65, 3) := by decide +kernel
theorem dX8_forget_17 : decode cX8_forget 17 = .ok (.ifCond .eq 5, 3) := by decide +kernel
theorem dX8_forget_20 : decode cX8_forget 20 = .ok (.iconst 0, 1) := by decide +kernel
theorem dX8_forget_21 : decode cX8_forget 21 = .ok (.ireturn, 1) := by decide +kernel
theorem dX8_forget_22 : decode cX8_forget 22 = .ok (.aload_n 0, 1) := by decide +kernel
theorem dX8_forget_23 : decode cX8_forget 23 = .ok (.invokevirtual 75, 3) := by decide +kernel
theorem dX8_forget_26 : decode cX8_forget 26 = .ok (.aload_n 0, 1) := by decide +kernel
theorem dX8_forget_27 : decode cX8_forget 27 = .ok (.getfield 7, 3) := by decide +kernel
theorem dX8_forget_30 : decode cX8_forget 30 = .ok (.sipush 806, 3) := by decide +kernel
theorem dX8_forget_33 : decode cX8_forget 33 = .ok (.iload_n 1, 1) := by decide +kernel
theorem dX8_forget_34 : decode cX8_forget 34 = .ok (.iadd, 1) := by decide +kernel
theorem dX8_forget_35 : decode cX8_forget 35 = .ok (.iaload, 1) := by decide +kernel
theorem dX8_forget_36 : decode cX8_forget 36 = .ok (.istore_n 2, 1) := by decide +kernel
theorem dX8_forget_37 : decode cX8_forget 37 = .ok (.aload_n 0, 1) := by decide +kernel
theorem dX8_forget_38 : decode cX8_forget 38 = .ok (.getfield 7, 3) := by decide +kernel
theorem dX8_forget_41 : decode cX8_forget 41 = .ok (.sipush 805, 3) := by decide +kernel
theorem dX8_forget_44 : decode cX8_forget 44 = .ok (.dup2, 1) := by decide +kernel
theorem dX8_forget_45 : decode cX8_forget 45 = .ok (.iaload, 1) := by decide +kernel
theorem dX8_forget_46 : decode cX8_forget 46 = .ok (.iconst 1, 1) := by decide +kernel
theorem dX8_forget_47 : decode cX8_forget 47 = .ok (.isub, 1) := by decide +kernel
theorem dX8_forget_48 : decode cX8_forget 48 = .ok (.iastore, 1) := by decide +kernel
theorem dX8_forget_49 : decode cX8_forget 49 = .ok (.iload_n 1, 1) := by decide +kernel
theorem dX8_forget_50 : decode cX8_forget 50 = .ok (.istore_n 3, 1) := by decide +kernel
theorem dX8_forget_51 : decode cX8_forget 51 = .ok (.iload_n 3, 1) := by decide +kernel
theorem dX8_forget_52 : decode cX8_forget 52 = .ok (.aload_n 0, 1) := by decide +kernel
theorem dX8_forget_53 : decode cX8_forget 53 = .ok (.getfield 7, 3) := by decide +kernel
theorem dX8_forget_56 : decode cX8_forget 56 = .ok (.sipush 805, 3) := by decide +kernel
theorem dX8_forget_59 : decode cX8_forget 59 = .ok (.iaload, 1) := by decide +kernel
theorem dX8_forget_60 : decode cX8_forget 60 = .ok (.if_icmp .ge 81, 3) := by decide +kernel
theorem dX8_forget_63 : decode cX8_forget 63 = .ok (.aload_n 0, 1) := by decide +kernel
theorem dX8_forget_64 : decode cX8_forget 64 = .ok (.getfield 7, 3) := by decide +kernel
theorem dX8_forget_67 : decode cX8_forget 67 = .ok (.sipush 806, 3) := by decide +kernel
theorem dX8_forget_70 : decode cX8_forget 70 = .ok (.iload_n 3, 1) := by decide +kernel
theorem dX8_forget_71 : decode cX8_forget 71 = .ok (.iadd, 1) := by decide +kernel
theorem dX8_forget_72 : decode cX8_forget 72 = .ok (.aload_n 0, 1) := by decide +kernel
theorem dX8_forget_73 : decode cX8_forget 73 = .ok (.getfield 7, 3) := by decide +kernel
theorem dX8_forget_76 : decode cX8_forget 76 = .ok (.sipush 806, 3) := by decide +kernel
theorem dX8_forget_79 : decode cX8_forget 79 = .ok (.iload_n 3, 1) := by decide +kernel
theorem dX8_forget_80 : decode cX8_forget 80 = .ok (.iadd, 1) := by decide +kernel
theorem dX8_forget_81 : decode cX8_forget 81 = .ok (.iconst 1, 1) := by decide +kernel
theorem dX8_forget_82 : decode cX8_forget 82 = .ok (.iadd, 1) := by decide +kernel
theorem dX8_forget_83 : decode cX8_forget 83 = .ok (.iaload, 1) := by decide +kernel
theorem dX8_forget_84 : decode cX8_forget 84 = .ok (.iastore, 1) := by decide +kernel
theorem dX8_forget_85 : decode cX8_forget 85 = .ok (.iconst 0, 1) := by decide +kernel
theorem dX8_forget_86 : decode cX8_forget 86 = .ok (.istore 4, 2) := by decide +kernel
theorem dX8_forget_88 : decode cX8_forget 88 = .ok (.iload 4, 2) := by decide +kernel
theorem dX8_forget_90 : decode cX8_forget 90 = .ok (.bipush 6, 2) := by decide +kernel
theorem dX8_forget_92 : decode cX8_forget 92 = .ok (.if_icmp .ge 43, 3) := by decide +kernel
theorem dX8_forget_95 : decode cX8_forget 95 = .ok (.aload_n 0, 1) := by decide +kernel
theorem dX8_forget_96 : decode cX8_forget 96 = .ok (.getfield 7, 3) := by decide +kernel
theorem dX8_forget_99 : decode cX8_forget 99 = .ok (.sipush 826, 3) := by decide +kernel
theorem dX8_forget_102 : decode cX8_forget 102 = .ok (.bipush 6, 2) := by decide +kernel
theorem dX8_forget_104 : decode cX8_forget 104 = .ok (.iload_n 3, 1) := by decide +kernel
theorem dX8_forget_105 : decode cX8_forget 105 = .ok (.imul, 1) := by decide +kernel
theorem dX8_forget_106 : decode cX8_forget 106 = .ok (.iadd, 1) := by decide +kernel
theorem dX8_forget_107 : decode cX8_forget 107 = .ok (.iload 4, 2) := by decide +kernel
theorem dX8_forget_109 : decode cX8_forget 109 = .ok (.iadd, 1) := by decide +kernel
theorem dX8_forget_110 : decode cX8_forget 110 = .ok (.aload_n 0, 1) := by decide +kernel
theorem dX8_forget_111 : decode cX8_forget 111 = .ok (.getfield 7, 3) := by decide +kernel
theorem dX8_forget_114 : decode cX8_forget 114 = .ok (.sipush 826, 3) := by decide +kernel
theorem dX8_forget_117 : decode cX8_forget 117 = .ok (.bipush 6, 2) := by decide +kernel
theorem dX8_forget_119 : decode cX8_forget 119 = .ok (.iload_n 3, 1) := by decide +kernel
theorem dX8_forget_120 : decode cX8_forget 120 = .ok (.iconst 1, 1) := by decide +kernel
theorem dX8_forget_121 : decode cX8_forget 121 = .ok (.iadd, 1) := by decide +kernel
theorem dX8_forget_122 : decode cX8_forget 122 = .ok (.imul, 1) := by decide +kernel
theorem dX8_forget_123 : decode cX8_forget 123 = .ok (.iadd, 1) := by decide +kernel
theorem dX8_forget_124 : decode cX8_forget 124 = .ok (.iload 4, 2) := by decide +kernel
theorem dX8_forget_126 : decode cX8_forget 126 = .ok (.iadd, 1) := by decide +kernel
theorem dX8_forget_127 : decode cX8_forget 127 = .ok (.iaload, 1) := by decide +kernel
theorem dX8_forget_128 : decode cX8_forget 128 = .ok (.iastore, 1) := by decide +kernel
theorem dX8_forget_129 : decode cX8_forget 129 = .ok (.iinc 4 1, 3) := by decide +kernel
theorem dX8_forget_132 : decode cX8_forget 132 = .ok (.goto (-44), 3) := by decide +kernel
theorem dX8_forget_135 : decode cX8_forget 135 = .ok (.iinc 3 1, 3) := by decide +kernel
theorem dX8_forget_138 : decode cX8_forget 138 = .ok (.goto (-87), 3) := by decide +kernel
theorem dX8_forget_141 : decode cX8_forget 141 = .ok (.iload_n 2, 1) := by decide +kernel
theorem dX8_forget_142 : decode cX8_forget 142 = .ok (.ireturn, 1) := by decide +kernel
theorem dX8_words_0 : decode cX8_words 0 = .ok (.aload_n 0, 1) := by decide +kernel
theorem dX8_words_1 : decode cX8_words 1 = .ok (.iconst 0, 1) := by decide +kernel
theorem dX8_words_2 : decode cX8_words 2 = .ok (.putfield 38, 3) := by decide +kernel
theorem dX8_words_5 : decode cX8_words 5 = .ok (.aload_n 0, 1) := by decide +kernel
theorem dX8_words_6 : decode cX8_words 6 = .ok (.getfield 7, 3) := by decide +kernel
theorem dX8_words_9 : decode cX8_words 9 = .ok (.sipush 805, 3) := by decide +kernel
theorem dX8_words_12 : decode cX8_words 12 = .ok (.iaload, 1) := by decide +kernel
theorem dX8_words_13 : decode cX8_words 13 = .ok (.ireturn, 1) := by decide +kernel
theorem dX8_wordLetter_0 : decode cX8_wordLetter 0 = .ok (.aload_n 0, 1) := by decide +kernel
theorem dX8_wordLetter_1 : decode cX8_wordLetter 1 = .ok (.aload_n 0, 1) := by decide +kernel
theorem dX8_wordLetter_2 : decode cX8_wordLetter 2 = .ok (.iload_n 1, 1) := by decide +kernel
theorem dX8_wordLetter_3 : decode cX8_wordLetter 3 = .ok (.invokevirtual 123, 3) := by decide +kernel
theorem dX8_wordLetter_6 : decode cX8_wordLetter 6 = .ok (.ifCond .eq 16, 3) := by decide +kernel
theorem dX8_wordLetter_9 : decode cX8_wordLetter 9 = .ok (.iload_n 2, 1) := by decide +kernel
theorem dX8_wordLetter_10 : decode cX8_wordLetter 10 = .ok (.iconst 0, 1) := by decide +kernel
theorem dX8_wordLetter_11 : decode cX8_wordLetter 11 = .ok (.iconst 5, 1) := by decide +kernel
theorem dX8_wordLetter_12 : decode cX8_wordLetter 12 = .ok (.invokestatic 44, 3) := by decide +kernel
theorem dX8_wordLetter_15 : decode cX8_wordLetter 15 = .ok (.ifCond .eq 7, 3) := by decide +kernel
theorem dX8_wordLetter_18 : decode cX8_wordLetter 18 = .ok (.iconst 0, 1) := by decide +kernel
theorem dX8_wordLetter_19 : decode cX8_wordLetter 19 = .ok (.goto 4, 3) := by decide +kernel
theorem dX8_wordLetter_22 : decode cX8_wordLetter 22 = .ok (.iconst 1, 1) := by decide +kernel
theorem dX8_wordLetter_23 : decode cX8_wordLetter 23 = .ok (.invokevirtual 65, 3) := by decide +kernel
theorem dX8_wordLetter_26 : decode cX8_wordLetter 26 = .ok (.ifCond .eq 5, 3) := by decide +kernel
theorem dX8_wordLetter_29 : decode cX8_wordLetter 29 = .ok (.iconst 0, 1) := by decide +kernel
theorem dX8_wordLetter_30 : decode cX8_wordLetter 30 = .ok (.ireturn, 1) := by decide +kernel
theorem dX8_wordLetter_31 : decode cX8_wordLetter 31 = .ok (.iload_n 2, 1) := by decide +kernel
theorem dX8_wordLetter_32 : decode cX8_wordLetter 32 = .ok (.aload_n 0, 1) := by decide +kernel
theorem dX8_wordLetter_33 : decode cX8_wordLetter 33 = .ok (.getfield 7, 3) := by decide +kernel
theorem dX8_wordLetter_36 : decode cX8_wordLetter 36 = .ok (.sipush 806, 3) := by decide +kernel
theorem dX8_wordLetter_39 : decode cX8_wordLetter 39 = .ok (.iload_n 1, 1) := by decide +kernel
theorem dX8_wordLetter_40 : decode cX8_wordLetter 40 = .ok (.iadd, 1) := by decide +kernel
theorem dX8_wordLetter_41 : decode cX8_wordLetter 41 = .ok (.iaload, 1) := by decide +kernel
theorem dX8_wordLetter_42 : decode cX8_wordLetter 42 = .ok (.if_icmp .ge 26, 3) := by decide +kernel
theorem dX8_wordLetter_45 : decode cX8_wordLetter 45 = .ok (.bipush 97, 2) := by decide +kernel
theorem dX8_wordLetter_47 : decode cX8_wordLetter 47 = .ok (.aload_n 0, 1) := by decide +kernel
theorem dX8_wordLetter_48 : decode cX8_wordLetter 48 = .ok (.getfield 7, 3) := by decide +kernel
theorem dX8_wordLetter_51 : decode cX8_wordLetter 51 = .ok (.sipush 826, 3) := by decide +kernel
theorem dX8_wordLetter_54 : decode cX8_wordLetter 54 = .ok (.bipush 6, 2) := by decide +kernel
theorem dX8_wordLetter_56 : decode cX8_wordLetter 56 = .ok (.iload_n 1, 1) := by decide +kernel
theorem dX8_wordLetter_57 : decode cX8_wordLetter 57 = .ok (.imul, 1) := by decide +kernel
theorem dX8_wordLetter_58 : decode cX8_wordLetter 58 = .ok (.iadd, 1) := by decide +kernel
theorem dX8_wordLetter_59 : decode cX8_wordLetter 59 = .ok (.iload_n 2, 1) := by decide +kernel
