theorem dX8_shiftOf_17 : decode cX8_shiftOf 17 = .ok (.iload_n 0, 1) := by decide +kernel
theorem dX8_shiftOf_18 : decode cX8_shiftOf 18 = .ok (.bipush 32, 2) := by decide +kernel
theorem dX8_shiftOf_20 : decode cX8_shiftOf 20 = .ok (.if_icmp .eq 9, 3) := by decide +kernel
theorem dX8_shiftOf_23 : decode cX8_shiftOf 23 = .ok (.iload_n 0, 1) := by decide +kernel
theorem dX8_shiftOf_24 : decode cX8_shiftOf 24 = .ok (.bipush 10, 2) := by decide +kernel
theorem dX8_shiftOf_26 : decode cX8_shiftOf 26 = .ok (.if_icmp .ne 7, 3) := by decide +kernel
theorem dX8_shiftOf_29 : decode cX8_shiftOf 29 = .ok (.iconst (-1), 1) := by decide +kernel
theorem dX8_shiftOf_30 : decode cX8_shiftOf 30 = .ok (.goto 4, 3) := by decide +kernel
theorem dX8_shiftOf_33 : decode cX8_shiftOf 33 = .ok (.iconst 1, 1) := by decide +kernel
theorem dX8_shiftOf_34 : decode cX8_shiftOf 34 = .ok (.ireturn, 1) := by decide +kernel
set_option maxRecDepth 20000 in
theorem ggX8_append_X8_codeOf : GoodIn wsX8_append wsX8_codeOf := goodIn_r _ [6, 7, 8, 5, 9, 10, 11, 12, 13, 14, 15, 16, 17, 18] (by decide +kernel) (by decide +kernel)
set_option maxRecDepth 20000 in
theorem gX8_append_X8_codeOf : GoodIn wsX8_append (va_wsS RX8 59 yX8_codeOf wsX8_codeOf) := goodIn_app (goodIn_of _ (by decide +kernel)) ggX8_append_X8_codeOf
set_option maxRecDepth 20000 in
theorem ggX8_append_X8_refused : GoodIn wsX8_append wsX8_refused := goodIn_r _ [22, 23, 24, 25, 26, 27, 28, 29, 30, 31, 32, 33, 34, 35, 36, 37, 38, 39, 40] (by decide +kernel) (by decide +kernel)
set_option maxRecDepth 20000 in
theorem gX8_append_X8_refused : GoodIn wsX8_append (wsV RX8 65 RX8 yX8_refused wsX8_refused) := goodIn_app (goodIn_of _ (by decide +kernel)) ggX8_append_X8_refused
theorem dX8_append_0 : decode cX8_append 0 = .ok (.aload_n 0, 1) := by decide +kernel
theorem dX8_append_1 : decode cX8_append 1 = .ok (.iload_n 1, 1) := by decide +kernel
theorem dX8_append_2 : decode cX8_append 2 = .ok (.invokestatic 59, 3) := by decide +kernel
theorem dX8_append_5 : decode cX8_append 5 = .ok (.ifCond .ne 7, 3) := by decide +kernel
theorem dX8_append_8 : decode cX8_append 8 = .ok (.iconst 1, 1) := by decide +kernel
theorem dX8_append_9 : decode cX8_append 9 = .ok (.goto 17, 3) := by decide +kernel
theorem dX8_append_12 : decode cX8_append 12 = .ok (.aload_n 0, 1) := by decide +kernel
theorem dX8_append_13 : decode cX8_append 13 = .ok (.getfield 62, 3) := by decide +kernel
theorem dX8_append_16 : decode cX8_append 16 = .ok (.bipush 60, 2) := by decide +kernel
theorem dX8_append_18 : decode cX8_append 18 = .ok (.if_icmp .ne 7, 3) := by decide +kernel
theorem dX8_append_21 : decode cX8_append 21 = .ok (.iconst 2, 1) := by decide +kernel
theorem dX8_append_22 : decode cX8_append 22 = .ok (.goto 4, 3) := by decide +kernel
theorem dX8_append_25 : decode cX8_append 25 = .ok (.iconst 0, 1) := by decide +kernel
theorem dX8_append_26 : decode cX8_append 26 = .ok (.invokevirtual 65, 3) := by decide +kernel
theorem dX8_append_29 : decode cX8_append 29 = .ok (.ifCond .eq 5, 3) := by decide +kernel
theorem dX8_append_32 : decode cX8_append 32 = .ok (.iconst 0, 1) := by decide +kernel
theorem dX8_append_33 : decode cX8_append 33 = .ok (.ireturn, 1) := by decide +kernel
theorem dX8_append_34 : decode cX8_append 34 = .ok (.aload_n 0, 1) := by decide +kernel
theorem dX8_append_35 : decode cX8_append 35 = .ok (.getfield 16, 3) := by decide +kernel
theorem dX8_append_38 : decode cX8_append 38 = .ok (.aload_n 0, 1) := by decide +kernel
theorem dX8_append_39 : decode cX8_append 39 = .ok (.getfield 62, 3) := by decide +kernel
theorem dX8_append_42 : decode cX8_append 42 = .ok (.iload_n 1, 1) := by decide +kernel
theorem dX8_append_43 : decode cX8_append 43 = .ok (.iastore, 1) := by decide +kernel
theorem dX8_append_44 : decode cX8_append 44 = .ok (.aload_n 0, 1) := by decide +kernel
theorem dX8_append_45 : decode cX8_append 45 = .ok (.dup, 1) := by decide +kernel
theorem dX8_append_46 : decode cX8_append 46 = .ok (.getfield 62, 3) := by decide +kernel
theorem dX8_append_49 : decode cX8_append 49 = .ok (.iconst 1, 1) := by decide +kernel
theorem dX8_append_50 : decode cX8_append 50 = .ok (.iadd, 1) := by decide +kernel
theorem dX8_append_51 : decode cX8_append 51 = .ok (.putfield 62, 3) := by decide +kernel
theorem dX8_append_54 : decode cX8_append 54 = .ok (.aload_n 0, 1) := by decide +kernel
theorem dX8_append_55 : decode cX8_append 55 = .ok (.getfield 62, 3) := by decide +kernel
theorem dX8_append_58 : decode cX8_append 58 = .ok (.ireturn, 1) := by decide +kernel
theorem dX8_clearBuffer_0 : decode cX8_clearBuffer 0 = .ok (.aload_n 0, 1) := by decide +kernel
theorem dX8_clearBuffer_1 : decode cX8_clearBuffer 1 = .ok (.iconst 0, 1) := by decide +kernel
theorem dX8_clearBuffer_2 : decode cX8_clearBuffer 2 = .ok (.putfield 38, 3) := by decide +kernel
theorem dX8_clearBuffer_5 : decode cX8_clearBuffer 5 = .ok (.aload_n 0, 1) := by decide +kernel
theorem dX8_clearBuffer_6 : decode cX8_clearBuffer 6 = .ok (.getfield 62, 3) := by decide +kernel
theorem dX8_clearBuffer_9 : decode cX8_clearBuffer 9 = .ok (.istore_n 1, 1) := by decide +kernel
theorem dX8_clearBuffer_10 : decode cX8_clearBuffer 10 = .ok (.aload_n 0, 1) := by decide +kernel
theorem dX8_clearBuffer_11 : decode cX8_clearBuffer 11 = .ok (.iconst 0, 1) := by decide +kernel
theorem dX8_clearBuffer_12 : decode cX8_clearBuffer 12 = .ok (.putfield 62, 3) := by decide +kernel
theorem dX8_clearBuffer_15 : decode cX8_clearBuffer 15 = .ok (.iload_n 1, 1) := by decide +kernel
theorem dX8_clearBuffer_16 : decode cX8_clearBuffer 16 = .ok (.ireturn, 1) := by decide +kernel
set_option maxRecDepth 20000 in
theorem ggX8_needed_X8_shiftOf : GoodIn wsX8_needed wsX8_shiftOf := goodIn_r _ [7, 8, 9, 6, 10, 11, 12, 13] (by decide +kernel) (by decide +kernel)
set_option maxRecDepth 20000 in
theorem gX8_needed_X8_shiftOf : GoodIn wsX8_needed (va_wsS RX8 68 yX8_shiftOf wsX8_shiftOf) := goodIn_app (goodIn_of _ (by decide +kernel)) ggX8_needed_X8_shiftOf
theorem dX8_needed_0 : decode cX8_needed 0 = .ok (.aload_n 0, 1) := by decide +kernel
theorem dX8_needed_1 : decode cX8_needed 1 = .ok (.getfield 7, 3) := by decide +kernel
theorem dX8_needed_4 : decode cX8_needed 4 = .ok (.sipush 603, 3) := by decide +kernel
theorem dX8_needed_7 : decode cX8_needed 7 = .ok (.iaload, 1) := by decide +kernel
theorem dX8_needed_8 : decode cX8_needed 8 = .ok (.istore_n 1, 1) := by decide +kernel
theorem dX8_needed_9 : decode cX8_needed 9 = .ok (.iconst 0, 1) := by decide +kernel
theorem dX8_needed_10 : decode cX8_needed 10 = .ok (.istore_n 2, 1) := by decide +kernel
theorem dX8_needed_11 : decode cX8_needed 11 = .ok (.iconst 0, 1) := by decide +kernel
theorem dX8_needed_12 : decode cX8_needed 12 = .ok (.istore_n 3, 1) := by decide +kernel
theorem dX8_needed_13 : decode cX8_needed 13 = .ok (.iload_n 3, 1) := by decide +kernel
theorem dX8_needed_14 : decode cX8_needed 14 = .ok (.aload_n 0, 1) := by decide +kernel
theorem dX8_needed_15 : decode cX8_needed 15 = .ok (.getfield 62, 3) := by decide +kernel
theorem dX8_needed_18 : decode cX8_needed 18 = .ok (.if_icmp .ge 82, 3) := by decide +kernel
theorem dX8_needed_21 : decode cX8_needed 21 = .ok (.aload_n 0, 1) := by decide +kernel
theorem dX8_needed_22 : decode cX8_needed 22 = .ok (.getfield 16, 3) := by decide +kernel
theorem dX8_needed_25 : decode cX8_needed 25 = .ok (.iload_n 3, 1) := by decide +kernel
theorem dX8_needed_26 : decode cX8_needed 26 = .ok (.iaload, 1) := by decide +kernel
theorem dX8_needed_27 : decode cX8_needed 27 = .ok (.invokestatic 68, 3) := by decide +kernel
theorem dX8_needed_30 : decode cX8_needed 30 = .ok (.istore 4, 2) := by decide +kernel
theorem dX8_needed_32 : decode cX8_needed 32 = .ok (.iload_n 2, 1) := by decide +kernel
theorem dX8_needed_33 : decode cX8_needed 33 = .ok (.iload 4, 2) := by decide +kernel
theorem dX8_needed_35 : decode cX8_needed 35 = .ok (.iconst (-1), 1) := by decide +kernel
theorem dX8_needed_36 : decode cX8_needed 36 = .ok (.if_icmp .eq 13, 3) := by decide +kernel
theorem dX8_needed_39 : decode cX8_needed 39 = .ok (.iload 4, 2) := by decide +kernel
theorem dX8_needed_41 : decode cX8_needed 41 = .ok (.iload_n 1, 1) := by decide +kernel
theorem dX8_needed_42 : decode cX8_needed 42 = .ok (.if_icmp .eq 7, 3) := by decide +kernel
theorem dX8_needed_45 : decode cX8_needed 45 = .ok (.iconst 2, 1) := by decide +kernel
theorem dX8_needed_46 : decode cX8_needed 46 = .ok (.goto 4, 3) := by decide +kernel
theorem dX8_needed_49 : decode cX8_needed 49 = .ok (.iconst 1, 1) := by decide +kernel
theorem dX8_needed_50 : decode cX8_needed 50 = .ok (.iadd, 1) := by decide +kernel
theorem dX8_needed_51 : decode cX8_needed 51 = .ok (.istore_n 2, 1) := by decide +kernel
theorem dX8_needed_52 : decode cX8_needed 52 = .ok (.iload 4, 2) := by decide +kernel
theorem dX8_needed_54 : decode cX8_needed 54 = .ok (.iconst (-1), 1) := by decide +kernel
theorem dX8_needed_55 : decode cX8_needed 55 = .ok (.if_icmp .ne 7, 3) := by decide +kernel
theorem dX8_needed_58 : decode cX8_needed 58 = .ok (.iload_n 1, 1) := by decide +kernel
theorem dX8_needed_59 : decode cX8_needed 59 = .ok (.goto 5, 3) := by decide +kernel
theorem dX8_needed_62 : decode cX8_needed 62 = .ok (.iload 4, 2) := by decide +kernel
theorem dX8_needed_64 : decode cX8_needed 64 = .ok (.istore_n 1, 1) := by decide +kernel
theorem dX8_needed_65 : decode cX8_needed 65 = .ok (.aload_n 0, 1) := by decide +kernel
theorem dX8_needed_66 : decode cX8_needed 66 = .ok (.getfield 16, 3) := by decide +kernel
theorem dX8_needed_69 : decode cX8_needed 69 = .ok (.iload_n 3, 1) := by decide +kernel
theorem dX8_needed_70 : decode cX8_needed 70 = .ok (.iaload, 1) := by decide +kernel
theorem dX8_needed_71 : decode cX8_needed 71 = .ok (.bipush 32, 2) := by decide +kernel
theorem dX8_needed_73 : decode cX8_needed 73 = .ok (.if_icmp .ne 19, 3) := by decide +kernel
theorem dX8_needed_76 : decode cX8_needed 76 = .ok (.aload_n 0, 1) := by decide +kernel
theorem dX8_needed_77 : decode cX8_needed 77 = .ok (.getfield 7, 3) := by decide +kernel
theorem dX8_needed_80 : decode cX8_needed 80 = .ok (.sipush 604, 3) := by decide +kernel
theorem dX8_needed_83 : decode cX8_needed 83 = .ok (.iaload, 1) := by decide +kernel
theorem dX8_needed_84 : decode cX8_needed 84 = .ok (.iconst 1, 1) := by decide +kernel
theorem dX8_needed_85 : decode cX8_needed 85 = .ok (.if_icmp .ne 7, 3) := by decide +kernel
theorem dX8_needed_88 : decode cX8_needed 88 = .ok (.iconst 0, 1) := by decide +kernel
theorem dX8_needed_89 : decode cX8_needed 89 = .ok (.goto 4, 3) := by decide +kernel
theorem dX8_needed_92 : decode cX8_needed 92 = .ok (.iload_n 1, 1) := by decide +kernel
theorem dX8_needed_93 : decode cX8_needed 93 = .ok (.istore_n 1, 1) := by decide +kernel
theorem dX8_needed_94 : decode cX8_needed 94 = .ok (.iinc 3 1, 3) := by decide +kernel
theorem dX8_needed_97 : decode cX8_needed 97 = .ok (.goto (-84), 3) := by decide +kernel
theorem dX8_needed_100 : decode cX8_needed 100 = .ok (.iload_n 2, 1) := by decide +kernel
theorem dX8_needed_101 : decode cX8_needed 101 = .ok (.ireturn, 1) := by decide +kernel
set_option maxRecDepth 20000 in
theorem ggX8_codesToSend_X8_needed : GoodIn wsX8_codesToSend wsX8_needed := goodIn_r _ [6, 7, 8, 9, 10, 11, 5, 12, 13, 14, 15, 16, 17, 18, 19, 20, 21, 22, 23, 24, 25, 26, 27, 28, 29, 30, 31, 32, 33, 34, 35] (by decide +kernel) (by decide +kernel)
set_option maxRecDepth 20000 in
theorem gX8_codesToSend_X8_needed : GoodIn wsX8_codesToSend (wsV RX8 71 RX8 yX8_needed wsX8_needed) := goodIn_app (goodIn_of _ (by decide +kernel)) ggX8_codesToSend_X8_needed
theorem dX8_codesToSend_0 : decode cX8_codesToSend 0 = .ok (.aload_n 0, 1) := by decide +kernel
theorem dX8_codesToSend_1 : decode cX8_codesToSend 1 = .ok (.iconst 0, 1) := by decide +kernel
theorem dX8_codesToSend_2 : decode cX8_codesToSend 2 = .ok (.putfield 38, 3) := by decide +kernel
theorem dX8_codesToSend_5 : decode cX8_codesToSend 5 = .ok (.aload_n 0, 1) := by decide +kernel
theorem dX8_codesToSend_6 : decode cX8_codesToSend 6 = .ok (.invokevirtual 71, 3) := by decide +kernel
theorem dX8_codesToSend_9 : decode cX8_codesToSend 9 = .ok (.ireturn, 1) := by decide +kernel
theorem dX8_sends_0 : decode cX8_sends 0 = .ok (.aload_n 0, 1) := by decide +kernel
theorem dX8_sends_1 : decode cX8_sends 1 = .ok (.getfield 7, 3) := by decide +kernel
theorem dX8_sends_4 : decode cX8_sends 4 = .ok (.sipush 605, 3) := by decide +kernel
theorem dX8_sends_7 : decode cX8_sends 7 = .ok (.aload_n 0, 1) := by decide +kernel
theorem dX8_sends_8 : decode cX8_sends 8 = .ok (.getfield 7, 3) := by decide +kernel
theorem dX8_sends_11 : decode cX8_sends 11 = .ok (.iconst 0, 1) := by decide +kernel
theorem dX8_sends_12 : decode cX8_sends 12 = .ok (.iaload, 1) := by decide +kernel
theorem dX8_sends_13 : decode cX8_sends 13 = .ok (.iadd, 1) := by decide +kernel
theorem dX8_sends_14 : decode cX8_sends 14 = .ok (.iaload, 1) := by decide +kernel
theorem dX8_sends_15 : decode cX8_sends 15 = .ok (.iconst 1, 1) := by decide +kernel
theorem dX8_sends_16 : decode cX8_sends 16 = .ok (.isub, 1) := by decide +kernel
theorem dX8_sends_17 : decode cX8_sends 17 = .ok (.istore_n 2, 1) := by decide +kernel
theorem dX8_sends_18 : decode cX8_sends 18 = .ok (.aload_n 0, 1) := by decide +kernel
theorem dX8_sends_19 : decode cX8_sends 19 = .ok (.getfield 7, 3) := by decide +kernel
theorem dX8_sends_22 : decode cX8_sends 22 = .ok (.iconst 1, 1) := by decide +kernel
theorem dX8_sends_23 : decode cX8_sends 23 = .ok (.aload_n 0, 1) := by decide +kernel
theorem dX8_sends_24 : decode cX8_sends 24 = .ok (.getfield 7, 3) := by decide +kernel
theorem dX8_sends_27 : decode cX8_sends 27 = .ok (.iconst 0, 1) := by decide +kernel
theorem dX8_sends_28 : decode cX8_sends 28 = .ok (.iaload, 1) := by decide +kernel
theorem dX8_sends_29 : decode cX8_sends 29 = .ok (.iadd, 1) := by decide +kernel
theorem dX8_sends_30 : decode cX8_sends 30 = .ok (.iload_n 1, 1) := by decide +kernel
theorem dX8_sends_31 : decode cX8_sends 31 = .ok (.iastore, 1) := by decide +kernel
theorem dX8_sends_32 : decode cX8_sends 32 = .ok (.aload_n 0, 1) := by decide +kernel
theorem dX8_sends_33 : decode cX8_sends 33 = .ok (.getfield 7, 3) := by decide +kernel
theorem dX8_sends_36 : decode cX8_sends 36 = .ok (.iconst 0, 1) := by decide +kernel
theorem dX8_sends_37 : decode cX8_sends 37 = .ok (.dup2, 1) := by decide +kernel
theorem dX8_sends_38 : decode cX8_sends 38 = .ok (.iaload, 1) := by decide +kernel
theorem dX8_sends_39 : decode cX8_sends 39 = .ok (.iconst 1, 1) := by decide +kernel
theorem dX8_sends_40 : decode cX8_sends 40 = .ok (.iadd, 1) := by decide +kernel
theorem dX8_sends_41 : decode cX8_sends 41 = .ok (.iastore, 1) := by decide +kernel
theorem dX8_sends_42 : decode cX8_sends 42 = .ok (.iload_n 2, 1) := by decide +kernel
theorem dX8_sends_43 : decode cX8_sends 43 = .ok (.ifCond .eq 47, 3) := by decide +kernel
theorem dX8_sends_46 : decode cX8_sends 46 = .ok (.aload_n 0, 1) := by decide +kernel
theorem dX8_sends_47 : decode cX8_sends 47 = .ok (.getfield 7, 3) := by decide +kernel
theorem dX8_sends_50 : decode cX8_sends 50 = .ok (.sipush 202, 3) := by decide +kernel
theorem dX8_sends_53 : decode cX8_sends 53 = .ok (.aload_n 0, 1) := by decide +kernel
theorem dX8_sends_54 : decode cX8_sends 54 = .ok (.getfield 7, 3) := by decide +kernel
theorem dX8_sends_57 : decode cX8_sends 57 = .ok (.sipush 201, 3) := by decide +kernel
theorem dX8_sends_60 : decode cX8_sends 60 = .ok (.iaload, 1) := by decide +kernel
theorem dX8_sends_61 : decode cX8_sends 61 = .ok (.iadd, 1) := by decide +kernel
theorem dX8_sends_62 : decode cX8_sends 62 = .ok (.iload_n 2, 1) := by decide +kernel
theorem dX8_sends_63 : decode cX8_sends 63 = .ok (.ifCond .ge 7, 3) := by decide +kernel
theorem dX8_sends_66 : decode cX8_sends 66 = .ok (.iload_n 1, 1) := by decide +kernel
theorem dX8_sends_67 : decode cX8_sends 67 = .ok (.goto 10, 3) := by decide +kernel
theorem dX8_sends_70 : decode cX8_sends 70 = .ok (.iload_n 1, 1) := by decide +kernel
theorem dX8_sends_71 : decode cX8_sends 71 = .ok (.iconst 1, 1) := by decide +kernel
theorem dX8_sends_72 : decode cX8_sends 72 = .ok (.iload_n 2, 1) := by decide +kernel
theorem dX8_sends_73 : decode cX8_sends 73 = .ok (.iconst 1, 1) := by decide +kernel
theorem dX8_sends_74 : decode cX8_sends 74 = .ok (.isub, 1) := by decide +kernel
theorem dX8_sends_75 : decode cX8_sends 75 = .ok (.ishl, 1) := by decide +kernel
theorem dX8_sends_76 : decode cX8_sends 76 = .ok (.ixor, 1) := by decide +kernel
theorem dX8_sends_77 : decode cX8_sends 77 = .ok (.iastore, 1) := by decide +kernel
theorem dX8_sends_78 : decode cX8_sends 78 = .ok (.aload_n 0, 1) := by decide +kernel
theorem dX8_sends_79 : decode cX8_sends 79 = .ok (.getfield 7, 3) := by decide +kernel
theorem dX8_sends_82 : decode cX8_sends 82 = .ok (.sipush 201, 3) := by decide +kernel
theorem dX8_sends_85 : decode cX8_sends 85 = .ok (.dup2, 1) := by decide +kernel
theorem dX8_sends_86 : decode cX8_sends 86 = .ok (.iaload, 1) := by decide +kernel
theorem dX8_sends_87 : decode cX8_sends 87 = .ok (.iconst 1, 1) := by decide +kernel
theorem dX8_sends_88 : decode cX8_sends 88 = .ok (.iadd, 1) := by decide +kernel
theorem dX8_sends_89 : decode cX8_sends 89 = .ok (.iastore, 1) := by decide +kernel
theorem dX8_sends_90 : decode cX8_sends 90 = .ok (.return_, 1) := by decide +kernel
set_option maxRecDepth 20000 in
theorem ggX8_send_X8_needed : GoodIn wsX8_send wsX8_needed := goodIn_r _ [8, 2, 1, 3, 9, 10, 7, 11, 12, 13, 14, 15, 16, 17, 42, 43, 44, 45, 46, 47, 48, 49, 50, 51, 52, 53, 54, 55, 56, 57, 58] (by decide +kernel) (by decide +kernel)
set_option maxRecDepth 20000 in
theorem gX8_send_X8_needed : GoodIn wsX8_send (wsV RX8 71 RX8 yX8_needed wsX8_needed) := goodIn_app (goodIn_of _ (by decide +kernel)) ggX8_send_X8_needed
set_option maxRecDepth 20000 in
theorem ggX8_send_X8_refused : GoodIn wsX8_send wsX8_refused := goodIn_r _ [21, 22, 42, 43, 44, 45, 46, 47, 48, 49, 50, 51, 52, 53, 54, 55, 56, 57, 58] (by decide +kernel) (by decide +kernel)
set_option maxRecDepth 20000 in
theorem gX8_send_X8_refused : GoodIn wsX8_send (wsV RX8 65 RX8 yX8_refused wsX8_refused) := goodIn_app (goodIn_of _ (by decide +kernel)) ggX8_send_X8_refused
set_option maxRecDepth 20000 in
theorem ggX8_send_X8_saves : GoodIn wsX8_send wsX8_saves := goodIn_r _ [26, 27, 28, 2, 42, 43, 44, 45, 46, 47, 48, 49, 50, 51, 52, 53, 54, 55, 56, 57, 58] (by decide +kernel) (by decide +kernel)
set_option maxRecDepth 20000 in
theorem gX8_send_X8_saves : GoodIn wsX8_send (wsV RX8 75 RX8 yX8_saves wsX8_saves) := goodIn_app (goodIn_of _ (by decide +kernel)) ggX8_send_X8_saves
set_option maxRecDepth 20000 in
theorem ggX8_send_X8_shiftOf : GoodIn wsX8_send wsX8_shiftOf := goodIn_r _ [11, 12, 13, 7, 14, 15, 16, 17] (by decide +kernel) (by decide +kernel)
set_option maxRecDepth 20000 in
theorem gX8_send_X8_shiftOf : GoodIn wsX8_send (va_wsS RX8 68 yX8_shiftOf wsX8_shiftOf) := goodIn_app (goodIn_of _ (by decide +kernel)) ggX8_send_X8_shiftOf
set_option maxRecDepth 20000 in
theorem ggX8_send_X8_sends : GoodIn wsX8_send wsX8_sends := goodIn_r _ [32, 2, 42, 43, 44, 45, 46, 47, 48, 49, 50, 51, 52, 53, 54, 55, 56, 57, 58] (by decide +kernel) (by decide +kernel)
set_option maxRecDepth 20000 in
theorem gX8_send_X8_sends : GoodIn wsX8_send (wsV RX8 78 RX8 yX8_sends wsX8_sends) := goodIn_app (goodIn_of _ (by decide +kernel)) ggX8_send_X8_sends
set_option maxRecDepth 20000 in
theorem ggX8_send_X8_codeOf : GoodIn wsX8_send wsX8_codeOf := goodIn_r _ [35, 12, 13, 7, 14, 15, 16, 17, 36, 37, 38, 39, 40, 41] (by decide +kernel) (by decide +kernel)
set_option maxRecDepth 20000 in
theorem gX8_send_X8_codeOf : GoodIn wsX8_send (va_wsS RX8 59 yX8_codeOf wsX8_codeOf) := goodIn_app (goodIn_of _ (by decide +kernel)) ggX8_send_X8_codeOf
theorem dX8_send_0 : decode cX8_send 0 = .ok (.aload_n 0, 1) := by decide +kernel
theorem dX8_send_1 : decode cX8_send 1 = .ok (.aload_n 0, 1) := by decide +kernel
theorem dX8_send_2 : decode cX8_send 2 = .ok (.getfield 62, 3) := by decide +kernel
theorem dX8_send_5 : decode cX8_send 5 = .ok (.ifCond .eq 20, 3) := by decide +kernel
theorem dX8_send_8 : decode cX8_send 8 = .ok (.aload_n 0, 1) := by decide +kernel
theorem dX8_send_9 : decode cX8_send 9 = .ok (.getfield 7, 3) := by decide +kernel
theorem dX8_send_12 : decode cX8_send 12 = .ok (.iconst 0, 1) := by decide +kernel
theorem dX8_send_13 : decode cX8_send 13 = .ok (.iaload, 1) := by decide +kernel
theorem dX8_send_14 : decode cX8_send 14 = .ok (.aload_n 0, 1) := by decide +kernel
theorem dX8_send_15 : decode cX8_send 15 = .ok (.invokevirtual 71, 3) := by decide +kernel
theorem dX8_send_18 : decode cX8_send 18 = .ok (.iadd, 1) := by decide +kernel
theorem dX8_send_19 : decode cX8_send 19 = .ok (.sipush 200, 3) := by decide +kernel
theorem dX8_send_22 : decode cX8_send 22 = .ok (.if_icmp .le 7, 3) := by decide +kernel
theorem dX8_send_25 : decode cX8_send 25 = .ok (.iconst 1, 1) := by decide +kernel
theorem dX8_send_26 : decode cX8_send 26 = .ok (.goto 4, 3) := by decide +kernel
theorem dX8_send_29 : decode cX8_send 29 = .ok (.iconst 0, 1) := by decide +kernel
theorem dX8_send_30 : decode cX8_send 30 = .ok (.invokevirtual 65, 3) := by decide +kernel
theorem dX8_send_33 : decode cX8_send 33 = .ok (.ifCond .eq 5, 3) := by decide +kernel
theorem dX8_send_36 : decode cX8_send 36 = .ok (.iconst 0, 1) := by decide +kernel
theorem dX8_send_37 : decode cX8_send 37 = .ok (.ireturn, 1) := by decide +kernel
theorem dX8_send_38 : decode cX8_send 38 = .ok (.aload_n 0, 1) := by decide +kernel
theorem dX8_send_39 : decode cX8_send 39 = .ok (.invokevirtual 75, 3) := by decide +kernel
theorem dX8_send_42 : decode cX8_send 42 = .ok (.aload_n 0, 1) := by decide +kernel
theorem dX8_send_43 : decode cX8_send 43 = .ok (.getfield 7, 3) := by decide +kernel
theorem dX8_send_46 : decode cX8_send 46 = .ok (.sipush 201, 3) := by decide +kernel
theorem dX8_send_49 : decode cX8_send 49 = .ok (.iaload, 1) := by decide +kernel
theorem dX8_send_50 : decode cX8_send 50 = .ok (.istore_n 1, 1) := by decide +kernel
theorem dX8_send_51 : decode cX8_send 51 = .ok (.iconst 0, 1) := by decide +kernel
theorem dX8_send_52 : decode cX8_send 52 = .ok (.istore_n 2, 1) := by decide +kernel
theorem dX8_send_53 : decode cX8_send 53 = .ok (.iload_n 2, 1) := by decide +kernel
theorem dX8_send_54 : decode cX8_send 54 = .ok (.aload_n 0, 1) := by decide +kernel
theorem dX8_send_55 : decode cX8_send 55 = .ok (.getfield 62, 3) := by decide +kernel
theorem dX8_send_58 : decode cX8_send 58 = .ok (.if_icmp .ge 156, 3) := by decide +kernel
theorem dX8_send_61 : decode cX8_send 61 = .ok (.aload_n 0, 1) := by decide +kernel
theorem dX8_send_62 : decode cX8_send 62 = .ok (.getfield 16, 3) := by decide +kernel
theorem dX8_send_65 : decode cX8_send 65 = .ok (.iload_n 2, 1) := by decide +kernel
theorem dX8_send_66 : decode cX8_send 66 = .ok (.iaload, 1) := by decide +kernel
theorem dX8_send_67 : decode cX8_send 67 = .ok (.istore_n 3, 1) := by decide +kernel
theorem dX8_send_68 : decode cX8_send 68 = .ok (.iload_n 3, 1) := by decide +kernel
theorem dX8_send_69 : decode cX8_send 69 = .ok (.invokestatic 68, 3) := by decide +kernel
theorem dX8_send_72 : decode cX8_send 72 = .ok (.istore 4, 2) := by decide +kernel
theorem dX8_send_74 : decode cX8_send 74 = .ok (.iload 4, 2) := by decide +kernel
theorem dX8_send_76 : decode cX8_send 76 = .ok (.iconst (-1), 1) := by decide +kernel
theorem dX8_send_77 : decode cX8_send 77 = .ok (.if_icmp .eq 43, 3) := by decide +kernel
theorem dX8_send_80 : decode cX8_send 80 = .ok (.iload 4, 2) := by decide +kernel
theorem dX8_send_82 : decode cX8_send 82 = .ok (.aload_n 0, 1) := by decide +kernel
theorem dX8_send_83 : decode cX8_send 83 = .ok (.getfield 7, 3) := by decide +kernel
theorem dX8_send_86 : decode cX8_send 86 = .ok (.sipush 603, 3) := by decide +kernel
theorem dX8_send_89 : decode cX8_send 89 = .ok (.iaload, 1) := by decide +kernel
theorem dX8_send_90 : decode cX8_send 90 = .ok (.if_icmp .eq 30, 3) := by decide +kernel
theorem dX8_send_93 : decode cX8_send 93 = .ok (.aload_n 0, 1) := by decide +kernel
theorem dX8_send_94 : decode cX8_send 94 = .ok (.iload 4, 2) := by decide +kernel
theorem dX8_send_96 : decode cX8_send 96 = .ok (.iconst 1, 1) := by decide +kernel
theorem dX8_send_97 : decode cX8_send 97 = .ok (.if_icmp .ne 8, 3) := by decide +kernel
theorem dX8_send_100 : decode cX8_send 100 = .ok (.bipush 30, 2) := by decide +kernel
theorem dX8_send_102 : decode cX8_send 102 = .ok (.goto 5, 3) := by decide +kernel
theorem dX8_send_105 : decode cX8_send 105 = .ok (.bipush 31, 2) := by decide +kernel
theorem dX8_send_107 : decode cX8_send 107 = .ok (.invokevirtual 78, 3) := by decide +kernel
theorem dX8_send_110 : decode cX8_send 110 = .ok (.aload_n 0, 1) := by decide +kernel
theorem dX8_send_111 : decode cX8_send 111 = .ok (.getfield 7, 3) := by decide +kernel
theorem dX8_send_114 : decode cX8_send 114 = .ok (.sipush 603, 3) := by decide +kernel
theorem dX8_send_117 : decode cX8_send 117 = .ok (.iload 4, 2) := by decide +kernel
theorem dX8_send_119 : decode cX8_send 119 = .ok (.iastore, 1) := by decide +kernel
theorem dX8_send_120 : decode cX8_send 120 = .ok (.aload_n 0, 1) := by decide +kernel
theorem dX8_send_121 : decode cX8_send 121 = .ok (.iload_n 3, 1) := by decide +kernel
theorem dX8_send_122 : decode cX8_send 122 = .ok (.invokestatic 59, 3) := by decide +kernel
theorem dX8_send_125 : decode cX8_send 125 = .ok (.invokevirtual 78, 3) := by decide +kernel
theorem dX8_send_128 : decode cX8_send 128 = .ok (.aload_n 0, 1) := by decide +kernel
theorem dX8_send_129 : decode cX8_send 129 = .ok (.getfield 7, 3) := by decide +kernel
theorem dX8_send_132 : decode cX8_send 132 = .ok (.sipush 603, 3) := by decide +kernel
theorem dX8_send_135 : decode cX8_send 135 = .ok (.iload_n 3, 1) := by decide +kernel
theorem dX8_send_136 : decode cX8_send 136 = .ok (.bipush 32, 2) := by decide +kernel
theorem dX8_send_138 : decode cX8_send 138 = .ok (.if_icmp .ne 19, 3) := by decide +kernel
theorem dX8_send_141 : decode cX8_send 141 = .ok (.aload_n 0, 1) := by decide +kernel
theorem dX8_send_142 : decode cX8_send 142 = .ok (.getfield 7, 3) := by decide +kernel
theorem dX8_send_145 : decode cX8_send 145 = .ok (.sipush 604, 3) := by decide +kernel
theorem dX8_send_148 : decode cX8_send 148 = .ok (.iaload, 1) := by decide +kernel
theorem dX8_send_149 : decode cX8_send 149 = .ok (.iconst 1, 1) := by decide +kernel
theorem dX8_send_150 : decode cX8_send 150 = .ok (.if_icmp .ne 7, 3) := by decide +kernel
theorem dX8_send_153 : decode cX8_send 153 = .ok (.iconst 0, 1) := by decide +kernel
theorem dX8_send_154 : decode cX8_send 154 = .ok (.goto 11, 3) := by decide +kernel
theorem dX8_send_157 : decode cX8_send 157 = .ok (.aload_n 0, 1) := by decide +kernel
theorem dX8_send_158 : decode cX8_send 158 = .ok (.getfield 7, 3) := by decide +kernel
theorem dX8_send_161 : decode cX8_send 161 = .ok (.sipush 603, 3) := by decide +kernel
theorem dX8_send_164 : decode cX8_send 164 = .ok (.iaload, 1) := by decide +kernel
theorem dX8_send_165 : decode cX8_send 165 = .ok (.iastore, 1) := by decide +kernel
theorem dX8_send_166 : decode cX8_send 166 = .ok (.iload_n 3, 1) := by decide +kernel
theorem dX8_send_167 : decode cX8_send 167 = .ok (.bipush 64, 2) := by decide +kernel
theorem dX8_send_169 : decode cX8_send 169 = .ok (.if_icmp .eq 39, 3) := by decide +kernel
theorem dX8_send_172 : decode cX8_send 172 = .ok (.iload_n 3, 1) := by decide +kernel
theorem dX8_send_173 : decode cX8_send 173 = .ok (.bipush 35, 2) := by decide +kernel
theorem dX8_send_175 : decode cX8_send 175 = .ok (.if_icmp .eq 33, 3) := by decide +kernel
theorem dX8_send_178 : decode cX8_send 178 = .ok (.aload_n 0, 1) := by decide +kernel
theorem dX8_send_179 : decode cX8_send 179 = .ok (.getfield 7, 3) := by decide +kernel
theorem dX8_send_182 : decode cX8_send 182 = .ok (.sipush 403, 3) := by decide +kernel
theorem dX8_send_185 : decode cX8_send 185 = .ok (.aload_n 0, 1) := by decide +kernel
theorem dX8_send_186 : decode cX8_send 186 = .ok (.getfield 7, 3) := by decide +kernel
theorem dX8_send_189 : decode cX8_send 189 = .ok (.sipush 402, 3) := by decide +kernel
theorem dX8_send_192 : decode cX8_send 192 = .ok (.iaload, 1) := by decide +kernel
theorem dX8_send_193 : decode cX8_send 193 = .ok (.iadd, 1) := by decide +kernel
theorem dX8_send_194 : decode cX8_send 194 = .ok (.iload_n 3, 1) := by decide +kernel
theorem dX8_send_195 : decode cX8_send 195 = .ok (.iastore, 1) := by decide +kernel
theorem dX8_send_196 : decode cX8_send 196 = .ok (.aload_n 0, 1) := by decide +kernel
theorem dX8_send_197 : decode cX8_send 197 = .ok (.getfield 7, 3) := by decide +kernel
theorem dX8_send_200 : decode cX8_send 200 = .ok (.sipush 402, 3) := by decide +kernel
theorem dX8_send_203 : decode cX8_send 203 = .ok (.dup2, 1) := by decide +kernel
theorem dX8_send_204 : decode cX8_send 204 = .ok (.iaload, 1) := by decide +kernel
theorem dX8_send_205 : decode cX8_send 205 = .ok (.iconst 1, 1) := by decide +kernel
theorem dX8_send_206 : decode cX8_send 206 = .ok (.iadd, 1) := by decide +kernel
theorem dX8_send_207 : decode cX8_send 207 = .ok (.iastore, 1) := by decide +kernel
theorem dX8_send_208 : decode cX8_send 208 = .ok (.iinc 2 1, 3) := by decide +kernel
theorem dX8_send_211 : decode cX8_send 211 = .ok (.goto (-158), 3) := by decide +kernel
theorem dX8_send_214 : decode cX8_send 214 = .ok (.aload_n 0, 1) := by decide +kernel
theorem dX8_send_215 : decode cX8_send 215 = .ok (.iconst 0, 1) := by decide +kernel
theorem dX8_send_216 : decode cX8_send 216 = .ok (.putfield 62, 3) := by decide +kernel
theorem dX8_send_219 : decode cX8_send 219 = .ok (.aload_n 0, 1) := by decide +kernel
theorem dX8_send_220 : decode cX8_send 220 = .ok (.getfield 7, 3) := by decide +kernel
theorem dX8_send_223 : decode cX8_send 223 = .ok (.sipush 201, 3) := by decide +kernel
theorem dX8_send_226 : decode cX8_send 226 = .ok (.iaload, 1) := by decide +kernel
theorem dX8_send_227 : decode cX8_send 227 = .ok (.iload_n 1, 1) := by decide +kernel
theorem dX8_send_228 : decode cX8_send 228 = .ok (.isub, 1) := by decide +kernel
theorem dX8_send_229 : decode cX8_send 229 = .ok (.ireturn, 1) := by decide +kernel
set_option maxRecDepth 20000 in
theorem ggX8_setFault_X8_in : GoodIn wsX8_setFault wsX8_in := goodIn_r _ [5] (by decide +kernel) (by decide +kernel)
set_option maxRecDepth 20000 in
theorem gX8_setFault_X8_in : GoodIn wsX8_setFault (va_wsS RX8 44 yX8_in wsX8_in) := goodIn_app (goodIn_of _ (by decide +kernel)) ggX8_setFault_X8_in
set_option maxRecDepth 20000 in
theorem ggX8_setFault_X8_refused : GoodIn wsX8_setFault wsX8_refused := goodIn_r _ [9, 10, 17, 18, 19, 20, 21, 22, 23, 24, 25, 26, 27, 28, 29, 30, 31, 32, 33] (by decide +kernel) (by decide +kernel)
set_option maxRecDepth 20000 in
theorem gX8_setFault_X8_refused : GoodIn wsX8_setFault (wsV RX8 65 RX8 yX8_refused wsX8_refused) := goodIn_app (goodIn_of _ (by decide +kernel)) ggX8_setFault_X8_refused
set_option maxRecDepth 20000 in
theorem ggX8_setFault_X8_saves : GoodIn wsX8_setFault wsX8_saves := goodIn_r _ [14, 15, 16, 1, 17, 18, 19, 20, 21, 22, 23, 24, 25, 26, 27, 28, 29, 30, 31, 32, 33] (by decide +kernel) (by decide +kernel)
set_option maxRecDepth 20000 in
theorem gX8_setFault_X8_saves : GoodIn wsX8_setFault (wsV RX8 75 RX8 yX8_saves wsX8_saves) := goodIn_app (goodIn_of _ (by decide +kernel)) ggX8_setFault_X8_saves
theorem dX8_setFault_0 : decode cX8_setFault 0 = .ok (.aload_n 0, 1) := by decide +kernel
theorem dX8_setFault_1 : decode cX8_setFault 1 = .ok (.iload_n 1, 1) := by decide +kernel
theorem dX8_setFault_2 : decode cX8_setFault 2 = .ok (.iconst 0, 1) := by decide +kernel
theorem dX8_setFault_3 : decode cX8_setFault 3 = .ok (.sipush 199, 3) := by decide +kernel
theorem dX8_setFault_6 : decode cX8_setFault 6 = .ok (.invokestatic 44, 3) := by decide +kernel
theorem dX8_setFault_9 : decode cX8_setFault 9 = .ok (.ifCond .ne 7, 3) := by decide +kernel
theorem dX8_setFault_12 : decode cX8_setFault 12 = .ok (.iconst 1, 1) := by decide +kernel
theorem dX8_setFault_13 : decode cX8_setFault 13 = .ok (.goto 17, 3) := by decide +kernel
theorem dX8_setFault_16 : decode cX8_setFault 16 = .ok (.iload_n 2, 1) := by decide +kernel
theorem dX8_setFault_17 : decode cX8_setFault 17 = .ok (.iconst (-1), 1) := by decide +kernel
theorem dX8_setFault_18 : decode cX8_setFault 18 = .ok (.iconst 5, 1) := by decide +kernel
theorem dX8_setFault_19 : decode cX8_setFault 19 = .ok (.invokestatic 44, 3) := by decide +kernel
theorem dX8_setFault_22 : decode cX8_setFault 22 = .ok (.ifCond .eq 7, 3) := by decide +kernel
theorem dX8_setFault_25 : decode cX8_setFault 25 = .ok (.iconst 0, 1) := by decide +kernel
theorem dX8_setFault_26 : decode cX8_setFault 26 = .ok (.goto 4, 3) := by decide +kernel
theorem dX8_setFault_29 : decode cX8_setFault 29 = .ok (.iconst 2, 1) := by decide +kernel
theorem dX8_setFault_30 : decode cX8_setFault 30 = .ok (.invokevirtual 65, 3) := by decide +kernel
theorem dX8_setFault_33 : decode cX8_setFault 33 = .ok (.ifCond .eq 5, 3) := by decide +kernel
theorem dX8_setFault_36 : decode cX8_setFault 36 = .ok (.iconst 0, 1) := by decide +kernel
theorem dX8_setFault_37 : decode cX8_setFault 37 = .ok (.ireturn, 1) := by decide +kernel
theorem dX8_setFault_38 : decode cX8_setFault 38 = .ok (.aload_n 0, 1) := by decide +kernel
theorem dX8_setFault_39 : decode cX8_setFault 39 = .ok (.invokevirtual 75, 3) := by decide +kernel
theorem dX8_setFault_42 : decode cX8_setFault 42 = .ok (.aload_n 0, 1) := by decide +kernel
theorem dX8_setFault_43 : decode cX8_setFault 43 = .ok (.getfield 7, 3) := by decide +kernel
theorem dX8_setFault_46 : decode cX8_setFault 46 = .ok (.sipush 605, 3) := by decide +kernel
theorem dX8_setFault_49 : decode cX8_setFault 49 = .ok (.iload_n 1, 1) := by decide +kernel
theorem dX8_setFault_50 : decode cX8_setFault 50 = .ok (.iadd, 1) := by decide +kernel
theorem dX8_setFault_51 : decode cX8_setFault 51 = .ok (.iaload, 1) := by decide +kernel
theorem dX8_setFault_52 : decode cX8_setFault 52 = .ok (.iconst 1, 1) := by decide +kernel
theorem dX8_setFault_53 : decode cX8_setFault 53 = .ok (.isub, 1) := by decide +kernel
theorem dX8_setFault_54 : decode cX8_setFault 54 = .ok (.istore_n 3, 1) := by decide +kernel
theorem dX8_setFault_55 : decode cX8_setFault 55 = .ok (.aload_n 0, 1) := by decide +kernel
theorem dX8_setFault_56 : decode cX8_setFault 56 = .ok (.getfield 7, 3) := by decide +kernel
theorem dX8_setFault_59 : decode cX8_setFault 59 = .ok (.sipush 605, 3) := by decide +kernel
theorem dX8_setFault_62 : decode cX8_setFault 62 = .ok (.iload_n 1, 1) := by decide +kernel
theorem dX8_setFault_63 : decode cX8_setFault 63 = .ok (.iadd, 1) := by decide +kernel
theorem dX8_setFault_64 : decode cX8_setFault 64 = .ok (.iload_n 2, 1) := by decide +kernel
theorem dX8_setFault_65 : decode cX8_setFault 65 = .ok (.iconst 1, 1) := by decide +kernel
theorem dX8_setFault_66 : decode cX8_setFault 66 = .ok (.iadd, 1) := by decide +kernel
theorem dX8_setFault_67 : decode cX8_setFault 67 = .ok (.iastore, 1) := by decide +kernel
theorem dX8_setFault_68 : decode cX8_setFault 68 = .ok (.iload_n 3, 1) := by decide +kernel
theorem dX8_setFault_69 : decode cX8_setFault 69 = .ok (.ireturn, 1) := by decide +kernel
theorem dX8_sent_0 : decode cX8_sent 0 = .ok (.aload_n 0, 1) := by decide +kernel
theorem dX8_sent_1 : decode cX8_sent 1 = .ok (.iconst 0, 1) := by decide +kernel
theorem dX8_sent_2 : decode cX8_sent 2 = .ok (.putfield 38, 3) := by decide +kernel
theorem dX8_sent_5 : decode cX8_sent 5 = .ok (.aload_n 0, 1) := by decide +kernel
theorem dX8_sent_6 : decode cX8_sent 6 = .ok (.getfield 7, 3) := by decide +kernel
theorem dX8_sent_9 : decode cX8_sent 9 = .ok (.iconst 0, 1) := by decide +kernel
theorem dX8_sent_10 : decode cX8_sent 10 = .ok (.iaload, 1) := by decide +kernel
theorem dX8_sent_11 : decode cX8_sent 11 = .ok (.ireturn, 1) := by decide +kernel
theorem dX8_received_0 : decode cX8_received 0 = .ok (.aload_n 0, 1) := by decide +kernel
theorem dX8_received_1 : decode cX8_received 1 = .ok (.iconst 0, 1) := by decide +kernel
theorem dX8_received_2 : decode cX8_received 2 = .ok (.putfield 38, 3) := by decide +kernel
theorem dX8_received_5 : decode cX8_received 5 = .ok (.aload_n 0, 1) := by decide +kernel
theorem dX8_received_6 : decode cX8_received 6 = .ok (.getfield 7, 3) := by decide +kernel
theorem dX8_received_9 : decode cX8_received 9 = .ok (.sipush 201, 3) := by decide +kernel
theorem dX8_received_12 : decode cX8_received 12 = .ok (.iaload, 1) := by decide +kernel
theorem dX8_received_13 : decode cX8_received 13 = .ok (.ireturn, 1) := by decide +kernel
set_option maxRecDepth 20000 in
theorem ggX8_sentCode_X8_in : GoodIn wsX8_sentCode wsX8_in := goodIn_r _ [5] (by decide +kernel) (by decide +kernel)
set_option maxRecDepth 20000 in
theorem gX8_sentCode_X8_in : GoodIn wsX8_sentCode (va_wsS RX8 44 yX8_in wsX8_in) := goodIn_app (goodIn_of _ (by decide +kernel)) ggX8_sentCode_X8_in
set_option maxRecDepth 20000 in
theorem ggX8_sentCode_X8_refused : GoodIn wsX8_sentCode wsX8_refused := goodIn_r _ [9, 10, 11, 12, 13, 14, 15, 16, 17, 18, 19, 20, 21, 22, 23, 24, 25, 26, 27] (by decide +kernel) (by decide +kernel)
set_option maxRecDepth 20000 in
theorem gX8_sentCode_X8_refused : GoodIn wsX8_sentCode (wsV RX8 65 RX8 yX8_refused wsX8_refused) := goodIn_app (goodIn_of _ (by decide +kernel)) ggX8_sentCode_X8_refused
theorem dX8_sentCode_0 : decode cX8_sentCode 0 = .ok (.aload_n 0, 1) := by decide +kernel
theorem dX8_sentCode_1 : decode cX8_sentCode 1 = .ok (.iload_n 1, 1) := by decide +kernel
theorem dX8_sentCode_2 : decode cX8_sentCode 2 = .ok (.iconst 0, 1) := by decide +kernel
theorem dX8_sentCode_3 : decode cX8_sentCode 3 = .ok (.aload_n 0, 1) := by decide +kernel
theorem dX8_sentCode_4 : decode cX8_sentCode 4 = .ok (.getfield 7, 3) := by decide +kernel
theorem dX8_sentCode_7 : decode cX8_sentCode 7 = .ok (.iconst 0, 1) := by decide +kernel
theorem dX8_sentCode_8 : decode cX8_sentCode 8 = .ok (.iaload, 1) := by decide +kernel
theorem dX8_sentCode_9 : decode cX8_sentCode 9 = .ok (.iconst 1, 1) := by decide +kernel
theorem dX8_sentCode_10 : decode cX8_sentCode 10 = .ok (.isub, 1) := by decide +kernel
theorem dX8_sentCode_11 : decode cX8_sentCode 11 = .ok (.invokestatic 44, 3) := by decide +kernel
theorem dX8_sentCode_14 : decode cX8_sentCode 14 = .ok (.ifCond .eq 7, 3) := by decide +kernel
theorem dX8_sentCode_17 : decode cX8_sentCode 17 = .ok (.iconst 0, 1) := by decide +kernel
theorem dX8_sentCode_18 : decode cX8_sentCode 18 = .ok (.goto 4, 3) := by decide +kernel
theorem dX8_sentCode_21 : decode cX8_sentCode 21 = .ok (.iconst 1, 1) := by decide +kernel
theorem dX8_sentCode_22 : decode cX8_sentCode 22 = .ok (.invokevirtual 65, 3) := by decide +kernel
theorem dX8_sentCode_25 : decode cX8_sentCode 25 = .ok (.ifCond .eq 5, 3) := by decide +kernel
theorem dX8_sentCode_28 : decode cX8_sentCode 28 = .ok (.iconst 0, 1) := by decide +kernel
theorem dX8_sentCode_29 : decode cX8_sentCode 29 = .ok (.ireturn, 1) := by decide +kernel
theorem dX8_sentCode_30 : decode cX8_sentCode 30 = .ok (.aload_n 0, 1) := by decide +kernel
theorem dX8_sentCode_31 : decode cX8_sentCode 31 = .ok (.getfield 7, 3) := by decide +kernel
theorem dX8_sentCode_34 : decode cX8_sentCode 34 = .ok (.iconst 1, 1) := by decide +kernel
theorem dX8_sentCode_35 : decode cX8_sentCode 35 = .ok (.iload_n 1, 1) := by decide +kernel
theorem dX8_sentCode_36 : decode cX8_sentCode 36 = .ok (.iadd, 1) := by decide +kernel
theorem dX8_sentCode_37 : decode cX8_sentCode 37 = .ok (.iaload, 1) := by decide +kernel
theorem dX8_sentCode_38 : decode cX8_sentCode 38 = .ok (.ireturn, 1) := by decide +kernel
set_option maxRecDepth 20000 in
theorem ggX8_receivedCode_X8_in : GoodIn wsX8_receivedCode wsX8_in := goodIn_r _ [5] (by decide +kernel) (by decide +kernel)
set_option maxRecDepth 20000 in
theorem gX8_receivedCode_X8_in : GoodIn wsX8_receivedCode (va_wsS RX8 44 yX8_in wsX8_in) := goodIn_app (goodIn_of _ (by decide +kernel)) ggX8_receivedCode_X8_in
set_option maxRecDepth 20000 in
theorem ggX8_receivedCode_X8_refused : GoodIn wsX8_receivedCode wsX8_refused := goodIn_r _ [9, 10, 11, 12, 13, 14, 15, 16, 17, 18, 19, 20, 21, 22, 23, 24, 25, 26, 27] (by decide +kernel) (by decide +kernel)
set_option maxRecDepth 20000 in
theorem gX8_receivedCode_X8_refused : GoodIn wsX8_receivedCode (wsV RX8 65 RX8 yX8_refused wsX8_refused) := goodIn_app (goodIn_of _ (by decide +kernel)) ggX8_receivedCode_X8_refused
theorem dX8_receivedCode_0 : decode cX8_receivedCode 0 = .ok (.aload_n 0, 1) := by decide +kernel
theorem dX8_receivedCode_1 : decode cX8_receivedCode 1 = .ok (.iload_n 1, 1) := by decide +kernel
theorem dX8_receivedCode_2 : decode cX8_receivedCode 2 = .ok (.iconst 0, 1) := by decide +kernel
theorem dX8_receivedCode_3 : decode cX8_receivedCode 3 = .ok (.aload_n 0, 1) := by decide +kernel
theorem dX8_receivedCode_4 : decode cX8_receivedCode 4 = .ok (.getfield 7, 3) := by decide +kernel
theorem dX8_receivedCode_7 : decode cX8_receivedCode 7 = .ok (.sipush 201, 3) := by decide +kernel
theorem dX8_receivedCode_10 : decode cX8_receivedCode 10 = .ok (.iaload, 1) := by decide +kernel
theorem dX8_receivedCode_11 : decode cX8_receivedCode 11 = .ok (.iconst 1, 1) := by decide +kernel
theorem dX8_receivedCode_12 : decode cX8_receivedCode 12 = .ok (.isub, 1) := by decide +kernel
theorem dX8_receivedCode_13 : decode cX8_receivedCode 13 = .ok (.invokestatic 44, 3) := by decide +kernel
theorem dX8_receivedCode_16 : decode cX8_receivedCode 16 = .ok (.ifCond .eq 7, 3) := by decide +kernel
theorem dX8_receivedCode_19 : decode cX8_receivedCode 19 = .ok (.iconst 0, 1) := by decide +kernel
theorem dX8_receivedCode_20 : decode cX8_receivedCode 20 = .ok (.goto 4, 3) := by decide +kernel
theorem dX8_receivedCode_23 : decode cX8_receivedCode 23 = .ok (.iconst 1, 1) := by decide +kernel
theorem dX8_receivedCode_24 : decode cX8_receivedCode 24 = .ok (.invokevirtual 65, 3) := by decide +kernel
theorem dX8_receivedCode_27 : decode cX8_receivedCode 27 = .ok (.ifCond .eq 5, 3) := by decide +kernel
theorem dX8_receivedCode_30 : decode cX8_receivedCode 30 = .ok (.iconst 0, 1) := by decide +kernel
theorem dX8_receivedCode_31 : decode cX8_receivedCode 31 = .ok (.ireturn, 1) := by decide +kernel
theorem dX8_receivedCode_32 : decode cX8_receivedCode 32 = .ok (.aload_n 0, 1) := by decide +kernel
theorem dX8_receivedCode_33 : decode cX8_receivedCode 33 = .ok (.getfield 7, 3) := by decide +kernel
theorem dX8_receivedCode_36 : decode cX8_receivedCode 36 = .ok (.sipush 202, 3) := by decide +kernel
theorem dX8_receivedCode_39 : decode cX8_receivedCode 39 = .ok (.iload_n 1, 1) := by decide +kernel
theorem dX8_receivedCode_40 : decode cX8_receivedCode 40 = .ok (.iadd, 1) := by decide +kernel
theorem dX8_receivedCode_41 : decode cX8_receivedCode 41 = .ok (.iaload, 1) := by decide +kernel
theorem dX8_receivedCode_42 : decode cX8_receivedCode 42 = .ok (.ireturn, 1) := by decide +kernel
theorem dX8_senderShift_0 : decode cX8_senderShift 0 = .ok (.aload_n 0, 1) := by decide +kernel
theorem dX8_senderShift_1 : decode cX8_senderShift 1 = .ok (.iconst 0, 1) := by decide +kernel
theorem dX8_senderShift_2 : decode cX8_senderShift 2 = .ok (.putfield 38, 3) := by decide +kernel
theorem dX8_senderShift_5 : decode cX8_senderShift 5 = .ok (.aload_n 0, 1) := by decide +kernel
theorem dX8_senderShift_6 : decode cX8_senderShift 6 = .ok (.getfield 7, 3) := by decide +kernel
theorem dX8_senderShift_9 : decode cX8_senderShift 9 = .ok (.sipush 603, 3) := by decide +kernel
theorem dX8_senderShift_12 : decode cX8_senderShift 12 = .ok (.iaload, 1) := by decide +kernel
theorem dX8_senderShift_13 : decode cX8_senderShift 13 = .ok (.ireturn, 1) := by decide +kernel
theorem dX8_faulty_0 : decode cX8_faulty 0 = .ok (.iconst 0, 1) := by decide +kernel
theorem dX8_faulty_1 : decode cX8_faulty 1 = .ok (.istore_n 1, 1) := by decide +kernel
theorem dX8_faulty_2 : decode cX8_faulty 2 = .ok (.iconst 0, 1) := by decide +kernel
theorem dX8_faulty_3 : decode cX8_faulty 3 = .ok (.istore_n 2, 1) := by decide +kernel
theorem dX8_faulty_4 : decode cX8_faulty 4 = .ok (.iload_n 2, 1) := by decide +kernel
theorem dX8_faulty_5 : decode cX8_faulty 5 = .ok (.sipush 200, 3) := by decide +kernel
theorem dX8_faulty_8 : decode cX8_faulty 8 = .ok (.if_icmp .ge 30, 3) := by decide +kernel
theorem dX8_faulty_11 : decode cX8_faulty 11 = .ok (.iload_n 1, 1) := by decide +kernel
theorem dX8_faulty_12 : decode cX8_faulty 12 = .ok (.aload_n 0, 1) := by decide +kernel
theorem dX8_faulty_13 : decode cX8_faulty 13 = .ok (.getfield 7, 3) := by decide +kernel
theorem dX8_faulty_16 : decode cX8_faulty 16 = .ok (.sipush 605, 3) := by decide +kernel
theorem dX8_faulty_19 : decode cX8_faulty 19 = .ok (.iload_n 2, 1) := by decide +kernel
theorem dX8_faulty_20 : decode cX8_faulty 20 = .ok (.iadd, 1) := by decide +kernel
theorem dX8_faulty_21 : decode cX8_faulty 21 = .ok (.iaload, 1) := by decide +kernel
theorem dX8_faulty_22 : decode cX8_faulty 22 = .ok (.ifCond .le 7, 3) := by decide +kernel
theorem dX8_faulty_25 : decode cX8_faulty 25 = .ok (.iconst 1, 1) := by decide +kernel
theorem dX8_faulty_26 : decode cX8_faulty 26 = .ok (.goto 4, 3) := by decide +kernel
theorem dX8_faulty_29 : decode cX8_faulty 29 = .ok (.iconst 0, 1) := by decide +kernel
theorem dX8_faulty_30 : decode cX8_faulty 30 = .ok (.iadd, 1) := by decide +kernel
theorem dX8_faulty_31 : decode cX8_faulty 31 = .ok (.istore_n 1, 1) := by decide +kernel
theorem dX8_faulty_32 : decode cX8_faulty 32 = .ok (.iinc 2 1, 3) := by decide +kernel
theorem dX8_faulty_35 : decode cX8_faulty 35 = .ok (.goto (-31), 3) := by decide +kernel
theorem dX8_faulty_38 : decode cX8_faulty 38 = .ok (.iload_n 1, 1) := by decide +kernel
theorem dX8_faulty_39 : decode cX8_faulty 39 = .ok (.ireturn, 1) := by decide +kernel
set_option maxRecDepth 20000 in
theorem ggX8_faults_X8_faulty : GoodIn wsX8_faults wsX8_faulty := goodIn_r _ [6, 7, 8, 9, 10, 11, 12, 13, 14, 15, 16, 17, 18, 19, 20, 21, 22, 23, 24] (by decide +kernel) (by decide +kernel)
set_option maxRecDepth 20000 in
theorem gX8_faults_X8_faulty : GoodIn wsX8_faults (wsV RX8 82 RX8 yX8_faulty wsX8_faulty) := goodIn_app (goodIn_of _ (by decide +kernel)) ggX8_faults_X8_faulty
theorem dX8_faults_0 : decode cX8_faults 0 = .ok (.aload_n 0, 1) := by decide +kernel
theorem dX8_faults_1 : decode cX8_faults 1 = .ok (.iconst 0, 1) := by decide +kernel
theorem dX8_faults_2 : decode cX8_faults 2 = .ok (.putfield 38, 3) := by decide +kernel
theorem dX8_faults_5 : decode cX8_faults 5 = .ok (.aload_n 0, 1) := by decide +kernel
theorem dX8_faults_6 : decode cX8_faults 6 = .ok (.invokevirtual 82, 3) := by decide +kernel
theorem dX8_faults_9 : decode cX8_faults 9 = .ok (.ireturn, 1) := by decide +kernel
theorem dX8_isWord_0 : decode cX8_isWord 0 = .ok (.aload_n 0, 1) := by decide +kernel
theorem dX8_isWord_1 : decode cX8_isWord 1 = .ok (.getfield 7, 3) := by decide +kernel
theorem dX8_isWord_4 : decode cX8_isWord 4 = .ok (.sipush 806, 3) := by decide +kernel
theorem dX8_isWord_7 : decode cX8_isWord 7 = .ok (.iload_n 1, 1) := by decide +kernel
theorem dX8_isWord_8 : decode cX8_isWord 8 = .ok (.iadd, 1) := by decide +kernel
theorem dX8_isWord_9 : decode cX8_isWord 9 = .ok (.iaload, 1) := by decide +kernel
theorem dX8_isWord_10 : decode cX8_isWord 10 = .ok (.iload_n 3, 1) := by decide +kernel
theorem dX8_isWord_11 : decode cX8_isWord 11 = .ok (.if_icmp .ne 7, 3) := by decide +kernel
theorem dX8_isWord_14 : decode cX8_isWord 14 = .ok (.iconst 1, 1) := by decide +kernel
theorem dX8_isWord_15 : decode cX8_isWord 15 = .ok (.goto 4, 3) := by decide +kernel
theorem dX8_isWord_18 : decode cX8_isWord 18 = .ok (.iconst 0, 1) := by decide +kernel
theorem dX8_isWord_19 : decode cX8_isWord 19 = .ok (.istore 4, 2) := by decide +kernel
theorem dX8_isWord_21 : decode cX8_isWord 21 = .ok (.iconst 0, 1) := by decide +kernel
theorem dX8_isWord_22 : decode cX8_isWord 22 = .ok (.istore 5, 2) := by decide +kernel
theorem dX8_isWord_24 : decode cX8_isWord 24 = .ok (.iload 5, 2) := by decide +kernel
theorem dX8_isWord_26 : decode cX8_isWord 26 = .ok (.iload_n 3, 1) := by decide +kernel
theorem dX8_isWord_27 : decode cX8_isWord 27 = .ok (.if_icmp .ge 49, 3) := by decide +kernel
theorem dX8_isWord_30 : decode cX8_isWord 30 = .ok (.iload 4, 2) := by decide +kernel
theorem dX8_isWord_32 : decode cX8_isWord 32 = .ok (.ifCond .eq 44, 3) := by decide +kernel
theorem dX8_isWord_35 : decode cX8_isWord 35 = .ok (.aload_n 0, 1) := by decide +kernel
theorem dX8_isWord_36 : decode cX8_isWord 36 = .ok (.getfield 7, 3) := by decide +kernel
theorem dX8_isWord_39 : decode cX8_isWord 39 = .ok (.sipush 826, 3) := by decide +kernel
theorem dX8_isWord_42 : decode cX8_isWord 42 = .ok (.bipush 6, 2) := by decide +kernel
theorem dX8_isWord_44 : decode cX8_isWord 44 = .ok (.iload_n 1, 1) := by decide +kernel
theorem dX8_isWord_45 : decode cX8_isWord 45 = .ok (.imul, 1) := by decide +kernel
theorem dX8_isWord_46 : decode cX8_isWord 46 = .ok (.iadd, 1) := by decide +kernel
theorem dX8_isWord_47 : decode cX8_isWord 47 = .ok (.iload 5, 2) := by decide +kernel
theorem dX8_isWord_49 : decode cX8_isWord 49 = .ok (.iadd, 1) := by decide +kernel
theorem dX8_isWord_50 : decode cX8_isWord 50 = .ok (.iaload, 1) := by decide +kernel
theorem dX8_isWord_51 : decode cX8_isWord 51 = .ok (.aload_n 0, 1) := by decide +kernel
theorem dX8_isWord_52 : decode cX8_isWord 52 = .ok (.getfield 31, 3) := by decide +kernel
theorem dX8_isWord_55 : decode cX8_isWord 55 = .ok (.iload_n 2, 1) := by decide +kernel
theorem dX8_isWord_56 : decode cX8_isWord 56 = .ok (.iload 5, 2) := by decide +kernel
theorem dX8_isWord_58 : decode cX8_isWord 58 = .ok (.iadd, 1) := by decide +kernel
theorem dX8_isWord_59 : decode cX8_isWord 59 = .ok (.iaload, 1) := by decide +kernel
theorem dX8_isWord_60 : decode cX8_isWord 60 = .ok (.if_icmp .ne 7, 3) := by decide +kernel
theorem dX8_isWord_63 : decode cX8_isWord 63 = .ok (.iconst 1, 1) := by decide +kernel
theorem dX8_isWord_64 : decode cX8_isWord 64 = .ok (.goto 4, 3) := by decide +kernel
theorem dX8_isWord_67 : decode cX8_isWord 67 = .ok (.iconst 0, 1) := by decide +kernel
theorem dX8_isWord_68 : decode cX8_isWord 68 = .ok (.istore 4, 2) := by decide +kernel
theorem dX8_isWord_70 : decode cX8_isWord 70 = .ok (.iinc 5 1, 3) := by decide +kernel
theorem dX8_isWord_73 : decode cX8_isWord 73 = .ok (.goto (-49), 3) := by decide +kernel
theorem dX8_isWord_76 : decode cX8_isWord 76 = .ok (.iload 4, 2) := by decide +kernel
theorem dX8_isWord_78 : decode cX8_isWord 78 = .ok (.ireturn, 1) := by decide +kernel
set_option maxRecDepth 20000 in
theorem ggX8_isPlausible_X8_isWord : GoodIn wsX8_isPlausible wsX8_isWord := goodIn_r _ [7, 2, 1, 8, 9, 10, 11, 12, 13, 14, 15, 16, 17, 18, 19, 20, 21, 22, 23, 24] (by decide +kernel) (by decide +kernel)
set_option maxRecDepth 20000 in
theorem gX8_isPlausible_X8_isWord : GoodIn wsX8_isPlausible (wsV RX8 85 RX8 yX8_isWord wsX8_isWord) := goodIn_app (goodIn_of _ (by decide +kernel)) ggX8_isPlausible_X8_isWord
theorem dX8_isPlausible_0 : decode cX8_isPlausible 0 = .ok (.iload_n 3, 1) := by decide +kernel
theorem dX8_isPlausible_1 : decode cX8_isPlausible 1 = .ok (.iconst 1, 1) := by decide +kernel
theorem dX8_isPlausible_2 : decode cX8_isPlausible 2 = .ok (.if_icmp .ne 50, 3) := by decide +kernel
theorem dX8_isPlausible_5 : decode cX8_isPlausible 5 = .ok (.iconst 1, 1) := by decide +kernel
theorem dX8_isPlausible_6 : decode cX8_isPlausible 6 = .ok (.istore 4, 2) := by decide +kernel
theorem dX8_isPlausible_8 : decode cX8_isPlausible 8 = .ok (.iconst 0, 1) := by decide +kernel
theorem dX8_isPlausible_9 : decode cX8_isPlausible 9 = .ok (.istore 5, 2) := by decide +kernel
theorem dX8_isPlausible_11 : decode cX8_isPlausible 11 = .ok (.iload 5, 2) := by decide +kernel
theorem dX8_isPlausible_13 : decode cX8_isPlausible 13 = .ok (.iload_n 2, 1) := by decide +kernel
theorem dX8_isPlausible_14 : decode cX8_isPlausible 14 = .ok (.if_icmp .ge 35, 3) := by decide +kernel
theorem dX8_isPlausible_17 : decode cX8_isPlausible 17 = .ok (.iload 4, 2) := by decide +kernel
theorem dX8_isPlausible_19 : decode cX8_isPlausible 19 = .ok (.ifCond .eq 21, 3) := by decide +kernel
theorem dX8_isPlausible_22 : decode cX8_isPlausible 22 = .ok (.aload_n 0, 1) := by decide +kernel
theorem dX8_isPlausible_23 : decode cX8_isPlausible 23 = .ok (.getfield 31, 3) := by decide +kernel
theorem dX8_isPlausible_26 : decode cX8_isPlausible 26 = .ok (.iload_n 1, 1) := by decide +kernel
theorem dX8_isPlausible_27 : decode cX8_isPlausible 27 = .ok (.iload 5, 2) := by decide +kernel
theorem dX8_isPlausible_29 : decode cX8_isPlausible 29 = .ok (.iadd, 1) := by decide +kernel
theorem dX8_isPlausible_30 : decode cX8_isPlausible 30 = .ok (.iaload, 1) := by decide +kernel
theorem dX8_isPlausible_31 : decode cX8_isPlausible 31 = .ok (.bipush 11, 2) := by decide +kernel
theorem dX8_isPlausible_33 : decode cX8_isPlausible 33 = .ok (.if_icmp .ge 7, 3) := by decide +kernel
theorem dX8_isPlausible_36 : decode cX8_isPlausible 36 = .ok (.iconst 1, 1) := by decide +kernel
theorem dX8_isPlausible_37 : decode cX8_isPlausible 37 = .ok (.goto 4, 3) := by decide +kernel
theorem dX8_isPlausible_40 : decode cX8_isPlausible 40 = .ok (.iconst 0, 1) := by decide +kernel
theorem dX8_isPlausible_41 : decode cX8_isPlausible 41 = .ok (.istore 4, 2) := by decide +kernel
theorem dX8_isPlausible_43 : decode cX8_isPlausible 43 = .ok (.iinc 5 1, 3) := by decide +kernel
theorem dX8_isPlausible_46 : decode cX8_isPlausible 46 = .ok (.goto (-35), 3) := by decide +kernel
theorem dX8_isPlausible_49 : decode cX8_isPlausible 49 = .ok (.iload 4, 2) := by decide +kernel
theorem dX8_isPlausible_51 : decode cX8_isPlausible 51 = .ok (.ireturn, 1) := by decide +kernel
theorem dX8_isPlausible_52 : decode cX8_isPlausible 52 = .ok (.iconst 0, 1) := by decide +kernel
theorem dX8_isPlausible_53 : decode cX8_isPlausible 53 = .ok (.istore 4, 2) := by decide +kernel
theorem dX8_isPlausible_55 : decode cX8_isPlausible 55 = .ok (.iconst 0, 1) := by decide +kernel
theorem dX8_isPlausible_56 : decode cX8_isPlausible 56 = .ok (.istore 5, 2) := by decide +kernel
theorem dX8_isPlausible_58 : decode cX8_isPlausible 58 = .ok (.iload 5, 2) := by decide +kernel
theorem dX8_isPlausible_60 : decode cX8_isPlausible 60 = .ok (.aload_n 0, 1) := by decide +kernel
theorem dX8_isPlausible_61 : decode cX8_isPlausible 61 = .ok (.getfield 7, 3) := by decide +kernel
theorem dX8_isPlausible_64 : decode cX8_isPlausible 64 = .ok (.sipush 805, 3) := by decide +kernel
theorem dX8_isPlausible_67 : decode cX8_isPlausible 67 = .ok (.iaload, 1) := by decide +kernel
theorem dX8_isPlausible_68 : decode cX8_isPlausible 68 = .ok (.if_icmp .ge 32, 3) := by decide +kernel
theorem dX8_isPlausible_71 : decode cX8_isPlausible 71 = .ok (.iload 4, 2) := by decide +kernel
theorem dX8_isPlausible_73 : decode cX8_isPlausible 73 = .ok (.ifCond .ne 14, 3) := by decide +kernel
theorem dX8_isPlausible_76 : decode cX8_isPlausible 76 = .ok (.aload_n 0, 1) := by decide +kernel
theorem dX8_isPlausible_77 : decode cX8_isPlausible 77 = .ok (.iload 5, 2) := by decide +kernel
theorem dX8_isPlausible_79 : decode cX8_isPlausible 79 = .ok (.iload_n 1, 1) := by decide +kernel
theorem dX8_isPlausible_80 : decode cX8_isPlausible 80 = .ok (.iload_n 2, 1) := by decide +kernel
theorem dX8_isPlausible_81 : decode cX8_isPlausible 81 = .ok (.invokevirtual 85, 3) := by decide +kernel
theorem dX8_isPlausible_84 : decode cX8_isPlausible 84 = .ok (.ifCond .eq 7, 3) := by decide +kernel
theorem dX8_isPlausible_87 : decode cX8_isPlausible 87 = .ok (.iconst 1, 1) := by decide +kernel
theorem dX8_isPlausible_88 : decode cX8_isPlausible 88 = .ok (.goto 4, 3) := by decide +kernel
theorem dX8_isPlausible_91 : decode cX8_isPlausible 91 = .ok (.iconst 0, 1) := by decide +kernel
theorem dX8_isPlausible_92 : decode cX8_isPlausible 92 = .ok (.istore 4, 2) := by decide +kernel
theorem dX8_isPlausible_94 : decode cX8_isPlausible 94 = .ok (.iinc 5 1, 3) := by decide +kernel
theorem dX8_isPlausible_97 : decode cX8_isPlausible 97 = .ok (.goto (-39), 3) := by decide +kernel
theorem dX8_isPlausible_100 : decode cX8_isPlausible 100 = .ok (.iload 4, 2) := by decide +kernel
theorem dX8_isPlausible_102 : decode cX8_isPlausible 102 = .ok (.ireturn, 1) := by decide +kernel
theorem dX8_prints_0 : decode cX8_prints 0 = .ok (.aload_n 0, 1) := by decide +kernel
theorem dX8_prints_1 : decode cX8_prints 1 = .ok (.getfield 19, 3) := by decide +kernel
theorem dX8_prints_4 : decode cX8_prints 4 = .ok (.aload_n 0, 1) := by decide +kernel
theorem dX8_prints_5 : decode cX8_prints 5 = .ok (.getfield 88, 3) := by decide +kernel
theorem dX8_prints_8 : decode cX8_prints 8 = .ok (.iload_n 1, 1) := by decide +kernel
theorem dX8_prints_9 : decode cX8_prints 9 = .ok (.iastore, 1) := by decide +kernel
theorem dX8_prints_10 : decode cX8_prints 10 = .ok (.aload_n 0, 1) := by decide +kernel
theorem dX8_prints_11 : decode cX8_prints 11 = .ok (.dup, 1) := by decide +kernel
theorem dX8_prints_12 : decode cX8_prints 12 = .ok (.getfield 88, 3) := by decide +kernel
theorem dX8_prints_15 : decode cX8_prints 15 = .ok (.iconst 1, 1) := by decide +kernel
theorem dX8_prints_16 : decode cX8_prints 16 = .ok (.iadd, 1) := by decide +kernel
theorem dX8_prints_17 : decode cX8_prints 17 = .ok (.putfield 88, 3) := by decide +kernel
theorem dX8_prints_20 : decode cX8_prints 20 = .ok (.return_, 1) := by decide +kernel
set_option maxRecDepth 20000 in
theorem ggX8_segment_X8_in : GoodIn wsX8_segment wsX8_in := goodIn_r _ [11] (by decide +kernel) (by decide +kernel)
set_option maxRecDepth 20000 in
theorem gX8_segment_X8_in : GoodIn wsX8_segment (va_wsS RX8 44 yX8_in wsX8_in) := goodIn_app (goodIn_of _ (by decide +kernel)) ggX8_segment_X8_in
set_option maxRecDepth 20000 in
theorem ggX8_segment_X8_isPlausible : GoodIn wsX8_segment wsX8_isPlausible := goodIn_r _ [15, 2, 16, 17, 18, 19, 10, 20, 33, 34, 35, 36, 37, 38, 39, 40, 41, 42, 43, 44, 45, 46, 47, 48, 49] (by decide +kernel) (by decide +kernel)
set_option maxRecDepth 20000 in
theorem gX8_segment_X8_isPlausible : GoodIn wsX8_segment (wsV RX8 94 RX8 yX8_isPlausible wsX8_isPlausible) := goodIn_app (goodIn_of _ (by decide +kernel)) ggX8_segment_X8_isPlausible
set_option maxRecDepth 20000 in
theorem ggX8_segment_X8_characterOf : GoodIn wsX8_segment wsX8_characterOf := goodIn_r _ [23, 24, 25, 10, 26] (by decide +kernel) (by decide +kernel)
set_option maxRecDepth 20000 in
theorem gX8_segment_X8_characterOf : GoodIn wsX8_segment (va_wsS RX8 100 yX8_characterOf wsX8_characterOf) := goodIn_app (goodIn_of _ (by decide +kernel)) ggX8_segment_X8_characterOf
set_option maxRecDepth 20000 in
theorem ggX8_segment_X8_prints : GoodIn wsX8_segment wsX8_prints := goodIn_r _ [30, 31, 32, 33, 34, 35, 36, 37, 38, 39, 40, 41, 42, 43, 44, 45, 46, 47, 48, 49] (by decide +kernel) (by decide +kernel)
set_option maxRecDepth 20000 in
theorem gX8_segment_X8_prints : GoodIn wsX8_segment (wsV RX8 104 RX8 yX8_prints wsX8_prints) := goodIn_app (goodIn_of _ (by decide +kernel)) ggX8_segment_X8_prints
theorem dX8_segment_0 : decode cX8_segment 0 = .ok (.iload_n 1, 1) := by decide +kernel
theorem dX8_segment_1 : decode cX8_segment 1 = .ok (.istore_n 2, 1) := by decide +kernel
theorem dX8_segment_2 : decode cX8_segment 2 = .ok (.iload_n 2, 1) := by decide +kernel
theorem dX8_segment_3 : decode cX8_segment 3 = .ok (.aload_n 0, 1) := by decide +kernel
theorem dX8_segment_4 : decode cX8_segment 4 = .ok (.getfield 34, 3) := by decide +kernel
theorem dX8_segment_7 : decode cX8_segment 7 = .ok (.if_icmp .ge 24, 3) := by decide +kernel
theorem dX8_segment_10 : decode cX8_segment 10 = .ok (.aload_n 0, 1) := by decide +kernel
theorem dX8_segment_11 : decode cX8_segment 11 = .ok (.getfield 31, 3) := by decide +kernel
theorem dX8_segment_14 : decode cX8_segment 14 = .ok (.iload_n 2, 1) := by decide +kernel
theorem dX8_segment_15 : decode cX8_segment 15 = .ok (.iaload, 1) := by decide +kernel
theorem dX8_segment_16 : decode cX8_segment 16 = .ok (.iconst 1, 1) := by decide +kernel
theorem dX8_segment_17 : decode cX8_segment 17 = .ok (.bipush 26, 2) := by decide +kernel
theorem dX8_segment_19 : decode cX8_segment 19 = .ok (.invokestatic 44, 3) := by decide +kernel
theorem dX8_segment_22 : decode cX8_segment 22 = .ok (.ifCond .eq 9, 3) := by decide +kernel
theorem dX8_segment_25 : decode cX8_segment 25 = .ok (.iinc 2 1, 3) := by decide +kernel
theorem dX8_segment_28 : decode cX8_segment 28 = .ok (.goto (-26), 3) := by decide +kernel
theorem dX8_segment_31 : decode cX8_segment 31 = .ok (.aload_n 0, 1) := by decide +kernel
theorem dX8_segment_32 : decode cX8_segment 32 = .ok (.getfield 91, 3) := by decide +kernel
theorem dX8_segment_35 : decode cX8_segment 35 = .ok (.istore_n 3, 1) := by decide +kernel
theorem dX8_segment_36 : decode cX8_segment 36 = .ok (.aload_n 0, 1) := by decide +kernel
theorem dX8_segment_37 : decode cX8_segment 37 = .ok (.iload_n 1, 1) := by decide +kernel
theorem dX8_segment_38 : decode cX8_segment 38 = .ok (.iload_n 2, 1) := by decide +kernel
theorem dX8_segment_39 : decode cX8_segment 39 = .ok (.iload_n 1, 1) := by decide +kernel
theorem dX8_segment_40 : decode cX8_segment 40 = .ok (.isub, 1) := by decide +kernel
theorem dX8_segment_41 : decode cX8_segment 41 = .ok (.aload_n 0, 1) := by decide +kernel
theorem dX8_segment_42 : decode cX8_segment 42 = .ok (.getfield 91, 3) := by decide +kernel
theorem dX8_segment_45 : decode cX8_segment 45 = .ok (.invokevirtual 94, 3) := by decide +kernel
theorem dX8_segment_48 : decode cX8_segment 48 = .ok (.ifCond .ne 57, 3) := by decide +kernel
theorem dX8_segment_51 : decode cX8_segment 51 = .ok (.aload_n 0, 1) := by decide +kernel
theorem dX8_segment_52 : decode cX8_segment 52 = .ok (.iload_n 1, 1) := by decide +kernel
theorem dX8_segment_53 : decode cX8_segment 53 = .ok (.iload_n 2, 1) := by decide +kernel
theorem dX8_segment_54 : decode cX8_segment 54 = .ok (.iload_n 1, 1) := by decide +kernel
theorem dX8_segment_55 : decode cX8_segment 55 = .ok (.isub, 1) := by decide +kernel
theorem dX8_segment_56 : decode cX8_segment 56 = .ok (.iconst 1, 1) := by decide +kernel
theorem dX8_segment_57 : decode cX8_segment 57 = .ok (.aload_n 0, 1) := by decide +kernel
theorem dX8_segment_58 : decode cX8_segment 58 = .ok (.getfield 91, 3) := by decide +kernel
theorem dX8_segment_61 : decode cX8_segment 61 = .ok (.isub, 1) := by decide +kernel
theorem dX8_segment_62 : decode cX8_segment 62 = .ok (.invokevirtual 94, 3) := by decide +kernel
theorem dX8_segment_65 : decode cX8_segment 65 = .ok (.istore 4, 2) := by decide +kernel
theorem dX8_segment_67 : decode cX8_segment 67 = .ok (.aload_n 0, 1) := by decide +kernel
theorem dX8_segment_68 : decode cX8_segment 68 = .ok (.iload 4, 2) := by decide +kernel
theorem dX8_segment_70 : decode cX8_segment 70 = .ok (.ifCond .eq 12, 3) := by decide +kernel
theorem dX8_segment_73 : decode cX8_segment 73 = .ok (.iconst 1, 1) := by decide +kernel
theorem dX8_segment_74 : decode cX8_segment 74 = .ok (.aload_n 0, 1) := by decide +kernel
theorem dX8_segment_75 : decode cX8_segment 75 = .ok (.getfield 91, 3) := by decide +kernel
theorem dX8_segment_78 : decode cX8_segment 78 = .ok (.isub, 1) := by decide +kernel
theorem dX8_segment_79 : decode cX8_segment 79 = .ok (.goto 7, 3) := by decide +kernel
theorem dX8_segment_82 : decode cX8_segment 82 = .ok (.aload_n 0, 1) := by decide +kernel
theorem dX8_segment_83 : decode cX8_segment 83 = .ok (.getfield 91, 3) := by decide +kernel
