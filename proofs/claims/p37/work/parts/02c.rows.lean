theorem dX0_isLetter_0 : decode cX0_isLetter 0 = .ok (.iload_n 0, 1) := by decide +kernel
theorem dX0_isLetter_1 : decode cX0_isLetter 1 = .ok (.bipush 97, 2) := by decide +kernel
theorem dX0_isLetter_3 : decode cX0_isLetter 3 = .ok (.if_icmp .lt 13, 3) := by decide +kernel
theorem dX0_isLetter_6 : decode cX0_isLetter 6 = .ok (.iload_n 0, 1) := by decide +kernel
theorem dX0_isLetter_7 : decode cX0_isLetter 7 = .ok (.bipush 122, 2) := by decide +kernel
theorem dX0_isLetter_9 : decode cX0_isLetter 9 = .ok (.if_icmp .gt 7, 3) := by decide +kernel
theorem dX0_isLetter_12 : decode cX0_isLetter 12 = .ok (.iconst 1, 1) := by decide +kernel
theorem dX0_isLetter_13 : decode cX0_isLetter 13 = .ok (.goto 4, 3) := by decide +kernel
theorem dX0_isLetter_16 : decode cX0_isLetter 16 = .ok (.iconst 0, 1) := by decide +kernel
theorem dX0_isLetter_17 : decode cX0_isLetter 17 = .ok (.ireturn, 1) := by decide +kernel
theorem dX0_isSign_0 : decode cX0_isSign 0 = .ok (.iload_n 0, 1) := by decide +kernel
theorem dX0_isSign_1 : decode cX0_isSign 1 = .ok (.iconst 1, 1) := by decide +kernel
theorem dX0_isSign_2 : decode cX0_isSign 2 = .ok (.if_icmp .lt 13, 3) := by decide +kernel
theorem dX0_isSign_5 : decode cX0_isSign 5 = .ok (.iload_n 0, 1) := by decide +kernel
theorem dX0_isSign_6 : decode cX0_isSign 6 = .ok (.bipush 26, 2) := by decide +kernel
theorem dX0_isSign_8 : decode cX0_isSign 8 = .ok (.if_icmp .gt 7, 3) := by decide +kernel
theorem dX0_isSign_11 : decode cX0_isSign 11 = .ok (.iconst 1, 1) := by decide +kernel
theorem dX0_isSign_12 : decode cX0_isSign 12 = .ok (.goto 4, 3) := by decide +kernel
theorem dX0_isSign_15 : decode cX0_isSign 15 = .ok (.iconst 0, 1) := by decide +kernel
theorem dX0_isSign_16 : decode cX0_isSign 16 = .ok (.ireturn, 1) := by decide +kernel
theorem dX0_isDigit_0 : decode cX0_isDigit 0 = .ok (.iload_n 0, 1) := by decide +kernel
theorem dX0_isDigit_1 : decode cX0_isDigit 1 = .ok (.iconst 1, 1) := by decide +kernel
theorem dX0_isDigit_2 : decode cX0_isDigit 2 = .ok (.if_icmp .lt 13, 3) := by decide +kernel
theorem dX0_isDigit_5 : decode cX0_isDigit 5 = .ok (.iload_n 0, 1) := by decide +kernel
theorem dX0_isDigit_6 : decode cX0_isDigit 6 = .ok (.bipush 10, 2) := by decide +kernel
theorem dX0_isDigit_8 : decode cX0_isDigit 8 = .ok (.if_icmp .gt 7, 3) := by decide +kernel
theorem dX0_isDigit_11 : decode cX0_isDigit 11 = .ok (.iconst 1, 1) := by decide +kernel
theorem dX0_isDigit_12 : decode cX0_isDigit 12 = .ok (.goto 4, 3) := by decide +kernel
theorem dX0_isDigit_15 : decode cX0_isDigit 15 = .ok (.iconst 0, 1) := by decide +kernel
theorem dX0_isDigit_16 : decode cX0_isDigit 16 = .ok (.ireturn, 1) := by decide +kernel
theorem dX0_codeOf_0 : decode cX0_codeOf 0 = .ok (.iload_n 0, 1) := by decide +kernel
theorem dX0_codeOf_1 : decode cX0_codeOf 1 = .ok (.invokestatic 9, 3) := by decide +kernel
theorem dX0_codeOf_4 : decode cX0_codeOf 4 = .ok (.ifCond .eq 10, 3) := by decide +kernel
theorem dX0_codeOf_7 : decode cX0_codeOf 7 = .ok (.iload_n 0, 1) := by decide +kernel
theorem dX0_codeOf_8 : decode cX0_codeOf 8 = .ok (.bipush 97, 2) := by decide +kernel
theorem dX0_codeOf_10 : decode cX0_codeOf 10 = .ok (.isub, 1) := by decide +kernel
theorem dX0_codeOf_11 : decode cX0_codeOf 11 = .ok (.iconst 1, 1) := by decide +kernel
theorem dX0_codeOf_12 : decode cX0_codeOf 12 = .ok (.iadd, 1) := by decide +kernel
theorem dX0_codeOf_13 : decode cX0_codeOf 13 = .ok (.ireturn, 1) := by decide +kernel
theorem dX0_codeOf_14 : decode cX0_codeOf 14 = .ok (.iload_n 0, 1) := by decide +kernel
theorem dX0_codeOf_15 : decode cX0_codeOf 15 = .ok (.bipush 32, 2) := by decide +kernel
theorem dX0_codeOf_17 : decode cX0_codeOf 17 = .ok (.if_icmp .ne 6, 3) := by decide +kernel
theorem dX0_codeOf_20 : decode cX0_codeOf 20 = .ok (.bipush 27, 2) := by decide +kernel
theorem dX0_codeOf_22 : decode cX0_codeOf 22 = .ok (.ireturn, 1) := by decide +kernel
theorem dX0_codeOf_23 : decode cX0_codeOf 23 = .ok (.iload_n 0, 1) := by decide +kernel
theorem dX0_codeOf_24 : decode cX0_codeOf 24 = .ok (.bipush 10, 2) := by decide +kernel
theorem dX0_codeOf_26 : decode cX0_codeOf 26 = .ok (.if_icmp .ne 6, 3) := by decide +kernel
theorem dX0_codeOf_29 : decode cX0_codeOf 29 = .ok (.bipush 28, 2) := by decide +kernel
theorem dX0_codeOf_31 : decode cX0_codeOf 31 = .ok (.ireturn, 1) := by decide +kernel
theorem dX0_codeOf_32 : decode cX0_codeOf 32 = .ok (.iload_n 0, 1) := by decide +kernel
theorem dX0_codeOf_33 : decode cX0_codeOf 33 = .ok (.bipush 64, 2) := by decide +kernel
theorem dX0_codeOf_35 : decode cX0_codeOf 35 = .ok (.if_icmp .eq 9, 3) := by decide +kernel
theorem dX0_codeOf_38 : decode cX0_codeOf 38 = .ok (.iload_n 0, 1) := by decide +kernel
theorem dX0_codeOf_39 : decode cX0_codeOf 39 = .ok (.bipush 35, 2) := by decide +kernel
theorem dX0_codeOf_41 : decode cX0_codeOf 41 = .ok (.if_icmp .ne 6, 3) := by decide +kernel
theorem dX0_codeOf_44 : decode cX0_codeOf 44 = .ok (.bipush 29, 2) := by decide +kernel
theorem dX0_codeOf_46 : decode cX0_codeOf 46 = .ok (.ireturn, 1) := by decide +kernel
theorem dX0_codeOf_47 : decode cX0_codeOf 47 = .ok (.iload_n 0, 1) := by decide +kernel
theorem dX0_codeOf_48 : decode cX0_codeOf 48 = .ok (.invokestatic 15, 3) := by decide +kernel
theorem dX0_codeOf_51 : decode cX0_codeOf 51 = .ok (.ireturn, 1) := by decide +kernel
theorem dX0_codeOfFigure_0 : decode cX0_codeOfFigure 0 = .ok (.iload_n 0, 1) := by decide +kernel
theorem dX0_codeOfFigure_1 : decode cX0_codeOfFigure 1 = .ok (.ifCond .lt 9, 3) := by decide +kernel
theorem dX0_codeOfFigure_4 : decode cX0_codeOfFigure 4 = .ok (.iload_n 0, 1) := by decide +kernel
theorem dX0_codeOfFigure_5 : decode cX0_codeOfFigure 5 = .ok (.bipush 127, 2) := by decide +kernel
theorem dX0_codeOfFigure_7 : decode cX0_codeOfFigure 7 = .ok (.if_icmp .le 5, 3) := by decide +kernel
theorem dX0_codeOfFigure_10 : decode cX0_codeOfFigure 10 = .ok (.iconst (-1), 1) := by decide +kernel
theorem dX0_codeOfFigure_11 : decode cX0_codeOfFigure 11 = .ok (.ireturn, 1) := by decide +kernel
theorem dX0_codeOfFigure_12 : decode cX0_codeOfFigure 12 = .ok (.ldc 19, 2) := by decide +kernel
theorem dX0_codeOfFigure_14 : decode cX0_codeOfFigure 14 = .ok (.iload_n 0, 1) := by decide +kernel
theorem dX0_codeOfFigure_15 : decode cX0_codeOfFigure 15 = .ok (.i2c, 1) := by decide +kernel
theorem dX0_codeOfFigure_16 : decode cX0_codeOfFigure 16 = .ok (.invokevirtual 21, 3) := by decide +kernel
theorem dX0_codeOfFigure_19 : decode cX0_codeOfFigure 19 = .ok (.istore_n 1, 1) := by decide +kernel
theorem dX0_codeOfFigure_20 : decode cX0_codeOfFigure 20 = .ok (.iload_n 1, 1) := by decide +kernel
theorem dX0_codeOfFigure_21 : decode cX0_codeOfFigure 21 = .ok (.ifCond .ge 7, 3) := by decide +kernel
theorem dX0_codeOfFigure_24 : decode cX0_codeOfFigure 24 = .ok (.iconst (-1), 1) := by decide +kernel
theorem dX0_codeOfFigure_25 : decode cX0_codeOfFigure 25 = .ok (.goto 6, 3) := by decide +kernel
theorem dX0_codeOfFigure_28 : decode cX0_codeOfFigure 28 = .ok (.iload_n 1, 1) := by decide +kernel
theorem dX0_codeOfFigure_29 : decode cX0_codeOfFigure 29 = .ok (.iconst 1, 1) := by decide +kernel
theorem dX0_codeOfFigure_30 : decode cX0_codeOfFigure 30 = .ok (.iadd, 1) := by decide +kernel
theorem dX0_codeOfFigure_31 : decode cX0_codeOfFigure 31 = .ok (.ireturn, 1) := by decide +kernel
theorem dX0_shiftFor_0 : decode cX0_shiftFor 0 = .ok (.iload_n 0, 1) := by decide +kernel
theorem dX0_shiftFor_1 : decode cX0_shiftFor 1 = .ok (.bipush 32, 2) := by decide +kernel
theorem dX0_shiftFor_3 : decode cX0_shiftFor 3 = .ok (.if_icmp .eq 9, 3) := by decide +kernel
theorem dX0_shiftFor_6 : decode cX0_shiftFor 6 = .ok (.iload_n 0, 1) := by decide +kernel
theorem dX0_shiftFor_7 : decode cX0_shiftFor 7 = .ok (.bipush 10, 2) := by decide +kernel
theorem dX0_shiftFor_9 : decode cX0_shiftFor 9 = .ok (.if_icmp .ne 5, 3) := by decide +kernel
theorem dX0_shiftFor_12 : decode cX0_shiftFor 12 = .ok (.iconst (-1), 1) := by decide +kernel
theorem dX0_shiftFor_13 : decode cX0_shiftFor 13 = .ok (.ireturn, 1) := by decide +kernel
theorem dX0_shiftFor_14 : decode cX0_shiftFor 14 = .ok (.iload_n 0, 1) := by decide +kernel
theorem dX0_shiftFor_15 : decode cX0_shiftFor 15 = .ok (.invokestatic 9, 3) := by decide +kernel
theorem dX0_shiftFor_18 : decode cX0_shiftFor 18 = .ok (.ifCond .ne 9, 3) := by decide +kernel
theorem dX0_shiftFor_21 : decode cX0_shiftFor 21 = .ok (.iload_n 0, 1) := by decide +kernel
theorem dX0_shiftFor_22 : decode cX0_shiftFor 22 = .ok (.bipush 64, 2) := by decide +kernel
theorem dX0_shiftFor_24 : decode cX0_shiftFor 24 = .ok (.if_icmp .ne 7, 3) := by decide +kernel
theorem dX0_shiftFor_27 : decode cX0_shiftFor 27 = .ok (.iconst 0, 1) := by decide +kernel
theorem dX0_shiftFor_28 : decode cX0_shiftFor 28 = .ok (.goto 4, 3) := by decide +kernel
theorem dX0_shiftFor_31 : decode cX0_shiftFor 31 = .ok (.iconst 1, 1) := by decide +kernel
theorem dX0_shiftFor_32 : decode cX0_shiftFor 32 = .ok (.ireturn, 1) := by decide +kernel
theorem dX0_characterOf_0 : decode cX0_characterOf 0 = .ok (.iload_n 0, 1) := by decide +kernel
theorem dX0_characterOf_1 : decode cX0_characterOf 1 = .ok (.bipush 27, 2) := by decide +kernel
theorem dX0_characterOf_3 : decode cX0_characterOf 3 = .ok (.if_icmp .ne 6, 3) := by decide +kernel
theorem dX0_characterOf_6 : decode cX0_characterOf 6 = .ok (.bipush 32, 2) := by decide +kernel
theorem dX0_characterOf_8 : decode cX0_characterOf 8 = .ok (.ireturn, 1) := by decide +kernel
theorem dX0_characterOf_9 : decode cX0_characterOf 9 = .ok (.iload_n 0, 1) := by decide +kernel
theorem dX0_characterOf_10 : decode cX0_characterOf 10 = .ok (.bipush 28, 2) := by decide +kernel
theorem dX0_characterOf_12 : decode cX0_characterOf 12 = .ok (.if_icmp .ne 6, 3) := by decide +kernel
theorem dX0_characterOf_15 : decode cX0_characterOf 15 = .ok (.bipush 10, 2) := by decide +kernel
theorem dX0_characterOf_17 : decode cX0_characterOf 17 = .ok (.ireturn, 1) := by decide +kernel
theorem dX0_characterOf_18 : decode cX0_characterOf 18 = .ok (.iload_n 0, 1) := by decide +kernel
theorem dX0_characterOf_19 : decode cX0_characterOf 19 = .ok (.iconst 1, 1) := by decide +kernel
theorem dX0_characterOf_20 : decode cX0_characterOf 20 = .ok (.isub, 1) := by decide +kernel
theorem dX0_characterOf_21 : decode cX0_characterOf 21 = .ok (.istore_n 2, 1) := by decide +kernel
theorem dX0_characterOf_22 : decode cX0_characterOf 22 = .ok (.iload_n 0, 1) := by decide +kernel
theorem dX0_characterOf_23 : decode cX0_characterOf 23 = .ok (.invokestatic 26, 3) := by decide +kernel
theorem dX0_characterOf_26 : decode cX0_characterOf 26 = .ok (.ifCond .eq 16, 3) := by decide +kernel
theorem dX0_characterOf_29 : decode cX0_characterOf 29 = .ok (.iload_n 2, 1) := by decide +kernel
theorem dX0_characterOf_30 : decode cX0_characterOf 30 = .ok (.ifCond .lt 12, 3) := by decide +kernel
theorem dX0_characterOf_33 : decode cX0_characterOf 33 = .ok (.iload_n 2, 1) := by decide +kernel
theorem dX0_characterOf_34 : decode cX0_characterOf 34 = .ok (.ldc 19, 2) := by decide +kernel
theorem dX0_characterOf_36 : decode cX0_characterOf 36 = .ok (.invokevirtual 29, 3) := by decide +kernel
theorem dX0_characterOf_39 : decode cX0_characterOf 39 = .ok (.if_icmp .lt 5, 3) := by decide +kernel
theorem dX0_characterOf_42 : decode cX0_characterOf 42 = .ok (.iconst (-1), 1) := by decide +kernel
theorem dX0_characterOf_43 : decode cX0_characterOf 43 = .ok (.ireturn, 1) := by decide +kernel
theorem dX0_characterOf_44 : decode cX0_characterOf 44 = .ok (.iload_n 1, 1) := by decide +kernel
theorem dX0_characterOf_45 : decode cX0_characterOf 45 = .ok (.ifCond .ne 10, 3) := by decide +kernel
theorem dX0_characterOf_48 : decode cX0_characterOf 48 = .ok (.bipush 97, 2) := by decide +kernel
theorem dX0_characterOf_50 : decode cX0_characterOf 50 = .ok (.iload_n 2, 1) := by decide +kernel
theorem dX0_characterOf_51 : decode cX0_characterOf 51 = .ok (.iadd, 1) := by decide +kernel
theorem dX0_characterOf_52 : decode cX0_characterOf 52 = .ok (.goto 9, 3) := by decide +kernel
theorem dX0_characterOf_55 : decode cX0_characterOf 55 = .ok (.ldc 19, 2) := by decide +kernel
theorem dX0_characterOf_57 : decode cX0_characterOf 57 = .ok (.iload_n 2, 1) := by decide +kernel
theorem dX0_characterOf_58 : decode cX0_characterOf 58 = .ok (.invokevirtual 33, 3) := by decide +kernel
theorem dX0_characterOf_61 : decode cX0_characterOf 61 = .ok (.ireturn, 1) := by decide +kernel
theorem dX0_startOfSigns_0 : decode cX0_startOfSigns 0 = .ok (.iload_n 1, 1) := by decide +kernel
theorem dX0_startOfSigns_1 : decode cX0_startOfSigns 1 = .ok (.istore_n 2, 1) := by decide +kernel
theorem dX0_startOfSigns_2 : decode cX0_startOfSigns 2 = .ok (.iload_n 2, 1) := by decide +kernel
theorem dX0_startOfSigns_3 : decode cX0_startOfSigns 3 = .ok (.ifCond .le 24, 3) := by decide +kernel
theorem dX0_startOfSigns_6 : decode cX0_startOfSigns 6 = .ok (.aload_n 0, 1) := by decide +kernel
theorem dX0_startOfSigns_7 : decode cX0_startOfSigns 7 = .ok (.iload_n 2, 1) := by decide +kernel
theorem dX0_startOfSigns_8 : decode cX0_startOfSigns 8 = .ok (.iconst 1, 1) := by decide +kernel
theorem dX0_startOfSigns_9 : decode cX0_startOfSigns 9 = .ok (.isub, 1) := by decide +kernel
theorem dX0_startOfSigns_10 : decode cX0_startOfSigns 10 = .ok (.invokevirtual 37, 3) := by decide +kernel
theorem dX0_startOfSigns_13 : decode cX0_startOfSigns 13 = .ok (.invokestatic 26, 3) := by decide +kernel
theorem dX0_startOfSigns_16 : decode cX0_startOfSigns 16 = .ok (.ifCond .ne 5, 3) := by decide +kernel
theorem dX0_startOfSigns_19 : decode cX0_startOfSigns 19 = .ok (.iload_n 2, 1) := by decide +kernel
theorem dX0_startOfSigns_20 : decode cX0_startOfSigns 20 = .ok (.ireturn, 1) := by decide +kernel
theorem dX0_startOfSigns_21 : decode cX0_startOfSigns 21 = .ok (.iinc 2 (-1), 3) := by decide +kernel
theorem dX0_startOfSigns_24 : decode cX0_startOfSigns 24 = .ok (.goto (-22), 3) := by decide +kernel
theorem dX0_startOfSigns_27 : decode cX0_startOfSigns 27 = .ok (.iconst 0, 1) := by decide +kernel
theorem dX0_startOfSigns_28 : decode cX0_startOfSigns 28 = .ok (.ireturn, 1) := by decide +kernel
theorem dX0_endOfSigns_0 : decode cX0_endOfSigns 0 = .ok (.iload_n 1, 1) := by decide +kernel
theorem dX0_endOfSigns_1 : decode cX0_endOfSigns 1 = .ok (.istore_n 2, 1) := by decide +kernel
theorem dX0_endOfSigns_2 : decode cX0_endOfSigns 2 = .ok (.iload_n 2, 1) := by decide +kernel
theorem dX0_endOfSigns_3 : decode cX0_endOfSigns 3 = .ok (.aload_n 0, 1) := by decide +kernel
theorem dX0_endOfSigns_4 : decode cX0_endOfSigns 4 = .ok (.invokevirtual 42, 3) := by decide +kernel
theorem dX0_endOfSigns_7 : decode cX0_endOfSigns 7 = .ok (.if_icmp .ge 22, 3) := by decide +kernel
theorem dX0_endOfSigns_10 : decode cX0_endOfSigns 10 = .ok (.aload_n 0, 1) := by decide +kernel
theorem dX0_endOfSigns_11 : decode cX0_endOfSigns 11 = .ok (.iload_n 2, 1) := by decide +kernel
theorem dX0_endOfSigns_12 : decode cX0_endOfSigns 12 = .ok (.invokevirtual 37, 3) := by decide +kernel
theorem dX0_endOfSigns_15 : decode cX0_endOfSigns 15 = .ok (.invokestatic 26, 3) := by decide +kernel
theorem dX0_endOfSigns_18 : decode cX0_endOfSigns 18 = .ok (.ifCond .ne 5, 3) := by decide +kernel
theorem dX0_endOfSigns_21 : decode cX0_endOfSigns 21 = .ok (.iload_n 2, 1) := by decide +kernel
theorem dX0_endOfSigns_22 : decode cX0_endOfSigns 22 = .ok (.ireturn, 1) := by decide +kernel
theorem dX0_endOfSigns_23 : decode cX0_endOfSigns 23 = .ok (.iinc 2 1, 3) := by decide +kernel
theorem dX0_endOfSigns_26 : decode cX0_endOfSigns 26 = .ok (.goto (-24), 3) := by decide +kernel
theorem dX0_endOfSigns_29 : decode cX0_endOfSigns 29 = .ok (.aload_n 0, 1) := by decide +kernel
theorem dX0_endOfSigns_30 : decode cX0_endOfSigns 30 = .ok (.invokevirtual 42, 3) := by decide +kernel
theorem dX0_endOfSigns_33 : decode cX0_endOfSigns 33 = .ok (.ireturn, 1) := by decide +kernel
theorem dX0_shiftBehind_0 : decode cX0_shiftBehind 0 = .ok (.iload_n 0, 1) := by decide +kernel
theorem dX0_shiftBehind_1 : decode cX0_shiftBehind 1 = .ok (.bipush 30, 2) := by decide +kernel
theorem dX0_shiftBehind_3 : decode cX0_shiftBehind 3 = .ok (.if_icmp .ne 5, 3) := by decide +kernel
theorem dX0_shiftBehind_6 : decode cX0_shiftBehind 6 = .ok (.iconst 1, 1) := by decide +kernel
theorem dX0_shiftBehind_7 : decode cX0_shiftBehind 7 = .ok (.ireturn, 1) := by decide +kernel
theorem dX0_shiftBehind_8 : decode cX0_shiftBehind 8 = .ok (.iload_n 0, 1) := by decide +kernel
theorem dX0_shiftBehind_9 : decode cX0_shiftBehind 9 = .ok (.bipush 31, 2) := by decide +kernel
theorem dX0_shiftBehind_11 : decode cX0_shiftBehind 11 = .ok (.if_icmp .eq 13, 3) := by decide +kernel
theorem dX0_shiftBehind_14 : decode cX0_shiftBehind 14 = .ok (.iload_n 2, 1) := by decide +kernel
theorem dX0_shiftBehind_15 : decode cX0_shiftBehind 15 = .ok (.ifCond .eq 11, 3) := by decide +kernel
theorem dX0_shiftBehind_18 : decode cX0_shiftBehind 18 = .ok (.iload_n 0, 1) := by decide +kernel
theorem dX0_shiftBehind_19 : decode cX0_shiftBehind 19 = .ok (.bipush 27, 2) := by decide +kernel
theorem dX0_shiftBehind_21 : decode cX0_shiftBehind 21 = .ok (.if_icmp .ne 5, 3) := by decide +kernel
theorem dX0_shiftBehind_24 : decode cX0_shiftBehind 24 = .ok (.iconst 0, 1) := by decide +kernel
theorem dX0_shiftBehind_25 : decode cX0_shiftBehind 25 = .ok (.ireturn, 1) := by decide +kernel
theorem dX0_shiftBehind_26 : decode cX0_shiftBehind 26 = .ok (.iload_n 1, 1) := by decide +kernel
theorem dX0_shiftBehind_27 : decode cX0_shiftBehind 27 = .ok (.ireturn, 1) := by decide +kernel
theorem dX1_init_0 : decode cX1_init 0 = .ok (.aload_n 0, 1) := by decide +kernel
theorem dX1_init_1 : decode cX1_init 1 = .ok (.invokespecial 3, 3) := by decide +kernel
theorem dX1_init_4 : decode cX1_init 4 = .ok (.aload_n 0, 1) := by decide +kernel
theorem dX1_init_5 : decode cX1_init 5 = .ok (.new 9, 3) := by decide +kernel
theorem dX1_init_8 : decode cX1_init 8 = .ok (.dup, 1) := by decide +kernel
theorem dX1_init_9 : decode cX1_init 9 = .ok (.bipush 20, 2) := by decide +kernel
theorem dX1_init_11 : decode cX1_init 11 = .ok (.invokespecial 11, 3) := by decide +kernel
theorem dX1_init_14 : decode cX1_init 14 = .ok (.putfield 14, 3) := by decide +kernel
theorem dX1_init_17 : decode cX1_init 17 = .ok (.return_, 1) := by decide +kernel
theorem dX1_wordOfCharacters_0 : decode cX1_wordOfCharacters 0 = .ok (.aload_n 0, 1) := by decide +kernel
theorem dX1_wordOfCharacters_1 : decode cX1_wordOfCharacters 1 = .ok (.invokevirtual 20, 3) := by decide +kernel
theorem dX1_wordOfCharacters_4 : decode cX1_wordOfCharacters 4 = .ok (.bipush 6, 2) := by decide +kernel
theorem dX1_wordOfCharacters_6 : decode cX1_wordOfCharacters 6 = .ok (.if_icmp .le 5, 3) := by decide +kernel
theorem dX1_wordOfCharacters_9 : decode cX1_wordOfCharacters 9 = .ok (.iconst 0, 1) := by decide +kernel
theorem dX1_wordOfCharacters_10 : decode cX1_wordOfCharacters 10 = .ok (.ireturn, 1) := by decide +kernel
theorem dX1_wordOfCharacters_11 : decode cX1_wordOfCharacters 11 = .ok (.iconst 0, 1) := by decide +kernel
theorem dX1_wordOfCharacters_12 : decode cX1_wordOfCharacters 12 = .ok (.istore_n 1, 1) := by decide +kernel
theorem dX1_wordOfCharacters_13 : decode cX1_wordOfCharacters 13 = .ok (.iconst 0, 1) := by decide +kernel
theorem dX1_wordOfCharacters_14 : decode cX1_wordOfCharacters 14 = .ok (.istore_n 2, 1) := by decide +kernel
theorem dX1_wordOfCharacters_15 : decode cX1_wordOfCharacters 15 = .ok (.iload_n 2, 1) := by decide +kernel
theorem dX1_wordOfCharacters_16 : decode cX1_wordOfCharacters 16 = .ok (.aload_n 0, 1) := by decide +kernel
theorem dX1_wordOfCharacters_17 : decode cX1_wordOfCharacters 17 = .ok (.invokevirtual 20, 3) := by decide +kernel
theorem dX1_wordOfCharacters_20 : decode cX1_wordOfCharacters 20 = .ok (.if_icmp .ge 37, 3) := by decide +kernel
theorem dX1_wordOfCharacters_23 : decode cX1_wordOfCharacters 23 = .ok (.aload_n 0, 1) := by decide +kernel
theorem dX1_wordOfCharacters_24 : decode cX1_wordOfCharacters 24 = .ok (.iload_n 2, 1) := by decide +kernel
theorem dX1_wordOfCharacters_25 : decode cX1_wordOfCharacters 25 = .ok (.invokevirtual 24, 3) := by decide +kernel
theorem dX1_wordOfCharacters_28 : decode cX1_wordOfCharacters 28 = .ok (.invokestatic 28, 3) := by decide +kernel
theorem dX1_wordOfCharacters_31 : decode cX1_wordOfCharacters 31 = .ok (.ifCond .ne 5, 3) := by decide +kernel
theorem dX1_wordOfCharacters_34 : decode cX1_wordOfCharacters 34 = .ok (.iconst 0, 1) := by decide +kernel
theorem dX1_wordOfCharacters_35 : decode cX1_wordOfCharacters 35 = .ok (.ireturn, 1) := by decide +kernel
theorem dX1_wordOfCharacters_36 : decode cX1_wordOfCharacters 36 = .ok (.iload_n 1, 1) := by decide +kernel
theorem dX1_wordOfCharacters_37 : decode cX1_wordOfCharacters 37 = .ok (.aload_n 0, 1) := by decide +kernel
theorem dX1_wordOfCharacters_38 : decode cX1_wordOfCharacters 38 = .ok (.iload_n 2, 1) := by decide +kernel
theorem dX1_wordOfCharacters_39 : decode cX1_wordOfCharacters 39 = .ok (.invokevirtual 24, 3) := by decide +kernel
theorem dX1_wordOfCharacters_42 : decode cX1_wordOfCharacters 42 = .ok (.invokestatic 34, 3) := by decide +kernel
theorem dX1_wordOfCharacters_45 : decode cX1_wordOfCharacters 45 = .ok (.iconst 5, 1) := by decide +kernel
theorem dX1_wordOfCharacters_46 : decode cX1_wordOfCharacters 46 = .ok (.iload_n 2, 1) := by decide +kernel
theorem dX1_wordOfCharacters_47 : decode cX1_wordOfCharacters 47 = .ok (.imul, 1) := by decide +kernel
theorem dX1_wordOfCharacters_48 : decode cX1_wordOfCharacters 48 = .ok (.ishl, 1) := by decide +kernel
theorem dX1_wordOfCharacters_49 : decode cX1_wordOfCharacters 49 = .ok (.ior, 1) := by decide +kernel
theorem dX1_wordOfCharacters_50 : decode cX1_wordOfCharacters 50 = .ok (.istore_n 1, 1) := by decide +kernel
theorem dX1_wordOfCharacters_51 : decode cX1_wordOfCharacters 51 = .ok (.iinc 2 1, 3) := by decide +kernel
theorem dX1_wordOfCharacters_54 : decode cX1_wordOfCharacters 54 = .ok (.goto (-39), 3) := by decide +kernel
theorem dX1_wordOfCharacters_57 : decode cX1_wordOfCharacters 57 = .ok (.iload_n 1, 1) := by decide +kernel
theorem dX1_wordOfCharacters_58 : decode cX1_wordOfCharacters 58 = .ok (.ireturn, 1) := by decide +kernel
theorem dX1_wordOfCodes_0 : decode cX1_wordOfCodes 0 = .ok (.iload_n 2, 1) := by decide +kernel
theorem dX1_wordOfCodes_1 : decode cX1_wordOfCodes 1 = .ok (.iload_n 1, 1) := by decide +kernel
theorem dX1_wordOfCodes_2 : decode cX1_wordOfCodes 2 = .ok (.isub, 1) := by decide +kernel
theorem dX1_wordOfCodes_3 : decode cX1_wordOfCodes 3 = .ok (.bipush 6, 2) := by decide +kernel
theorem dX1_wordOfCodes_5 : decode cX1_wordOfCodes 5 = .ok (.if_icmp .le 5, 3) := by decide +kernel
theorem dX1_wordOfCodes_8 : decode cX1_wordOfCodes 8 = .ok (.iconst 0, 1) := by decide +kernel
theorem dX1_wordOfCodes_9 : decode cX1_wordOfCodes 9 = .ok (.ireturn, 1) := by decide +kernel
theorem dX1_wordOfCodes_10 : decode cX1_wordOfCodes 10 = .ok (.iconst 0, 1) := by decide +kernel
theorem dX1_wordOfCodes_11 : decode cX1_wordOfCodes 11 = .ok (.istore_n 3, 1) := by decide +kernel
theorem dX1_wordOfCodes_12 : decode cX1_wordOfCodes 12 = .ok (.iload_n 1, 1) := by decide +kernel
theorem dX1_wordOfCodes_13 : decode cX1_wordOfCodes 13 = .ok (.istore 4, 2) := by decide +kernel
theorem dX1_wordOfCodes_15 : decode cX1_wordOfCodes 15 = .ok (.iload 4, 2) := by decide +kernel
theorem dX1_wordOfCodes_17 : decode cX1_wordOfCodes 17 = .ok (.iload_n 2, 1) := by decide +kernel
theorem dX1_wordOfCodes_18 : decode cX1_wordOfCodes 18 = .ok (.if_icmp .ge 25, 3) := by decide +kernel
theorem dX1_wordOfCodes_21 : decode cX1_wordOfCodes 21 = .ok (.iload_n 3, 1) := by decide +kernel
theorem dX1_wordOfCodes_22 : decode cX1_wordOfCodes 22 = .ok (.aload_n 0, 1) := by decide +kernel
theorem dX1_wordOfCodes_23 : decode cX1_wordOfCodes 23 = .ok (.iload 4, 2) := by decide +kernel
theorem dX1_wordOfCodes_25 : decode cX1_wordOfCodes 25 = .ok (.invokevirtual 24, 3) := by decide +kernel
theorem dX1_wordOfCodes_28 : decode cX1_wordOfCodes 28 = .ok (.iconst 5, 1) := by decide +kernel
theorem dX1_wordOfCodes_29 : decode cX1_wordOfCodes 29 = .ok (.iload 4, 2) := by decide +kernel
theorem dX1_wordOfCodes_31 : decode cX1_wordOfCodes 31 = .ok (.iload_n 1, 1) := by decide +kernel
theorem dX1_wordOfCodes_32 : decode cX1_wordOfCodes 32 = .ok (.isub, 1) := by decide +kernel
theorem dX1_wordOfCodes_33 : decode cX1_wordOfCodes 33 = .ok (.imul, 1) := by decide +kernel
theorem dX1_wordOfCodes_34 : decode cX1_wordOfCodes 34 = .ok (.ishl, 1) := by decide +kernel
theorem dX1_wordOfCodes_35 : decode cX1_wordOfCodes 35 = .ok (.ior, 1) := by decide +kernel
theorem dX1_wordOfCodes_36 : decode cX1_wordOfCodes 36 = .ok (.istore_n 3, 1) := by decide +kernel
theorem dX1_wordOfCodes_37 : decode cX1_wordOfCodes 37 = .ok (.iinc 4 1, 3) := by decide +kernel
theorem dX1_wordOfCodes_40 : decode cX1_wordOfCodes 40 = .ok (.goto (-25), 3) := by decide +kernel
theorem dX1_wordOfCodes_43 : decode cX1_wordOfCodes 43 = .ok (.iload_n 3, 1) := by decide +kernel
theorem dX1_wordOfCodes_44 : decode cX1_wordOfCodes 44 = .ok (.ireturn, 1) := by decide +kernel
theorem dX1_areDigits_0 : decode cX1_areDigits 0 = .ok (.iload_n 1, 1) := by decide +kernel
theorem dX1_areDigits_1 : decode cX1_areDigits 1 = .ok (.istore_n 3, 1) := by decide +kernel
theorem dX1_areDigits_2 : decode cX1_areDigits 2 = .ok (.iload_n 3, 1) := by decide +kernel
theorem dX1_areDigits_3 : decode cX1_areDigits 3 = .ok (.iload_n 2, 1) := by decide +kernel
theorem dX1_areDigits_4 : decode cX1_areDigits 4 = .ok (.if_icmp .ge 22, 3) := by decide +kernel
theorem dX1_areDigits_7 : decode cX1_areDigits 7 = .ok (.aload_n 0, 1) := by decide +kernel
theorem dX1_areDigits_8 : decode cX1_areDigits 8 = .ok (.iload_n 3, 1) := by decide +kernel
theorem dX1_areDigits_9 : decode cX1_areDigits 9 = .ok (.invokevirtual 24, 3) := by decide +kernel
theorem dX1_areDigits_12 : decode cX1_areDigits 12 = .ok (.invokestatic 37, 3) := by decide +kernel
theorem dX1_areDigits_15 : decode cX1_areDigits 15 = .ok (.ifCond .ne 5, 3) := by decide +kernel
theorem dX1_areDigits_18 : decode cX1_areDigits 18 = .ok (.iconst 0, 1) := by decide +kernel
theorem dX1_areDigits_19 : decode cX1_areDigits 19 = .ok (.ireturn, 1) := by decide +kernel
theorem dX1_areDigits_20 : decode cX1_areDigits 20 = .ok (.iinc 3 1, 3) := by decide +kernel
theorem dX1_areDigits_23 : decode cX1_areDigits 23 = .ok (.goto (-21), 3) := by decide +kernel
theorem dX1_areDigits_26 : decode cX1_areDigits 26 = .ok (.iconst 1, 1) := by decide +kernel
theorem dX1_areDigits_27 : decode cX1_areDigits 27 = .ok (.ireturn, 1) := by decide +kernel
theorem dX1_findSegment_0 : decode cX1_findSegment 0 = .ok (.aload_n 1, 1) := by decide +kernel
theorem dX1_findSegment_1 : decode cX1_findSegment 1 = .ok (.iload_n 2, 1) := by decide +kernel
theorem dX1_findSegment_2 : decode cX1_findSegment 2 = .ok (.iload_n 3, 1) := by decide +kernel
theorem dX1_findSegment_3 : decode cX1_findSegment 3 = .ok (.invokestatic 40, 3) := by decide +kernel
theorem dX1_findSegment_6 : decode cX1_findSegment 6 = .ok (.istore 4, 2) := by decide +kernel
theorem dX1_findSegment_8 : decode cX1_findSegment 8 = .ok (.iload 4, 2) := by decide +kernel
theorem dX1_findSegment_10 : decode cX1_findSegment 10 = .ok (.ifCond .ne 7, 3) := by decide +kernel
theorem dX1_findSegment_13 : decode cX1_findSegment 13 = .ok (.iconst (-1), 1) := by decide +kernel
theorem dX1_findSegment_14 : decode cX1_findSegment 14 = .ok (.goto 12, 3) := by decide +kernel
theorem dX1_findSegment_17 : decode cX1_findSegment 17 = .ok (.aload_n 0, 1) := by decide +kernel
theorem dX1_findSegment_18 : decode cX1_findSegment 18 = .ok (.getfield 14, 3) := by decide +kernel
theorem dX1_findSegment_21 : decode cX1_findSegment 21 = .ok (.iload 4, 2) := by decide +kernel
theorem dX1_findSegment_23 : decode cX1_findSegment 23 = .ok (.invokevirtual 44, 3) := by decide +kernel
theorem dX1_findSegment_26 : decode cX1_findSegment 26 = .ok (.ireturn, 1) := by decide +kernel
theorem dX1_codeOfLetter_0 : decode cX1_codeOfLetter 0 = .ok (.aload_n 0, 1) := by decide +kernel
theorem dX1_codeOfLetter_1 : decode cX1_codeOfLetter 1 = .ok (.getfield 14, 3) := by decide +kernel
theorem dX1_codeOfLetter_4 : decode cX1_codeOfLetter 4 = .ok (.iload_n 1, 1) := by decide +kernel
theorem dX1_codeOfLetter_5 : decode cX1_codeOfLetter 5 = .ok (.invokevirtual 24, 3) := by decide +kernel
theorem dX1_codeOfLetter_8 : decode cX1_codeOfLetter 8 = .ok (.iconst 5, 1) := by decide +kernel
theorem dX1_codeOfLetter_9 : decode cX1_codeOfLetter 9 = .ok (.iload_n 2, 1) := by decide +kernel
theorem dX1_codeOfLetter_10 : decode cX1_codeOfLetter 10 = .ok (.imul, 1) := by decide +kernel
theorem dX1_codeOfLetter_11 : decode cX1_codeOfLetter 11 = .ok (.ishr, 1) := by decide +kernel
theorem dX1_codeOfLetter_12 : decode cX1_codeOfLetter 12 = .ok (.bipush 31, 2) := by decide +kernel
theorem dX1_codeOfLetter_14 : decode cX1_codeOfLetter 14 = .ok (.iand, 1) := by decide +kernel
theorem dX1_codeOfLetter_15 : decode cX1_codeOfLetter 15 = .ok (.ireturn, 1) := by decide +kernel
theorem dX1_lengthOf_0 : decode cX1_lengthOf 0 = .ok (.iconst 0, 1) := by decide +kernel
theorem dX1_lengthOf_1 : decode cX1_lengthOf 1 = .ok (.istore_n 2, 1) := by decide +kernel
theorem dX1_lengthOf_2 : decode cX1_lengthOf 2 = .ok (.iconst 0, 1) := by decide +kernel
theorem dX1_lengthOf_3 : decode cX1_lengthOf 3 = .ok (.istore_n 3, 1) := by decide +kernel
theorem dX1_lengthOf_4 : decode cX1_lengthOf 4 = .ok (.iload_n 3, 1) := by decide +kernel
theorem dX1_lengthOf_5 : decode cX1_lengthOf 5 = .ok (.bipush 6, 2) := by decide +kernel
theorem dX1_lengthOf_7 : decode cX1_lengthOf 7 = .ok (.if_icmp .ge 21, 3) := by decide +kernel
theorem dX1_lengthOf_10 : decode cX1_lengthOf 10 = .ok (.aload_n 0, 1) := by decide +kernel
theorem dX1_lengthOf_11 : decode cX1_lengthOf 11 = .ok (.iload_n 1, 1) := by decide +kernel
theorem dX1_lengthOf_12 : decode cX1_lengthOf 12 = .ok (.iload_n 3, 1) := by decide +kernel
theorem dX1_lengthOf_13 : decode cX1_lengthOf 13 = .ok (.invokevirtual 47, 3) := by decide +kernel
theorem dX1_lengthOf_16 : decode cX1_lengthOf 16 = .ok (.ifCond .eq 6, 3) := by decide +kernel
theorem dX1_lengthOf_19 : decode cX1_lengthOf 19 = .ok (.iinc 2 1, 3) := by decide +kernel
theorem dX1_lengthOf_22 : decode cX1_lengthOf 22 = .ok (.iinc 3 1, 3) := by decide +kernel
theorem dX1_lengthOf_25 : decode cX1_lengthOf 25 = .ok (.goto (-21), 3) := by decide +kernel
theorem dX1_lengthOf_28 : decode cX1_lengthOf 28 = .ok (.iload_n 2, 1) := by decide +kernel
theorem dX1_lengthOf_29 : decode cX1_lengthOf 29 = .ok (.ireturn, 1) := by decide +kernel
theorem dX1_kindOf_0 : decode cX1_kindOf 0 = .ok (.aload_n 0, 1) := by decide +kernel
theorem dX1_kindOf_1 : decode cX1_kindOf 1 = .ok (.aload_n 1, 1) := by decide +kernel
theorem dX1_kindOf_2 : decode cX1_kindOf 2 = .ok (.iload_n 2, 1) := by decide +kernel
theorem dX1_kindOf_3 : decode cX1_kindOf 3 = .ok (.iload_n 3, 1) := by decide +kernel
theorem dX1_kindOf_4 : decode cX1_kindOf 4 = .ok (.invokevirtual 51, 3) := by decide +kernel
theorem dX1_kindOf_7 : decode cX1_kindOf 7 = .ok (.iconst (-1), 1) := by decide +kernel
theorem dX1_kindOf_8 : decode cX1_kindOf 8 = .ok (.if_icmp .eq 7, 3) := by decide +kernel
theorem dX1_kindOf_11 : decode cX1_kindOf 11 = .ok (.iconst 1, 1) := by decide +kernel
theorem dX1_kindOf_12 : decode cX1_kindOf 12 = .ok (.goto 4, 3) := by decide +kernel
theorem dX1_kindOf_15 : decode cX1_kindOf 15 = .ok (.iconst 0, 1) := by decide +kernel
theorem dX1_kindOf_16 : decode cX1_kindOf 16 = .ok (.istore 5, 2) := by decide +kernel
theorem dX1_kindOf_18 : decode cX1_kindOf 18 = .ok (.aload_n 1, 1) := by decide +kernel
theorem dX1_kindOf_19 : decode cX1_kindOf 19 = .ok (.iload_n 2, 1) := by decide +kernel
theorem dX1_kindOf_20 : decode cX1_kindOf 20 = .ok (.iload_n 3, 1) := by decide +kernel
theorem dX1_kindOf_21 : decode cX1_kindOf 21 = .ok (.invokestatic 54, 3) := by decide +kernel
theorem dX1_kindOf_24 : decode cX1_kindOf 24 = .ok (.istore 6, 2) := by decide +kernel
theorem dX1_kindOf_26 : decode cX1_kindOf 26 = .ok (.iload 4, 2) := by decide +kernel
theorem dX1_kindOf_28 : decode cX1_kindOf 28 = .ok (.ifCond .ne 11, 3) := by decide +kernel
theorem dX1_kindOf_31 : decode cX1_kindOf 31 = .ok (.iload 5, 2) := by decide +kernel
theorem dX1_kindOf_33 : decode cX1_kindOf 33 = .ok (.ifCond .eq 14, 3) := by decide +kernel
theorem dX1_kindOf_36 : decode cX1_kindOf 36 = .ok (.goto 8, 3) := by decide +kernel
theorem dX1_kindOf_39 : decode cX1_kindOf 39 = .ok (.iload 6, 2) := by decide +kernel
theorem dX1_kindOf_41 : decode cX1_kindOf 41 = .ok (.ifCond .eq 6, 3) := by decide +kernel
theorem dX1_kindOf_44 : decode cX1_kindOf 44 = .ok (.iload 4, 2) := by decide +kernel
theorem dX1_kindOf_46 : decode cX1_kindOf 46 = .ok (.ireturn, 1) := by decide +kernel
theorem dX1_kindOf_47 : decode cX1_kindOf 47 = .ok (.iload 5, 2) := by decide +kernel
theorem dX1_kindOf_49 : decode cX1_kindOf 49 = .ok (.ifCond .eq 5, 3) := by decide +kernel
theorem dX1_kindOf_52 : decode cX1_kindOf 52 = .ok (.iconst 2, 1) := by decide +kernel
theorem dX1_kindOf_53 : decode cX1_kindOf 53 = .ok (.ireturn, 1) := by decide +kernel
theorem dX1_kindOf_54 : decode cX1_kindOf 54 = .ok (.iload 6, 2) := by decide +kernel
theorem dX1_kindOf_56 : decode cX1_kindOf 56 = .ok (.ifCond .eq 7, 3) := by decide +kernel
theorem dX1_kindOf_59 : decode cX1_kindOf 59 = .ok (.iconst 3, 1) := by decide +kernel
theorem dX1_kindOf_60 : decode cX1_kindOf 60 = .ok (.goto 7, 3) := by decide +kernel
theorem dX1_kindOf_63 : decode cX1_kindOf 63 = .ok (.iload 4, 2) := by decide +kernel
theorem dX1_kindOf_65 : decode cX1_kindOf 65 = .ok (.iconst 4, 1) := by decide +kernel
theorem dX1_kindOf_66 : decode cX1_kindOf 66 = .ok (.iadd, 1) := by decide +kernel
theorem dX1_kindOf_67 : decode cX1_kindOf 67 = .ok (.ireturn, 1) := by decide +kernel
theorem dX1_shiftOfKind_0 : decode cX1_shiftOfKind 0 = .ok (.iload_n 0, 1) := by decide +kernel
theorem dX1_shiftOfKind_1 : decode cX1_shiftOfKind 1 = .ok (.iconst 1, 1) := by decide +kernel
theorem dX1_shiftOfKind_2 : decode cX1_shiftOfKind 2 = .ok (.iand, 1) := by decide +kernel
theorem dX1_shiftOfKind_3 : decode cX1_shiftOfKind 3 = .ok (.ireturn, 1) := by decide +kernel
theorem dX1_isDoubtful_0 : decode cX1_isDoubtful 0 = .ok (.aload_n 0, 1) := by decide +kernel
theorem dX1_isDoubtful_1 : decode cX1_isDoubtful 1 = .ok (.aload_n 1, 1) := by decide +kernel
theorem dX1_isDoubtful_2 : decode cX1_isDoubtful 2 = .ok (.iload_n 2, 1) := by decide +kernel
theorem dX1_isDoubtful_3 : decode cX1_isDoubtful 3 = .ok (.iload_n 3, 1) := by decide +kernel
theorem dX1_isDoubtful_4 : decode cX1_isDoubtful 4 = .ok (.invokevirtual 51, 3) := by decide +kernel
theorem dX1_isDoubtful_7 : decode cX1_isDoubtful 7 = .ok (.iconst (-1), 1) := by decide +kernel
theorem dX1_isDoubtful_8 : decode cX1_isDoubtful 8 = .ok (.if_icmp .ne 16, 3) := by decide +kernel
theorem dX1_isDoubtful_11 : decode cX1_isDoubtful 11 = .ok (.aload_n 1, 1) := by decide +kernel
theorem dX1_isDoubtful_12 : decode cX1_isDoubtful 12 = .ok (.iload_n 2, 1) := by decide +kernel
theorem dX1_isDoubtful_13 : decode cX1_isDoubtful 13 = .ok (.iload_n 3, 1) := by decide +kernel
theorem dX1_isDoubtful_14 : decode cX1_isDoubtful 14 = .ok (.invokestatic 54, 3) := by decide +kernel
theorem dX1_isDoubtful_17 : decode cX1_isDoubtful 17 = .ok (.ifCond .ne 7, 3) := by decide +kernel
theorem dX1_isDoubtful_20 : decode cX1_isDoubtful 20 = .ok (.iconst 1, 1) := by decide +kernel
theorem dX1_isDoubtful_21 : decode cX1_isDoubtful 21 = .ok (.goto 4, 3) := by decide +kernel
theorem dX1_isDoubtful_24 : decode cX1_isDoubtful 24 = .ok (.iconst 0, 1) := by decide +kernel
theorem dX1_isDoubtful_25 : decode cX1_isDoubtful 25 = .ok (.ireturn, 1) := by decide +kernel
theorem dX1_doubtOf_0 : decode cX1_doubtOf 0 = .ok (.aload_n 0, 1) := by decide +kernel
theorem dX1_doubtOf_1 : decode cX1_doubtOf 1 = .ok (.aload_n 1, 1) := by decide +kernel
theorem dX1_doubtOf_2 : decode cX1_doubtOf 2 = .ok (.iload_n 2, 1) := by decide +kernel
theorem dX1_doubtOf_3 : decode cX1_doubtOf 3 = .ok (.iload_n 3, 1) := by decide +kernel
theorem dX1_doubtOf_4 : decode cX1_doubtOf 4 = .ok (.invokevirtual 58, 3) := by decide +kernel
theorem dX1_doubtOf_7 : decode cX1_doubtOf 7 = .ok (.ifCond .eq 7, 3) := by decide +kernel
theorem dX1_doubtOf_10 : decode cX1_doubtOf 10 = .ok (.iconst 1, 1) := by decide +kernel
theorem dX1_doubtOf_11 : decode cX1_doubtOf 11 = .ok (.goto 4, 3) := by decide +kernel
theorem dX1_doubtOf_14 : decode cX1_doubtOf 14 = .ok (.iconst 0, 1) := by decide +kernel
theorem dX1_doubtOf_15 : decode cX1_doubtOf 15 = .ok (.ireturn, 1) := by decide +kernel
theorem dX1_firstRepairingCut_0 : decode cX1_firstRepairingCut 0 = .ok (.iload_n 2, 1) := by decide +kernel
theorem dX1_firstRepairingCut_1 : decode cX1_firstRepairingCut 1 = .ok (.iconst 1, 1) := by decide +kernel
theorem dX1_firstRepairingCut_2 : decode cX1_firstRepairingCut 2 = .ok (.iadd, 1) := by decide +kernel
theorem dX1_firstRepairingCut_3 : decode cX1_firstRepairingCut 3 = .ok (.istore 4, 2) := by decide +kernel
theorem dX1_firstRepairingCut_5 : decode cX1_firstRepairingCut 5 = .ok (.iload 4, 2) := by decide +kernel
theorem dX1_firstRepairingCut_7 : decode cX1_firstRepairingCut 7 = .ok (.iload_n 3, 1) := by decide +kernel
theorem dX1_firstRepairingCut_8 : decode cX1_firstRepairingCut 8 = .ok (.if_icmp .ge 34, 3) := by decide +kernel
theorem dX1_firstRepairingCut_11 : decode cX1_firstRepairingCut 11 = .ok (.aload_n 0, 1) := by decide +kernel
theorem dX1_firstRepairingCut_12 : decode cX1_firstRepairingCut 12 = .ok (.aload_n 1, 1) := by decide +kernel
theorem dX1_firstRepairingCut_13 : decode cX1_firstRepairingCut 13 = .ok (.iload_n 2, 1) := by decide +kernel
theorem dX1_firstRepairingCut_14 : decode cX1_firstRepairingCut 14 = .ok (.iload 4, 2) := by decide +kernel
theorem dX1_firstRepairingCut_16 : decode cX1_firstRepairingCut 16 = .ok (.invokevirtual 58, 3) := by decide +kernel
theorem dX1_firstRepairingCut_19 : decode cX1_firstRepairingCut 19 = .ok (.ifCond .ne 17, 3) := by decide +kernel
theorem dX1_firstRepairingCut_22 : decode cX1_firstRepairingCut 22 = .ok (.aload_n 0, 1) := by decide +kernel
theorem dX1_firstRepairingCut_23 : decode cX1_firstRepairingCut 23 = .ok (.aload_n 1, 1) := by decide +kernel
theorem dX1_firstRepairingCut_24 : decode cX1_firstRepairingCut 24 = .ok (.iload 4, 2) := by decide +kernel
theorem dX1_firstRepairingCut_26 : decode cX1_firstRepairingCut 26 = .ok (.iload_n 3, 1) := by decide +kernel
theorem dX1_firstRepairingCut_27 : decode cX1_firstRepairingCut 27 = .ok (.invokevirtual 58, 3) := by decide +kernel
theorem dX1_firstRepairingCut_30 : decode cX1_firstRepairingCut 30 = .ok (.ifCond .ne 6, 3) := by decide +kernel
theorem dX1_firstRepairingCut_33 : decode cX1_firstRepairingCut 33 = .ok (.iload 4, 2) := by decide +kernel
theorem dX1_firstRepairingCut_35 : decode cX1_firstRepairingCut 35 = .ok (.ireturn, 1) := by decide +kernel
theorem dX1_firstRepairingCut_36 : decode cX1_firstRepairingCut 36 = .ok (.iinc 4 1, 3) := by decide +kernel
theorem dX1_firstRepairingCut_39 : decode cX1_firstRepairingCut 39 = .ok (.goto (-34), 3) := by decide +kernel
theorem dX1_firstRepairingCut_42 : decode cX1_firstRepairingCut 42 = .ok (.iconst (-1), 1) := by decide +kernel
theorem dX1_firstRepairingCut_43 : decode cX1_firstRepairingCut 43 = .ok (.ireturn, 1) := by decide +kernel
theorem dX2_init_0 : decode cX2_init 0 = .ok (.aload_n 0, 1) := by decide +kernel
theorem dX2_init_1 : decode cX2_init 1 = .ok (.invokespecial 3, 3) := by decide +kernel
theorem dX2_init_4 : decode cX2_init 4 = .ok (.aload_n 0, 1) := by decide +kernel
theorem dX2_init_5 : decode cX2_init 5 = .ok (.bipush 6, 2) := by decide +kernel
theorem dX2_init_7 : decode cX2_init 7 = .ok (.anewarray 9, 3) := by decide +kernel
theorem dX2_init_10 : decode cX2_init 10 = .ok (.putfield 11, 3) := by decide +kernel
theorem dX2_init_13 : decode cX2_init 13 = .ok (.iconst 0, 1) := by decide +kernel
theorem dX2_init_14 : decode cX2_init 14 = .ok (.istore_n 1, 1) := by decide +kernel
theorem dX2_init_15 : decode cX2_init 15 = .ok (.iload_n 1, 1) := by decide +kernel
theorem dX2_init_16 : decode cX2_init 16 = .ok (.aload_n 0, 1) := by decide +kernel
theorem dX2_init_17 : decode cX2_init 17 = .ok (.getfield 11, 3) := by decide +kernel
theorem dX2_init_20 : decode cX2_init 20 = .ok (.arraylength, 1) := by decide +kernel
theorem dX2_init_21 : decode cX2_init 21 = .ok (.if_icmp .ge 22, 3) := by decide +kernel
theorem dX2_init_24 : decode cX2_init 24 = .ok (.aload_n 0, 1) := by decide +kernel
theorem dX2_init_25 : decode cX2_init 25 = .ok (.getfield 11, 3) := by decide +kernel
theorem dX2_init_28 : decode cX2_init 28 = .ok (.iload_n 1, 1) := by decide +kernel
theorem dX2_init_29 : decode cX2_init 29 = .ok (.new 9, 3) := by decide +kernel
theorem dX2_init_32 : decode cX2_init 32 = .ok (.dup, 1) := by decide +kernel
theorem dX2_init_33 : decode cX2_init 33 = .ok (.invokespecial 17, 3) := by decide +kernel
theorem dX2_init_36 : decode cX2_init 36 = .ok (.aastore, 1) := by decide +kernel
theorem dX2_init_37 : decode cX2_init 37 = .ok (.iinc 1 1, 3) := by decide +kernel
theorem dX2_init_40 : decode cX2_init 40 = .ok (.goto (-25), 3) := by decide +kernel
theorem dX2_init_43 : decode cX2_init 43 = .ok (.return_, 1) := by decide +kernel
theorem dX2_save_0 : decode cX2_save 0 = .ok (.aload_n 0, 1) := by decide +kernel
theorem dX2_save_1 : decode cX2_save 1 = .ok (.getfield 18, 3) := by decide +kernel
theorem dX2_save_4 : decode cX2_save 4 = .ok (.aload_n 0, 1) := by decide +kernel
theorem dX2_save_5 : decode cX2_save 5 = .ok (.getfield 11, 3) := by decide +kernel
theorem dX2_save_8 : decode cX2_save 8 = .ok (.arraylength, 1) := by decide +kernel
theorem dX2_save_9 : decode cX2_save 9 = .ok (.if_icmp .lt 7, 3) := by decide +kernel
theorem dX2_save_12 : decode cX2_save 12 = .ok (.aload_n 0, 1) := by decide +kernel
theorem dX2_save_13 : decode cX2_save 13 = .ok (.invokevirtual 22, 3) := by decide +kernel
theorem dX2_save_16 : decode cX2_save 16 = .ok (.aload_n 0, 1) := by decide +kernel
theorem dX2_save_17 : decode cX2_save 17 = .ok (.aload_n 0, 1) := by decide +kernel
theorem dX2_save_18 : decode cX2_save 18 = .ok (.getfield 18, 3) := by decide +kernel
theorem dX2_save_21 : decode cX2_save 21 = .ok (.invokevirtual 25, 3) := by decide +kernel
theorem dX2_save_24 : decode cX2_save 24 = .ok (.astore_n 3, 1) := by decide +kernel
theorem dX2_save_25 : decode cX2_save 25 = .ok (.aload_n 3, 1) := by decide +kernel
theorem dX2_save_26 : decode cX2_save 26 = .ok (.ifnull 19, 3) := by decide +kernel
theorem dX2_save_29 : decode cX2_save 29 = .ok (.aload_n 3, 1) := by decide +kernel
theorem dX2_save_30 : decode cX2_save 30 = .ok (.aload_n 1, 1) := by decide +kernel
theorem dX2_save_31 : decode cX2_save 31 = .ok (.aload_n 2, 1) := by decide +kernel
theorem dX2_save_32 : decode cX2_save 32 = .ok (.invokevirtual 29, 3) := by decide +kernel
theorem dX2_save_35 : decode cX2_save 35 = .ok (.aload_n 0, 1) := by decide +kernel
theorem dX2_save_36 : decode cX2_save 36 = .ok (.dup, 1) := by decide +kernel
theorem dX2_save_37 : decode cX2_save 37 = .ok (.getfield 18, 3) := by decide +kernel
theorem dX2_save_40 : decode cX2_save 40 = .ok (.iconst 1, 1) := by decide +kernel
theorem dX2_save_41 : decode cX2_save 41 = .ok (.iadd, 1) := by decide +kernel
theorem dX2_save_42 : decode cX2_save 42 = .ok (.putfield 18, 3) := by decide +kernel
theorem dX2_save_45 : decode cX2_save 45 = .ok (.return_, 1) := by decide +kernel
theorem dX2_restore_0 : decode cX2_restore 0 = .ok (.aload_n 0, 1) := by decide +kernel
theorem dX2_restore_1 : decode cX2_restore 1 = .ok (.aload_n 0, 1) := by decide +kernel
theorem dX2_restore_2 : decode cX2_restore 2 = .ok (.getfield 18, 3) := by decide +kernel
theorem dX2_restore_5 : decode cX2_restore 5 = .ok (.iconst 1, 1) := by decide +kernel
theorem dX2_restore_6 : decode cX2_restore 6 = .ok (.isub, 1) := by decide +kernel
theorem dX2_restore_7 : decode cX2_restore 7 = .ok (.invokevirtual 25, 3) := by decide +kernel
theorem dX2_restore_10 : decode cX2_restore 10 = .ok (.astore_n 3, 1) := by decide +kernel
theorem dX2_restore_11 : decode cX2_restore 11 = .ok (.aload_n 3, 1) := by decide +kernel
theorem dX2_restore_12 : decode cX2_restore 12 = .ok (.ifnull 19, 3) := by decide +kernel
theorem dX2_restore_15 : decode cX2_restore 15 = .ok (.aload_n 3, 1) := by decide +kernel
theorem dX2_restore_16 : decode cX2_restore 16 = .ok (.aload_n 1, 1) := by decide +kernel
theorem dX2_restore_17 : decode cX2_restore 17 = .ok (.aload_n 2, 1) := by decide +kernel
theorem dX2_restore_18 : decode cX2_restore 18 = .ok (.invokevirtual 33, 3) := by decide +kernel
theorem dX2_restore_21 : decode cX2_restore 21 = .ok (.aload_n 0, 1) := by decide +kernel
theorem dX2_restore_22 : decode cX2_restore 22 = .ok (.dup, 1) := by decide +kernel
theorem dX2_restore_23 : decode cX2_restore 23 = .ok (.getfield 18, 3) := by decide +kernel
theorem dX2_restore_26 : decode cX2_restore 26 = .ok (.iconst 1, 1) := by decide +kernel
theorem dX2_restore_27 : decode cX2_restore 27 = .ok (.isub, 1) := by decide +kernel
theorem dX2_restore_28 : decode cX2_restore 28 = .ok (.putfield 18, 3) := by decide +kernel
theorem dX2_restore_31 : decode cX2_restore 31 = .ok (.return_, 1) := by decide +kernel
theorem dX2_stateAt_0 : decode cX2_stateAt 0 = .ok (.iload_n 1, 1) := by decide +kernel
theorem dX2_stateAt_1 : decode cX2_stateAt 1 = .ok (.ifCond .lt 21, 3) := by decide +kernel
theorem dX2_stateAt_4 : decode cX2_stateAt 4 = .ok (.iload_n 1, 1) := by decide +kernel
theorem dX2_stateAt_5 : decode cX2_stateAt 5 = .ok (.aload_n 0, 1) := by decide +kernel
theorem dX2_stateAt_6 : decode cX2_stateAt 6 = .ok (.getfield 11, 3) := by decide +kernel
theorem dX2_stateAt_9 : decode cX2_stateAt 9 = .ok (.arraylength, 1) := by decide +kernel
theorem dX2_stateAt_10 : decode cX2_stateAt 10 = .ok (.if_icmp .ge 12, 3) := by decide +kernel
theorem dX2_stateAt_13 : decode cX2_stateAt 13 = .ok (.aload_n 0, 1) := by decide +kernel
theorem dX2_stateAt_14 : decode cX2_stateAt 14 = .ok (.getfield 11, 3) := by decide +kernel
theorem dX2_stateAt_17 : decode cX2_stateAt 17 = .ok (.iload_n 1, 1) := by decide +kernel
theorem dX2_stateAt_18 : decode cX2_stateAt 18 = .ok (.aaload, 1) := by decide +kernel
theorem dX2_stateAt_19 : decode cX2_stateAt 19 = .ok (.goto 4, 3) := by decide +kernel
theorem dX2_stateAt_23 : decode cX2_stateAt 23 = .ok (.areturn, 1) := by decide +kernel
theorem dX2_discardOldest_0 : decode cX2_discardOldest 0 = .ok (.aload_n 0, 1) := by decide +kernel
theorem dX2_discardOldest_1 : decode cX2_discardOldest 1 = .ok (.iconst 0, 1) := by decide +kernel
theorem dX2_discardOldest_2 : decode cX2_discardOldest 2 = .ok (.invokevirtual 25, 3) := by decide +kernel
theorem dX2_discardOldest_5 : decode cX2_discardOldest 5 = .ok (.astore_n 1, 1) := by decide +kernel
theorem dX2_discardOldest_6 : decode cX2_discardOldest 6 = .ok (.iconst 1, 1) := by decide +kernel
theorem dX2_discardOldest_7 : decode cX2_discardOldest 7 = .ok (.istore_n 2, 1) := by decide +kernel
theorem dX2_discardOldest_8 : decode cX2_discardOldest 8 = .ok (.iload_n 2, 1) := by decide +kernel
theorem dX2_discardOldest_9 : decode cX2_discardOldest 9 = .ok (.aload_n 0, 1) := by decide +kernel
theorem dX2_discardOldest_10 : decode cX2_discardOldest 10 = .ok (.getfield 11, 3) := by decide +kernel
theorem dX2_discardOldest_13 : decode cX2_discardOldest 13 = .ok (.arraylength, 1) := by decide +kernel
theorem dX2_discardOldest_14 : decode cX2_discardOldest 14 = .ok (.if_icmp .ge 23, 3) := by decide +kernel
theorem dX2_discardOldest_17 : decode cX2_discardOldest 17 = .ok (.aload_n 0, 1) := by decide +kernel
theorem dX2_discardOldest_18 : decode cX2_discardOldest 18 = .ok (.getfield 11, 3) := by decide +kernel
theorem dX2_discardOldest_21 : decode cX2_discardOldest 21 = .ok (.iload_n 2, 1) := by decide +kernel
theorem dX2_discardOldest_22 : decode cX2_discardOldest 22 = .ok (.iconst 1, 1) := by decide +kernel
theorem dX2_discardOldest_23 : decode cX2_discardOldest 23 = .ok (.isub, 1) := by decide +kernel
theorem dX2_discardOldest_24 : decode cX2_discardOldest 24 = .ok (.aload_n 0, 1) := by decide +kernel
theorem dX2_discardOldest_25 : decode cX2_discardOldest 25 = .ok (.getfield 11, 3) := by decide +kernel
theorem dX2_discardOldest_28 : decode cX2_discardOldest 28 = .ok (.iload_n 2, 1) := by decide +kernel
theorem dX2_discardOldest_29 : decode cX2_discardOldest 29 = .ok (.aaload, 1) := by decide +kernel
theorem dX2_discardOldest_30 : decode cX2_discardOldest 30 = .ok (.aastore, 1) := by decide +kernel
theorem dX2_discardOldest_31 : decode cX2_discardOldest 31 = .ok (.iinc 2 1, 3) := by decide +kernel
theorem dX2_discardOldest_34 : decode cX2_discardOldest 34 = .ok (.goto (-26), 3) := by decide +kernel
theorem dX2_discardOldest_37 : decode cX2_discardOldest 37 = .ok (.aload_n 0, 1) := by decide +kernel
theorem dX2_discardOldest_38 : decode cX2_discardOldest 38 = .ok (.aload_n 0, 1) := by decide +kernel
theorem dX2_discardOldest_39 : decode cX2_discardOldest 39 = .ok (.getfield 11, 3) := by decide +kernel
theorem dX2_discardOldest_42 : decode cX2_discardOldest 42 = .ok (.arraylength, 1) := by decide +kernel
theorem dX2_discardOldest_43 : decode cX2_discardOldest 43 = .ok (.iconst 1, 1) := by decide +kernel
theorem dX2_discardOldest_44 : decode cX2_discardOldest 44 = .ok (.isub, 1) := by decide +kernel
theorem dX2_discardOldest_45 : decode cX2_discardOldest 45 = .ok (.putfield 18, 3) := by decide +kernel
theorem dX2_discardOldest_48 : decode cX2_discardOldest 48 = .ok (.aload_n 0, 1) := by decide +kernel
theorem dX2_discardOldest_49 : decode cX2_discardOldest 49 = .ok (.getfield 18, 3) := by decide +kernel
theorem dX2_discardOldest_52 : decode cX2_discardOldest 52 = .ok (.ifCond .lt 25, 3) := by decide +kernel
theorem dX2_discardOldest_55 : decode cX2_discardOldest 55 = .ok (.aload_n 0, 1) := by decide +kernel
theorem dX2_discardOldest_56 : decode cX2_discardOldest 56 = .ok (.getfield 18, 3) := by decide +kernel
theorem dX2_discardOldest_59 : decode cX2_discardOldest 59 = .ok (.aload_n 0, 1) := by decide +kernel
theorem dX2_discardOldest_60 : decode cX2_discardOldest 60 = .ok (.getfield 11, 3) := by decide +kernel
theorem dX2_discardOldest_63 : decode cX2_discardOldest 63 = .ok (.arraylength, 1) := by decide +kernel
theorem dX2_discardOldest_64 : decode cX2_discardOldest 64 = .ok (.if_icmp .ge 13, 3) := by decide +kernel
theorem dX2_discardOldest_67 : decode cX2_discardOldest 67 = .ok (.aload_n 0, 1) := by decide +kernel
theorem dX2_discardOldest_68 : decode cX2_discardOldest 68 = .ok (.getfield 11, 3) := by decide +kernel
theorem dX2_discardOldest_71 : decode cX2_discardOldest 71 = .ok (.aload_n 0, 1) := by decide +kernel
theorem dX2_discardOldest_72 : decode cX2_discardOldest 72 = .ok (.getfield 18, 3) := by decide +kernel
theorem dX2_discardOldest_75 : decode cX2_discardOldest 75 = .ok (.aload_n 1, 1) := by decide +kernel
theorem dX2_discardOldest_76 : decode cX2_discardOldest 76 = .ok (.aastore, 1) := by decide +kernel
theorem dX2_discardOldest_77 : decode cX2_discardOldest 77 = .ok (.return_, 1) := by decide +kernel
theorem dX3_init_0 : decode cX3_init 0 = .ok (.aload_n 0, 1) := by decide +kernel
theorem dX3_init_1 : decode cX3_init 1 = .ok (.invokespecial 3, 3) := by decide +kernel
theorem dX3_init_4 : decode cX3_init 4 = .ok (.aload_n 0, 1) := by decide +kernel
theorem dX3_init_5 : decode cX3_init 5 = .ok (.new 9, 3) := by decide +kernel
theorem dX3_init_8 : decode cX3_init 8 = .ok (.dup, 1) := by decide +kernel
theorem dX3_init_9 : decode cX3_init 9 = .ok (.sipush 200, 3) := by decide +kernel
theorem dX3_init_12 : decode cX3_init 12 = .ok (.invokespecial 11, 3) := by decide +kernel
theorem dX3_init_15 : decode cX3_init 15 = .ok (.putfield 14, 3) := by decide +kernel
theorem dX3_init_18 : decode cX3_init 18 = .ok (.aload_n 0, 1) := by decide +kernel
theorem dX3_init_19 : decode cX3_init 19 = .ok (.new 9, 3) := by decide +kernel
theorem dX3_init_22 : decode cX3_init 22 = .ok (.dup, 1) := by decide +kernel
theorem dX3_init_23 : decode cX3_init 23 = .ok (.sipush 200, 3) := by decide +kernel
theorem dX3_init_26 : decode cX3_init 26 = .ok (.invokespecial 11, 3) := by decide +kernel
theorem dX3_init_29 : decode cX3_init 29 = .ok (.putfield 20, 3) := by decide +kernel
theorem dX3_init_32 : decode cX3_init 32 = .ok (.aload_n 0, 1) := by decide +kernel
theorem dX3_init_33 : decode cX3_init 33 = .ok (.new 9, 3) := by decide +kernel
theorem dX3_init_36 : decode cX3_init 36 = .ok (.dup, 1) := by decide +kernel
theorem dX3_init_37 : decode cX3_init 37 = .ok (.sipush 200, 3) := by decide +kernel
theorem dX3_init_40 : decode cX3_init 40 = .ok (.invokespecial 11, 3) := by decide +kernel
theorem dX3_init_43 : decode cX3_init 43 = .ok (.putfield 23, 3) := by decide +kernel
theorem dX3_init_46 : decode cX3_init 46 = .ok (.aload_n 0, 1) := by decide +kernel
theorem dX3_init_47 : decode cX3_init 47 = .ok (.new 9, 3) := by decide +kernel
theorem dX3_init_50 : decode cX3_init 50 = .ok (.dup, 1) := by decide +kernel
theorem dX3_init_51 : decode cX3_init 51 = .ok (.sipush 200, 3) := by decide +kernel
theorem dX3_init_54 : decode cX3_init 54 = .ok (.invokespecial 11, 3) := by decide +kernel
theorem dX3_init_57 : decode cX3_init 57 = .ok (.putfield 26, 3) := by decide +kernel
theorem dX3_init_60 : decode cX3_init 60 = .ok (.aload_n 0, 1) := by decide +kernel
theorem dX3_init_61 : decode cX3_init 61 = .ok (.new 9, 3) := by decide +kernel
theorem dX3_init_64 : decode cX3_init 64 = .ok (.dup, 1) := by decide +kernel
theorem dX3_init_65 : decode cX3_init 65 = .ok (.bipush 120, 2) := by decide +kernel
theorem dX3_init_67 : decode cX3_init 67 = .ok (.invokespecial 11, 3) := by decide +kernel
theorem dX3_init_70 : decode cX3_init 70 = .ok (.putfield 29, 3) := by decide +kernel
theorem dX3_init_73 : decode cX3_init 73 = .ok (.aload_n 0, 1) := by decide +kernel
theorem dX3_init_74 : decode cX3_init 74 = .ok (.iconst 0, 1) := by decide +kernel
theorem dX3_init_75 : decode cX3_init 75 = .ok (.putfield 32, 3) := by decide +kernel
theorem dX3_init_78 : decode cX3_init 78 = .ok (.aload_n 0, 1) := by decide +kernel
theorem dX3_init_79 : decode cX3_init 79 = .ok (.getfield 26, 3) := by decide +kernel
theorem dX3_init_82 : decode cX3_init 82 = .ok (.sipush 200, 3) := by decide +kernel
theorem dX3_init_85 : decode cX3_init 85 = .ok (.iconst (-1), 1) := by decide +kernel
theorem dX3_init_86 : decode cX3_init 86 = .ok (.invokevirtual 36, 3) := by decide +kernel
theorem dX3_init_89 : decode cX3_init 89 = .ok (.return_, 1) := by decide +kernel
theorem dX3_encode_0 : decode cX3_encode 0 = .ok (.aload_n 0, 1) := by decide +kernel
theorem dX3_encode_1 : decode cX3_encode 1 = .ok (.getfield 29, 3) := by decide +kernel
theorem dX3_encode_4 : decode cX3_encode 4 = .ok (.invokevirtual 40, 3) := by decide +kernel
theorem dX3_encode_7 : decode cX3_encode 7 = .ok (.aload_n 0, 1) := by decide +kernel
theorem dX3_encode_8 : decode cX3_encode 8 = .ok (.getfield 32, 3) := by decide +kernel
theorem dX3_encode_11 : decode cX3_encode 11 = .ok (.istore_n 2, 1) := by decide +kernel
theorem dX3_encode_12 : decode cX3_encode 12 = .ok (.iconst 0, 1) := by decide +kernel
theorem dX3_encode_13 : decode cX3_encode 13 = .ok (.istore_n 3, 1) := by decide +kernel
theorem dX3_encode_14 : decode cX3_encode 14 = .ok (.iload_n 3, 1) := by decide +kernel
theorem dX3_encode_15 : decode cX3_encode 15 = .ok (.aload_n 1, 1) := by decide +kernel
theorem dX3_encode_16 : decode cX3_encode 16 = .ok (.invokevirtual 43, 3) := by decide +kernel
theorem dX3_encode_19 : decode cX3_encode 19 = .ok (.if_icmp .ge 85, 3) := by decide +kernel
theorem dX3_encode_22 : decode cX3_encode 22 = .ok (.aload_n 1, 1) := by decide +kernel
theorem dX3_encode_23 : decode cX3_encode 23 = .ok (.iload_n 3, 1) := by decide +kernel
theorem dX3_encode_24 : decode cX3_encode 24 = .ok (.invokevirtual 47, 3) := by decide +kernel
theorem dX3_encode_27 : decode cX3_encode 27 = .ok (.istore 4, 2) := by decide +kernel
theorem dX3_encode_29 : decode cX3_encode 29 = .ok (.iload 4, 2) := by decide +kernel
theorem dX3_encode_31 : decode cX3_encode 31 = .ok (.invokestatic 51, 3) := by decide +kernel
theorem dX3_encode_34 : decode cX3_encode 34 = .ok (.istore 5, 2) := by decide +kernel
theorem dX3_encode_36 : decode cX3_encode 36 = .ok (.iload 5, 2) := by decide +kernel
theorem dX3_encode_38 : decode cX3_encode 38 = .ok (.iconst (-1), 1) := by decide +kernel
theorem dX3_encode_39 : decode cX3_encode 39 = .ok (.if_icmp .eq 32, 3) := by decide +kernel
theorem dX3_encode_42 : decode cX3_encode 42 = .ok (.iload 5, 2) := by decide +kernel
theorem dX3_encode_44 : decode cX3_encode 44 = .ok (.iload_n 2, 1) := by decide +kernel
theorem dX3_encode_45 : decode cX3_encode 45 = .ok (.if_icmp .eq 26, 3) := by decide +kernel
theorem dX3_encode_48 : decode cX3_encode 48 = .ok (.aload_n 0, 1) := by decide +kernel
theorem dX3_encode_49 : decode cX3_encode 49 = .ok (.getfield 29, 3) := by decide +kernel
theorem dX3_encode_52 : decode cX3_encode 52 = .ok (.iload 5, 2) := by decide +kernel
theorem dX3_encode_54 : decode cX3_encode 54 = .ok (.iconst 1, 1) := by decide +kernel
theorem dX3_encode_55 : decode cX3_encode 55 = .ok (.if_icmp .ne 8, 3) := by decide +kernel
theorem dX3_encode_58 : decode cX3_encode 58 = .ok (.bipush 30, 2) := by decide +kernel
theorem dX3_encode_60 : decode cX3_encode 60 = .ok (.goto 5, 3) := by decide +kernel
theorem dX3_encode_63 : decode cX3_encode 63 = .ok (.bipush 31, 2) := by decide +kernel
theorem dX3_encode_65 : decode cX3_encode 65 = .ok (.invokevirtual 56, 3) := by decide +kernel
theorem dX3_encode_68 : decode cX3_encode 68 = .ok (.iload 5, 2) := by decide +kernel
theorem dX3_encode_70 : decode cX3_encode 70 = .ok (.istore_n 2, 1) := by decide +kernel
theorem dX3_encode_71 : decode cX3_encode 71 = .ok (.iload 4, 2) := by decide +kernel
theorem dX3_encode_73 : decode cX3_encode 73 = .ok (.invokestatic 59, 3) := by decide +kernel
theorem dX3_encode_76 : decode cX3_encode 76 = .ok (.istore 6, 2) := by decide +kernel
theorem dX3_encode_78 : decode cX3_encode 78 = .ok (.aload_n 0, 1) := by decide +kernel
theorem dX3_encode_79 : decode cX3_encode 79 = .ok (.getfield 29, 3) := by decide +kernel
theorem dX3_encode_82 : decode cX3_encode 82 = .ok (.iload 6, 2) := by decide +kernel
theorem dX3_encode_84 : decode cX3_encode 84 = .ok (.invokevirtual 56, 3) := by decide +kernel
theorem dX3_encode_87 : decode cX3_encode 87 = .ok (.iload 6, 2) := by decide +kernel
theorem dX3_encode_89 : decode cX3_encode 89 = .ok (.iload_n 2, 1) := by decide +kernel
theorem dX3_encode_90 : decode cX3_encode 90 = .ok (.aload_n 0, 1) := by decide +kernel
theorem dX3_encode_91 : decode cX3_encode 91 = .ok (.getfield 62, 3) := by decide +kernel
theorem dX3_encode_94 : decode cX3_encode 94 = .ok (.invokestatic 66, 3) := by decide +kernel
theorem dX3_encode_97 : decode cX3_encode 97 = .ok (.istore_n 2, 1) := by decide +kernel
theorem dX3_encode_98 : decode cX3_encode 98 = .ok (.iinc 3 1, 3) := by decide +kernel
theorem dX3_encode_101 : decode cX3_encode 101 = .ok (.goto (-87), 3) := by decide +kernel
theorem dX3_encode_104 : decode cX3_encode 104 = .ok (.aload_n 0, 1) := by decide +kernel
theorem dX3_encode_105 : decode cX3_encode 105 = .ok (.getfield 29, 3) := by decide +kernel
theorem dX3_encode_108 : decode cX3_encode 108 = .ok (.areturn, 1) := by decide +kernel
theorem dX3_transmit_0 : decode cX3_transmit 0 = .ok (.aload_n 0, 1) := by decide +kernel
theorem dX3_transmit_1 : decode cX3_transmit 1 = .ok (.aload_n 1, 1) := by decide +kernel
theorem dX3_transmit_2 : decode cX3_transmit 2 = .ok (.invokevirtual 70, 3) := by decide +kernel
theorem dX3_transmit_5 : decode cX3_transmit 5 = .ok (.astore_n 2, 1) := by decide +kernel
theorem dX3_transmit_6 : decode cX3_transmit 6 = .ok (.iconst 0, 1) := by decide +kernel
theorem dX3_transmit_7 : decode cX3_transmit 7 = .ok (.istore_n 3, 1) := by decide +kernel
theorem dX3_transmit_8 : decode cX3_transmit 8 = .ok (.iload_n 3, 1) := by decide +kernel
theorem dX3_transmit_9 : decode cX3_transmit 9 = .ok (.aload_n 2, 1) := by decide +kernel
theorem dX3_transmit_10 : decode cX3_transmit 10 = .ok (.invokevirtual 43, 3) := by decide +kernel
theorem dX3_transmit_13 : decode cX3_transmit 13 = .ok (.if_icmp .ge 18, 3) := by decide +kernel
theorem dX3_transmit_16 : decode cX3_transmit 16 = .ok (.aload_n 0, 1) := by decide +kernel
theorem dX3_transmit_17 : decode cX3_transmit 17 = .ok (.aload_n 2, 1) := by decide +kernel
theorem dX3_transmit_18 : decode cX3_transmit 18 = .ok (.iload_n 3, 1) := by decide +kernel
theorem dX3_transmit_19 : decode cX3_transmit 19 = .ok (.invokevirtual 47, 3) := by decide +kernel
theorem dX3_transmit_22 : decode cX3_transmit 22 = .ok (.invokevirtual 74, 3) := by decide +kernel
theorem dX3_transmit_25 : decode cX3_transmit 25 = .ok (.iinc 3 1, 3) := by decide +kernel
theorem dX3_transmit_28 : decode cX3_transmit 28 = .ok (.goto (-20), 3) := by decide +kernel
theorem dX3_transmit_31 : decode cX3_transmit 31 = .ok (.iconst 0, 1) := by decide +kernel
theorem dX3_transmit_32 : decode cX3_transmit 32 = .ok (.istore_n 3, 1) := by decide +kernel
theorem dX3_transmit_33 : decode cX3_transmit 33 = .ok (.iload_n 3, 1) := by decide +kernel
theorem dX3_transmit_34 : decode cX3_transmit 34 = .ok (.aload_n 1, 1) := by decide +kernel
theorem dX3_transmit_35 : decode cX3_transmit 35 = .ok (.invokevirtual 43, 3) := by decide +kernel
theorem dX3_transmit_38 : decode cX3_transmit 38 = .ok (.if_icmp .ge 35, 3) := by decide +kernel
theorem dX3_transmit_41 : decode cX3_transmit 41 = .ok (.aload_n 1, 1) := by decide +kernel
theorem dX3_transmit_42 : decode cX3_transmit 42 = .ok (.iload_n 3, 1) := by decide +kernel
theorem dX3_transmit_43 : decode cX3_transmit 43 = .ok (.invokevirtual 47, 3) := by decide +kernel
theorem dX3_transmit_46 : decode cX3_transmit 46 = .ok (.istore 4, 2) := by decide +kernel
theorem dX3_transmit_48 : decode cX3_transmit 48 = .ok (.iload 4, 2) := by decide +kernel
theorem dX3_transmit_50 : decode cX3_transmit 50 = .ok (.invokestatic 59, 3) := by decide +kernel
theorem dX3_transmit_53 : decode cX3_transmit 53 = .ok (.bipush 29, 2) := by decide +kernel
theorem dX3_transmit_55 : decode cX3_transmit 55 = .ok (.if_icmp .eq 12, 3) := by decide +kernel
theorem dX3_transmit_58 : decode cX3_transmit 58 = .ok (.aload_n 0, 1) := by decide +kernel
theorem dX3_transmit_59 : decode cX3_transmit 59 = .ok (.getfield 14, 3) := by decide +kernel
theorem dX3_transmit_62 : decode cX3_transmit 62 = .ok (.iload 4, 2) := by decide +kernel
theorem dX3_transmit_64 : decode cX3_transmit 64 = .ok (.invokevirtual 56, 3) := by decide +kernel
theorem dX3_transmit_67 : decode cX3_transmit 67 = .ok (.iinc 3 1, 3) := by decide +kernel
theorem dX3_transmit_70 : decode cX3_transmit 70 = .ok (.goto (-37), 3) := by decide +kernel
theorem dX3_transmit_73 : decode cX3_transmit 73 = .ok (.return_, 1) := by decide +kernel
theorem dX3_transmitCode_0 : decode cX3_transmitCode 0 = .ok (.aload_n 0, 1) := by decide +kernel
theorem dX3_transmitCode_1 : decode cX3_transmitCode 1 = .ok (.getfield 26, 3) := by decide +kernel
theorem dX3_transmitCode_4 : decode cX3_transmitCode 4 = .ok (.aload_n 0, 1) := by decide +kernel
theorem dX3_transmitCode_5 : decode cX3_transmitCode 5 = .ok (.getfield 20, 3) := by decide +kernel
theorem dX3_transmitCode_8 : decode cX3_transmitCode 8 = .ok (.invokevirtual 43, 3) := by decide +kernel
theorem dX3_transmitCode_11 : decode cX3_transmitCode 11 = .ok (.invokevirtual 47, 3) := by decide +kernel
theorem dX3_transmitCode_14 : decode cX3_transmitCode 14 = .ok (.istore_n 2, 1) := by decide +kernel
theorem dX3_transmitCode_15 : decode cX3_transmitCode 15 = .ok (.aload_n 0, 1) := by decide +kernel
theorem dX3_transmitCode_16 : decode cX3_transmitCode 16 = .ok (.getfield 20, 3) := by decide +kernel
theorem dX3_transmitCode_19 : decode cX3_transmitCode 19 = .ok (.iload_n 1, 1) := by decide +kernel
theorem dX3_transmitCode_20 : decode cX3_transmitCode 20 = .ok (.invokevirtual 56, 3) := by decide +kernel
theorem dX3_transmitCode_23 : decode cX3_transmitCode 23 = .ok (.aload_n 0, 1) := by decide +kernel
theorem dX3_transmitCode_24 : decode cX3_transmitCode 24 = .ok (.iload_n 1, 1) := by decide +kernel
theorem dX3_transmitCode_25 : decode cX3_transmitCode 25 = .ok (.aload_n 0, 1) := by decide +kernel
theorem dX3_transmitCode_26 : decode cX3_transmitCode 26 = .ok (.getfield 32, 3) := by decide +kernel
theorem dX3_transmitCode_29 : decode cX3_transmitCode 29 = .ok (.aload_n 0, 1) := by decide +kernel
theorem dX3_transmitCode_30 : decode cX3_transmitCode 30 = .ok (.getfield 62, 3) := by decide +kernel
theorem dX3_transmitCode_33 : decode cX3_transmitCode 33 = .ok (.invokestatic 66, 3) := by decide +kernel
theorem dX3_transmitCode_36 : decode cX3_transmitCode 36 = .ok (.putfield 32, 3) := by decide +kernel
theorem dX3_transmitCode_39 : decode cX3_transmitCode 39 = .ok (.iload_n 2, 1) := by decide +kernel
theorem dX3_transmitCode_40 : decode cX3_transmitCode 40 = .ok (.iconst (-1), 1) := by decide +kernel
theorem dX3_transmitCode_41 : decode cX3_transmitCode 41 = .ok (.if_icmp .ne 14, 3) := by decide +kernel
theorem dX3_transmitCode_44 : decode cX3_transmitCode 44 = .ok (.aload_n 0, 1) := by decide +kernel
theorem dX3_transmitCode_45 : decode cX3_transmitCode 45 = .ok (.getfield 23, 3) := by decide +kernel
theorem dX3_transmitCode_48 : decode cX3_transmitCode 48 = .ok (.iload_n 1, 1) := by decide +kernel
theorem dX3_transmitCode_49 : decode cX3_transmitCode 49 = .ok (.invokevirtual 56, 3) := by decide +kernel
theorem dX3_transmitCode_52 : decode cX3_transmitCode 52 = .ok (.goto 21, 3) := by decide +kernel
theorem dX3_transmitCode_55 : decode cX3_transmitCode 55 = .ok (.iload_n 2, 1) := by decide +kernel
theorem dX3_transmitCode_56 : decode cX3_transmitCode 56 = .ok (.ifCond .eq 17, 3) := by decide +kernel
theorem dX3_transmitCode_59 : decode cX3_transmitCode 59 = .ok (.aload_n 0, 1) := by decide +kernel
theorem dX3_transmitCode_60 : decode cX3_transmitCode 60 = .ok (.getfield 23, 3) := by decide +kernel
theorem dX3_transmitCode_63 : decode cX3_transmitCode 63 = .ok (.iload_n 1, 1) := by decide +kernel
theorem dX3_transmitCode_64 : decode cX3_transmitCode 64 = .ok (.iconst 1, 1) := by decide +kernel
theorem dX3_transmitCode_65 : decode cX3_transmitCode 65 = .ok (.iload_n 2, 1) := by decide +kernel
theorem dX3_transmitCode_66 : decode cX3_transmitCode 66 = .ok (.iconst 1, 1) := by decide +kernel
theorem dX3_transmitCode_67 : decode cX3_transmitCode 67 = .ok (.isub, 1) := by decide +kernel
theorem dX3_transmitCode_68 : decode cX3_transmitCode 68 = .ok (.ishl, 1) := by decide +kernel
theorem dX3_transmitCode_69 : decode cX3_transmitCode 69 = .ok (.ixor, 1) := by decide +kernel
theorem dX3_transmitCode_70 : decode cX3_transmitCode 70 = .ok (.invokevirtual 56, 3) := by decide +kernel
theorem dX3_transmitCode_73 : decode cX3_transmitCode 73 = .ok (.return_, 1) := by decide +kernel
theorem dX4_init_0 : decode cX4_init 0 = .ok (.aload_n 0, 1) := by decide +kernel
theorem dX4_init_1 : decode cX4_init 1 = .ok (.invokespecial 3, 3) := by decide +kernel
theorem dX4_init_4 : decode cX4_init 4 = .ok (.aload_n 0, 1) := by decide +kernel
theorem dX4_init_5 : decode cX4_init 5 = .ok (.new 9, 3) := by decide +kernel
theorem dX4_init_8 : decode cX4_init 8 = .ok (.dup, 1) := by decide +kernel
theorem dX4_init_9 : decode cX4_init 9 = .ok (.sipush 200, 3) := by decide +kernel
theorem dX4_init_12 : decode cX4_init 12 = .ok (.invokespecial 11, 3) := by decide +kernel
theorem dX4_init_15 : decode cX4_init 15 = .ok (.putfield 14, 3) := by decide +kernel
theorem dX4_init_18 : decode cX4_init 18 = .ok (.aload_n 0, 1) := by decide +kernel
theorem dX4_init_19 : decode cX4_init 19 = .ok (.new 9, 3) := by decide +kernel
theorem dX4_init_22 : decode cX4_init 22 = .ok (.dup, 1) := by decide +kernel
theorem dX4_init_23 : decode cX4_init 23 = .ok (.sipush 200, 3) := by decide +kernel
theorem dX4_init_26 : decode cX4_init 26 = .ok (.invokespecial 11, 3) := by decide +kernel
theorem dX4_init_29 : decode cX4_init 29 = .ok (.putfield 20, 3) := by decide +kernel
theorem dX4_init_32 : decode cX4_init 32 = .ok (.aload_n 0, 1) := by decide +kernel
theorem dX4_init_33 : decode cX4_init 33 = .ok (.new 9, 3) := by decide +kernel
theorem dX4_init_36 : decode cX4_init 36 = .ok (.dup, 1) := by decide +kernel
theorem dX4_init_37 : decode cX4_init 37 = .ok (.sipush 200, 3) := by decide +kernel
theorem dX4_init_40 : decode cX4_init 40 = .ok (.invokespecial 11, 3) := by decide +kernel
theorem dX4_init_43 : decode cX4_init 43 = .ok (.putfield 23, 3) := by decide +kernel
theorem dX4_init_46 : decode cX4_init 46 = .ok (.aload_n 0, 1) := by decide +kernel
theorem dX4_init_47 : decode cX4_init 47 = .ok (.new 9, 3) := by decide +kernel
theorem dX4_init_50 : decode cX4_init 50 = .ok (.dup, 1) := by decide +kernel
theorem dX4_init_51 : decode cX4_init 51 = .ok (.sipush 200, 3) := by decide +kernel
theorem dX4_init_54 : decode cX4_init 54 = .ok (.invokespecial 11, 3) := by decide +kernel
theorem dX4_init_57 : decode cX4_init 57 = .ok (.putfield 26, 3) := by decide +kernel
theorem dX4_init_60 : decode cX4_init 60 = .ok (.aload_n 0, 1) := by decide +kernel
theorem dX4_init_61 : decode cX4_init 61 = .ok (.new 9, 3) := by decide +kernel
theorem dX4_init_64 : decode cX4_init 64 = .ok (.dup, 1) := by decide +kernel
theorem dX4_init_65 : decode cX4_init 65 = .ok (.sipush 200, 3) := by decide +kernel
theorem dX4_init_68 : decode cX4_init 68 = .ok (.invokespecial 11, 3) := by decide +kernel
theorem dX4_init_71 : decode cX4_init 71 = .ok (.putfield 29, 3) := by decide +kernel
theorem dX4_init_74 : decode cX4_init 74 = .ok (.aload_n 0, 1) := by decide +kernel
theorem dX4_init_75 : decode cX4_init 75 = .ok (.iconst 0, 1) := by decide +kernel
theorem dX4_init_76 : decode cX4_init 76 = .ok (.putfield 32, 3) := by decide +kernel
theorem dX4_init_79 : decode cX4_init 79 = .ok (.return_, 1) := by decide +kernel
theorem dX4_decode_0 : decode cX4_decode 0 = .ok (.aload_n 0, 1) := by decide +kernel
theorem dX4_decode_1 : decode cX4_decode 1 = .ok (.invokevirtual 36, 3) := by decide +kernel
theorem dX4_decode_4 : decode cX4_decode 4 = .ok (.aload_n 1, 1) := by decide +kernel
theorem dX4_decode_5 : decode cX4_decode 5 = .ok (.getfield 39, 3) := by decide +kernel
theorem dX4_decode_8 : decode cX4_decode 8 = .ok (.astore_n 3, 1) := by decide +kernel
theorem dX4_decode_9 : decode cX4_decode 9 = .ok (.iconst 0, 1) := by decide +kernel
theorem dX4_decode_10 : decode cX4_decode 10 = .ok (.istore 4, 2) := by decide +kernel
theorem dX4_decode_12 : decode cX4_decode 12 = .ok (.iconst 0, 1) := by decide +kernel
theorem dX4_decode_13 : decode cX4_decode 13 = .ok (.istore 5, 2) := by decide +kernel
theorem dX4_decode_15 : decode cX4_decode 15 = .ok (.iload 5, 2) := by decide +kernel
theorem dX4_decode_17 : decode cX4_decode 17 = .ok (.aload_n 3, 1) := by decide +kernel
theorem dX4_decode_18 : decode cX4_decode 18 = .ok (.invokevirtual 44, 3) := by decide +kernel
theorem dX4_decode_21 : decode cX4_decode 21 = .ok (.if_icmp .ge 51, 3) := by decide +kernel
theorem dX4_decode_24 : decode cX4_decode 24 = .ok (.aload_n 3, 1) := by decide +kernel
theorem dX4_decode_25 : decode cX4_decode 25 = .ok (.iload 5, 2) := by decide +kernel
theorem dX4_decode_27 : decode cX4_decode 27 = .ok (.invokevirtual 48, 3) := by decide +kernel
theorem dX4_decode_30 : decode cX4_decode 30 = .ok (.istore 6, 2) := by decide +kernel
theorem dX4_decode_32 : decode cX4_decode 32 = .ok (.iload 6, 2) := by decide +kernel
theorem dX4_decode_34 : decode cX4_decode 34 = .ok (.invokestatic 52, 3) := by decide +kernel
theorem dX4_decode_37 : decode cX4_decode 37 = .ok (.ifCond .ne 29, 3) := by decide +kernel
theorem dX4_decode_40 : decode cX4_decode 40 = .ok (.aload_n 0, 1) := by decide +kernel
theorem dX4_decode_41 : decode cX4_decode 41 = .ok (.aload_n 3, 1) := by decide +kernel
theorem dX4_decode_42 : decode cX4_decode 42 = .ok (.iload 4, 2) := by decide +kernel
theorem dX4_decode_44 : decode cX4_decode 44 = .ok (.iload 5, 2) := by decide +kernel
theorem dX4_decode_46 : decode cX4_decode 46 = .ok (.aload_n 2, 1) := by decide +kernel
theorem dX4_decode_47 : decode cX4_decode 47 = .ok (.invokevirtual 58, 3) := by decide +kernel
theorem dX4_decode_50 : decode cX4_decode 50 = .ok (.aload_n 0, 1) := by decide +kernel
theorem dX4_decode_51 : decode cX4_decode 51 = .ok (.iload 6, 2) := by decide +kernel
theorem dX4_decode_53 : decode cX4_decode 53 = .ok (.aload_n 1, 1) := by decide +kernel
theorem dX4_decode_54 : decode cX4_decode 54 = .ok (.getfield 62, 3) := by decide +kernel
theorem dX4_decode_57 : decode cX4_decode 57 = .ok (.invokevirtual 66, 3) := by decide +kernel
theorem dX4_decode_60 : decode cX4_decode 60 = .ok (.iload 5, 2) := by decide +kernel
theorem dX4_decode_62 : decode cX4_decode 62 = .ok (.iconst 1, 1) := by decide +kernel
theorem dX4_decode_63 : decode cX4_decode 63 = .ok (.iadd, 1) := by decide +kernel
theorem dX4_decode_64 : decode cX4_decode 64 = .ok (.istore 4, 2) := by decide +kernel
theorem dX4_decode_66 : decode cX4_decode 66 = .ok (.iinc 5 1, 3) := by decide +kernel
theorem dX4_decode_69 : decode cX4_decode 69 = .ok (.goto (-54), 3) := by decide +kernel
theorem dX4_decode_72 : decode cX4_decode 72 = .ok (.aload_n 0, 1) := by decide +kernel
theorem dX4_decode_73 : decode cX4_decode 73 = .ok (.aload_n 3, 1) := by decide +kernel
theorem dX4_decode_74 : decode cX4_decode 74 = .ok (.iload 4, 2) := by decide +kernel
theorem dX4_decode_76 : decode cX4_decode 76 = .ok (.aload_n 3, 1) := by decide +kernel
theorem dX4_decode_77 : decode cX4_decode 77 = .ok (.invokevirtual 44, 3) := by decide +kernel
theorem dX4_decode_80 : decode cX4_decode 80 = .ok (.aload_n 2, 1) := by decide +kernel
theorem dX4_decode_81 : decode cX4_decode 81 = .ok (.invokevirtual 58, 3) := by decide +kernel
theorem dX4_decode_84 : decode cX4_decode 84 = .ok (.return_, 1) := by decide +kernel
theorem dX4_reset_0 : decode cX4_reset 0 = .ok (.aload_n 0, 1) := by decide +kernel
theorem dX4_reset_1 : decode cX4_reset 1 = .ok (.getfield 14, 3) := by decide +kernel
theorem dX4_reset_4 : decode cX4_reset 4 = .ok (.invokevirtual 70, 3) := by decide +kernel
theorem dX4_reset_7 : decode cX4_reset 7 = .ok (.aload_n 0, 1) := by decide +kernel
theorem dX4_reset_8 : decode cX4_reset 8 = .ok (.getfield 20, 3) := by decide +kernel
theorem dX4_reset_11 : decode cX4_reset 11 = .ok (.invokevirtual 70, 3) := by decide +kernel
theorem dX4_reset_14 : decode cX4_reset 14 = .ok (.aload_n 0, 1) := by decide +kernel
theorem dX4_reset_15 : decode cX4_reset 15 = .ok (.getfield 23, 3) := by decide +kernel
theorem dX4_reset_18 : decode cX4_reset 18 = .ok (.invokevirtual 70, 3) := by decide +kernel
theorem dX4_reset_21 : decode cX4_reset 21 = .ok (.aload_n 0, 1) := by decide +kernel
theorem dX4_reset_22 : decode cX4_reset 22 = .ok (.getfield 26, 3) := by decide +kernel
theorem dX4_reset_25 : decode cX4_reset 25 = .ok (.invokevirtual 70, 3) := by decide +kernel
theorem dX4_reset_28 : decode cX4_reset 28 = .ok (.aload_n 0, 1) := by decide +kernel
theorem dX4_reset_29 : decode cX4_reset 29 = .ok (.getfield 29, 3) := by decide +kernel
theorem dX4_reset_32 : decode cX4_reset 32 = .ok (.invokevirtual 70, 3) := by decide +kernel
theorem dX4_reset_35 : decode cX4_reset 35 = .ok (.aload_n 0, 1) := by decide +kernel
theorem dX4_reset_36 : decode cX4_reset 36 = .ok (.iconst 0, 1) := by decide +kernel
theorem dX4_reset_37 : decode cX4_reset 37 = .ok (.putfield 32, 3) := by decide +kernel
theorem dX4_reset_40 : decode cX4_reset 40 = .ok (.aload_n 0, 1) := by decide +kernel
theorem dX4_reset_41 : decode cX4_reset 41 = .ok (.iconst 0, 1) := by decide +kernel
theorem dX4_reset_42 : decode cX4_reset 42 = .ok (.putfield 73, 3) := by decide +kernel
theorem dX4_reset_45 : decode cX4_reset 45 = .ok (.aload_n 0, 1) := by decide +kernel
theorem dX4_reset_46 : decode cX4_reset 46 = .ok (.iconst 0, 1) := by decide +kernel
theorem dX4_reset_47 : decode cX4_reset 47 = .ok (.putfield 76, 3) := by decide +kernel
theorem dX4_reset_50 : decode cX4_reset 50 = .ok (.return_, 1) := by decide +kernel
theorem dX4_printSegment_0 : decode cX4_printSegment 0 = .ok (.iload_n 2, 1) := by decide +kernel
theorem dX4_printSegment_1 : decode cX4_printSegment 1 = .ok (.iload_n 3, 1) := by decide +kernel
theorem dX4_printSegment_2 : decode cX4_printSegment 2 = .ok (.if_icmp .lt 4, 3) := by decide +kernel
theorem dX4_printSegment_5 : decode cX4_printSegment 5 = .ok (.return_, 1) := by decide +kernel
theorem dX4_printSegment_6 : decode cX4_printSegment 6 = .ok (.aload 4, 2) := by decide +kernel
theorem dX4_printSegment_8 : decode cX4_printSegment 8 = .ok (.aload_n 1, 1) := by decide +kernel
theorem dX4_printSegment_9 : decode cX4_printSegment 9 = .ok (.iload_n 2, 1) := by decide +kernel
theorem dX4_printSegment_10 : decode cX4_printSegment 10 = .ok (.iload_n 3, 1) := by decide +kernel
theorem dX4_printSegment_11 : decode cX4_printSegment 11 = .ok (.aload_n 0, 1) := by decide +kernel
theorem dX4_printSegment_12 : decode cX4_printSegment 12 = .ok (.getfield 32, 3) := by decide +kernel
theorem dX4_printSegment_15 : decode cX4_printSegment 15 = .ok (.invokevirtual 79, 3) := by decide +kernel
theorem dX4_printSegment_18 : decode cX4_printSegment 18 = .ok (.istore 5, 2) := by decide +kernel
theorem dX4_printSegment_20 : decode cX4_printSegment 20 = .ok (.aload_n 0, 1) := by decide +kernel
theorem dX4_printSegment_21 : decode cX4_printSegment 21 = .ok (.iload 5, 2) := by decide +kernel
theorem dX4_printSegment_23 : decode cX4_printSegment 23 = .ok (.invokestatic 85, 3) := by decide +kernel
theorem dX4_printSegment_26 : decode cX4_printSegment 26 = .ok (.putfield 32, 3) := by decide +kernel
theorem dX4_printSegment_29 : decode cX4_printSegment 29 = .ok (.aload_n 0, 1) := by decide +kernel
theorem dX4_printSegment_30 : decode cX4_printSegment 30 = .ok (.getfield 26, 3) := by decide +kernel
theorem dX4_printSegment_33 : decode cX4_printSegment 33 = .ok (.iload 5, 2) := by decide +kernel
theorem dX4_printSegment_35 : decode cX4_printSegment 35 = .ok (.invokevirtual 88, 3) := by decide +kernel
theorem dX4_printSegment_38 : decode cX4_printSegment 38 = .ok (.aload_n 0, 1) := by decide +kernel
theorem dX4_printSegment_39 : decode cX4_printSegment 39 = .ok (.getfield 20, 3) := by decide +kernel
theorem dX4_printSegment_42 : decode cX4_printSegment 42 = .ok (.iload_n 2, 1) := by decide +kernel
theorem dX4_printSegment_43 : decode cX4_printSegment 43 = .ok (.invokevirtual 88, 3) := by decide +kernel
theorem dX4_printSegment_46 : decode cX4_printSegment 46 = .ok (.aload_n 0, 1) := by decide +kernel
theorem dX4_printSegment_47 : decode cX4_printSegment 47 = .ok (.getfield 23, 3) := by decide +kernel
theorem dX4_printSegment_50 : decode cX4_printSegment 50 = .ok (.iload_n 3, 1) := by decide +kernel
theorem dX4_printSegment_51 : decode cX4_printSegment 51 = .ok (.iload_n 2, 1) := by decide +kernel
theorem dX4_printSegment_52 : decode cX4_printSegment 52 = .ok (.isub, 1) := by decide +kernel
theorem dX4_printSegment_53 : decode cX4_printSegment 53 = .ok (.invokevirtual 88, 3) := by decide +kernel
theorem dX4_printSegment_56 : decode cX4_printSegment 56 = .ok (.aload_n 0, 1) := by decide +kernel
theorem dX4_printSegment_57 : decode cX4_printSegment 57 = .ok (.getfield 29, 3) := by decide +kernel
theorem dX4_printSegment_60 : decode cX4_printSegment 60 = .ok (.aload_n 0, 1) := by decide +kernel
theorem dX4_printSegment_61 : decode cX4_printSegment 61 = .ok (.getfield 32, 3) := by decide +kernel
theorem dX4_printSegment_64 : decode cX4_printSegment 64 = .ok (.ifCond .ne 14, 3) := by decide +kernel
theorem dX4_printSegment_67 : decode cX4_printSegment 67 = .ok (.aload 4, 2) := by decide +kernel
theorem dX4_printSegment_69 : decode cX4_printSegment 69 = .ok (.aload_n 1, 1) := by decide +kernel
theorem dX4_printSegment_70 : decode cX4_printSegment 70 = .ok (.iload_n 2, 1) := by decide +kernel
theorem dX4_printSegment_71 : decode cX4_printSegment 71 = .ok (.iload_n 3, 1) := by decide +kernel
theorem dX4_printSegment_72 : decode cX4_printSegment 72 = .ok (.invokevirtual 91, 3) := by decide +kernel
theorem dX4_printSegment_75 : decode cX4_printSegment 75 = .ok (.goto 4, 3) := by decide +kernel
theorem dX4_printSegment_78 : decode cX4_printSegment 78 = .ok (.iconst (-1), 1) := by decide +kernel
theorem dX4_printSegment_79 : decode cX4_printSegment 79 = .ok (.invokevirtual 88, 3) := by decide +kernel
theorem dX4_printSegment_82 : decode cX4_printSegment 82 = .ok (.iload_n 2, 1) := by decide +kernel
theorem dX4_printSegment_83 : decode cX4_printSegment 83 = .ok (.istore 6, 2) := by decide +kernel
theorem dX4_printSegment_85 : decode cX4_printSegment 85 = .ok (.iload 6, 2) := by decide +kernel
theorem dX4_printSegment_87 : decode cX4_printSegment 87 = .ok (.iload_n 3, 1) := by decide +kernel
theorem dX4_printSegment_88 : decode cX4_printSegment 88 = .ok (.if_icmp .ge 29, 3) := by decide +kernel
theorem dX4_printSegment_91 : decode cX4_printSegment 91 = .ok (.aload_n 0, 1) := by decide +kernel
theorem dX4_printSegment_92 : decode cX4_printSegment 92 = .ok (.getfield 14, 3) := by decide +kernel
theorem dX4_printSegment_95 : decode cX4_printSegment 95 = .ok (.aload_n 1, 1) := by decide +kernel
theorem dX4_printSegment_96 : decode cX4_printSegment 96 = .ok (.iload 6, 2) := by decide +kernel
theorem dX4_printSegment_98 : decode cX4_printSegment 98 = .ok (.invokevirtual 48, 3) := by decide +kernel
theorem dX4_printSegment_101 : decode cX4_printSegment 101 = .ok (.aload_n 0, 1) := by decide +kernel
theorem dX4_printSegment_102 : decode cX4_printSegment 102 = .ok (.getfield 32, 3) := by decide +kernel
theorem dX4_printSegment_105 : decode cX4_printSegment 105 = .ok (.invokestatic 95, 3) := by decide +kernel
theorem dX4_printSegment_108 : decode cX4_printSegment 108 = .ok (.invokevirtual 88, 3) := by decide +kernel
theorem dX4_printSegment_111 : decode cX4_printSegment 111 = .ok (.iinc 6 1, 3) := by decide +kernel
theorem dX4_printSegment_114 : decode cX4_printSegment 114 = .ok (.goto (-29), 3) := by decide +kernel
theorem dX4_printSegment_117 : decode cX4_printSegment 117 = .ok (.return_, 1) := by decide +kernel
theorem dX4_obey_0 : decode cX4_obey 0 = .ok (.iload_n 1, 1) := by decide +kernel
theorem dX4_obey_1 : decode cX4_obey 1 = .ok (.bipush 29, 2) := by decide +kernel
theorem dX4_obey_3 : decode cX4_obey 3 = .ok (.if_icmp .ne 24, 3) := by decide +kernel
