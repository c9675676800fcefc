theorem dX8_wordLetter_60 : decode cX8_wordLetter 60 = .ok (.iadd, 1) := by decide +kernel
theorem dX8_wordLetter_61 : decode cX8_wordLetter 61 = .ok (.iaload, 1) := by decide +kernel
theorem dX8_wordLetter_62 : decode cX8_wordLetter 62 = .ok (.iadd, 1) := by decide +kernel
theorem dX8_wordLetter_63 : decode cX8_wordLetter 63 = .ok (.iconst 1, 1) := by decide +kernel
theorem dX8_wordLetter_64 : decode cX8_wordLetter 64 = .ok (.isub, 1) := by decide +kernel
theorem dX8_wordLetter_65 : decode cX8_wordLetter 65 = .ok (.goto 4, 3) := by decide +kernel
theorem dX8_wordLetter_68 : decode cX8_wordLetter 68 = .ok (.iconst (-1), 1) := by decide +kernel
theorem dX8_wordLetter_69 : decode cX8_wordLetter 69 = .ok (.ireturn, 1) := by decide +kernel
theorem dX8_usesOf_0 : decode cX8_usesOf 0 = .ok (.iconst 0, 1) := by decide +kernel
theorem dX8_usesOf_1 : decode cX8_usesOf 1 = .ok (.istore_n 2, 1) := by decide +kernel
theorem dX8_usesOf_2 : decode cX8_usesOf 2 = .ok (.iconst 0, 1) := by decide +kernel
theorem dX8_usesOf_3 : decode cX8_usesOf 3 = .ok (.istore_n 3, 1) := by decide +kernel
theorem dX8_usesOf_4 : decode cX8_usesOf 4 = .ok (.iload_n 3, 1) := by decide +kernel
theorem dX8_usesOf_5 : decode cX8_usesOf 5 = .ok (.aload_n 0, 1) := by decide +kernel
theorem dX8_usesOf_6 : decode cX8_usesOf 6 = .ok (.getfield 97, 3) := by decide +kernel
theorem dX8_usesOf_9 : decode cX8_usesOf 9 = .ok (.if_icmp .ge 48, 3) := by decide +kernel
theorem dX8_usesOf_12 : decode cX8_usesOf 12 = .ok (.iload_n 2, 1) := by decide +kernel
theorem dX8_usesOf_13 : decode cX8_usesOf 13 = .ok (.aload_n 0, 1) := by decide +kernel
theorem dX8_usesOf_14 : decode cX8_usesOf 14 = .ok (.getfield 28, 3) := by decide +kernel
theorem dX8_usesOf_17 : decode cX8_usesOf 17 = .ok (.iload_n 3, 1) := by decide +kernel
theorem dX8_usesOf_18 : decode cX8_usesOf 18 = .ok (.iaload, 1) := by decide +kernel
theorem dX8_usesOf_19 : decode cX8_usesOf 19 = .ok (.iconst 5, 1) := by decide +kernel
theorem dX8_usesOf_20 : decode cX8_usesOf 20 = .ok (.iand, 1) := by decide +kernel
theorem dX8_usesOf_21 : decode cX8_usesOf 21 = .ok (.ifCond .ne 27, 3) := by decide +kernel
theorem dX8_usesOf_24 : decode cX8_usesOf 24 = .ok (.aload_n 0, 1) := by decide +kernel
theorem dX8_usesOf_25 : decode cX8_usesOf 25 = .ok (.iload_n 1, 1) := by decide +kernel
theorem dX8_usesOf_26 : decode cX8_usesOf 26 = .ok (.aload_n 0, 1) := by decide +kernel
theorem dX8_usesOf_27 : decode cX8_usesOf 27 = .ok (.getfield 22, 3) := by decide +kernel
theorem dX8_usesOf_30 : decode cX8_usesOf 30 = .ok (.iload_n 3, 1) := by decide +kernel
theorem dX8_usesOf_31 : decode cX8_usesOf 31 = .ok (.iaload, 1) := by decide +kernel
theorem dX8_usesOf_32 : decode cX8_usesOf 32 = .ok (.aload_n 0, 1) := by decide +kernel
theorem dX8_usesOf_33 : decode cX8_usesOf 33 = .ok (.getfield 25, 3) := by decide +kernel
theorem dX8_usesOf_36 : decode cX8_usesOf 36 = .ok (.iload_n 3, 1) := by decide +kernel
theorem dX8_usesOf_37 : decode cX8_usesOf 37 = .ok (.iaload, 1) := by decide +kernel
theorem dX8_usesOf_38 : decode cX8_usesOf 38 = .ok (.invokevirtual 85, 3) := by decide +kernel
theorem dX8_usesOf_41 : decode cX8_usesOf 41 = .ok (.ifCond .eq 7, 3) := by decide +kernel
theorem dX8_usesOf_44 : decode cX8_usesOf 44 = .ok (.iconst 1, 1) := by decide +kernel
theorem dX8_usesOf_45 : decode cX8_usesOf 45 = .ok (.goto 4, 3) := by decide +kernel
theorem dX8_usesOf_48 : decode cX8_usesOf 48 = .ok (.iconst 0, 1) := by decide +kernel
theorem dX8_usesOf_49 : decode cX8_usesOf 49 = .ok (.iadd, 1) := by decide +kernel
theorem dX8_usesOf_50 : decode cX8_usesOf 50 = .ok (.istore_n 2, 1) := by decide +kernel
theorem dX8_usesOf_51 : decode cX8_usesOf 51 = .ok (.iinc 3 1, 3) := by decide +kernel
theorem dX8_usesOf_54 : decode cX8_usesOf 54 = .ok (.goto (-50), 3) := by decide +kernel
theorem dX8_usesOf_57 : decode cX8_usesOf 57 = .ok (.iload_n 2, 1) := by decide +kernel
theorem dX8_usesOf_58 : decode cX8_usesOf 58 = .ok (.ireturn, 1) := by decide +kernel
theorem dX8_uses_0 : decode cX8_uses 0 = .ok (.aload_n 0, 1) := by decide +kernel
theorem dX8_uses_1 : decode cX8_uses 1 = .ok (.aload_n 0, 1) := by decide +kernel
theorem dX8_uses_2 : decode cX8_uses 2 = .ok (.iload_n 1, 1) := by decide +kernel
theorem dX8_uses_3 : decode cX8_uses 3 = .ok (.invokevirtual 123, 3) := by decide +kernel
theorem dX8_uses_6 : decode cX8_uses 6 = .ok (.ifCond .eq 7, 3) := by decide +kernel
theorem dX8_uses_9 : decode cX8_uses 9 = .ok (.iconst 0, 1) := by decide +kernel
theorem dX8_uses_10 : decode cX8_uses 10 = .ok (.goto 4, 3) := by decide +kernel
theorem dX8_uses_13 : decode cX8_uses 13 = .ok (.iconst 1, 1) := by decide +kernel
theorem dX8_uses_14 : decode cX8_uses 14 = .ok (.invokevirtual 65, 3) := by decide +kernel
theorem dX8_uses_17 : decode cX8_uses 17 = .ok (.ifCond .eq 5, 3) := by decide +kernel
theorem dX8_uses_20 : decode cX8_uses 20 = .ok (.iconst 0, 1) := by decide +kernel
theorem dX8_uses_21 : decode cX8_uses 21 = .ok (.ireturn, 1) := by decide +kernel
theorem dX8_uses_22 : decode cX8_uses 22 = .ok (.aload_n 0, 1) := by decide +kernel
theorem dX8_uses_23 : decode cX8_uses 23 = .ok (.iconst (-1), 1) := by decide +kernel
theorem dX8_uses_24 : decode cX8_uses 24 = .ok (.iconst 0, 1) := by decide +kernel
theorem dX8_uses_25 : decode cX8_uses 25 = .ok (.invokevirtual 126, 3) := by decide +kernel
theorem dX8_uses_28 : decode cX8_uses 28 = .ok (.aload_n 0, 1) := by decide +kernel
theorem dX8_uses_29 : decode cX8_uses 29 = .ok (.iload_n 1, 1) := by decide +kernel
theorem dX8_uses_30 : decode cX8_uses 30 = .ok (.invokevirtual 130, 3) := by decide +kernel
theorem dX8_uses_33 : decode cX8_uses 33 = .ok (.ireturn, 1) := by decide +kernel
theorem dX8_printedLength_0 : decode cX8_printedLength 0 = .ok (.aload_n 0, 1) := by decide +kernel
theorem dX8_printedLength_1 : decode cX8_printedLength 1 = .ok (.iconst 0, 1) := by decide +kernel
theorem dX8_printedLength_2 : decode cX8_printedLength 2 = .ok (.putfield 38, 3) := by decide +kernel
theorem dX8_printedLength_5 : decode cX8_printedLength 5 = .ok (.aload_n 0, 1) := by decide +kernel
theorem dX8_printedLength_6 : decode cX8_printedLength 6 = .ok (.iconst (-1), 1) := by decide +kernel
theorem dX8_printedLength_7 : decode cX8_printedLength 7 = .ok (.iconst 0, 1) := by decide +kernel
theorem dX8_printedLength_8 : decode cX8_printedLength 8 = .ok (.invokevirtual 126, 3) := by decide +kernel
theorem dX8_printedLength_11 : decode cX8_printedLength 11 = .ok (.aload_n 0, 1) := by decide +kernel
theorem dX8_printedLength_12 : decode cX8_printedLength 12 = .ok (.getfield 88, 3) := by decide +kernel
theorem dX8_printedLength_15 : decode cX8_printedLength 15 = .ok (.ireturn, 1) := by decide +kernel
theorem dX8_printed_0 : decode cX8_printed 0 = .ok (.aload_n 0, 1) := by decide +kernel
theorem dX8_printed_1 : decode cX8_printed 1 = .ok (.iconst (-1), 1) := by decide +kernel
theorem dX8_printed_2 : decode cX8_printed 2 = .ok (.iconst 0, 1) := by decide +kernel
theorem dX8_printed_3 : decode cX8_printed 3 = .ok (.invokevirtual 126, 3) := by decide +kernel
theorem dX8_printed_6 : decode cX8_printed 6 = .ok (.aload_n 0, 1) := by decide +kernel
theorem dX8_printed_7 : decode cX8_printed 7 = .ok (.iload_n 1, 1) := by decide +kernel
theorem dX8_printed_8 : decode cX8_printed 8 = .ok (.iconst 0, 1) := by decide +kernel
theorem dX8_printed_9 : decode cX8_printed 9 = .ok (.aload_n 0, 1) := by decide +kernel
theorem dX8_printed_10 : decode cX8_printed 10 = .ok (.getfield 88, 3) := by decide +kernel
theorem dX8_printed_13 : decode cX8_printed 13 = .ok (.iconst 1, 1) := by decide +kernel
theorem dX8_printed_14 : decode cX8_printed 14 = .ok (.isub, 1) := by decide +kernel
theorem dX8_printed_15 : decode cX8_printed 15 = .ok (.invokestatic 44, 3) := by decide +kernel
theorem dX8_printed_18 : decode cX8_printed 18 = .ok (.ifCond .eq 7, 3) := by decide +kernel
theorem dX8_printed_21 : decode cX8_printed 21 = .ok (.iconst 0, 1) := by decide +kernel
theorem dX8_printed_22 : decode cX8_printed 22 = .ok (.goto 4, 3) := by decide +kernel
theorem dX8_printed_25 : decode cX8_printed 25 = .ok (.iconst 1, 1) := by decide +kernel
theorem dX8_printed_26 : decode cX8_printed 26 = .ok (.invokevirtual 65, 3) := by decide +kernel
theorem dX8_printed_29 : decode cX8_printed 29 = .ok (.ifCond .eq 5, 3) := by decide +kernel
theorem dX8_printed_32 : decode cX8_printed 32 = .ok (.iconst 0, 1) := by decide +kernel
theorem dX8_printed_33 : decode cX8_printed 33 = .ok (.ireturn, 1) := by decide +kernel
theorem dX8_printed_34 : decode cX8_printed 34 = .ok (.aload_n 0, 1) := by decide +kernel
theorem dX8_printed_35 : decode cX8_printed 35 = .ok (.getfield 19, 3) := by decide +kernel
theorem dX8_printed_38 : decode cX8_printed 38 = .ok (.iload_n 1, 1) := by decide +kernel
theorem dX8_printed_39 : decode cX8_printed 39 = .ok (.iaload, 1) := by decide +kernel
theorem dX8_printed_40 : decode cX8_printed 40 = .ok (.ireturn, 1) := by decide +kernel
theorem dX8_segments_0 : decode cX8_segments 0 = .ok (.aload_n 0, 1) := by decide +kernel
theorem dX8_segments_1 : decode cX8_segments 1 = .ok (.iconst 0, 1) := by decide +kernel
theorem dX8_segments_2 : decode cX8_segments 2 = .ok (.putfield 38, 3) := by decide +kernel
theorem dX8_segments_5 : decode cX8_segments 5 = .ok (.aload_n 0, 1) := by decide +kernel
theorem dX8_segments_6 : decode cX8_segments 6 = .ok (.iconst (-1), 1) := by decide +kernel
theorem dX8_segments_7 : decode cX8_segments 7 = .ok (.iconst 0, 1) := by decide +kernel
theorem dX8_segments_8 : decode cX8_segments 8 = .ok (.invokevirtual 126, 3) := by decide +kernel
theorem dX8_segments_11 : decode cX8_segments 11 = .ok (.aload_n 0, 1) := by decide +kernel
theorem dX8_segments_12 : decode cX8_segments 12 = .ok (.getfield 97, 3) := by decide +kernel
theorem dX8_segments_15 : decode cX8_segments 15 = .ok (.ireturn, 1) := by decide +kernel
theorem dX8_segmentLength_0 : decode cX8_segmentLength 0 = .ok (.aload_n 0, 1) := by decide +kernel
theorem dX8_segmentLength_1 : decode cX8_segmentLength 1 = .ok (.iconst (-1), 1) := by decide +kernel
theorem dX8_segmentLength_2 : decode cX8_segmentLength 2 = .ok (.iconst 0, 1) := by decide +kernel
theorem dX8_segmentLength_3 : decode cX8_segmentLength 3 = .ok (.invokevirtual 126, 3) := by decide +kernel
theorem dX8_segmentLength_6 : decode cX8_segmentLength 6 = .ok (.aload_n 0, 1) := by decide +kernel
theorem dX8_segmentLength_7 : decode cX8_segmentLength 7 = .ok (.iload_n 1, 1) := by decide +kernel
theorem dX8_segmentLength_8 : decode cX8_segmentLength 8 = .ok (.iconst 0, 1) := by decide +kernel
theorem dX8_segmentLength_9 : decode cX8_segmentLength 9 = .ok (.aload_n 0, 1) := by decide +kernel
theorem dX8_segmentLength_10 : decode cX8_segmentLength 10 = .ok (.getfield 97, 3) := by decide +kernel
theorem dX8_segmentLength_13 : decode cX8_segmentLength 13 = .ok (.iconst 1, 1) := by decide +kernel
theorem dX8_segmentLength_14 : decode cX8_segmentLength 14 = .ok (.isub, 1) := by decide +kernel
theorem dX8_segmentLength_15 : decode cX8_segmentLength 15 = .ok (.invokestatic 44, 3) := by decide +kernel
theorem dX8_segmentLength_18 : decode cX8_segmentLength 18 = .ok (.ifCond .eq 7, 3) := by decide +kernel
theorem dX8_segmentLength_21 : decode cX8_segmentLength 21 = .ok (.iconst 0, 1) := by decide +kernel
theorem dX8_segmentLength_22 : decode cX8_segmentLength 22 = .ok (.goto 4, 3) := by decide +kernel
theorem dX8_segmentLength_25 : decode cX8_segmentLength 25 = .ok (.iconst 1, 1) := by decide +kernel
theorem dX8_segmentLength_26 : decode cX8_segmentLength 26 = .ok (.invokevirtual 65, 3) := by decide +kernel
theorem dX8_segmentLength_29 : decode cX8_segmentLength 29 = .ok (.ifCond .eq 5, 3) := by decide +kernel
theorem dX8_segmentLength_32 : decode cX8_segmentLength 32 = .ok (.iconst 0, 1) := by decide +kernel
theorem dX8_segmentLength_33 : decode cX8_segmentLength 33 = .ok (.ireturn, 1) := by decide +kernel
theorem dX8_segmentLength_34 : decode cX8_segmentLength 34 = .ok (.aload_n 0, 1) := by decide +kernel
theorem dX8_segmentLength_35 : decode cX8_segmentLength 35 = .ok (.getfield 25, 3) := by decide +kernel
theorem dX8_segmentLength_38 : decode cX8_segmentLength 38 = .ok (.iload_n 1, 1) := by decide +kernel
theorem dX8_segmentLength_39 : decode cX8_segmentLength 39 = .ok (.iaload, 1) := by decide +kernel
theorem dX8_segmentLength_40 : decode cX8_segmentLength 40 = .ok (.ireturn, 1) := by decide +kernel
theorem dX8_segmentKind_0 : decode cX8_segmentKind 0 = .ok (.aload_n 0, 1) := by decide +kernel
theorem dX8_segmentKind_1 : decode cX8_segmentKind 1 = .ok (.iconst (-1), 1) := by decide +kernel
theorem dX8_segmentKind_2 : decode cX8_segmentKind 2 = .ok (.iconst 0, 1) := by decide +kernel
theorem dX8_segmentKind_3 : decode cX8_segmentKind 3 = .ok (.invokevirtual 126, 3) := by decide +kernel
theorem dX8_segmentKind_6 : decode cX8_segmentKind 6 = .ok (.aload_n 0, 1) := by decide +kernel
theorem dX8_segmentKind_7 : decode cX8_segmentKind 7 = .ok (.iload_n 1, 1) := by decide +kernel
theorem dX8_segmentKind_8 : decode cX8_segmentKind 8 = .ok (.iconst 0, 1) := by decide +kernel
theorem dX8_segmentKind_9 : decode cX8_segmentKind 9 = .ok (.aload_n 0, 1) := by decide +kernel
theorem dX8_segmentKind_10 : decode cX8_segmentKind 10 = .ok (.getfield 97, 3) := by decide +kernel
theorem dX8_segmentKind_13 : decode cX8_segmentKind 13 = .ok (.iconst 1, 1) := by decide +kernel
theorem dX8_segmentKind_14 : decode cX8_segmentKind 14 = .ok (.isub, 1) := by decide +kernel
theorem dX8_segmentKind_15 : decode cX8_segmentKind 15 = .ok (.invokestatic 44, 3) := by decide +kernel
theorem dX8_segmentKind_18 : decode cX8_segmentKind 18 = .ok (.ifCond .eq 7, 3) := by decide +kernel
theorem dX8_segmentKind_21 : decode cX8_segmentKind 21 = .ok (.iconst 0, 1) := by decide +kernel
theorem dX8_segmentKind_22 : decode cX8_segmentKind 22 = .ok (.goto 4, 3) := by decide +kernel
theorem dX8_segmentKind_25 : decode cX8_segmentKind 25 = .ok (.iconst 1, 1) := by decide +kernel
theorem dX8_segmentKind_26 : decode cX8_segmentKind 26 = .ok (.invokevirtual 65, 3) := by decide +kernel
theorem dX8_segmentKind_29 : decode cX8_segmentKind 29 = .ok (.ifCond .eq 5, 3) := by decide +kernel
theorem dX8_segmentKind_32 : decode cX8_segmentKind 32 = .ok (.iconst 0, 1) := by decide +kernel
theorem dX8_segmentKind_33 : decode cX8_segmentKind 33 = .ok (.ireturn, 1) := by decide +kernel
theorem dX8_segmentKind_34 : decode cX8_segmentKind 34 = .ok (.aload_n 0, 1) := by decide +kernel
theorem dX8_segmentKind_35 : decode cX8_segmentKind 35 = .ok (.getfield 28, 3) := by decide +kernel
theorem dX8_segmentKind_38 : decode cX8_segmentKind 38 = .ok (.iload_n 1, 1) := by decide +kernel
theorem dX8_segmentKind_39 : decode cX8_segmentKind 39 = .ok (.iaload, 1) := by decide +kernel
theorem dX8_segmentKind_40 : decode cX8_segmentKind 40 = .ok (.ireturn, 1) := by decide +kernel
theorem dX8_guesses_0 : decode cX8_guesses 0 = .ok (.aload_n 0, 1) := by decide +kernel
theorem dX8_guesses_1 : decode cX8_guesses 1 = .ok (.iconst 0, 1) := by decide +kernel
theorem dX8_guesses_2 : decode cX8_guesses 2 = .ok (.putfield 38, 3) := by decide +kernel
theorem dX8_guesses_5 : decode cX8_guesses 5 = .ok (.aload_n 0, 1) := by decide +kernel
theorem dX8_guesses_6 : decode cX8_guesses 6 = .ok (.iconst (-1), 1) := by decide +kernel
theorem dX8_guesses_7 : decode cX8_guesses 7 = .ok (.iconst 0, 1) := by decide +kernel
theorem dX8_guesses_8 : decode cX8_guesses 8 = .ok (.invokevirtual 126, 3) := by decide +kernel
theorem dX8_guesses_11 : decode cX8_guesses 11 = .ok (.aload_n 0, 1) := by decide +kernel
theorem dX8_guesses_12 : decode cX8_guesses 12 = .ok (.iconst 2, 1) := by decide +kernel
theorem dX8_guesses_13 : decode cX8_guesses 13 = .ok (.invokevirtual 133, 3) := by decide +kernel
theorem dX8_guesses_16 : decode cX8_guesses 16 = .ok (.ireturn, 1) := by decide +kernel
theorem dX8_doubtful_0 : decode cX8_doubtful 0 = .ok (.aload_n 0, 1) := by decide +kernel
theorem dX8_doubtful_1 : decode cX8_doubtful 1 = .ok (.iconst 0, 1) := by decide +kernel
theorem dX8_doubtful_2 : decode cX8_doubtful 2 = .ok (.putfield 38, 3) := by decide +kernel
theorem dX8_doubtful_5 : decode cX8_doubtful 5 = .ok (.aload_n 0, 1) := by decide +kernel
theorem dX8_doubtful_6 : decode cX8_doubtful 6 = .ok (.iconst (-1), 1) := by decide +kernel
theorem dX8_doubtful_7 : decode cX8_doubtful 7 = .ok (.iconst 0, 1) := by decide +kernel
theorem dX8_doubtful_8 : decode cX8_doubtful 8 = .ok (.invokevirtual 126, 3) := by decide +kernel
theorem dX8_doubtful_11 : decode cX8_doubtful 11 = .ok (.aload_n 0, 1) := by decide +kernel
theorem dX8_doubtful_12 : decode cX8_doubtful 12 = .ok (.iconst 4, 1) := by decide +kernel
theorem dX8_doubtful_13 : decode cX8_doubtful 13 = .ok (.invokevirtual 133, 3) := by decide +kernel
theorem dX8_doubtful_16 : decode cX8_doubtful 16 = .ok (.ireturn, 1) := by decide +kernel
theorem dX8_bells_0 : decode cX8_bells 0 = .ok (.aload_n 0, 1) := by decide +kernel
theorem dX8_bells_1 : decode cX8_bells 1 = .ok (.iconst 0, 1) := by decide +kernel
theorem dX8_bells_2 : decode cX8_bells 2 = .ok (.putfield 38, 3) := by decide +kernel
theorem dX8_bells_5 : decode cX8_bells 5 = .ok (.aload_n 0, 1) := by decide +kernel
theorem dX8_bells_6 : decode cX8_bells 6 = .ok (.iconst (-1), 1) := by decide +kernel
theorem dX8_bells_7 : decode cX8_bells 7 = .ok (.iconst 0, 1) := by decide +kernel
theorem dX8_bells_8 : decode cX8_bells 8 = .ok (.invokevirtual 126, 3) := by decide +kernel
theorem dX8_bells_11 : decode cX8_bells 11 = .ok (.aload_n 0, 1) := by decide +kernel
theorem dX8_bells_12 : decode cX8_bells 12 = .ok (.getfield 107, 3) := by decide +kernel
theorem dX8_bells_15 : decode cX8_bells 15 = .ok (.ireturn, 1) := by decide +kernel
theorem dX8_questions_0 : decode cX8_questions 0 = .ok (.aload_n 0, 1) := by decide +kernel
theorem dX8_questions_1 : decode cX8_questions 1 = .ok (.iconst 0, 1) := by decide +kernel
theorem dX8_questions_2 : decode cX8_questions 2 = .ok (.putfield 38, 3) := by decide +kernel
theorem dX8_questions_5 : decode cX8_questions 5 = .ok (.aload_n 0, 1) := by decide +kernel
theorem dX8_questions_6 : decode cX8_questions 6 = .ok (.iconst (-1), 1) := by decide +kernel
theorem dX8_questions_7 : decode cX8_questions 7 = .ok (.iconst 0, 1) := by decide +kernel
theorem dX8_questions_8 : decode cX8_questions 8 = .ok (.invokevirtual 126, 3) := by decide +kernel
theorem dX8_questions_11 : decode cX8_questions 11 = .ok (.aload_n 0, 1) := by decide +kernel
theorem dX8_questions_12 : decode cX8_questions 12 = .ok (.getfield 110, 3) := by decide +kernel
theorem dX8_questions_15 : decode cX8_questions 15 = .ok (.ireturn, 1) := by decide +kernel
theorem dX8_receiverShift_0 : decode cX8_receiverShift 0 = .ok (.aload_n 0, 1) := by decide +kernel
theorem dX8_receiverShift_1 : decode cX8_receiverShift 1 = .ok (.iconst 0, 1) := by decide +kernel
theorem dX8_receiverShift_2 : decode cX8_receiverShift 2 = .ok (.putfield 38, 3) := by decide +kernel
theorem dX8_receiverShift_5 : decode cX8_receiverShift 5 = .ok (.aload_n 0, 1) := by decide +kernel
theorem dX8_receiverShift_6 : decode cX8_receiverShift 6 = .ok (.iconst (-1), 1) := by decide +kernel
theorem dX8_receiverShift_7 : decode cX8_receiverShift 7 = .ok (.iconst 0, 1) := by decide +kernel
theorem dX8_receiverShift_8 : decode cX8_receiverShift 8 = .ok (.invokevirtual 126, 3) := by decide +kernel
theorem dX8_receiverShift_11 : decode cX8_receiverShift 11 = .ok (.aload_n 0, 1) := by decide +kernel
theorem dX8_receiverShift_12 : decode cX8_receiverShift 12 = .ok (.getfield 91, 3) := by decide +kernel
theorem dX8_receiverShift_15 : decode cX8_receiverShift 15 = .ok (.ireturn, 1) := by decide +kernel
theorem dX8_wrong_0 : decode cX8_wrong 0 = .ok (.iconst 0, 1) := by decide +kernel
theorem dX8_wrong_1 : decode cX8_wrong 1 = .ok (.istore_n 1, 1) := by decide +kernel
theorem dX8_wrong_2 : decode cX8_wrong 2 = .ok (.iconst 0, 1) := by decide +kernel
theorem dX8_wrong_3 : decode cX8_wrong 3 = .ok (.istore_n 2, 1) := by decide +kernel
theorem dX8_wrong_4 : decode cX8_wrong 4 = .ok (.iload_n 2, 1) := by decide +kernel
theorem dX8_wrong_5 : decode cX8_wrong 5 = .ok (.aload_n 0, 1) := by decide +kernel
theorem dX8_wrong_6 : decode cX8_wrong 6 = .ok (.getfield 88, 3) := by decide +kernel
theorem dX8_wrong_9 : decode cX8_wrong 9 = .ok (.if_icmp .lt 15, 3) := by decide +kernel
theorem dX8_wrong_12 : decode cX8_wrong 12 = .ok (.iload_n 2, 1) := by decide +kernel
theorem dX8_wrong_13 : decode cX8_wrong 13 = .ok (.aload_n 0, 1) := by decide +kernel
theorem dX8_wrong_14 : decode cX8_wrong 14 = .ok (.getfield 7, 3) := by decide +kernel
theorem dX8_wrong_17 : decode cX8_wrong 17 = .ok (.sipush 402, 3) := by decide +kernel
theorem dX8_wrong_20 : decode cX8_wrong 20 = .ok (.iaload, 1) := by decide +kernel
theorem dX8_wrong_21 : decode cX8_wrong 21 = .ok (.if_icmp .ge 56, 3) := by decide +kernel
theorem dX8_wrong_24 : decode cX8_wrong 24 = .ok (.iload_n 1, 1) := by decide +kernel
theorem dX8_wrong_25 : decode cX8_wrong 25 = .ok (.iload_n 2, 1) := by decide +kernel
theorem dX8_wrong_26 : decode cX8_wrong 26 = .ok (.aload_n 0, 1) := by decide +kernel
theorem dX8_wrong_27 : decode cX8_wrong 27 = .ok (.getfield 88, 3) := by decide +kernel
theorem dX8_wrong_30 : decode cX8_wrong 30 = .ok (.if_icmp .ge 34, 3) := by decide +kernel
theorem dX8_wrong_33 : decode cX8_wrong 33 = .ok (.iload_n 2, 1) := by decide +kernel
theorem dX8_wrong_34 : decode cX8_wrong 34 = .ok (.aload_n 0, 1) := by decide +kernel
theorem dX8_wrong_35 : decode cX8_wrong 35 = .ok (.getfield 7, 3) := by decide +kernel
theorem dX8_wrong_38 : decode cX8_wrong 38 = .ok (.sipush 402, 3) := by decide +kernel
theorem dX8_wrong_41 : decode cX8_wrong 41 = .ok (.iaload, 1) := by decide +kernel
theorem dX8_wrong_42 : decode cX8_wrong 42 = .ok (.if_icmp .ge 22, 3) := by decide +kernel
theorem dX8_wrong_45 : decode cX8_wrong 45 = .ok (.aload_n 0, 1) := by decide +kernel
theorem dX8_wrong_46 : decode cX8_wrong 46 = .ok (.getfield 19, 3) := by decide +kernel
theorem dX8_wrong_49 : decode cX8_wrong 49 = .ok (.iload_n 2, 1) := by decide +kernel
theorem dX8_wrong_50 : decode cX8_wrong 50 = .ok (.iaload, 1) := by decide +kernel
theorem dX8_wrong_51 : decode cX8_wrong 51 = .ok (.aload_n 0, 1) := by decide +kernel
theorem dX8_wrong_52 : decode cX8_wrong 52 = .ok (.getfield 7, 3) := by decide +kernel
theorem dX8_wrong_55 : decode cX8_wrong 55 = .ok (.sipush 403, 3) := by decide +kernel
theorem dX8_wrong_58 : decode cX8_wrong 58 = .ok (.iload_n 2, 1) := by decide +kernel
theorem dX8_wrong_59 : decode cX8_wrong 59 = .ok (.iadd, 1) := by decide +kernel
theorem dX8_wrong_60 : decode cX8_wrong 60 = .ok (.iaload, 1) := by decide +kernel
theorem dX8_wrong_61 : decode cX8_wrong 61 = .ok (.if_icmp .eq 7, 3) := by decide +kernel
theorem dX8_wrong_64 : decode cX8_wrong 64 = .ok (.iconst 1, 1) := by decide +kernel
theorem dX8_wrong_65 : decode cX8_wrong 65 = .ok (.goto 4, 3) := by decide +kernel
theorem dX8_wrong_68 : decode cX8_wrong 68 = .ok (.iconst 0, 1) := by decide +kernel
theorem dX8_wrong_69 : decode cX8_wrong 69 = .ok (.iadd, 1) := by decide +kernel
theorem dX8_wrong_70 : decode cX8_wrong 70 = .ok (.istore_n 1, 1) := by decide +kernel
theorem dX8_wrong_71 : decode cX8_wrong 71 = .ok (.iinc 2 1, 3) := by decide +kernel
theorem dX8_wrong_74 : decode cX8_wrong 74 = .ok (.goto (-70), 3) := by decide +kernel
theorem dX8_wrong_77 : decode cX8_wrong 77 = .ok (.iload_n 1, 1) := by decide +kernel
theorem dX8_wrong_78 : decode cX8_wrong 78 = .ok (.ireturn, 1) := by decide +kernel
theorem dX8_wrongCharacters_0 : decode cX8_wrongCharacters 0 = .ok (.aload_n 0, 1) := by decide +kernel
theorem dX8_wrongCharacters_1 : decode cX8_wrongCharacters 1 = .ok (.iconst 0, 1) := by decide +kernel
theorem dX8_wrongCharacters_2 : decode cX8_wrongCharacters 2 = .ok (.putfield 38, 3) := by decide +kernel
theorem dX8_wrongCharacters_5 : decode cX8_wrongCharacters 5 = .ok (.aload_n 0, 1) := by decide +kernel
theorem dX8_wrongCharacters_6 : decode cX8_wrongCharacters 6 = .ok (.iconst (-1), 1) := by decide +kernel
theorem dX8_wrongCharacters_7 : decode cX8_wrongCharacters 7 = .ok (.iconst 0, 1) := by decide +kernel
theorem dX8_wrongCharacters_8 : decode cX8_wrongCharacters 8 = .ok (.invokevirtual 126, 3) := by decide +kernel
theorem dX8_wrongCharacters_11 : decode cX8_wrongCharacters 11 = .ok (.aload_n 0, 1) := by decide +kernel
theorem dX8_wrongCharacters_12 : decode cX8_wrongCharacters 12 = .ok (.invokevirtual 136, 3) := by decide +kernel
theorem dX8_wrongCharacters_15 : decode cX8_wrongCharacters 15 = .ok (.ireturn, 1) := by decide +kernel
theorem dX8_plausibility_0 : decode cX8_plausibility 0 = .ok (.aload_n 0, 1) := by decide +kernel
theorem dX8_plausibility_1 : decode cX8_plausibility 1 = .ok (.iconst 0, 1) := by decide +kernel
theorem dX8_plausibility_2 : decode cX8_plausibility 2 = .ok (.putfield 38, 3) := by decide +kernel
theorem dX8_plausibility_5 : decode cX8_plausibility 5 = .ok (.aload_n 0, 1) := by decide +kernel
theorem dX8_plausibility_6 : decode cX8_plausibility 6 = .ok (.iconst (-1), 1) := by decide +kernel
theorem dX8_plausibility_7 : decode cX8_plausibility 7 = .ok (.iconst 0, 1) := by decide +kernel
theorem dX8_plausibility_8 : decode cX8_plausibility 8 = .ok (.invokevirtual 126, 3) := by decide +kernel
theorem dX8_plausibility_11 : decode cX8_plausibility 11 = .ok (.aload_n 0, 1) := by decide +kernel
theorem dX8_plausibility_12 : decode cX8_plausibility 12 = .ok (.getfield 97, 3) := by decide +kernel
theorem dX8_plausibility_15 : decode cX8_plausibility 15 = .ok (.ifCond .ne 7, 3) := by decide +kernel
theorem dX8_plausibility_18 : decode cX8_plausibility 18 = .ok (.dconst 1, 1) := by decide +kernel
theorem dX8_plausibility_19 : decode cX8_plausibility 19 = .ok (.goto 20, 3) := by decide +kernel
theorem dX8_plausibility_22 : decode cX8_plausibility 22 = .ok (.aload_n 0, 1) := by decide +kernel
theorem dX8_plausibility_23 : decode cX8_plausibility 23 = .ok (.getfield 97, 3) := by decide +kernel
theorem dX8_plausibility_26 : decode cX8_plausibility 26 = .ok (.aload_n 0, 1) := by decide +kernel
theorem dX8_plausibility_27 : decode cX8_plausibility 27 = .ok (.iconst 4, 1) := by decide +kernel
theorem dX8_plausibility_28 : decode cX8_plausibility 28 = .ok (.invokevirtual 133, 3) := by decide +kernel
theorem dX8_plausibility_31 : decode cX8_plausibility 31 = .ok (.isub, 1) := by decide +kernel
theorem dX8_plausibility_32 : decode cX8_plausibility 32 = .ok (.i2d, 1) := by decide +kernel
theorem dX8_plausibility_33 : decode cX8_plausibility 33 = .ok (.aload_n 0, 1) := by decide +kernel
theorem dX8_plausibility_34 : decode cX8_plausibility 34 = .ok (.getfield 97, 3) := by decide +kernel
theorem dX8_plausibility_37 : decode cX8_plausibility 37 = .ok (.i2d, 1) := by decide +kernel
theorem dX8_plausibility_38 : decode cX8_plausibility 38 = .ok (.ddiv, 1) := by decide +kernel
theorem dX8_plausibility_39 : decode cX8_plausibility 39 = .ok (.dreturn, 1) := by decide +kernel
theorem dX8_doubtsWith_0 : decode cX8_doubtsWith 0 = .ok (.aload_n 0, 1) := by decide +kernel
theorem dX8_doubtsWith_1 : decode cX8_doubtsWith 1 = .ok (.iload_n 1, 1) := by decide +kernel
theorem dX8_doubtsWith_2 : decode cX8_doubtsWith 2 = .ok (.iload_n 2, 1) := by decide +kernel
theorem dX8_doubtsWith_3 : decode cX8_doubtsWith 3 = .ok (.invokevirtual 126, 3) := by decide +kernel
theorem dX8_doubtsWith_6 : decode cX8_doubtsWith 6 = .ok (.aload_n 0, 1) := by decide +kernel
theorem dX8_doubtsWith_7 : decode cX8_doubtsWith 7 = .ok (.iconst 4, 1) := by decide +kernel
theorem dX8_doubtsWith_8 : decode cX8_doubtsWith 8 = .ok (.invokevirtual 133, 3) := by decide +kernel
theorem dX8_doubtsWith_11 : decode cX8_doubtsWith 11 = .ok (.ireturn, 1) := by decide +kernel
theorem dX8_doubtfulWith_0 : decode cX8_doubtfulWith 0 = .ok (.aload_n 0, 1) := by decide +kernel
theorem dX8_doubtfulWith_1 : decode cX8_doubtfulWith 1 = .ok (.iload_n 1, 1) := by decide +kernel
theorem dX8_doubtfulWith_2 : decode cX8_doubtfulWith 2 = .ok (.iconst 0, 1) := by decide +kernel
theorem dX8_doubtfulWith_3 : decode cX8_doubtfulWith 3 = .ok (.aload_n 0, 1) := by decide +kernel
theorem dX8_doubtfulWith_4 : decode cX8_doubtfulWith 4 = .ok (.getfield 7, 3) := by decide +kernel
theorem dX8_doubtfulWith_7 : decode cX8_doubtfulWith 7 = .ok (.sipush 201, 3) := by decide +kernel
theorem dX8_doubtfulWith_10 : decode cX8_doubtfulWith 10 = .ok (.iaload, 1) := by decide +kernel
theorem dX8_doubtfulWith_11 : decode cX8_doubtfulWith 11 = .ok (.invokestatic 44, 3) := by decide +kernel
theorem dX8_doubtfulWith_14 : decode cX8_doubtfulWith 14 = .ok (.ifCond .ne 7, 3) := by decide +kernel
theorem dX8_doubtfulWith_17 : decode cX8_doubtfulWith 17 = .ok (.iconst 1, 1) := by decide +kernel
theorem dX8_doubtfulWith_18 : decode cX8_doubtfulWith 18 = .ok (.goto 19, 3) := by decide +kernel
theorem dX8_doubtfulWith_21 : decode cX8_doubtfulWith 21 = .ok (.iload_n 2, 1) := by decide +kernel
theorem dX8_doubtfulWith_22 : decode cX8_doubtfulWith 22 = .ok (.bipush 30, 2) := by decide +kernel
theorem dX8_doubtfulWith_24 : decode cX8_doubtfulWith 24 = .ok (.bipush 31, 2) := by decide +kernel
theorem dX8_doubtfulWith_26 : decode cX8_doubtfulWith 26 = .ok (.invokestatic 44, 3) := by decide +kernel
theorem dX8_doubtfulWith_29 : decode cX8_doubtfulWith 29 = .ok (.ifCond .eq 7, 3) := by decide +kernel
theorem dX8_doubtfulWith_32 : decode cX8_doubtfulWith 32 = .ok (.iconst 0, 1) := by decide +kernel
theorem dX8_doubtfulWith_33 : decode cX8_doubtfulWith 33 = .ok (.goto 4, 3) := by decide +kernel
theorem dX8_doubtfulWith_36 : decode cX8_doubtfulWith 36 = .ok (.iconst 2, 1) := by decide +kernel
theorem dX8_doubtfulWith_37 : decode cX8_doubtfulWith 37 = .ok (.invokevirtual 65, 3) := by decide +kernel
theorem dX8_doubtfulWith_40 : decode cX8_doubtfulWith 40 = .ok (.ifCond .eq 5, 3) := by decide +kernel
theorem dX8_doubtfulWith_43 : decode cX8_doubtfulWith 43 = .ok (.iconst 0, 1) := by decide +kernel
theorem dX8_doubtfulWith_44 : decode cX8_doubtfulWith 44 = .ok (.ireturn, 1) := by decide +kernel
theorem dX8_doubtfulWith_45 : decode cX8_doubtfulWith 45 = .ok (.aload_n 0, 1) := by decide +kernel
theorem dX8_doubtfulWith_46 : decode cX8_doubtfulWith 46 = .ok (.iload_n 1, 1) := by decide +kernel
theorem dX8_doubtfulWith_47 : decode cX8_doubtfulWith 47 = .ok (.iload_n 2, 1) := by decide +kernel
theorem dX8_doubtfulWith_48 : decode cX8_doubtfulWith 48 = .ok (.invokevirtual 139, 3) := by decide +kernel
theorem dX8_doubtfulWith_51 : decode cX8_doubtfulWith 51 = .ok (.ireturn, 1) := by decide +kernel
theorem dX8_repair_0 : decode cX8_repair 0 = .ok (.aload_n 0, 1) := by decide +kernel
theorem dX8_repair_1 : decode cX8_repair 1 = .ok (.iconst (-1), 1) := by decide +kernel
theorem dX8_repair_2 : decode cX8_repair 2 = .ok (.iconst 0, 1) := by decide +kernel
theorem dX8_repair_3 : decode cX8_repair 3 = .ok (.invokevirtual 139, 3) := by decide +kernel
theorem dX8_repair_6 : decode cX8_repair 6 = .ok (.istore_n 1, 1) := by decide +kernel
theorem dX8_repair_7 : decode cX8_repair 7 = .ok (.iconst (-1), 1) := by decide +kernel
theorem dX8_repair_8 : decode cX8_repair 8 = .ok (.istore_n 2, 1) := by decide +kernel
theorem dX8_repair_9 : decode cX8_repair 9 = .ok (.iconst 0, 1) := by decide +kernel
theorem dX8_repair_10 : decode cX8_repair 10 = .ok (.istore_n 3, 1) := by decide +kernel
theorem dX8_repair_11 : decode cX8_repair 11 = .ok (.iload_n 3, 1) := by decide +kernel
theorem dX8_repair_12 : decode cX8_repair 12 = .ok (.iconst 2, 1) := by decide +kernel
theorem dX8_repair_13 : decode cX8_repair 13 = .ok (.aload_n 0, 1) := by decide +kernel
theorem dX8_repair_14 : decode cX8_repair 14 = .ok (.getfield 7, 3) := by decide +kernel
theorem dX8_repair_17 : decode cX8_repair 17 = .ok (.sipush 201, 3) := by decide +kernel
theorem dX8_repair_20 : decode cX8_repair 20 = .ok (.iaload, 1) := by decide +kernel
theorem dX8_repair_21 : decode cX8_repair 21 = .ok (.imul, 1) := by decide +kernel
theorem dX8_repair_22 : decode cX8_repair 22 = .ok (.iconst 2, 1) := by decide +kernel
theorem dX8_repair_23 : decode cX8_repair 23 = .ok (.iadd, 1) := by decide +kernel
theorem dX8_repair_24 : decode cX8_repair 24 = .ok (.if_icmp .ge 57, 3) := by decide +kernel
theorem dX8_repair_27 : decode cX8_repair 27 = .ok (.iload_n 1, 1) := by decide +kernel
theorem dX8_repair_28 : decode cX8_repair 28 = .ok (.ifCond .ne 7, 3) := by decide +kernel
theorem dX8_repair_31 : decode cX8_repair 31 = .ok (.iconst 0, 1) := by decide +kernel
theorem dX8_repair_32 : decode cX8_repair 32 = .ok (.goto 16, 3) := by decide +kernel
theorem dX8_repair_35 : decode cX8_repair 35 = .ok (.aload_n 0, 1) := by decide +kernel
theorem dX8_repair_36 : decode cX8_repair 36 = .ok (.iload_n 3, 1) := by decide +kernel
theorem dX8_repair_37 : decode cX8_repair 37 = .ok (.iconst 2, 1) := by decide +kernel
theorem dX8_repair_38 : decode cX8_repair 38 = .ok (.idiv, 1) := by decide +kernel
theorem dX8_repair_39 : decode cX8_repair 39 = .ok (.bipush 30, 2) := by decide +kernel
theorem dX8_repair_41 : decode cX8_repair 41 = .ok (.iload_n 3, 1) := by decide +kernel
theorem dX8_repair_42 : decode cX8_repair 42 = .ok (.iconst 2, 1) := by decide +kernel
theorem dX8_repair_43 : decode cX8_repair 43 = .ok (.irem, 1) := by decide +kernel
theorem dX8_repair_44 : decode cX8_repair 44 = .ok (.iadd, 1) := by decide +kernel
theorem dX8_repair_45 : decode cX8_repair 45 = .ok (.invokevirtual 139, 3) := by decide +kernel
theorem dX8_repair_48 : decode cX8_repair 48 = .ok (.istore 4, 2) := by decide +kernel
theorem dX8_repair_50 : decode cX8_repair 50 = .ok (.iload 4, 2) := by decide +kernel
theorem dX8_repair_52 : decode cX8_repair 52 = .ok (.iload_n 1, 1) := by decide +kernel
theorem dX8_repair_53 : decode cX8_repair 53 = .ok (.if_icmp .ge 7, 3) := by decide +kernel
theorem dX8_repair_56 : decode cX8_repair 56 = .ok (.iload_n 3, 1) := by decide +kernel
theorem dX8_repair_57 : decode cX8_repair 57 = .ok (.goto 4, 3) := by decide +kernel
theorem dX8_repair_60 : decode cX8_repair 60 = .ok (.iload_n 2, 1) := by decide +kernel
theorem dX8_repair_61 : decode cX8_repair 61 = .ok (.istore_n 2, 1) := by decide +kernel
theorem dX8_repair_62 : decode cX8_repair 62 = .ok (.iload 4, 2) := by decide +kernel
theorem dX8_repair_64 : decode cX8_repair 64 = .ok (.iload_n 1, 1) := by decide +kernel
theorem dX8_repair_65 : decode cX8_repair 65 = .ok (.if_icmp .ge 8, 3) := by decide +kernel
theorem dX8_repair_68 : decode cX8_repair 68 = .ok (.iload 4, 2) := by decide +kernel
theorem dX8_repair_70 : decode cX8_repair 70 = .ok (.goto 4, 3) := by decide +kernel
theorem dX8_repair_73 : decode cX8_repair 73 = .ok (.iload_n 1, 1) := by decide +kernel
theorem dX8_repair_74 : decode cX8_repair 74 = .ok (.istore_n 1, 1) := by decide +kernel
theorem dX8_repair_75 : decode cX8_repair 75 = .ok (.iinc 3 1, 3) := by decide +kernel
theorem dX8_repair_78 : decode cX8_repair 78 = .ok (.goto (-67), 3) := by decide +kernel
theorem dX8_repair_81 : decode cX8_repair 81 = .ok (.iload_n 2, 1) := by decide +kernel
theorem dX8_repair_82 : decode cX8_repair 82 = .ok (.ireturn, 1) := by decide +kernel
theorem dX8_bestRepair_0 : decode cX8_bestRepair 0 = .ok (.aload_n 0, 1) := by decide +kernel
theorem dX8_bestRepair_1 : decode cX8_bestRepair 1 = .ok (.iconst 0, 1) := by decide +kernel
theorem dX8_bestRepair_2 : decode cX8_bestRepair 2 = .ok (.putfield 38, 3) := by decide +kernel
theorem dX8_bestRepair_5 : decode cX8_bestRepair 5 = .ok (.aload_n 0, 1) := by decide +kernel
theorem dX8_bestRepair_6 : decode cX8_bestRepair 6 = .ok (.invokevirtual 142, 3) := by decide +kernel
theorem dX8_bestRepair_9 : decode cX8_bestRepair 9 = .ok (.ireturn, 1) := by decide +kernel
theorem dX8_undo_0 : decode cX8_undo 0 = .ok (.aload_n 0, 1) := by decide +kernel
theorem dX8_undo_1 : decode cX8_undo 1 = .ok (.aload_n 0, 1) := by decide +kernel
theorem dX8_undo_2 : decode cX8_undo 2 = .ok (.getfield 41, 3) := by decide +kernel
theorem dX8_undo_5 : decode cX8_undo 5 = .ok (.ifCond .ne 7, 3) := by decide +kernel
theorem dX8_undo_8 : decode cX8_undo 8 = .ok (.iconst 1, 1) := by decide +kernel
theorem dX8_undo_9 : decode cX8_undo 9 = .ok (.goto 4, 3) := by decide +kernel
theorem dX8_undo_12 : decode cX8_undo 12 = .ok (.iconst 0, 1) := by decide +kernel
theorem dX8_undo_13 : decode cX8_undo 13 = .ok (.invokevirtual 65, 3) := by decide +kernel
theorem dX8_undo_16 : decode cX8_undo 16 = .ok (.ifCond .eq 5, 3) := by decide +kernel
theorem dX8_undo_19 : decode cX8_undo 19 = .ok (.iconst 0, 1) := by decide +kernel
theorem dX8_undo_20 : decode cX8_undo 20 = .ok (.ireturn, 1) := by decide +kernel
theorem dX8_undo_21 : decode cX8_undo 21 = .ok (.aload_n 0, 1) := by decide +kernel
theorem dX8_undo_22 : decode cX8_undo 22 = .ok (.dup, 1) := by decide +kernel
theorem dX8_undo_23 : decode cX8_undo 23 = .ok (.getfield 41, 3) := by decide +kernel
theorem dX8_undo_26 : decode cX8_undo 26 = .ok (.iconst 1, 1) := by decide +kernel
theorem dX8_undo_27 : decode cX8_undo 27 = .ok (.isub, 1) := by decide +kernel
theorem dX8_undo_28 : decode cX8_undo 28 = .ok (.putfield 41, 3) := by decide +kernel
theorem dX8_undo_31 : decode cX8_undo 31 = .ok (.iconst 0, 1) := by decide +kernel
theorem dX8_undo_32 : decode cX8_undo 32 = .ok (.istore_n 1, 1) := by decide +kernel
theorem dX8_undo_33 : decode cX8_undo 33 = .ok (.iload_n 1, 1) := by decide +kernel
theorem dX8_undo_34 : decode cX8_undo 34 = .ok (.sipush 946, 3) := by decide +kernel
theorem dX8_undo_37 : decode cX8_undo 37 = .ok (.if_icmp .ge 30, 3) := by decide +kernel
theorem dX8_undo_40 : decode cX8_undo 40 = .ok (.aload_n 0, 1) := by decide +kernel
theorem dX8_undo_41 : decode cX8_undo 41 = .ok (.getfield 7, 3) := by decide +kernel
theorem dX8_undo_44 : decode cX8_undo 44 = .ok (.iload_n 1, 1) := by decide +kernel
theorem dX8_undo_45 : decode cX8_undo 45 = .ok (.aload_n 0, 1) := by decide +kernel
theorem dX8_undo_46 : decode cX8_undo 46 = .ok (.getfield 13, 3) := by decide +kernel
theorem dX8_undo_49 : decode cX8_undo 49 = .ok (.sipush 946, 3) := by decide +kernel
theorem dX8_undo_52 : decode cX8_undo 52 = .ok (.aload_n 0, 1) := by decide +kernel
theorem dX8_undo_53 : decode cX8_undo 53 = .ok (.getfield 41, 3) := by decide +kernel
theorem dX8_undo_56 : decode cX8_undo 56 = .ok (.imul, 1) := by decide +kernel
theorem dX8_undo_57 : decode cX8_undo 57 = .ok (.iload_n 1, 1) := by decide +kernel
theorem dX8_undo_58 : decode cX8_undo 58 = .ok (.iadd, 1) := by decide +kernel
theorem dX8_undo_59 : decode cX8_undo 59 = .ok (.iaload, 1) := by decide +kernel
theorem dX8_undo_60 : decode cX8_undo 60 = .ok (.iastore, 1) := by decide +kernel
theorem dX8_undo_61 : decode cX8_undo 61 = .ok (.iinc 1 1, 3) := by decide +kernel
theorem dX8_undo_64 : decode cX8_undo 64 = .ok (.goto (-31), 3) := by decide +kernel
theorem dX8_undo_67 : decode cX8_undo 67 = .ok (.aload_n 0, 1) := by decide +kernel
theorem dX8_undo_68 : decode cX8_undo 68 = .ok (.getfield 41, 3) := by decide +kernel
theorem dX8_undo_71 : decode cX8_undo 71 = .ok (.ireturn, 1) := by decide +kernel
theorem dX8_savedStates_0 : decode cX8_savedStates 0 = .ok (.aload_n 0, 1) := by decide +kernel
theorem dX8_savedStates_1 : decode cX8_savedStates 1 = .ok (.iconst 0, 1) := by decide +kernel
theorem dX8_savedStates_2 : decode cX8_savedStates 2 = .ok (.putfield 38, 3) := by decide +kernel
theorem dX8_savedStates_5 : decode cX8_savedStates 5 = .ok (.aload_n 0, 1) := by decide +kernel
theorem dX8_savedStates_6 : decode cX8_savedStates 6 = .ok (.getfield 41, 3) := by decide +kernel
theorem dX8_savedStates_9 : decode cX8_savedStates 9 = .ok (.ireturn, 1) := by decide +kernel
theorem dX8_digest_0 : decode cX8_digest 0 = .ok (.aload_n 0, 1) := by decide +kernel
theorem dX8_digest_1 : decode cX8_digest 1 = .ok (.iconst 0, 1) := by decide +kernel
theorem dX8_digest_2 : decode cX8_digest 2 = .ok (.putfield 38, 3) := by decide +kernel
theorem dX8_digest_5 : decode cX8_digest 5 = .ok (.aload_n 0, 1) := by decide +kernel
theorem dX8_digest_6 : decode cX8_digest 6 = .ok (.invokevirtual 142, 3) := by decide +kernel
theorem dX8_digest_9 : decode cX8_digest 9 = .ok (.istore_n 1, 1) := by decide +kernel
theorem dX8_digest_10 : decode cX8_digest 10 = .ok (.aload_n 0, 1) := by decide +kernel
theorem dX8_digest_11 : decode cX8_digest 11 = .ok (.iconst (-1), 1) := by decide +kernel
theorem dX8_digest_12 : decode cX8_digest 12 = .ok (.iconst 0, 1) := by decide +kernel
theorem dX8_digest_13 : decode cX8_digest 13 = .ok (.invokevirtual 126, 3) := by decide +kernel
theorem dX8_digest_16 : decode cX8_digest 16 = .ok (.ldc2_w 145, 3) := by decide +kernel
theorem dX8_digest_19 : decode cX8_digest 19 = .ok (.aload_n 0, 1) := by decide +kernel
theorem dX8_digest_20 : decode cX8_digest 20 = .ok (.getfield 7, 3) := by decide +kernel
theorem dX8_digest_23 : decode cX8_digest 23 = .ok (.iconst 0, 1) := by decide +kernel
theorem dX8_digest_24 : decode cX8_digest 24 = .ok (.iaload, 1) := by decide +kernel
theorem dX8_digest_25 : decode cX8_digest 25 = .ok (.i2l, 1) := by decide +kernel
theorem dX8_digest_26 : decode cX8_digest 26 = .ok (.ladd, 1) := by decide +kernel
theorem dX8_digest_27 : decode cX8_digest 27 = .ok (.lstore_n 2, 1) := by decide +kernel
theorem dX8_digest_28 : decode cX8_digest 28 = .ok (.ldc2_w 147, 3) := by decide +kernel
theorem dX8_digest_31 : decode cX8_digest 31 = .ok (.lload_n 2, 1) := by decide +kernel
theorem dX8_digest_32 : decode cX8_digest 32 = .ok (.lmul, 1) := by decide +kernel
theorem dX8_digest_33 : decode cX8_digest 33 = .ok (.aload_n 0, 1) := by decide +kernel
theorem dX8_digest_34 : decode cX8_digest 34 = .ok (.getfield 7, 3) := by decide +kernel
theorem dX8_digest_37 : decode cX8_digest 37 = .ok (.sipush 201, 3) := by decide +kernel
theorem dX8_digest_40 : decode cX8_digest 40 = .ok (.iaload, 1) := by decide +kernel
theorem dX8_digest_41 : decode cX8_digest 41 = .ok (.i2l, 1) := by decide +kernel
theorem dX8_digest_42 : decode cX8_digest 42 = .ok (.ladd, 1) := by decide +kernel
theorem dX8_digest_43 : decode cX8_digest 43 = .ok (.lstore_n 2, 1) := by decide +kernel
theorem dX8_digest_44 : decode cX8_digest 44 = .ok (.ldc2_w 147, 3) := by decide +kernel
theorem dX8_digest_47 : decode cX8_digest 47 = .ok (.lload_n 2, 1) := by decide +kernel
theorem dX8_digest_48 : decode cX8_digest 48 = .ok (.lmul, 1) := by decide +kernel
theorem dX8_digest_49 : decode cX8_digest 49 = .ok (.aload_n 0, 1) := by decide +kernel
theorem dX8_digest_50 : decode cX8_digest 50 = .ok (.getfield 7, 3) := by decide +kernel
theorem dX8_digest_53 : decode cX8_digest 53 = .ok (.sipush 603, 3) := by decide +kernel
theorem dX8_digest_56 : decode cX8_digest 56 = .ok (.iaload, 1) := by decide +kernel
theorem dX8_digest_57 : decode cX8_digest 57 = .ok (.i2l, 1) := by decide +kernel
theorem dX8_digest_58 : decode cX8_digest 58 = .ok (.ladd, 1) := by decide +kernel
theorem dX8_digest_59 : decode cX8_digest 59 = .ok (.lstore_n 2, 1) := by decide +kernel
theorem dX8_digest_60 : decode cX8_digest 60 = .ok (.ldc2_w 147, 3) := by decide +kernel
theorem dX8_digest_63 : decode cX8_digest 63 = .ok (.lload_n 2, 1) := by decide +kernel
theorem dX8_digest_64 : decode cX8_digest 64 = .ok (.lmul, 1) := by decide +kernel
theorem dX8_digest_65 : decode cX8_digest 65 = .ok (.aload_n 0, 1) := by decide +kernel
theorem dX8_digest_66 : decode cX8_digest 66 = .ok (.invokevirtual 82, 3) := by decide +kernel
theorem dX8_digest_69 : decode cX8_digest 69 = .ok (.i2l, 1) := by decide +kernel
theorem dX8_digest_70 : decode cX8_digest 70 = .ok (.ladd, 1) := by decide +kernel
theorem dX8_digest_71 : decode cX8_digest 71 = .ok (.lstore_n 2, 1) := by decide +kernel
theorem dX8_digest_72 : decode cX8_digest 72 = .ok (.ldc2_w 147, 3) := by decide +kernel
theorem dX8_digest_75 : decode cX8_digest 75 = .ok (.lload_n 2, 1) := by decide +kernel
theorem dX8_digest_76 : decode cX8_digest 76 = .ok (.lmul, 1) := by decide +kernel
theorem dX8_digest_77 : decode cX8_digest 77 = .ok (.aload_n 0, 1) := by decide +kernel
theorem dX8_digest_78 : decode cX8_digest 78 = .ok (.getfield 7, 3) := by decide +kernel
theorem dX8_digest_81 : decode cX8_digest 81 = .ok (.sipush 805, 3) := by decide +kernel
theorem dX8_digest_84 : decode cX8_digest 84 = .ok (.iaload, 1) := by decide +kernel
theorem dX8_digest_85 : decode cX8_digest 85 = .ok (.i2l, 1) := by decide +kernel
theorem dX8_digest_86 : decode cX8_digest 86 = .ok (.ladd, 1) := by decide +kernel
theorem dX8_digest_87 : decode cX8_digest 87 = .ok (.lstore_n 2, 1) := by decide +kernel
theorem dX8_digest_88 : decode cX8_digest 88 = .ok (.ldc2_w 147, 3) := by decide +kernel
theorem dX8_digest_91 : decode cX8_digest 91 = .ok (.lload_n 2, 1) := by decide +kernel
theorem dX8_digest_92 : decode cX8_digest 92 = .ok (.lmul, 1) := by decide +kernel
theorem dX8_digest_93 : decode cX8_digest 93 = .ok (.aload_n 0, 1) := by decide +kernel
theorem dX8_digest_94 : decode cX8_digest 94 = .ok (.getfield 88, 3) := by decide +kernel
theorem dX8_digest_97 : decode cX8_digest 97 = .ok (.i2l, 1) := by decide +kernel
theorem dX8_digest_98 : decode cX8_digest 98 = .ok (.ladd, 1) := by decide +kernel
theorem dX8_digest_99 : decode cX8_digest 99 = .ok (.lstore_n 2, 1) := by decide +kernel
theorem dX8_digest_100 : decode cX8_digest 100 = .ok (.ldc2_w 147, 3) := by decide +kernel
theorem dX8_digest_103 : decode cX8_digest 103 = .ok (.lload_n 2, 1) := by decide +kernel
theorem dX8_digest_104 : decode cX8_digest 104 = .ok (.lmul, 1) := by decide +kernel
theorem dX8_digest_105 : decode cX8_digest 105 = .ok (.aload_n 0, 1) := by decide +kernel
theorem dX8_digest_106 : decode cX8_digest 106 = .ok (.getfield 97, 3) := by decide +kernel
theorem dX8_digest_109 : decode cX8_digest 109 = .ok (.i2l, 1) := by decide +kernel
theorem dX8_digest_110 : decode cX8_digest 110 = .ok (.ladd, 1) := by decide +kernel
theorem dX8_digest_111 : decode cX8_digest 111 = .ok (.lstore_n 2, 1) := by decide +kernel
theorem dX8_digest_112 : decode cX8_digest 112 = .ok (.ldc2_w 147, 3) := by decide +kernel
theorem dX8_digest_115 : decode cX8_digest 115 = .ok (.lload_n 2, 1) := by decide +kernel
theorem dX8_digest_116 : decode cX8_digest 116 = .ok (.lmul, 1) := by decide +kernel
theorem dX8_digest_117 : decode cX8_digest 117 = .ok (.aload_n 0, 1) := by decide +kernel
theorem dX8_digest_118 : decode cX8_digest 118 = .ok (.iconst 2, 1) := by decide +kernel
theorem dX8_digest_119 : decode cX8_digest 119 = .ok (.invokevirtual 133, 3) := by decide +kernel
theorem dX8_digest_122 : decode cX8_digest 122 = .ok (.i2l, 1) := by decide +kernel
theorem dX8_digest_123 : decode cX8_digest 123 = .ok (.ladd, 1) := by decide +kernel
theorem dX8_digest_124 : decode cX8_digest 124 = .ok (.lstore_n 2, 1) := by decide +kernel
theorem dX8_digest_125 : decode cX8_digest 125 = .ok (.ldc2_w 147, 3) := by decide +kernel
theorem dX8_digest_128 : decode cX8_digest 128 = .ok (.lload_n 2, 1) := by decide +kernel
theorem dX8_digest_129 : decode cX8_digest 129 = .ok (.lmul, 1) := by decide +kernel
theorem dX8_digest_130 : decode cX8_digest 130 = .ok (.aload_n 0, 1) := by decide +kernel
theorem dX8_digest_131 : decode cX8_digest 131 = .ok (.iconst 4, 1) := by decide +kernel
theorem dX8_digest_132 : decode cX8_digest 132 = .ok (.invokevirtual 133, 3) := by decide +kernel
theorem dX8_digest_135 : decode cX8_digest 135 = .ok (.i2l, 1) := by decide +kernel
theorem dX8_digest_136 : decode cX8_digest 136 = .ok (.ladd, 1) := by decide +kernel
theorem dX8_digest_137 : decode cX8_digest 137 = .ok (.lstore_n 2, 1) := by decide +kernel
theorem dX8_digest_138 : decode cX8_digest 138 = .ok (.ldc2_w 147, 3) := by decide +kernel
theorem dX8_digest_141 : decode cX8_digest 141 = .ok (.lload_n 2, 1) := by decide +kernel
theorem dX8_digest_142 : decode cX8_digest 142 = .ok (.lmul, 1) := by decide +kernel
theorem dX8_digest_143 : decode cX8_digest 143 = .ok (.aload_n 0, 1) := by decide +kernel
theorem dX8_digest_144 : decode cX8_digest 144 = .ok (.getfield 107, 3) := by decide +kernel
theorem dX8_digest_147 : decode cX8_digest 147 = .ok (.i2l, 1) := by decide +kernel
theorem dX8_digest_148 : decode cX8_digest 148 = .ok (.ladd, 1) := by decide +kernel
theorem dX8_digest_149 : decode cX8_digest 149 = .ok (.lstore_n 2, 1) := by decide +kernel
theorem dX8_digest_150 : decode cX8_digest 150 = .ok (.ldc2_w 147, 3) := by decide +kernel
theorem dX8_digest_153 : decode cX8_digest 153 = .ok (.lload_n 2, 1) := by decide +kernel
theorem dX8_digest_154 : decode cX8_digest 154 = .ok (.lmul, 1) := by decide +kernel
theorem dX8_digest_155 : decode cX8_digest 155 = .ok (.aload_n 0, 1) := by decide +kernel
theorem dX8_digest_156 : decode cX8_digest 156 = .ok (.getfield 110, 3) := by decide +kernel
theorem dX8_digest_159 : decode cX8_digest 159 = .ok (.i2l, 1) := by decide +kernel
theorem dX8_digest_160 : decode cX8_digest 160 = .ok (.ladd, 1) := by decide +kernel
theorem dX8_digest_161 : decode cX8_digest 161 = .ok (.lstore_n 2, 1) := by decide +kernel
theorem dX8_digest_162 : decode cX8_digest 162 = .ok (.ldc2_w 147, 3) := by decide +kernel
theorem dX8_digest_165 : decode cX8_digest 165 = .ok (.lload_n 2, 1) := by decide +kernel
theorem dX8_digest_166 : decode cX8_digest 166 = .ok (.lmul, 1) := by decide +kernel
theorem dX8_digest_167 : decode cX8_digest 167 = .ok (.aload_n 0, 1) := by decide +kernel
theorem dX8_digest_168 : decode cX8_digest 168 = .ok (.getfield 91, 3) := by decide +kernel
theorem dX8_digest_171 : decode cX8_digest 171 = .ok (.i2l, 1) := by decide +kernel
theorem dX8_digest_172 : decode cX8_digest 172 = .ok (.ladd, 1) := by decide +kernel
theorem dX8_digest_173 : decode cX8_digest 173 = .ok (.lstore_n 2, 1) := by decide +kernel
theorem dX8_digest_174 : decode cX8_digest 174 = .ok (.ldc2_w 147, 3) := by decide +kernel
theorem dX8_digest_177 : decode cX8_digest 177 = .ok (.lload_n 2, 1) := by decide +kernel
theorem dX8_digest_178 : decode cX8_digest 178 = .ok (.lmul, 1) := by decide +kernel
theorem dX8_digest_179 : decode cX8_digest 179 = .ok (.aload_n 0, 1) := by decide +kernel
theorem dX8_digest_180 : decode cX8_digest 180 = .ok (.invokevirtual 136, 3) := by decide +kernel
theorem dX8_digest_183 : decode cX8_digest 183 = .ok (.i2l, 1) := by decide +kernel
theorem dX8_digest_184 : decode cX8_digest 184 = .ok (.ladd, 1) := by decide +kernel
theorem dX8_digest_185 : decode cX8_digest 185 = .ok (.lstore_n 2, 1) := by decide +kernel
theorem dX8_digest_186 : decode cX8_digest 186 = .ok (.ldc2_w 147, 3) := by decide +kernel
theorem dX8_digest_189 : decode cX8_digest 189 = .ok (.lload_n 2, 1) := by decide +kernel
theorem dX8_digest_190 : decode cX8_digest 190 = .ok (.lmul, 1) := by decide +kernel
theorem dX8_digest_191 : decode cX8_digest 191 = .ok (.iload_n 1, 1) := by decide +kernel
theorem dX8_digest_192 : decode cX8_digest 192 = .ok (.i2l, 1) := by decide +kernel
theorem dX8_digest_193 : decode cX8_digest 193 = .ok (.ladd, 1) := by decide +kernel
theorem dX8_digest_194 : decode cX8_digest 194 = .ok (.lstore_n 2, 1) := by decide +kernel
theorem dX8_digest_195 : decode cX8_digest 195 = .ok (.iconst 0, 1) := by decide +kernel
theorem dX8_digest_196 : decode cX8_digest 196 = .ok (.istore 4, 2) := by decide +kernel
theorem dX8_digest_198 : decode cX8_digest 198 = .ok (.iload 4, 2) := by decide +kernel
theorem dX8_digest_200 : decode cX8_digest 200 = .ok (.aload_n 0, 1) := by decide +kernel
theorem dX8_digest_201 : decode cX8_digest 201 = .ok (.getfield 7, 3) := by decide +kernel
theorem dX8_digest_204 : decode cX8_digest 204 = .ok (.sipush 201, 3) := by decide +kernel
theorem dX8_digest_207 : decode cX8_digest 207 = .ok (.iaload, 1) := by decide +kernel
theorem dX8_digest_208 : decode cX8_digest 208 = .ok (.if_icmp .ge 28, 3) := by decide +kernel
theorem dX8_digest_211 : decode cX8_digest 211 = .ok (.ldc2_w 147, 3) := by decide +kernel
theorem dX8_digest_214 : decode cX8_digest 214 = .ok (.lload_n 2, 1) := by decide +kernel
theorem dX8_digest_215 : decode cX8_digest 215 = .ok (.lmul, 1) := by decide +kernel
theorem dX8_digest_216 : decode cX8_digest 216 = .ok (.aload_n 0, 1) := by decide +kernel
theorem dX8_digest_217 : decode cX8_digest 217 = .ok (.getfield 7, 3) := by decide +kernel
theorem dX8_digest_220 : decode cX8_digest 220 = .ok (.sipush 202, 3) := by decide +kernel
theorem dX8_digest_223 : decode cX8_digest 223 = .ok (.iload 4, 2) := by decide +kernel
theorem dX8_digest_225 : decode cX8_digest 225 = .ok (.iadd, 1) := by decide +kernel
theorem dX8_digest_226 : decode cX8_digest 226 = .ok (.iaload, 1) := by decide +kernel
theorem dX8_digest_227 : decode cX8_digest 227 = .ok (.i2l, 1) := by decide +kernel
theorem dX8_digest_228 : decode cX8_digest 228 = .ok (.ladd, 1) := by decide +kernel
theorem dX8_digest_229 : decode cX8_digest 229 = .ok (.lstore_n 2, 1) := by decide +kernel
theorem dX8_digest_230 : decode cX8_digest 230 = .ok (.iinc 4 1, 3) := by decide +kernel
theorem dX8_digest_233 : decode cX8_digest 233 = .ok (.goto (-35), 3) := by decide +kernel
theorem dX8_digest_236 : decode cX8_digest 236 = .ok (.iconst 0, 1) := by decide +kernel
theorem dX8_digest_237 : decode cX8_digest 237 = .ok (.istore 4, 2) := by decide +kernel
theorem dX8_digest_239 : decode cX8_digest 239 = .ok (.iload 4, 2) := by decide +kernel
theorem dX8_digest_241 : decode cX8_digest 241 = .ok (.aload_n 0, 1) := by decide +kernel
theorem dX8_digest_242 : decode cX8_digest 242 = .ok (.getfield 88, 3) := by decide +kernel
theorem dX8_digest_245 : decode cX8_digest 245 = .ok (.if_icmp .ge 24, 3) := by decide +kernel
theorem dX8_digest_248 : decode cX8_digest 248 = .ok (.ldc2_w 147, 3) := by decide +kernel
theorem dX8_digest_251 : decode cX8_digest 251 = .ok (.lload_n 2, 1) := by decide +kernel
theorem dX8_digest_252 : decode cX8_digest 252 = .ok (.lmul, 1) := by decide +kernel
theorem dX8_digest_253 : decode cX8_digest 253 = .ok (.aload_n 0, 1) := by decide +kernel
theorem dX8_digest_254 : decode cX8_digest 254 = .ok (.getfield 19, 3) := by decide +kernel
theorem dX8_digest_257 : decode cX8_digest 257 = .ok (.iload 4, 2) := by decide +kernel
theorem dX8_digest_259 : decode cX8_digest 259 = .ok (.iaload, 1) := by decide +kernel
theorem dX8_digest_260 : decode cX8_digest 260 = .ok (.i2l, 1) := by decide +kernel
theorem dX8_digest_261 : decode cX8_digest 261 = .ok (.ladd, 1) := by decide +kernel
theorem dX8_digest_262 : decode cX8_digest 262 = .ok (.lstore_n 2, 1) := by decide +kernel
theorem dX8_digest_263 : decode cX8_digest 263 = .ok (.iinc 4 1, 3) := by decide +kernel
theorem dX8_digest_266 : decode cX8_digest 266 = .ok (.goto (-27), 3) := by decide +kernel
theorem dX8_digest_269 : decode cX8_digest 269 = .ok (.iconst 0, 1) := by decide +kernel
theorem dX8_digest_270 : decode cX8_digest 270 = .ok (.istore 4, 2) := by decide +kernel
theorem dX8_digest_272 : decode cX8_digest 272 = .ok (.iload 4, 2) := by decide +kernel
theorem dX8_digest_274 : decode cX8_digest 274 = .ok (.aload_n 0, 1) := by decide +kernel
theorem dX8_digest_275 : decode cX8_digest 275 = .ok (.getfield 97, 3) := by decide +kernel
theorem dX8_digest_278 : decode cX8_digest 278 = .ok (.if_icmp .ge 39, 3) := by decide +kernel
theorem dX8_digest_281 : decode cX8_digest 281 = .ok (.ldc2_w 147, 3) := by decide +kernel
theorem dX8_digest_284 : decode cX8_digest 284 = .ok (.lload_n 2, 1) := by decide +kernel
theorem dX8_digest_285 : decode cX8_digest 285 = .ok (.lmul, 1) := by decide +kernel
theorem dX8_digest_286 : decode cX8_digest 286 = .ok (.aload_n 0, 1) := by decide +kernel
theorem dX8_digest_287 : decode cX8_digest 287 = .ok (.getfield 25, 3) := by decide +kernel
theorem dX8_digest_290 : decode cX8_digest 290 = .ok (.iload 4, 2) := by decide +kernel
theorem dX8_digest_292 : decode cX8_digest 292 = .ok (.iaload, 1) := by decide +kernel
theorem dX8_digest_293 : decode cX8_digest 293 = .ok (.i2l, 1) := by decide +kernel
theorem dX8_digest_294 : decode cX8_digest 294 = .ok (.ladd, 1) := by decide +kernel
theorem dX8_digest_295 : decode cX8_digest 295 = .ok (.lstore_n 2, 1) := by decide +kernel
theorem dX8_digest_296 : decode cX8_digest 296 = .ok (.ldc2_w 147, 3) := by decide +kernel
theorem dX8_digest_299 : decode cX8_digest 299 = .ok (.lload_n 2, 1) := by decide +kernel
theorem dX8_digest_300 : decode cX8_digest 300 = .ok (.lmul, 1) := by decide +kernel
theorem dX8_digest_301 : decode cX8_digest 301 = .ok (.aload_n 0, 1) := by decide +kernel
theorem dX8_digest_302 : decode cX8_digest 302 = .ok (.getfield 28, 3) := by decide +kernel
theorem dX8_digest_305 : decode cX8_digest 305 = .ok (.iload 4, 2) := by decide +kernel
theorem dX8_digest_307 : decode cX8_digest 307 = .ok (.iaload, 1) := by decide +kernel
theorem dX8_digest_308 : decode cX8_digest 308 = .ok (.i2l, 1) := by decide +kernel
theorem dX8_digest_309 : decode cX8_digest 309 = .ok (.ladd, 1) := by decide +kernel
theorem dX8_digest_310 : decode cX8_digest 310 = .ok (.lstore_n 2, 1) := by decide +kernel
theorem dX8_digest_311 : decode cX8_digest 311 = .ok (.iinc 4 1, 3) := by decide +kernel
theorem dX8_digest_314 : decode cX8_digest 314 = .ok (.goto (-42), 3) := by decide +kernel
theorem dX8_digest_317 : decode cX8_digest 317 = .ok (.iconst 0, 1) := by decide +kernel
theorem dX8_digest_318 : decode cX8_digest 318 = .ok (.istore 4, 2) := by decide +kernel
theorem dX8_digest_320 : decode cX8_digest 320 = .ok (.iload 4, 2) := by decide +kernel
theorem dX8_digest_322 : decode cX8_digest 322 = .ok (.aload_n 0, 1) := by decide +kernel
theorem dX8_digest_323 : decode cX8_digest 323 = .ok (.getfield 7, 3) := by decide +kernel
theorem dX8_digest_326 : decode cX8_digest 326 = .ok (.sipush 805, 3) := by decide +kernel
theorem dX8_digest_329 : decode cX8_digest 329 = .ok (.iaload, 1) := by decide +kernel
theorem dX8_digest_330 : decode cX8_digest 330 = .ok (.if_icmp .ge 42, 3) := by decide +kernel
theorem dX8_digest_333 : decode cX8_digest 333 = .ok (.ldc2_w 147, 3) := by decide +kernel
theorem dX8_digest_336 : decode cX8_digest 336 = .ok (.lload_n 2, 1) := by decide +kernel
theorem dX8_digest_337 : decode cX8_digest 337 = .ok (.lmul, 1) := by decide +kernel
theorem dX8_digest_338 : decode cX8_digest 338 = .ok (.aload_n 0, 1) := by decide +kernel
theorem dX8_digest_339 : decode cX8_digest 339 = .ok (.getfield 7, 3) := by decide +kernel
theorem dX8_digest_342 : decode cX8_digest 342 = .ok (.sipush 806, 3) := by decide +kernel
theorem dX8_digest_345 : decode cX8_digest 345 = .ok (.iload 4, 2) := by decide +kernel
theorem dX8_digest_347 : decode cX8_digest 347 = .ok (.iadd, 1) := by decide +kernel
theorem dX8_digest_348 : decode cX8_digest 348 = .ok (.iaload, 1) := by decide +kernel
theorem dX8_digest_349 : decode cX8_digest 349 = .ok (.i2l, 1) := by decide +kernel
theorem dX8_digest_350 : decode cX8_digest 350 = .ok (.ladd, 1) := by decide +kernel
theorem dX8_digest_351 : decode cX8_digest 351 = .ok (.lstore_n 2, 1) := by decide +kernel
theorem dX8_digest_352 : decode cX8_digest 352 = .ok (.ldc2_w 147, 3) := by decide +kernel
theorem dX8_digest_355 : decode cX8_digest 355 = .ok (.lload_n 2, 1) := by decide +kernel
theorem dX8_digest_356 : decode cX8_digest 356 = .ok (.lmul, 1) := by decide +kernel
theorem dX8_digest_357 : decode cX8_digest 357 = .ok (.aload_n 0, 1) := by decide +kernel
theorem dX8_digest_358 : decode cX8_digest 358 = .ok (.iload 4, 2) := by decide +kernel
theorem dX8_digest_360 : decode cX8_digest 360 = .ok (.invokevirtual 130, 3) := by decide +kernel
theorem dX8_digest_363 : decode cX8_digest 363 = .ok (.i2l, 1) := by decide +kernel
theorem dX8_digest_364 : decode cX8_digest 364 = .ok (.ladd, 1) := by decide +kernel
theorem dX8_digest_365 : decode cX8_digest 365 = .ok (.lstore_n 2, 1) := by decide +kernel
theorem dX8_digest_366 : decode cX8_digest 366 = .ok (.iinc 4 1, 3) := by decide +kernel
theorem dX8_digest_369 : decode cX8_digest 369 = .ok (.goto (-49), 3) := by decide +kernel
theorem dX8_digest_372 : decode cX8_digest 372 = .ok (.lload_n 2, 1) := by decide +kernel
theorem dX8_digest_373 : decode cX8_digest 373 = .ok (.lreturn, 1) := by decide +kernel
theorem dJ0_length_8abf5_0 : decode cJ0_length_8abf5 0 = .ok (.aload_n 0, 1) := by decide +kernel
theorem dJ0_length_8abf5_1 : decode cJ0_length_8abf5 1 = .ok (.getfield 9, 3) := by decide +kernel
theorem dJ0_length_8abf5_4 : decode cJ0_length_8abf5 4 = .ok (.arraylength, 1) := by decide +kernel
theorem dJ0_length_8abf5_5 : decode cJ0_length_8abf5 5 = .ok (.aload_n 0, 1) := by decide +kernel
theorem dJ0_length_8abf5_6 : decode cJ0_length_8abf5 6 = .ok (.invokevirtual 335, 3) := by decide +kernel
theorem dJ0_length_8abf5_9 : decode cJ0_length_8abf5 9 = .ok (.ishr, 1) := by decide +kernel
theorem dJ0_length_8abf5_10 : decode cJ0_length_8abf5 10 = .ok (.ireturn, 1) := by decide +kernel
theorem dJ0_charAt_5068e_0 : decode cJ0_charAt_5068e 0 = .ok (.aload_n 0, 1) := by decide +kernel
theorem dJ0_charAt_5068e_1 : decode cJ0_charAt_5068e 1 = .ok (.invokevirtual 492, 3) := by decide +kernel
theorem dJ0_charAt_5068e_4 : decode cJ0_charAt_5068e 4 = .ok (.ifCond .eq 12, 3) := by decide +kernel
theorem dJ0_charAt_5068e_7 : decode cJ0_charAt_5068e 7 = .ok (.aload_n 0, 1) := by decide +kernel
theorem dJ0_charAt_5068e_8 : decode cJ0_charAt_5068e 8 = .ok (.getfield 9, 3) := by decide +kernel
theorem dJ0_charAt_5068e_11 : decode cJ0_charAt_5068e 11 = .ok (.iload_n 1, 1) := by decide +kernel
theorem dJ0_charAt_5068e_12 : decode cJ0_charAt_5068e 12 = .ok (.invokestatic 495, 3) := by decide +kernel
theorem dJ0_charAt_5068e_15 : decode cJ0_charAt_5068e 15 = .ok (.ireturn, 1) := by decide +kernel
theorem dJ0_charAt_5068e_16 : decode cJ0_charAt_5068e 16 = .ok (.aload_n 0, 1) := by decide +kernel
theorem dJ0_charAt_5068e_17 : decode cJ0_charAt_5068e 17 = .ok (.getfield 9, 3) := by decide +kernel
theorem dJ0_charAt_5068e_20 : decode cJ0_charAt_5068e 20 = .ok (.iload_n 1, 1) := by decide +kernel
theorem dJ0_indexOf_0f7a4_0 : decode cJ0_indexOf_0f7a4 0 = .ok (.aload_n 0, 1) := by decide +kernel
theorem dJ0_indexOf_0f7a4_1 : decode cJ0_indexOf_0f7a4 1 = .ok (.iload_n 1, 1) := by decide +kernel
theorem dJ0_indexOf_0f7a4_2 : decode cJ0_indexOf_0f7a4 2 = .ok (.iconst 0, 1) := by decide +kernel
theorem dJ0_indexOf_0f7a4_3 : decode cJ0_indexOf_0f7a4 3 = .ok (.invokevirtual 633, 3) := by decide +kernel
theorem dJ0_indexOf_0f7a4_6 : decode cJ0_indexOf_0f7a4 6 = .ok (.ireturn, 1) := by decide +kernel
theorem dJ0_indexOf_7cf53_0 : decode cJ0_indexOf_7cf53 0 = .ok (.aload_n 0, 1) := by decide +kernel
theorem dJ0_indexOf_7cf53_1 : decode cJ0_indexOf_7cf53 1 = .ok (.invokevirtual 492, 3) := by decide +kernel
theorem dJ0_indexOf_7cf53_4 : decode cJ0_indexOf_7cf53 4 = .ok (.ifCond .eq 19, 3) := by decide +kernel
theorem dJ0_indexOf_7cf53_7 : decode cJ0_indexOf_7cf53 7 = .ok (.aload_n 0, 1) := by decide +kernel
theorem dJ0_indexOf_7cf53_8 : decode cJ0_indexOf_7cf53 8 = .ok (.getfield 9, 3) := by decide +kernel
theorem dJ0_indexOf_7cf53_11 : decode cJ0_indexOf_7cf53 11 = .ok (.iload_n 1, 1) := by decide +kernel
theorem dJ0_indexOf_7cf53_12 : decode cJ0_indexOf_7cf53 12 = .ok (.iload_n 2, 1) := by decide +kernel
theorem dJ0_indexOf_7cf53_13 : decode cJ0_indexOf_7cf53 13 = .ok (.aload_n 0, 1) := by decide +kernel
theorem dJ0_indexOf_7cf53_14 : decode cJ0_indexOf_7cf53 14 = .ok (.invokevirtual 505, 3) := by decide +kernel
theorem dJ0_indexOf_7cf53_17 : decode cJ0_indexOf_7cf53 17 = .ok (.invokestatic 637, 3) := by decide +kernel
theorem dJ0_indexOf_7cf53_20 : decode cJ0_indexOf_7cf53 20 = .ok (.goto 16, 3) := by decide +kernel
theorem dJ0_indexOf_7cf53_23 : decode cJ0_indexOf_7cf53 23 = .ok (.aload_n 0, 1) := by decide +kernel
theorem dJ0_indexOf_7cf53_24 : decode cJ0_indexOf_7cf53 24 = .ok (.getfield 9, 3) := by decide +kernel
theorem dJ0_indexOf_7cf53_27 : decode cJ0_indexOf_7cf53 27 = .ok (.iload_n 1, 1) := by decide +kernel
theorem dJ0_indexOf_7cf53_28 : decode cJ0_indexOf_7cf53 28 = .ok (.iload_n 2, 1) := by decide +kernel
theorem dJ0_indexOf_7cf53_29 : decode cJ0_indexOf_7cf53 29 = .ok (.aload_n 0, 1) := by decide +kernel
theorem dJ0_indexOf_7cf53_30 : decode cJ0_indexOf_7cf53 30 = .ok (.invokevirtual 505, 3) := by decide +kernel
theorem dJ0_indexOf_7cf53_36 : decode cJ0_indexOf_7cf53 36 = .ok (.ireturn, 1) := by decide +kernel
theorem dJ0_coder_7d493_0 : decode cJ0_coder_7d493 0 = .ok (.getstatic 38, 3) := by decide +kernel
theorem dJ0_coder_7d493_3 : decode cJ0_coder_7d493 3 = .ok (.ifCond .eq 10, 3) := by decide +kernel
theorem dJ0_coder_7d493_6 : decode cJ0_coder_7d493 6 = .ok (.aload_n 0, 1) := by decide +kernel
theorem dJ0_coder_7d493_7 : decode cJ0_coder_7d493 7 = .ok (.getfield 15, 3) := by decide +kernel
theorem dJ0_coder_7d493_10 : decode cJ0_coder_7d493 10 = .ok (.goto 4, 3) := by decide +kernel
theorem dJ0_coder_7d493_14 : decode cJ0_coder_7d493 14 = .ok (.ireturn, 1) := by decide +kernel
theorem dJ0_isLatin1_aae02_0 : decode cJ0_isLatin1_aae02 0 = .ok (.getstatic 38, 3) := by decide +kernel
theorem dJ0_isLatin1_aae02_3 : decode cJ0_isLatin1_aae02 3 = .ok (.ifCond .eq 14, 3) := by decide +kernel
theorem dJ0_isLatin1_aae02_6 : decode cJ0_isLatin1_aae02 6 = .ok (.aload_n 0, 1) := by decide +kernel
theorem dJ0_isLatin1_aae02_7 : decode cJ0_isLatin1_aae02 7 = .ok (.getfield 15, 3) := by decide +kernel
theorem dJ0_isLatin1_aae02_10 : decode cJ0_isLatin1_aae02 10 = .ok (.ifCond .ne 7, 3) := by decide +kernel
theorem dJ0_isLatin1_aae02_13 : decode cJ0_isLatin1_aae02 13 = .ok (.iconst 1, 1) := by decide +kernel
theorem dJ0_isLatin1_aae02_14 : decode cJ0_isLatin1_aae02 14 = .ok (.goto 4, 3) := by decide +kernel
theorem dJ0_isLatin1_aae02_18 : decode cJ0_isLatin1_aae02 18 = .ok (.ireturn, 1) := by decide +kernel
theorem dJ0_checkIndex_df160_0 : decode cJ0_checkIndex_df160 0 = .ok (.iload_n 0, 1) := by decide +kernel
theorem dJ0_checkIndex_df160_1 : decode cJ0_checkIndex_df160 1 = .ok (.iload_n 1, 1) := by decide +kernel
theorem dJ0_checkIndex_df160_2 : decode cJ0_checkIndex_df160 2 = .ok (.getstatic 1053, 3) := by decide +kernel
theorem dJ0_checkIndex_df160_5 : decode cJ0_checkIndex_df160 5 = .ok (.invokestatic 1059, 3) := by decide +kernel
theorem dJ0_checkIndex_df160_8 : decode cJ0_checkIndex_df160 8 = .ok (.pop, 1) := by decide +kernel
theorem dJ0_checkIndex_df160_9 : decode cJ0_checkIndex_df160 9 = .ok (.return_, 1) := by decide +kernel
theorem dJ1_charAt_3b067_0 : decode cJ1_charAt_3b067 0 = .ok (.iload_n 1, 1) := by decide +kernel
theorem dJ1_charAt_3b067_1 : decode cJ1_charAt_3b067 1 = .ok (.aload_n 0, 1) := by decide +kernel
theorem dJ1_charAt_3b067_2 : decode cJ1_charAt_3b067 2 = .ok (.arraylength, 1) := by decide +kernel
theorem dJ1_charAt_3b067_3 : decode cJ1_charAt_3b067 3 = .ok (.invokestatic 9, 3) := by decide +kernel
theorem dJ1_charAt_3b067_6 : decode cJ1_charAt_3b067 6 = .ok (.aload_n 0, 1) := by decide +kernel
theorem dJ1_charAt_3b067_7 : decode cJ1_charAt_3b067 7 = .ok (.iload_n 1, 1) := by decide +kernel
theorem dJ1_charAt_3b067_8 : decode cJ1_charAt_3b067 8 = .ok (.baload, 1) := by decide +kernel
theorem dJ1_charAt_3b067_9 : decode cJ1_charAt_3b067 9 = .ok (.sipush 255, 3) := by decide +kernel
theorem dJ1_charAt_3b067_12 : decode cJ1_charAt_3b067 12 = .ok (.iand, 1) := by decide +kernel
theorem dJ1_charAt_3b067_13 : decode cJ1_charAt_3b067 13 = .ok (.i2c, 1) := by decide +kernel
theorem dJ1_charAt_3b067_14 : decode cJ1_charAt_3b067 14 = .ok (.ireturn, 1) := by decide +kernel
theorem dJ1_canEncode_9a6ad_0 : decode cJ1_canEncode_9a6ad 0 = .ok (.iload_n 0, 1) := by decide +kernel
theorem dJ1_canEncode_9a6ad_1 : decode cJ1_canEncode_9a6ad 1 = .ok (.ifCond .lt 14, 3) := by decide +kernel
theorem dJ1_canEncode_9a6ad_4 : decode cJ1_canEncode_9a6ad 4 = .ok (.iload_n 0, 1) := by decide +kernel
theorem dJ1_canEncode_9a6ad_5 : decode cJ1_canEncode_9a6ad 5 = .ok (.sipush 255, 3) := by decide +kernel
theorem dJ1_canEncode_9a6ad_8 : decode cJ1_canEncode_9a6ad 8 = .ok (.if_icmp .gt 7, 3) := by decide +kernel
theorem dJ1_canEncode_9a6ad_11 : decode cJ1_canEncode_9a6ad 11 = .ok (.iconst 1, 1) := by decide +kernel
theorem dJ1_canEncode_9a6ad_12 : decode cJ1_canEncode_9a6ad 12 = .ok (.goto 4, 3) := by decide +kernel
theorem dJ1_canEncode_9a6ad_15 : decode cJ1_canEncode_9a6ad 15 = .ok (.iconst 0, 1) := by decide +kernel
theorem dJ1_canEncode_9a6ad_16 : decode cJ1_canEncode_9a6ad 16 = .ok (.ireturn, 1) := by decide +kernel
theorem dJ1_indexOf_4cfef_0 : decode cJ1_indexOf_4cfef 0 = .ok (.iload_n 1, 1) := by decide +kernel
theorem dJ1_indexOf_4cfef_1 : decode cJ1_indexOf_4cfef 1 = .ok (.invokestatic 88, 3) := by decide +kernel
theorem dJ1_indexOf_4cfef_4 : decode cJ1_indexOf_4cfef 4 = .ok (.ifCond .ne 5, 3) := by decide +kernel
theorem dJ1_indexOf_4cfef_7 : decode cJ1_indexOf_4cfef 7 = .ok (.iconst (-1), 1) := by decide +kernel
theorem dJ1_indexOf_4cfef_8 : decode cJ1_indexOf_4cfef 8 = .ok (.ireturn, 1) := by decide +kernel
theorem dJ1_indexOf_4cfef_9 : decode cJ1_indexOf_4cfef 9 = .ok (.iload_n 2, 1) := by decide +kernel
theorem dJ1_indexOf_4cfef_10 : decode cJ1_indexOf_4cfef 10 = .ok (.iconst 0, 1) := by decide +kernel
theorem dJ1_indexOf_4cfef_11 : decode cJ1_indexOf_4cfef 11 = .ok (.invokestatic 92, 3) := by decide +kernel
theorem dJ1_indexOf_4cfef_14 : decode cJ1_indexOf_4cfef 14 = .ok (.istore_n 2, 1) := by decide +kernel
theorem dJ1_indexOf_4cfef_15 : decode cJ1_indexOf_4cfef 15 = .ok (.iload_n 3, 1) := by decide +kernel
theorem dJ1_indexOf_4cfef_16 : decode cJ1_indexOf_4cfef 16 = .ok (.aload_n 0, 1) := by decide +kernel
theorem dJ1_indexOf_4cfef_17 : decode cJ1_indexOf_4cfef 17 = .ok (.arraylength, 1) := by decide +kernel
theorem dJ1_indexOf_4cfef_18 : decode cJ1_indexOf_4cfef 18 = .ok (.invokestatic 38, 3) := by decide +kernel
theorem dJ1_indexOf_4cfef_21 : decode cJ1_indexOf_4cfef 21 = .ok (.istore_n 3, 1) := by decide +kernel
theorem dJ1_indexOf_4cfef_22 : decode cJ1_indexOf_4cfef 22 = .ok (.iload_n 2, 1) := by decide +kernel
theorem dJ1_indexOf_4cfef_23 : decode cJ1_indexOf_4cfef 23 = .ok (.iload_n 3, 1) := by decide +kernel
theorem dJ1_indexOf_4cfef_24 : decode cJ1_indexOf_4cfef 24 = .ok (.if_icmp .lt 5, 3) := by decide +kernel
theorem dJ1_indexOf_4cfef_27 : decode cJ1_indexOf_4cfef 27 = .ok (.iconst (-1), 1) := by decide +kernel
theorem dJ1_indexOf_4cfef_28 : decode cJ1_indexOf_4cfef 28 = .ok (.ireturn, 1) := by decide +kernel
theorem dJ1_indexOf_4cfef_29 : decode cJ1_indexOf_4cfef 29 = .ok (.aload_n 0, 1) := by decide +kernel
theorem dJ1_indexOf_4cfef_30 : decode cJ1_indexOf_4cfef 30 = .ok (.iload_n 1, 1) := by decide +kernel
theorem dJ1_indexOf_4cfef_31 : decode cJ1_indexOf_4cfef 31 = .ok (.iload_n 2, 1) := by decide +kernel
theorem dJ1_indexOf_4cfef_32 : decode cJ1_indexOf_4cfef 32 = .ok (.iload_n 3, 1) := by decide +kernel
theorem dJ1_indexOf_4cfef_33 : decode cJ1_indexOf_4cfef 33 = .ok (.invokestatic 95, 3) := by decide +kernel
theorem dJ1_indexOf_4cfef_36 : decode cJ1_indexOf_4cfef 36 = .ok (.ireturn, 1) := by decide +kernel
theorem dJ1_indexOfChar_4cfef_0 : decode cJ1_indexOfChar_4cfef 0 = .ok (.iload_n 1, 1) := by decide +kernel
theorem dJ1_indexOfChar_4cfef_1 : decode cJ1_indexOfChar_4cfef 1 = .ok (.i2b, 1) := by decide +kernel
theorem dJ1_indexOfChar_4cfef_2 : decode cJ1_indexOfChar_4cfef 2 = .ok (.istore 4, 2) := by decide +kernel
theorem dJ1_indexOfChar_4cfef_4 : decode cJ1_indexOfChar_4cfef 4 = .ok (.iload_n 2, 1) := by decide +kernel
theorem dJ1_indexOfChar_4cfef_5 : decode cJ1_indexOfChar_4cfef 5 = .ok (.istore 5, 2) := by decide +kernel
theorem dJ1_indexOfChar_4cfef_7 : decode cJ1_indexOfChar_4cfef 7 = .ok (.iload 5, 2) := by decide +kernel
theorem dJ1_indexOfChar_4cfef_9 : decode cJ1_indexOfChar_4cfef 9 = .ok (.iload_n 3, 1) := by decide +kernel
theorem dJ1_indexOfChar_4cfef_10 : decode cJ1_indexOfChar_4cfef 10 = .ok (.if_icmp .ge 21, 3) := by decide +kernel
theorem dJ1_indexOfChar_4cfef_13 : decode cJ1_indexOfChar_4cfef 13 = .ok (.aload_n 0, 1) := by decide +kernel
theorem dJ1_indexOfChar_4cfef_14 : decode cJ1_indexOfChar_4cfef 14 = .ok (.iload 5, 2) := by decide +kernel
theorem dJ1_indexOfChar_4cfef_16 : decode cJ1_indexOfChar_4cfef 16 = .ok (.baload, 1) := by decide +kernel
theorem dJ1_indexOfChar_4cfef_17 : decode cJ1_indexOfChar_4cfef 17 = .ok (.iload 4, 2) := by decide +kernel
theorem dJ1_indexOfChar_4cfef_19 : decode cJ1_indexOfChar_4cfef 19 = .ok (.if_icmp .ne 6, 3) := by decide +kernel
theorem dJ1_indexOfChar_4cfef_22 : decode cJ1_indexOfChar_4cfef 22 = .ok (.iload 5, 2) := by decide +kernel
theorem dJ1_indexOfChar_4cfef_24 : decode cJ1_indexOfChar_4cfef 24 = .ok (.ireturn, 1) := by decide +kernel
theorem dJ1_indexOfChar_4cfef_25 : decode cJ1_indexOfChar_4cfef 25 = .ok (.iinc 5 1, 3) := by decide +kernel
theorem dJ1_indexOfChar_4cfef_28 : decode cJ1_indexOfChar_4cfef 28 = .ok (.goto (-21), 3) := by decide +kernel
theorem dJ1_indexOfChar_4cfef_31 : decode cJ1_indexOfChar_4cfef 31 = .ok (.iconst (-1), 1) := by decide +kernel
theorem dJ1_indexOfChar_4cfef_32 : decode cJ1_indexOfChar_4cfef 32 = .ok (.ireturn, 1) := by decide +kernel
theorem dJ3_checkIndex_8e157_0 : decode cJ3_checkIndex_8e157 0 = .ok (.iload_n 0, 1) := by decide +kernel
theorem dJ3_checkIndex_8e157_1 : decode cJ3_checkIndex_8e157 1 = .ok (.ifCond .lt 8, 3) := by decide +kernel
theorem dJ3_checkIndex_8e157_4 : decode cJ3_checkIndex_8e157 4 = .ok (.iload_n 0, 1) := by decide +kernel
theorem dJ3_checkIndex_8e157_5 : decode cJ3_checkIndex_8e157 5 = .ok (.iload_n 1, 1) := by decide +kernel
theorem dJ3_checkIndex_8e157_6 : decode cJ3_checkIndex_8e157 6 = .ok (.if_icmp .lt 10, 3) := by decide +kernel
theorem dJ3_checkIndex_8e157_16 : decode cJ3_checkIndex_8e157 16 = .ok (.iload_n 0, 1) := by decide +kernel
theorem dJ3_checkIndex_8e157_17 : decode cJ3_checkIndex_8e157 17 = .ok (.ireturn, 1) := by decide +kernel
theorem dL_append_0 : decode cL_append 0 = .ok (.aload_n 2, 1) := by decide +kernel
theorem dL_append_1 : decode cL_append 1 = .ok (.iconst 0, 1) := by decide +kernel
theorem dL_append_2 : decode cL_append 2 = .ok (.aload_n 0, 1) := by decide +kernel
theorem dL_append_3 : decode cL_append 3 = .ok (.iload_n 1, 1) := by decide +kernel
theorem dL_append_4 : decode cL_append 4 = .ok (.invokevirtual 7, 3) := by decide +kernel
theorem dL_append_7 : decode cL_append 7 = .ok (.i2l, 1) := by decide +kernel
theorem dL_append_8 : decode cL_append 8 = .ok (.lastore, 1) := by decide +kernel
theorem dL_append_9 : decode cL_append 9 = .ok (.goto 9, 3) := by decide +kernel
theorem dL_append_12 : decode cL_append 12 = .ok (.astore_n 3, 1) := by decide +kernel
theorem dL_append_13 : decode cL_append 13 = .ok (.iconst 1, 1) := by decide +kernel
theorem dL_append_14 : decode cL_append 14 = .ok (.ireturn, 1) := by decide +kernel
theorem dL_append_15 : decode cL_append 15 = .ok (.astore_n 3, 1) := by decide +kernel
theorem dL_append_16 : decode cL_append 16 = .ok (.iconst 2, 1) := by decide +kernel
theorem dL_append_17 : decode cL_append 17 = .ok (.ireturn, 1) := by decide +kernel
theorem dL_append_18 : decode cL_append 18 = .ok (.iconst 0, 1) := by decide +kernel
theorem dL_append_19 : decode cL_append 19 = .ok (.ireturn, 1) := by decide +kernel
theorem dL_send_0 : decode cL_send 0 = .ok (.aload_n 1, 1) := by decide +kernel
theorem dL_send_1 : decode cL_send 1 = .ok (.iconst 0, 1) := by decide +kernel
theorem dL_send_2 : decode cL_send 2 = .ok (.aload_n 0, 1) := by decide +kernel
theorem dL_send_3 : decode cL_send 3 = .ok (.invokevirtual 17, 3) := by decide +kernel
theorem dL_send_6 : decode cL_send 6 = .ok (.i2l, 1) := by decide +kernel
theorem dL_send_7 : decode cL_send 7 = .ok (.lastore, 1) := by decide +kernel
theorem dL_send_8 : decode cL_send 8 = .ok (.goto 6, 3) := by decide +kernel
theorem dL_send_11 : decode cL_send 11 = .ok (.astore_n 2, 1) := by decide +kernel
theorem dL_send_12 : decode cL_send 12 = .ok (.iconst 1, 1) := by decide +kernel
theorem dL_send_13 : decode cL_send 13 = .ok (.ireturn, 1) := by decide +kernel
theorem dL_send_14 : decode cL_send 14 = .ok (.iconst 0, 1) := by decide +kernel
theorem dL_send_15 : decode cL_send 15 = .ok (.ireturn, 1) := by decide +kernel
theorem dL_setFault_0 : decode cL_setFault 0 = .ok (.aload_n 3, 1) := by decide +kernel
theorem dL_setFault_1 : decode cL_setFault 1 = .ok (.iconst 0, 1) := by decide +kernel
theorem dL_setFault_2 : decode cL_setFault 2 = .ok (.aload_n 0, 1) := by decide +kernel
theorem dL_setFault_3 : decode cL_setFault 3 = .ok (.iload_n 1, 1) := by decide +kernel
theorem dL_setFault_4 : decode cL_setFault 4 = .ok (.iload_n 2, 1) := by decide +kernel
theorem dL_setFault_5 : decode cL_setFault 5 = .ok (.invokevirtual 21, 3) := by decide +kernel
theorem dL_setFault_8 : decode cL_setFault 8 = .ok (.i2l, 1) := by decide +kernel
theorem dL_setFault_9 : decode cL_setFault 9 = .ok (.lastore, 1) := by decide +kernel
theorem dL_setFault_10 : decode cL_setFault 10 = .ok (.goto 11, 3) := by decide +kernel
theorem dL_setFault_13 : decode cL_setFault 13 = .ok (.astore 4, 2) := by decide +kernel
theorem dL_setFault_15 : decode cL_setFault 15 = .ok (.iconst 1, 1) := by decide +kernel
theorem dL_setFault_16 : decode cL_setFault 16 = .ok (.ireturn, 1) := by decide +kernel
theorem dL_setFault_17 : decode cL_setFault 17 = .ok (.astore 4, 2) := by decide +kernel
theorem dL_setFault_19 : decode cL_setFault 19 = .ok (.iconst 2, 1) := by decide +kernel
theorem dL_setFault_20 : decode cL_setFault 20 = .ok (.ireturn, 1) := by decide +kernel
theorem dL_setFault_21 : decode cL_setFault 21 = .ok (.iconst 0, 1) := by decide +kernel
theorem dL_setFault_22 : decode cL_setFault 22 = .ok (.ireturn, 1) := by decide +kernel
theorem dL_sentCode_0 : decode cL_sentCode 0 = .ok (.aload_n 2, 1) := by decide +kernel
theorem dL_sentCode_1 : decode cL_sentCode 1 = .ok (.iconst 0, 1) := by decide +kernel
theorem dL_sentCode_2 : decode cL_sentCode 2 = .ok (.aload_n 0, 1) := by decide +kernel
theorem dL_sentCode_3 : decode cL_sentCode 3 = .ok (.iload_n 1, 1) := by decide +kernel
theorem dL_sentCode_4 : decode cL_sentCode 4 = .ok (.invokevirtual 27, 3) := by decide +kernel
theorem dL_sentCode_7 : decode cL_sentCode 7 = .ok (.i2l, 1) := by decide +kernel
theorem dL_sentCode_8 : decode cL_sentCode 8 = .ok (.lastore, 1) := by decide +kernel
theorem dL_sentCode_9 : decode cL_sentCode 9 = .ok (.goto 6, 3) := by decide +kernel
theorem dL_sentCode_12 : decode cL_sentCode 12 = .ok (.astore_n 3, 1) := by decide +kernel
theorem dL_sentCode_13 : decode cL_sentCode 13 = .ok (.iconst 1, 1) := by decide +kernel
theorem dL_sentCode_14 : decode cL_sentCode 14 = .ok (.ireturn, 1) := by decide +kernel
theorem dL_sentCode_15 : decode cL_sentCode 15 = .ok (.iconst 0, 1) := by decide +kernel
theorem dL_sentCode_16 : decode cL_sentCode 16 = .ok (.ireturn, 1) := by decide +kernel
theorem dL_receivedCode_0 : decode cL_receivedCode 0 = .ok (.aload_n 2, 1) := by decide +kernel
theorem dL_receivedCode_1 : decode cL_receivedCode 1 = .ok (.iconst 0, 1) := by decide +kernel
theorem dL_receivedCode_2 : decode cL_receivedCode 2 = .ok (.aload_n 0, 1) := by decide +kernel
theorem dL_receivedCode_3 : decode cL_receivedCode 3 = .ok (.iload_n 1, 1) := by decide +kernel
theorem dL_receivedCode_4 : decode cL_receivedCode 4 = .ok (.invokevirtual 30, 3) := by decide +kernel
theorem dL_receivedCode_7 : decode cL_receivedCode 7 = .ok (.i2l, 1) := by decide +kernel
theorem dL_receivedCode_8 : decode cL_receivedCode 8 = .ok (.lastore, 1) := by decide +kernel
theorem dL_receivedCode_9 : decode cL_receivedCode 9 = .ok (.goto 6, 3) := by decide +kernel
theorem dL_receivedCode_12 : decode cL_receivedCode 12 = .ok (.astore_n 3, 1) := by decide +kernel
theorem dL_receivedCode_13 : decode cL_receivedCode 13 = .ok (.iconst 1, 1) := by decide +kernel
theorem dL_receivedCode_14 : decode cL_receivedCode 14 = .ok (.ireturn, 1) := by decide +kernel
theorem dL_receivedCode_15 : decode cL_receivedCode 15 = .ok (.iconst 0, 1) := by decide +kernel
theorem dL_receivedCode_16 : decode cL_receivedCode 16 = .ok (.ireturn, 1) := by decide +kernel
theorem dL_learn_0 : decode cL_learn 0 = .ok (.aload_n 1, 1) := by decide +kernel
theorem dL_learn_1 : decode cL_learn 1 = .ok (.iconst 0, 1) := by decide +kernel
theorem dL_learn_2 : decode cL_learn 2 = .ok (.aload_n 0, 1) := by decide +kernel
theorem dL_learn_3 : decode cL_learn 3 = .ok (.invokevirtual 33, 3) := by decide +kernel
theorem dL_learn_6 : decode cL_learn 6 = .ok (.i2l, 1) := by decide +kernel
theorem dL_learn_7 : decode cL_learn 7 = .ok (.lastore, 1) := by decide +kernel
theorem dL_learn_8 : decode cL_learn 8 = .ok (.goto 9, 3) := by decide +kernel
theorem dL_learn_11 : decode cL_learn 11 = .ok (.astore_n 2, 1) := by decide +kernel
theorem dL_learn_12 : decode cL_learn 12 = .ok (.iconst 1, 1) := by decide +kernel
theorem dL_learn_13 : decode cL_learn 13 = .ok (.ireturn, 1) := by decide +kernel
theorem dL_learn_14 : decode cL_learn 14 = .ok (.astore_n 2, 1) := by decide +kernel
theorem dL_learn_15 : decode cL_learn 15 = .ok (.iconst 2, 1) := by decide +kernel
theorem dL_learn_16 : decode cL_learn 16 = .ok (.ireturn, 1) := by decide +kernel
theorem dL_learn_17 : decode cL_learn 17 = .ok (.iconst 0, 1) := by decide +kernel
theorem dL_learn_18 : decode cL_learn 18 = .ok (.ireturn, 1) := by decide +kernel
theorem dL_forget_0 : decode cL_forget 0 = .ok (.aload_n 2, 1) := by decide +kernel
